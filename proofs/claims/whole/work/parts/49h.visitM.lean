/-! a pair, by the reference -/
theorem sp_hm1_0 {z : ZS} {post : Option Value → List PE → Prop} {x Y : XS} {sj n k : Nat} (hsj : sj < 6) (hn : n ≤ 60) (h95 : Y.2.1 95 0 = nI k) (h105 : Y.2.1 105 sj = nI n) (hk : k < n) (hk2 : k < 12) (hr : 0 ≤ (Y.2.2 106 (60 * sj + k)).toInt32 ∧ (Y.2.2 106 (60 * sj + k)).toInt32 ≤ 4) (h : post (some (.int 1)) (E x Y)) : PW (2, 0, 0, z) m_M_hasMore post 0 [some (.ref 70), some (.int 0), some (.int (nI sj))] [] (E x Y) := by
  refine PW_aload_n c_M_hasMore_0 rfl ?_
  refine PW_get (v := .ref 95) c_M_hasMore_1 fl_M_84 (gf_70_39 _ _) ?_
  refine PW_iload_n c_M_hasMore_4 rfl ?_
  refine PW_iald (j := 0) c_M_hasMore_5 (ar_95 _ _) (vp_in_iff.mpr (by decide)) rfl ?_
  show PW _ _ _ 6 [some (.ref 70), some (.int 0), some (.int (nI sj))] [.int ((Y.2.1 95) 0)] (E x Y)
  rw [h95]
  show PW _ _ _ 6 [some (.ref 70), some (.int 0), some (.int (nI sj))] [.int (nI k)] (E x Y)
  refine PW_aload_n c_M_hasMore_6 rfl ?_
  refine PW_get (v := .ref 105) c_M_hasMore_7 fl_M_114 (gf_70_54 _ _) ?_
  refine PW_iload_n c_M_hasMore_10 rfl ?_
  refine PW_iald (j := sj) c_M_hasMore_11 (ar_105 _ _) (vp_in_nI hsj (by decide)) (nI_clamp (by omega)) ?_
  show PW _ _ _ 12 [some (.ref 70), some (.int 0), some (.int (nI sj))] [.int ((Y.2.1 105) sj), .int (nI k)] (E x Y)
  rw [h105]
  show PW _ _ _ 12 [some (.ref 70), some (.int 0), some (.int (nI sj))] [.int (nI n), .int (nI k)] (E x Y)
  refine PW_icmp_ge c_M_hasMore_12 (fun h0 => absurd h0 (fun q => absurd ((nI_leI (by omega) (by omega)).mp q) (by omega))) (fun h0 => ?_)
  refine PW_aload_n c_M_hasMore_15 rfl ?_
  refine PW_get (v := .ref 95) c_M_hasMore_16 fl_M_84 (gf_70_39 _ _) ?_
  refine PW_iload_n c_M_hasMore_19 rfl ?_
  refine PW_iald (j := 0) c_M_hasMore_20 (ar_95 _ _) (vp_in_iff.mpr (by decide)) rfl ?_
  show PW _ _ _ 21 [some (.ref 70), some (.int 0), some (.int (nI sj))] [.int ((Y.2.1 95) 0)] (E x Y)
  rw [h95]
  show PW _ _ _ 21 [some (.ref 70), some (.int 0), some (.int (nI sj))] [.int (nI k)] (E x Y)
  refine PW_bipush (v := 12) c_M_hasMore_21 (by decide) ?_
  refine PW_icmp_ge c_M_hasMore_23 (fun h1 => absurd h1 (fun q => absurd ((nI_leI (by decide) (by omega)).mp (show nI 12 ≤ nI k from q)) (by omega))) (fun h1 => ?_)
  refine PW_aload_n c_M_hasMore_26 rfl ?_
  refine PW_iload_n c_M_hasMore_27 rfl ?_
  refine PW_aload_n c_M_hasMore_28 rfl ?_
  refine PW_get (v := .ref 95) c_M_hasMore_29 fl_M_84 (gf_70_39 _ _) ?_
  refine PW_iload_n c_M_hasMore_32 rfl ?_
  refine PW_iald (j := 0) c_M_hasMore_33 (ar_95 _ _) (vp_in_iff.mpr (by decide)) rfl ?_
  show PW _ _ _ 34 [some (.ref 70), some (.int 0), some (.int (nI sj))] [.int ((Y.2.1 95) 0), .int (nI sj), .ref 70] (E x Y)
  rw [h95]
  show PW _ _ _ 34 [some (.ref 70), some (.int 0), some (.int (nI sj))] [.int (nI k), .int (nI sj), .ref 70] (E x Y)
  refine PW_V0 (d2 := 0) (st := []) [.int (nI sj), .int (nI k)] c_M_hasMore_34 lk_M_hasMore_292 (po_70 _ _) rfl rfl rfl (Nat.le_of_ble_eq_true rfl) (by first | decide | omega) (Nat.le_of_ble_eq_true rfl) ?_
  show PW _ _ _ 0 [some (.ref 70), some (.int (nI sj)), some (.int (nI k))] [] (E x Y)
  refine PW_aload_n c_M_byteAt_0 rfl ?_
  refine PW_get (v := .ref 106) c_M_byteAt_1 fl_M_117 (gf_70_55 _ _) ?_
  refine PW_bipush (v := 60) c_M_byteAt_4 (by decide) ?_
  refine PW_iload_n c_M_byteAt_6 rfl ?_
  refine PW_imul c_M_byteAt_7 ?_
  refine PW_iload_n c_M_byteAt_8 rfl ?_
  refine PW_iadd c_M_byteAt_9 ?_
  refine PW_lald (j := 60 * sj + k) c_M_byteAt_10 (ar_106 _ _) (by rw [show (60 : Int32) = nI 60 from rfl, pk_mul, nI_add]; exact vp_in_nI (by omega) (by decide)) (by rw [show (60 : Int32) = nI 60 from rfl, pk_mul, nI_add]; exact nI_clamp (by omega)) ?_
  show PW _ _ _ 11 [some (.ref 70), some (.int (nI sj)), some (.int (nI k))] [.long ((Y.2.2 106) (60 * sj + k))] (E x Y)
  refine PW_l2i c_M_byteAt_11 ?_
  refine PW_ireturn (ty := .int) c_M_byteAt_12 rfl rfl ?_
  show PW _ _ _ 37 [some (.ref 70), some (.int 0), some (.int (nI sj))] [.int (((Y.2.2 106) (60 * sj + k)).toInt32)] (E x Y)
  refine PW_S0 (d2 := 1) (st := []) [.int (((Y.2.2 106) (60 * sj + k)).toInt32)] c_M_hasMore_37 lk_M_hasMore_135 rfl rfl rfl (Nat.le_of_ble_eq_true rfl) (by first | decide | omega) (Nat.le_of_ble_eq_true rfl) ?_
  refine sp_M_isRoom  ?_
  show PW _ _ _ 40 [some (.ref 70), some (.int 0), some (.int (nI sj))] [.int (b2i (0 ≤ (((Y.2.2 106) (60 * sj + k)).toInt32) ∧ (((Y.2.2 106) (60 * sj + k)).toInt32) ≤ 4))] (E x Y)
  refine PW_if_eq c_M_hasMore_40 (fun h2 => absurd hr (b2i_0.mp h2)) (fun _ => ?_)
  refine PW_iconst (v := 1) c_M_hasMore_43 (by decide) ?_
  refine PW_goto c_M_hasMore_44 ?_
  refine PW_ireturn (ty := .boolean) c_M_hasMore_48 rfl (by decide +kernel) ?_
  exact h
theorem sp_hm0_0 {z : ZS} {post : Option Value → List PE → Prop} {x Y : XS} {sj n k : Nat} (hsj : sj < 6) (hn : n ≤ 60) (h95 : Y.2.1 95 0 = nI k) (h105 : Y.2.1 105 sj = nI n) (hk12 : k ≤ 12) (hno : ¬ (k < n ∧ k < 12 ∧ (0 ≤ (Y.2.2 106 (60 * sj + k)).toInt32 ∧ (Y.2.2 106 (60 * sj + k)).toInt32 ≤ 4))) (h : post (some (.int 0)) (E x Y)) : PW (2, 0, 0, z) m_M_hasMore post 0 [some (.ref 70), some (.int 0), some (.int (nI sj))] [] (E x Y) := by
  by_cases q1 : k < n
  · by_cases q2 : k < 12
    · have hr : ¬ (0 ≤ (Y.2.2 106 (60 * sj + k)).toInt32 ∧ (Y.2.2 106 (60 * sj + k)).toInt32 ≤ 4) := fun q => hno ⟨q1, q2, q⟩
      refine PW_aload_n c_M_hasMore_0 rfl ?_
      refine PW_get (v := .ref 95) c_M_hasMore_1 fl_M_84 (gf_70_39 _ _) ?_
      refine PW_iload_n c_M_hasMore_4 rfl ?_
      refine PW_iald (j := 0) c_M_hasMore_5 (ar_95 _ _) (vp_in_iff.mpr (by decide)) rfl ?_
      show PW _ _ _ 6 [some (.ref 70), some (.int 0), some (.int (nI sj))] [.int ((Y.2.1 95) 0)] (E x Y)
      rw [h95]
      show PW _ _ _ 6 [some (.ref 70), some (.int 0), some (.int (nI sj))] [.int (nI k)] (E x Y)
      refine PW_aload_n c_M_hasMore_6 rfl ?_
      refine PW_get (v := .ref 105) c_M_hasMore_7 fl_M_114 (gf_70_54 _ _) ?_
      refine PW_iload_n c_M_hasMore_10 rfl ?_
      refine PW_iald (j := sj) c_M_hasMore_11 (ar_105 _ _) (vp_in_nI hsj (by decide)) (nI_clamp (by omega)) ?_
      show PW _ _ _ 12 [some (.ref 70), some (.int 0), some (.int (nI sj))] [.int ((Y.2.1 105) sj), .int (nI k)] (E x Y)
      rw [h105]
      show PW _ _ _ 12 [some (.ref 70), some (.int 0), some (.int (nI sj))] [.int (nI n), .int (nI k)] (E x Y)
      refine PW_icmp_ge c_M_hasMore_12 (fun h0 => absurd h0 (fun q => absurd ((nI_leI (by omega) (by omega)).mp q) (by omega))) (fun h0 => ?_)
      refine PW_aload_n c_M_hasMore_15 rfl ?_
      refine PW_get (v := .ref 95) c_M_hasMore_16 fl_M_84 (gf_70_39 _ _) ?_
      refine PW_iload_n c_M_hasMore_19 rfl ?_
      refine PW_iald (j := 0) c_M_hasMore_20 (ar_95 _ _) (vp_in_iff.mpr (by decide)) rfl ?_
      show PW _ _ _ 21 [some (.ref 70), some (.int 0), some (.int (nI sj))] [.int ((Y.2.1 95) 0)] (E x Y)
      rw [h95]
      show PW _ _ _ 21 [some (.ref 70), some (.int 0), some (.int (nI sj))] [.int (nI k)] (E x Y)
      refine PW_bipush (v := 12) c_M_hasMore_21 (by decide) ?_
      refine PW_icmp_ge c_M_hasMore_23 (fun h1 => absurd h1 (fun q => absurd ((nI_leI (by decide) (by omega)).mp (show nI 12 ≤ nI k from q)) (by omega))) (fun h1 => ?_)
      refine PW_aload_n c_M_hasMore_26 rfl ?_
      refine PW_iload_n c_M_hasMore_27 rfl ?_
      refine PW_aload_n c_M_hasMore_28 rfl ?_
      refine PW_get (v := .ref 95) c_M_hasMore_29 fl_M_84 (gf_70_39 _ _) ?_
      refine PW_iload_n c_M_hasMore_32 rfl ?_
      refine PW_iald (j := 0) c_M_hasMore_33 (ar_95 _ _) (vp_in_iff.mpr (by decide)) rfl ?_
      show PW _ _ _ 34 [some (.ref 70), some (.int 0), some (.int (nI sj))] [.int ((Y.2.1 95) 0), .int (nI sj), .ref 70] (E x Y)
      rw [h95]
      show PW _ _ _ 34 [some (.ref 70), some (.int 0), some (.int (nI sj))] [.int (nI k), .int (nI sj), .ref 70] (E x Y)
      refine PW_V0 (d2 := 0) (st := []) [.int (nI sj), .int (nI k)] c_M_hasMore_34 lk_M_hasMore_292 (po_70 _ _) rfl rfl rfl (Nat.le_of_ble_eq_true rfl) (by first | decide | omega) (Nat.le_of_ble_eq_true rfl) ?_
      show PW _ _ _ 0 [some (.ref 70), some (.int (nI sj)), some (.int (nI k))] [] (E x Y)
      refine PW_aload_n c_M_byteAt_0 rfl ?_
      refine PW_get (v := .ref 106) c_M_byteAt_1 fl_M_117 (gf_70_55 _ _) ?_
      refine PW_bipush (v := 60) c_M_byteAt_4 (by decide) ?_
      refine PW_iload_n c_M_byteAt_6 rfl ?_
      refine PW_imul c_M_byteAt_7 ?_
      refine PW_iload_n c_M_byteAt_8 rfl ?_
      refine PW_iadd c_M_byteAt_9 ?_
      refine PW_lald (j := 60 * sj + k) c_M_byteAt_10 (ar_106 _ _) (by rw [show (60 : Int32) = nI 60 from rfl, pk_mul, nI_add]; exact vp_in_nI (by omega) (by decide)) (by rw [show (60 : Int32) = nI 60 from rfl, pk_mul, nI_add]; exact nI_clamp (by omega)) ?_
      show PW _ _ _ 11 [some (.ref 70), some (.int (nI sj)), some (.int (nI k))] [.long ((Y.2.2 106) (60 * sj + k))] (E x Y)
      refine PW_l2i c_M_byteAt_11 ?_
      refine PW_ireturn (ty := .int) c_M_byteAt_12 rfl rfl ?_
      show PW _ _ _ 37 [some (.ref 70), some (.int 0), some (.int (nI sj))] [.int (((Y.2.2 106) (60 * sj + k)).toInt32)] (E x Y)
      refine PW_S0 (d2 := 1) (st := []) [.int (((Y.2.2 106) (60 * sj + k)).toInt32)] c_M_hasMore_37 lk_M_hasMore_135 rfl rfl rfl (Nat.le_of_ble_eq_true rfl) (by first | decide | omega) (Nat.le_of_ble_eq_true rfl) ?_
      refine sp_M_isRoom  ?_
      show PW _ _ _ 40 [some (.ref 70), some (.int 0), some (.int (nI sj))] [.int (b2i (0 ≤ (((Y.2.2 106) (60 * sj + k)).toInt32) ∧ (((Y.2.2 106) (60 * sj + k)).toInt32) ≤ 4))] (E x Y)
      refine PW_if_eq c_M_hasMore_40 (fun _ => ?_) (fun h2 => absurd (b2i_n0.mp h2) hr)
      refine PW_iconst (v := 0) c_M_hasMore_47 (by decide) ?_
      refine PW_ireturn (ty := .boolean) c_M_hasMore_48 rfl (by decide +kernel) ?_
      exact h
    · skip
      refine PW_aload_n c_M_hasMore_0 rfl ?_
      refine PW_get (v := .ref 95) c_M_hasMore_1 fl_M_84 (gf_70_39 _ _) ?_
      refine PW_iload_n c_M_hasMore_4 rfl ?_
      refine PW_iald (j := 0) c_M_hasMore_5 (ar_95 _ _) (vp_in_iff.mpr (by decide)) rfl ?_
      show PW _ _ _ 6 [some (.ref 70), some (.int 0), some (.int (nI sj))] [.int ((Y.2.1 95) 0)] (E x Y)
      rw [h95]
      show PW _ _ _ 6 [some (.ref 70), some (.int 0), some (.int (nI sj))] [.int (nI k)] (E x Y)
      refine PW_aload_n c_M_hasMore_6 rfl ?_
      refine PW_get (v := .ref 105) c_M_hasMore_7 fl_M_114 (gf_70_54 _ _) ?_
      refine PW_iload_n c_M_hasMore_10 rfl ?_
      refine PW_iald (j := sj) c_M_hasMore_11 (ar_105 _ _) (vp_in_nI hsj (by decide)) (nI_clamp (by omega)) ?_
      show PW _ _ _ 12 [some (.ref 70), some (.int 0), some (.int (nI sj))] [.int ((Y.2.1 105) sj), .int (nI k)] (E x Y)
      rw [h105]
      show PW _ _ _ 12 [some (.ref 70), some (.int 0), some (.int (nI sj))] [.int (nI n), .int (nI k)] (E x Y)
      refine PW_icmp_ge c_M_hasMore_12 (fun h0 => absurd h0 (fun q => absurd ((nI_leI (by omega) (by omega)).mp q) (by omega))) (fun h0 => ?_)
      refine PW_aload_n c_M_hasMore_15 rfl ?_
      refine PW_get (v := .ref 95) c_M_hasMore_16 fl_M_84 (gf_70_39 _ _) ?_
      refine PW_iload_n c_M_hasMore_19 rfl ?_
      refine PW_iald (j := 0) c_M_hasMore_20 (ar_95 _ _) (vp_in_iff.mpr (by decide)) rfl ?_
      show PW _ _ _ 21 [some (.ref 70), some (.int 0), some (.int (nI sj))] [.int ((Y.2.1 95) 0)] (E x Y)
      rw [h95]
      show PW _ _ _ 21 [some (.ref 70), some (.int 0), some (.int (nI sj))] [.int (nI k)] (E x Y)
      refine PW_bipush (v := 12) c_M_hasMore_21 (by decide) ?_
      refine PW_icmp_ge c_M_hasMore_23 (fun h1 => ?_) (fun h1 => absurd ((nI_leI (by decide) (by omega)).mpr (show 12 ≤ k by omega) : nI 12 ≤ nI k) h1)
      refine PW_iconst (v := 0) c_M_hasMore_47 (by decide) ?_
      refine PW_ireturn (ty := .boolean) c_M_hasMore_48 rfl (by decide +kernel) ?_
      exact h
  · skip
    refine PW_aload_n c_M_hasMore_0 rfl ?_
    refine PW_get (v := .ref 95) c_M_hasMore_1 fl_M_84 (gf_70_39 _ _) ?_
    refine PW_iload_n c_M_hasMore_4 rfl ?_
    refine PW_iald (j := 0) c_M_hasMore_5 (ar_95 _ _) (vp_in_iff.mpr (by decide)) rfl ?_
    show PW _ _ _ 6 [some (.ref 70), some (.int 0), some (.int (nI sj))] [.int ((Y.2.1 95) 0)] (E x Y)
    rw [h95]
    show PW _ _ _ 6 [some (.ref 70), some (.int 0), some (.int (nI sj))] [.int (nI k)] (E x Y)
    refine PW_aload_n c_M_hasMore_6 rfl ?_
    refine PW_get (v := .ref 105) c_M_hasMore_7 fl_M_114 (gf_70_54 _ _) ?_
    refine PW_iload_n c_M_hasMore_10 rfl ?_
    refine PW_iald (j := sj) c_M_hasMore_11 (ar_105 _ _) (vp_in_nI hsj (by decide)) (nI_clamp (by omega)) ?_
    show PW _ _ _ 12 [some (.ref 70), some (.int 0), some (.int (nI sj))] [.int ((Y.2.1 105) sj), .int (nI k)] (E x Y)
    rw [h105]
    show PW _ _ _ 12 [some (.ref 70), some (.int 0), some (.int (nI sj))] [.int (nI n), .int (nI k)] (E x Y)
    refine PW_icmp_ge c_M_hasMore_12 (fun h0 => ?_) (fun h0 => absurd ((nI_leI (by omega) (by omega)).mpr (by omega)) h0)
    refine PW_iconst (v := 0) c_M_hasMore_47 (by decide) ?_
    refine PW_ireturn (ty := .boolean) c_M_hasMore_48 rfl (by decide +kernel) ?_
    exact h
theorem sp_so1_0 {z : ZS} {post : Option Value → List PE → Prop} {x Y : XS} {sj n k a b : Nat} {m : Int32} (hsj : sj < 6) (hn : n ≤ 60) (h95 : Y.2.1 95 0 = nI k) (h105 : Y.2.1 105 sj = nI n) (h93 : Y.2.1 93 0 = nI a) (h94 : Y.2.1 94 0 = m) (hk : k < n) (hk2 : k < 12) (hr : 0 ≤ (Y.2.2 106 (60 * sj + k)).toInt32 ∧ (Y.2.2 106 (60 * sj + k)).toInt32 ≤ 4) (hbk : (Y.2.2 106 (60 * sj + k)).toInt32 = nI b) (ha : a < 5) (hb : b < 5) (h : post (some (.int (m + wayN Y a b))) (E x Y)) : PW (3, 0, 0, z) m_M_startOf post 0 [some (.ref 70), some (.int 0), some (.int (nI sj))] [] (E x Y) := by
  refine PW_aload_n c_M_startOf_0 rfl ?_
  refine PW_iload_n c_M_startOf_1 rfl ?_
  refine PW_iload_n c_M_startOf_2 rfl ?_
  refine PW_V0 (d2 := 2) (st := []) [.int 0, .int (nI sj)] c_M_startOf_3 lk_M_startOf_321 (po_70 _ _) rfl rfl rfl (Nat.le_of_ble_eq_true rfl) (by first | decide | omega) (Nat.le_of_ble_eq_true rfl) ?_
  refine sp_hm1_0 hsj hn h95 h105 hk hk2 hr ?_
  show PW _ _ _ 6 [some (.ref 70), some (.int 0), some (.int (nI sj))] [.int 1] (E x Y)
  refine PW_if_eq c_M_startOf_6 (fun h0 => absurd h0 (by decide)) (fun _ => ?_)
  refine PW_aload_n c_M_startOf_9 rfl ?_
  refine PW_get (v := .ref 94) c_M_startOf_10 fl_M_81 (gf_70_38 _ _) ?_
  refine PW_iload_n c_M_startOf_13 rfl ?_
  refine PW_iald (j := 0) c_M_startOf_14 (ar_94 _ _) (vp_in_iff.mpr (by decide)) rfl ?_
  show PW _ _ _ 15 [some (.ref 70), some (.int 0), some (.int (nI sj))] [.int ((Y.2.1 94) 0)] (E x Y)
  rw [h94]
  show PW _ _ _ 15 [some (.ref 70), some (.int 0), some (.int (nI sj))] [.int m] (E x Y)
  refine PW_aload_n c_M_startOf_15 rfl ?_
  refine PW_aload_n c_M_startOf_16 rfl ?_
  refine PW_get (v := .ref 93) c_M_startOf_17 fl_M_78 (gf_70_37 _ _) ?_
  refine PW_iload_n c_M_startOf_20 rfl ?_
  refine PW_iald (j := 0) c_M_startOf_21 (ar_93 _ _) (vp_in_iff.mpr (by decide)) rfl ?_
  show PW _ _ _ 22 [some (.ref 70), some (.int 0), some (.int (nI sj))] [.int ((Y.2.1 93) 0), .ref 70, .int m] (E x Y)
  rw [h93]
  show PW _ _ _ 22 [some (.ref 70), some (.int 0), some (.int (nI sj))] [.int (nI a), .ref 70, .int m] (E x Y)
  refine PW_aload_n c_M_startOf_22 rfl ?_
  refine PW_iload_n c_M_startOf_23 rfl ?_
  refine PW_aload_n c_M_startOf_24 rfl ?_
  refine PW_get (v := .ref 95) c_M_startOf_25 fl_M_84 (gf_70_39 _ _) ?_
  refine PW_iload_n c_M_startOf_28 rfl ?_
  refine PW_iald (j := 0) c_M_startOf_29 (ar_95 _ _) (vp_in_iff.mpr (by decide)) rfl ?_
  show PW _ _ _ 30 [some (.ref 70), some (.int 0), some (.int (nI sj))] [.int ((Y.2.1 95) 0), .int (nI sj), .ref 70, .int (nI a), .ref 70, .int m] (E x Y)
  rw [h95]
  show PW _ _ _ 30 [some (.ref 70), some (.int 0), some (.int (nI sj))] [.int (nI k), .int (nI sj), .ref 70, .int (nI a), .ref 70, .int m] (E x Y)
  refine PW_V0 (d2 := 0) (st := [.int (nI a), .ref 70, .int m]) [.int (nI sj), .int (nI k)] c_M_startOf_30 lk_M_startOf_292 (po_70 _ _) rfl rfl rfl (Nat.le_of_ble_eq_true rfl) (by first | decide | omega) (Nat.le_of_ble_eq_true rfl) ?_
  show PW _ _ _ 0 [some (.ref 70), some (.int (nI sj)), some (.int (nI k))] [] (E x Y)
  refine PW_aload_n c_M_byteAt_0 rfl ?_
  refine PW_get (v := .ref 106) c_M_byteAt_1 fl_M_117 (gf_70_55 _ _) ?_
  refine PW_bipush (v := 60) c_M_byteAt_4 (by decide) ?_
  refine PW_iload_n c_M_byteAt_6 rfl ?_
  refine PW_imul c_M_byteAt_7 ?_
  refine PW_iload_n c_M_byteAt_8 rfl ?_
  refine PW_iadd c_M_byteAt_9 ?_
  refine PW_lald (j := 60 * sj + k) c_M_byteAt_10 (ar_106 _ _) (by rw [show (60 : Int32) = nI 60 from rfl, pk_mul, nI_add]; exact vp_in_nI (by omega) (by decide)) (by rw [show (60 : Int32) = nI 60 from rfl, pk_mul, nI_add]; exact nI_clamp (by omega)) ?_
  show PW _ _ _ 11 [some (.ref 70), some (.int (nI sj)), some (.int (nI k))] [.long ((Y.2.2 106) (60 * sj + k))] (E x Y)
  refine PW_l2i c_M_byteAt_11 ?_
  refine PW_ireturn (ty := .int) c_M_byteAt_12 rfl rfl ?_
  show PW _ _ _ 33 [some (.ref 70), some (.int 0), some (.int (nI sj))] [.int (((Y.2.2 106) (60 * sj + k)).toInt32), .int (nI a), .ref 70, .int m] (E x Y)
  rw [hbk]
  show PW _ _ _ 33 [some (.ref 70), some (.int 0), some (.int (nI sj))] [.int (nI b), .int (nI a), .ref 70, .int m] (E x Y)
  refine PW_V0 (d2 := 0) (st := [.int m]) [.int (nI a), .int (nI b)] c_M_startOf_33 lk_M_startOf_274 (po_70 _ _) rfl rfl rfl (Nat.le_of_ble_eq_true rfl) (by first | decide | omega) (Nat.le_of_ble_eq_true rfl) ?_
  refine sp_M_wayOf rfl rfl ha hb ?_
  show PW _ _ _ 36 [some (.ref 70), some (.int 0), some (.int (nI sj))] [.int (wayN Y a b), .int m] (E x Y)
  refine PW_iadd c_M_startOf_36 ?_
  refine PW_goto c_M_startOf_37 ?_
  refine PW_ireturn (ty := .int) c_M_startOf_43 rfl rfl ?_
  exact h
theorem sp_so0_0 {z : ZS} {post : Option Value → List PE → Prop} {x Y : XS} {sj n k : Nat} (hsj : sj < 6) (hn : n ≤ 60) (h95 : Y.2.1 95 0 = nI k) (h105 : Y.2.1 105 sj = nI n) (hk12 : k ≤ 12) (hno : ¬ (k < n ∧ k < 12 ∧ (0 ≤ (Y.2.2 106 (60 * sj + k)).toInt32 ∧ (Y.2.2 106 (60 * sj + k)).toInt32 ≤ 4))) (h : post (some (.int 1000000)) (E x Y)) : PW (3, 0, 0, z) m_M_startOf post 0 [some (.ref 70), some (.int 0), some (.int (nI sj))] [] (E x Y) := by
  refine PW_aload_n c_M_startOf_0 rfl ?_
  refine PW_iload_n c_M_startOf_1 rfl ?_
  refine PW_iload_n c_M_startOf_2 rfl ?_
  refine PW_V0 (d2 := 2) (st := []) [.int 0, .int (nI sj)] c_M_startOf_3 lk_M_startOf_321 (po_70 _ _) rfl rfl rfl (Nat.le_of_ble_eq_true rfl) (by first | decide | omega) (Nat.le_of_ble_eq_true rfl) ?_
  refine sp_hm0_0 hsj hn h95 h105 hk12 hno ?_
  show PW _ _ _ 6 [some (.ref 70), some (.int 0), some (.int (nI sj))] [.int 0] (E x Y)
  refine PW_if_eq c_M_startOf_6 (fun _ => ?_) (fun h0 => absurd (by decide) h0)
  refine PW_ldcw c_M_startOf_40 kk_M_314 ?_
  refine PW_ireturn (ty := .int) c_M_startOf_43 rfl rfl ?_
  exact h
theorem lp_kt2_0 {z : ZS} {post : Option Value → List PE → Prop} {x Y : XS} {k k' a a' : Nat} {m mm mm' : Int32} {ef wf ef' wf' : Nat → Int32} (s1 : pYs 0 Y a mm k ef wf) (s2 : pYs 1 Y a' mm' k' ef' wf') (hk : k ≤ 12) (hk2 : k' ≤ 12) (h : post (some (.int (orA (orW wf k) ef' wf' m k'))) (E x Y)) : ∀ j i : Nat, i + j = k' → PW (0, 0, 0, z) m_M_knownTo post 40 [some (.ref 70), some (.int 0), some (.int m), some (.int (orA (orW wf k) ef' wf' m i)), some (.int (nI i))] [] (E x Y) := by
  intro j
  induction j with
  | zero =>
    intro i hi
    refine PW_iload c_M_knownTo_40 rfl ?_
    refine PW_aload_n c_M_knownTo_42 rfl ?_
    refine PW_get (v := .ref 96) c_M_knownTo_43 fl_M_87 (gf_70_40 _ _) ?_
    refine PW_iconst (v := 1) c_M_knownTo_46 (by decide) ?_
    refine PW_iload_n c_M_knownTo_47 rfl ?_
    refine PW_isub c_M_knownTo_48 ?_
    refine PW_iald (j := 1) c_M_knownTo_49 (ar_96 _ _) (vp_in_iff.mpr (by decide)) (by decide) ?_
    show PW _ _ _ 50 [some (.ref 70), some (.int 0), some (.int m), some (.int (orA (orW wf k) ef' wf' m i)), some (.int (nI i))] [.int ((Y.2.1 96) 1), .int (nI i)] (E x Y)
    rw [s2.2.2.2.1]
    show PW _ _ _ 50 [some (.ref 70), some (.int 0), some (.int m), some (.int (orA (orW wf k) ef' wf' m i)), some (.int (nI i))] [.int (nI k'), .int (nI i)] (E x Y)
    refine PW_icmp_ge c_M_knownTo_50 (fun h0 => ?_) (fun h0 => absurd ((nI_leI (by omega) (by omega)).mpr (by omega)) h0)
    refine PW_iload_n c_M_knownTo_94 rfl ?_
    refine PW_ireturn (ty := .int) c_M_knownTo_95 rfl rfl ?_
    rw [show i = k' by omega]
    exact h
  | succ j ih =>
    intro i hi
    by_cases hA : ef' i < m
    · skip
      refine PW_iload c_M_knownTo_40 rfl ?_
      refine PW_aload_n c_M_knownTo_42 rfl ?_
      refine PW_get (v := .ref 96) c_M_knownTo_43 fl_M_87 (gf_70_40 _ _) ?_
      refine PW_iconst (v := 1) c_M_knownTo_46 (by decide) ?_
      refine PW_iload_n c_M_knownTo_47 rfl ?_
      refine PW_isub c_M_knownTo_48 ?_
      refine PW_iald (j := 1) c_M_knownTo_49 (ar_96 _ _) (vp_in_iff.mpr (by decide)) (by decide) ?_
      show PW _ _ _ 50 [some (.ref 70), some (.int 0), some (.int m), some (.int (orA (orW wf k) ef' wf' m i)), some (.int (nI i))] [.int ((Y.2.1 96) 1), .int (nI i)] (E x Y)
      rw [s2.2.2.2.1]
      show PW _ _ _ 50 [some (.ref 70), some (.int 0), some (.int m), some (.int (orA (orW wf k) ef' wf' m i)), some (.int (nI i))] [.int (nI k'), .int (nI i)] (E x Y)
      refine PW_icmp_ge c_M_knownTo_50 (fun h0 => absurd h0 (fun q => absurd ((nI_leI (by omega) (by omega)).mp q) (by omega))) (fun h0 => ?_)
      refine PW_aload_n c_M_knownTo_53 rfl ?_
      refine PW_get (v := .ref 98) c_M_knownTo_54 fl_M_93 (gf_70_42 _ _) ?_
      refine PW_bipush (v := 12) c_M_knownTo_57 (by decide) ?_
      refine PW_iconst (v := 1) c_M_knownTo_59 (by decide) ?_
      refine PW_iload_n c_M_knownTo_60 rfl ?_
      refine PW_isub c_M_knownTo_61 ?_
      refine PW_imul c_M_knownTo_62 ?_
      refine PW_iload c_M_knownTo_63 rfl ?_
      refine PW_iadd c_M_knownTo_65 ?_
      refine PW_iald (j := 12 * 1 + i) c_M_knownTo_66 (ar_98 _ _) (by rw [(show (12 * (1 - 0) + nI i : Int32) = nI (12 * 1 + i) by rw [show (12 * (1 - 0) : Int32) = nI (12 * 1) by decide, nI_add])]; exact vp_in_nI (by omega) (by decide)) (by rw [(show (12 * (1 - 0) + nI i : Int32) = nI (12 * 1 + i) by rw [show (12 * (1 - 0) : Int32) = nI (12 * 1) by decide, nI_add])]; exact nI_clamp (by omega)) ?_
      show PW _ _ _ 67 [some (.ref 70), some (.int 0), some (.int m), some (.int (orA (orW wf k) ef' wf' m i)), some (.int (nI i))] [.int ((Y.2.1 98) (12 * 1 + i))] (E x Y)
      rw [(s2.2.2.2.2 i (by omega)).1]
      show PW _ _ _ 67 [some (.ref 70), some (.int 0), some (.int m), some (.int (orA (orW wf k) ef' wf' m i)), some (.int (nI i))] [.int (ef' i)] (E x Y)
      refine PW_iload_n c_M_knownTo_67 rfl ?_
      refine PW_icmp_ge c_M_knownTo_68 (fun h1 => absurd h1 (Int32.not_le.mpr hA)) (fun h1 => ?_)
      refine PW_iload_n c_M_knownTo_71 rfl ?_
      refine PW_aload_n c_M_knownTo_72 rfl ?_
      refine PW_get (v := .ref 97) c_M_knownTo_73 fl_M_90 (gf_70_41 _ _) ?_
      refine PW_bipush (v := 12) c_M_knownTo_76 (by decide) ?_
      refine PW_iconst (v := 1) c_M_knownTo_78 (by decide) ?_
      refine PW_iload_n c_M_knownTo_79 rfl ?_
      refine PW_isub c_M_knownTo_80 ?_
      refine PW_imul c_M_knownTo_81 ?_
      refine PW_iload c_M_knownTo_82 rfl ?_
      refine PW_iadd c_M_knownTo_84 ?_
      refine PW_iald (j := 12 * 1 + i) c_M_knownTo_85 (ar_97 _ _) (by rw [(show (12 * (1 - 0) + nI i : Int32) = nI (12 * 1 + i) by rw [show (12 * (1 - 0) : Int32) = nI (12 * 1) by decide, nI_add])]; exact vp_in_nI (by omega) (by decide)) (by rw [(show (12 * (1 - 0) + nI i : Int32) = nI (12 * 1 + i) by rw [show (12 * (1 - 0) : Int32) = nI (12 * 1) by decide, nI_add])]; exact nI_clamp (by omega)) ?_
      show PW _ _ _ 86 [some (.ref 70), some (.int 0), some (.int m), some (.int (orA (orW wf k) ef' wf' m i)), some (.int (nI i))] [.int ((Y.2.1 97) (12 * 1 + i)), .int (orA (orW wf k) ef' wf' m i)] (E x Y)
      rw [(s2.2.2.2.2 i (by omega)).2]
      show PW _ _ _ 86 [some (.ref 70), some (.int 0), some (.int m), some (.int (orA (orW wf k) ef' wf' m i)), some (.int (nI i))] [.int (wf' i), .int (orA (orW wf k) ef' wf' m i)] (E x Y)
      refine PW_ior c_M_knownTo_86 ?_
      refine PW_istore_n (i := 3) (L2 := [some (.ref 70), some (.int 0), some (.int m), some (.int ((orA (orW wf k) ef' wf' m i) ||| (wf' i))), some (.int (nI i))]) c_M_knownTo_87 rfl (Nat.le_of_ble_eq_true rfl) rfl rfl ?_
      refine PW_iinc (i := 4) (v := (nI i) + 1) (L2 := [some (.ref 70), some (.int 0), some (.int m), some (.int ((orA (orW wf k) ef' wf' m i) ||| (wf' i))), some (.int ((nI i) + 1))]) c_M_knownTo_88 rfl (iinc_v (by decide)) (Nat.le_of_ble_eq_true rfl) rfl rfl ?_
      refine PW_goto c_M_knownTo_91 ?_
      refine PW.eqL ?_ rfl rfl (ih (i + 1) (by omega))
      show ([some (.ref 70), some (.int 0), some (.int m), some (.int ((orA (orW wf k) ef' wf' m i) ||| (wf' i))), some (.int ((nI i) + 1))] : List (Option Value)) = [some (.ref 70), some (.int 0), some (.int m), some (.int (orA (orW wf k) ef' wf' m (i + 1))), some (.int (nI (i + 1)))]
      rw [nI_1, orA, if_pos hA]
    · skip
      refine PW_iload c_M_knownTo_40 rfl ?_
      refine PW_aload_n c_M_knownTo_42 rfl ?_
      refine PW_get (v := .ref 96) c_M_knownTo_43 fl_M_87 (gf_70_40 _ _) ?_
      refine PW_iconst (v := 1) c_M_knownTo_46 (by decide) ?_
      refine PW_iload_n c_M_knownTo_47 rfl ?_
      refine PW_isub c_M_knownTo_48 ?_
      refine PW_iald (j := 1) c_M_knownTo_49 (ar_96 _ _) (vp_in_iff.mpr (by decide)) (by decide) ?_
      show PW _ _ _ 50 [some (.ref 70), some (.int 0), some (.int m), some (.int (orA (orW wf k) ef' wf' m i)), some (.int (nI i))] [.int ((Y.2.1 96) 1), .int (nI i)] (E x Y)
      rw [s2.2.2.2.1]
      show PW _ _ _ 50 [some (.ref 70), some (.int 0), some (.int m), some (.int (orA (orW wf k) ef' wf' m i)), some (.int (nI i))] [.int (nI k'), .int (nI i)] (E x Y)
      refine PW_icmp_ge c_M_knownTo_50 (fun h0 => absurd h0 (fun q => absurd ((nI_leI (by omega) (by omega)).mp q) (by omega))) (fun h0 => ?_)
      refine PW_aload_n c_M_knownTo_53 rfl ?_
      refine PW_get (v := .ref 98) c_M_knownTo_54 fl_M_93 (gf_70_42 _ _) ?_
      refine PW_bipush (v := 12) c_M_knownTo_57 (by decide) ?_
      refine PW_iconst (v := 1) c_M_knownTo_59 (by decide) ?_
      refine PW_iload_n c_M_knownTo_60 rfl ?_
      refine PW_isub c_M_knownTo_61 ?_
      refine PW_imul c_M_knownTo_62 ?_
      refine PW_iload c_M_knownTo_63 rfl ?_
      refine PW_iadd c_M_knownTo_65 ?_
      refine PW_iald (j := 12 * 1 + i) c_M_knownTo_66 (ar_98 _ _) (by rw [(show (12 * (1 - 0) + nI i : Int32) = nI (12 * 1 + i) by rw [show (12 * (1 - 0) : Int32) = nI (12 * 1) by decide, nI_add])]; exact vp_in_nI (by omega) (by decide)) (by rw [(show (12 * (1 - 0) + nI i : Int32) = nI (12 * 1 + i) by rw [show (12 * (1 - 0) : Int32) = nI (12 * 1) by decide, nI_add])]; exact nI_clamp (by omega)) ?_
      show PW _ _ _ 67 [some (.ref 70), some (.int 0), some (.int m), some (.int (orA (orW wf k) ef' wf' m i)), some (.int (nI i))] [.int ((Y.2.1 98) (12 * 1 + i))] (E x Y)
      rw [(s2.2.2.2.2 i (by omega)).1]
      show PW _ _ _ 67 [some (.ref 70), some (.int 0), some (.int m), some (.int (orA (orW wf k) ef' wf' m i)), some (.int (nI i))] [.int (ef' i)] (E x Y)
      refine PW_iload_n c_M_knownTo_67 rfl ?_
      refine PW_icmp_ge c_M_knownTo_68 (fun h1 => ?_) (fun h1 => absurd (Int32.not_lt.mp hA) h1)
      refine PW_iinc (i := 4) (v := (nI i) + 1) (L2 := [some (.ref 70), some (.int 0), some (.int m), some (.int (orA (orW wf k) ef' wf' m i)), some (.int ((nI i) + 1))]) c_M_knownTo_88 rfl (iinc_v (by decide)) (Nat.le_of_ble_eq_true rfl) rfl rfl ?_
      refine PW_goto c_M_knownTo_91 ?_
      refine PW.eqL ?_ rfl rfl (ih (i + 1) (by omega))
      show ([some (.ref 70), some (.int 0), some (.int m), some (.int (orA (orW wf k) ef' wf' m i)), some (.int ((nI i) + 1))] : List (Option Value)) = [some (.ref 70), some (.int 0), some (.int m), some (.int (orA (orW wf k) ef' wf' m (i + 1))), some (.int (nI (i + 1)))]
      rw [nI_1, orA, if_neg hA]
theorem lp_kt1_0 {z : ZS} {post : Option Value → List PE → Prop} {x Y : XS} {k k' a a' : Nat} {m mm mm' : Int32} {ef wf ef' wf' : Nat → Int32} (s1 : pYs 0 Y a mm k ef wf) (s2 : pYs 1 Y a' mm' k' ef' wf') (hk : k ≤ 12) (hk2 : k' ≤ 12) (h : post (some (.int (orA (orW wf k) ef' wf' m k'))) (E x Y)) : ∀ j i : Nat, i + j = k → PW (0, 0, 0, z) m_M_knownTo post 5 [some (.ref 70), some (.int 0), some (.int m), some (.int (orW wf i)), some (.int (nI i))] [] (E x Y) := by
  intro j
  induction j with
  | zero =>
    intro i hi
    refine PW_iload c_M_knownTo_5 rfl ?_
    refine PW_aload_n c_M_knownTo_7 rfl ?_
    refine PW_get (v := .ref 96) c_M_knownTo_8 fl_M_87 (gf_70_40 _ _) ?_
    refine PW_iload_n c_M_knownTo_11 rfl ?_
    refine PW_iald (j := 0) c_M_knownTo_12 (ar_96 _ _) (vp_in_iff.mpr (by decide)) rfl ?_
    show PW _ _ _ 13 [some (.ref 70), some (.int 0), some (.int m), some (.int (orW wf i)), some (.int (nI i))] [.int ((Y.2.1 96) 0), .int (nI i)] (E x Y)
    rw [s1.2.2.2.1]
    show PW _ _ _ 13 [some (.ref 70), some (.int 0), some (.int m), some (.int (orW wf i)), some (.int (nI i))] [.int (nI k), .int (nI i)] (E x Y)
    refine PW_icmp_ge c_M_knownTo_13 (fun h0 => ?_) (fun h0 => absurd ((nI_leI (by omega) (by omega)).mpr (by omega)) h0)
    refine PW_iconst (v := 0) c_M_knownTo_37 (by decide) ?_
    refine PW_istore (i := 4) (L2 := [some (.ref 70), some (.int 0), some (.int m), some (.int (orW wf i)), some (.int 0)]) c_M_knownTo_38 (Nat.le_of_ble_eq_true rfl) rfl rfl ?_
    rw [show i = k by omega]
    exact lp_kt2_0 s1 s2 hk hk2 h k' 0 (Nat.zero_add _)
  | succ j ih =>
    intro i hi
    refine PW_iload c_M_knownTo_5 rfl ?_
    refine PW_aload_n c_M_knownTo_7 rfl ?_
    refine PW_get (v := .ref 96) c_M_knownTo_8 fl_M_87 (gf_70_40 _ _) ?_
    refine PW_iload_n c_M_knownTo_11 rfl ?_
    refine PW_iald (j := 0) c_M_knownTo_12 (ar_96 _ _) (vp_in_iff.mpr (by decide)) rfl ?_
    show PW _ _ _ 13 [some (.ref 70), some (.int 0), some (.int m), some (.int (orW wf i)), some (.int (nI i))] [.int ((Y.2.1 96) 0), .int (nI i)] (E x Y)
    rw [s1.2.2.2.1]
    show PW _ _ _ 13 [some (.ref 70), some (.int 0), some (.int m), some (.int (orW wf i)), some (.int (nI i))] [.int (nI k), .int (nI i)] (E x Y)
    refine PW_icmp_ge c_M_knownTo_13 (fun h0 => absurd h0 (fun q => absurd ((nI_leI (by omega) (by omega)).mp q) (by omega))) (fun h0 => ?_)
    refine PW_iload_n c_M_knownTo_16 rfl ?_
    refine PW_aload_n c_M_knownTo_17 rfl ?_
    refine PW_get (v := .ref 97) c_M_knownTo_18 fl_M_90 (gf_70_41 _ _) ?_
    refine PW_bipush (v := 12) c_M_knownTo_21 (by decide) ?_
    refine PW_iload_n c_M_knownTo_23 rfl ?_
    refine PW_imul c_M_knownTo_24 ?_
    refine PW_iload c_M_knownTo_25 rfl ?_
    refine PW_iadd c_M_knownTo_27 ?_
    refine PW_iald (j := 12 * 0 + i) c_M_knownTo_28 (ar_97 _ _) (by rw [(show (12 * 0 + nI i : Int32) = nI (12 * 0 + i) by rw [show (12 * 0 : Int32) = nI (12 * 0) by decide, nI_add])]; exact vp_in_nI (by omega) (by decide)) (by rw [(show (12 * 0 + nI i : Int32) = nI (12 * 0 + i) by rw [show (12 * 0 : Int32) = nI (12 * 0) by decide, nI_add])]; exact nI_clamp (by omega)) ?_
    show PW _ _ _ 29 [some (.ref 70), some (.int 0), some (.int m), some (.int (orW wf i)), some (.int (nI i))] [.int ((Y.2.1 97) (12 * 0 + i)), .int (orW wf i)] (E x Y)
    rw [(s1.2.2.2.2 i (by omega)).2]
    show PW _ _ _ 29 [some (.ref 70), some (.int 0), some (.int m), some (.int (orW wf i)), some (.int (nI i))] [.int (wf i), .int (orW wf i)] (E x Y)
    refine PW_ior c_M_knownTo_29 ?_
    refine PW_istore_n (i := 3) (L2 := [some (.ref 70), some (.int 0), some (.int m), some (.int ((orW wf i) ||| (wf i))), some (.int (nI i))]) c_M_knownTo_30 rfl (Nat.le_of_ble_eq_true rfl) rfl rfl ?_
    refine PW_iinc (i := 4) (v := (nI i) + 1) (L2 := [some (.ref 70), some (.int 0), some (.int m), some (.int ((orW wf i) ||| (wf i))), some (.int ((nI i) + 1))]) c_M_knownTo_31 rfl (iinc_v (by decide)) (Nat.le_of_ble_eq_true rfl) rfl rfl ?_
    refine PW_goto c_M_knownTo_34 ?_
    refine PW.eqL ?_ rfl rfl (ih (i + 1) (by omega))
    show ([some (.ref 70), some (.int 0), some (.int m), some (.int ((orW wf i) ||| (wf i))), some (.int ((nI i) + 1))] : List (Option Value)) = [some (.ref 70), some (.int 0), some (.int m), some (.int (orW wf (i + 1))), some (.int (nI (i + 1)))]
    rw [nI_1, orW]
theorem sp_kt_0 {z : ZS} {post : Option Value → List PE → Prop} {x Y : XS} {k k' a a' : Nat} {m mm mm' : Int32} {ef wf ef' wf' : Nat → Int32} (s1 : pYs 0 Y a mm k ef wf) (s2 : pYs 1 Y a' mm' k' ef' wf') (hk : k ≤ 12) (hk2 : k' ≤ 12) (h : post (some (.int (orW wf k ||| orB ef' wf' m k'))) (E x Y)) : PW (0, 0, 0, z) m_M_knownTo post 0 [some (.ref 70), some (.int 0), some (.int m), none, none] [] (E x Y) := by
  refine PW_iconst (v := 0) c_M_knownTo_0 (by decide) ?_
  refine PW_istore_n (i := 3) (L2 := [some (.ref 70), some (.int 0), some (.int m), some (.int 0), none]) c_M_knownTo_1 rfl (Nat.le_of_ble_eq_true rfl) rfl rfl ?_
  refine PW_iconst (v := 0) c_M_knownTo_2 (by decide) ?_
  refine PW_istore (i := 4) (L2 := [some (.ref 70), some (.int 0), some (.int m), some (.int 0), some (.int 0)]) c_M_knownTo_3 (Nat.le_of_ble_eq_true rfl) rfl rfl ?_
  exact lp_kt1_0 s1 s2 hk hk2 (by rw [orA_eq]; exact h) k 0 (Nat.zero_add _)
theorem M_visit0 {T : Option Txt} {x0 Y : XS} {sj n a b k k' a' : Nat} {m m' : Int32} {ef wf ef' wf' : Nat → Int32} (hsj : sj < 6) (hn : n ≤ 60) (hW : WG Y) (hT : lawIs T x0 Y) (h105 : Y.2.1 105 sj = nI n) (s1 : pYs 0 Y a m k ef wf) (s2 : pYs 1 Y a' m' k' ef' wf') (hk : k < n) (hk2 : k < 12) (hK2 : k' ≤ 12) (hr : 0 ≤ (Y.2.2 106 (60 * sj + k)).toInt32 ∧ (Y.2.2 106 (60 * sj + k)).toInt32 ≤ 4) (hbk : (Y.2.2 106 (60 * sj + k)).toInt32 = nI b) (ha : a < 5) (hb : b < 5) : ∃ Y3 : XS, yS Y Y3 ∧ pYs 0 Y3 b (m + wayN Y a b + mnF T Y (nI b) (m + wayN Y a b) (telF Y (nI b) (m + wayN Y a b) (orW wf k ||| orB ef' wf' (m + wayN Y a b) k'))) (k + 1) (upd ef k (m + wayN Y a b + mnF T Y (nI b) (m + wayN Y a b) (telF Y (nI b) (m + wayN Y a b) (orW wf k ||| orB ef' wf' (m + wayN Y a b) k')))) (upd wf k (telF Y (nI b) (m + wayN Y a b) (orW wf k ||| orB ef' wf' (m + wayN Y a b) k'))) ∧ pYs 1 Y3 a' m' k' ef' wf' ∧ ∀ {x : XS} {z : ZS} {post : Option Value → List PE → Prop}, post none (E x Y3) → PW (4, 0, 0, z) m_M_goPair post 0 [some (.ref 70), some (.int 0), some (.int (nI sj)), none, none, none, none] [] (E x Y) := by
  obtain ⟨Y1, ⟨c1, c2, c3⟩, H⟩ := sp_M_takes1 (T := T) (x0 := x0) (y := Y) (r := nI b) (m := m + wayN Y a b) (v := telF Y (nI b) (m + wayN Y a b) (orW wf k ||| orB ef' wf' (m + wayN Y a b) k')) hW (S10_telF hW.2) hT
  refine ⟨sA (sA (sA (sA (sA (sA Y1 97 (upd (Y1.2.1 97) (12 * 0 + k) (telF Y (nI b) (m + wayN Y a b) (orW wf k ||| orB ef' wf' (m + wayN Y a b) k')))) 98 (upd (Y1.2.1 98) (12 * 0 + k) (m + wayN Y a b + mnF T Y (nI b) (m + wayN Y a b) (telF Y (nI b) (m + wayN Y a b) (orW wf k ||| orB ef' wf' (m + wayN Y a b) k'))))) 96 (upd (Y1.2.1 96) 0 (nI k + 1))) 95 (upd (Y1.2.1 95) 0 (nI k + 1))) 93 (upd (Y1.2.1 93) 0 (nI b))) 94 (upd (Y1.2.1 94) 0 (m + wayN Y a b + mnF T Y (nI b) (m + wayN Y a b) (telF Y (nI b) (m + wayN Y a b) (orW wf k ||| orB ef' wf' (m + wayN Y a b) k')))), ⟨fun q hq => ?_, fun q hq => ?_, ?_⟩, ⟨?_, ?_, ?_, ?_, fun i hi => ?_⟩, ⟨?_, ?_, ?_, ?_, fun i hi => ?_⟩, fun {x z post} h => ?_⟩
  · exact congrFun c1 q
  · rw [sA_A, if_neg (by omega), sA_A, if_neg (by omega), sA_A, if_neg (by omega), sA_A, if_neg (by omega), sA_A, if_neg (by omega), sA_A, if_neg (by omega)]
    exact c2 q (by omega) (by omega)
  · exact c3
  · rfl
  · rfl
  · exact nI_1 k
  · exact nI_1 k
  · show upd (Y1.2.1 98) (12 * 0 + k) (m + wayN Y a b + mnF T Y (nI b) (m + wayN Y a b) (telF Y (nI b) (m + wayN Y a b) (orW wf k ||| orB ef' wf' (m + wayN Y a b) k'))) (12 * 0 + i) = _ ∧ upd (Y1.2.1 97) (12 * 0 + k) (telF Y (nI b) (m + wayN Y a b) (orW wf k ||| orB ef' wf' (m + wayN Y a b) k')) (12 * 0 + i) = _
    by_cases q : i = k
    · rw [q, upd_s, upd_s, upd_s, upd_s]; exact ⟨rfl, rfl⟩
    · rw [upd_n q, upd_n q, upd_n (show 12 * 0 + i ≠ 12 * 0 + k by omega), upd_n (show 12 * 0 + i ≠ 12 * 0 + k by omega), c2 98 (by decide) (by decide), c2 97 (by decide) (by decide)]; exact s1.2.2.2.2 i (by omega)
  · show Y1.2.1 93 1 = _
    rw [c2 93 (by decide) (by decide)]; exact s2.1
  · show Y1.2.1 94 1 = _
    rw [c2 94 (by decide) (by decide)]; exact s2.2.1
  · show Y1.2.1 95 1 = _
    rw [c2 95 (by decide) (by decide)]; exact s2.2.2.1
  · show Y1.2.1 96 1 = _
    rw [c2 96 (by decide) (by decide)]; exact s2.2.2.2.1
  · show upd (Y1.2.1 98) (12 * 0 + k) (m + wayN Y a b + mnF T Y (nI b) (m + wayN Y a b) (telF Y (nI b) (m + wayN Y a b) (orW wf k ||| orB ef' wf' (m + wayN Y a b) k'))) (12 * 1 + i) = _ ∧ upd (Y1.2.1 97) (12 * 0 + k) (telF Y (nI b) (m + wayN Y a b) (orW wf k ||| orB ef' wf' (m + wayN Y a b) k')) (12 * 1 + i) = _
    rw [upd_n (by omega), upd_n (by omega), c2 98 (by decide) (by decide), c2 97 (by decide) (by decide)]; exact s2.2.2.2.2 i hi
  refine PW_aload_n c_M_goPair_0 rfl ?_
  refine PW_iload_n c_M_goPair_1 rfl ?_
  refine PW_iload_n c_M_goPair_2 rfl ?_
  refine PW_V0 (d2 := 3) (st := []) [.int 0, .int (nI sj)] c_M_goPair_3 lk_M_goPair_324 (po_70 _ _) rfl rfl rfl (Nat.le_of_ble_eq_true rfl) (by first | decide | omega) (Nat.le_of_ble_eq_true rfl) ?_
  refine sp_so1_0 hsj hn s1.2.2.1 h105 s1.1 s1.2.1 hk hk2 hr hbk ha hb ?_
  show PW _ _ _ 6 [some (.ref 70), some (.int 0), some (.int (nI sj)), none, none, none, none] [.int (m + wayN Y a b)] (E x Y)
  refine PW_istore_n (i := 3) (L2 := [some (.ref 70), some (.int 0), some (.int (nI sj)), some (.int (m + wayN Y a b)), none, none, none]) c_M_goPair_6 rfl (Nat.le_of_ble_eq_true rfl) rfl rfl ?_
  refine PW_aload_n c_M_goPair_7 rfl ?_
  refine PW_iload_n c_M_goPair_8 rfl ?_
  refine PW_aload_n c_M_goPair_9 rfl ?_
  refine PW_get (v := .ref 95) c_M_goPair_10 fl_M_84 (gf_70_39 _ _) ?_
  refine PW_iload_n c_M_goPair_13 rfl ?_
  refine PW_iald (j := 0) c_M_goPair_14 (ar_95 _ _) (vp_in_iff.mpr (by decide)) rfl ?_
  show PW _ _ _ 15 [some (.ref 70), some (.int 0), some (.int (nI sj)), some (.int (m + wayN Y a b)), none, none, none] [.int ((Y.2.1 95) 0), .int (nI sj), .ref 70] (E x Y)
  rw [s1.2.2.1]
  show PW _ _ _ 15 [some (.ref 70), some (.int 0), some (.int (nI sj)), some (.int (m + wayN Y a b)), none, none, none] [.int (nI k), .int (nI sj), .ref 70] (E x Y)
  refine PW_V0 (d2 := 0) (st := []) [.int (nI sj), .int (nI k)] c_M_goPair_15 lk_M_goPair_292 (po_70 _ _) rfl rfl rfl (Nat.le_of_ble_eq_true rfl) (by first | decide | omega) (Nat.le_of_ble_eq_true rfl) ?_
  show PW _ _ _ 0 [some (.ref 70), some (.int (nI sj)), some (.int (nI k))] [] (E x Y)
  refine PW_aload_n c_M_byteAt_0 rfl ?_
  refine PW_get (v := .ref 106) c_M_byteAt_1 fl_M_117 (gf_70_55 _ _) ?_
  refine PW_bipush (v := 60) c_M_byteAt_4 (by decide) ?_
  refine PW_iload_n c_M_byteAt_6 rfl ?_
  refine PW_imul c_M_byteAt_7 ?_
  refine PW_iload_n c_M_byteAt_8 rfl ?_
  refine PW_iadd c_M_byteAt_9 ?_
  refine PW_lald (j := 60 * sj + k) c_M_byteAt_10 (ar_106 _ _) (by rw [show (60 : Int32) = nI 60 from rfl, pk_mul, nI_add]; exact vp_in_nI (by omega) (by decide)) (by rw [show (60 : Int32) = nI 60 from rfl, pk_mul, nI_add]; exact nI_clamp (by omega)) ?_
  show PW _ _ _ 11 [some (.ref 70), some (.int (nI sj)), some (.int (nI k))] [.long ((Y.2.2 106) (60 * sj + k))] (E x Y)
  refine PW_l2i c_M_byteAt_11 ?_
  refine PW_ireturn (ty := .int) c_M_byteAt_12 rfl rfl ?_
  show PW _ _ _ 18 [some (.ref 70), some (.int 0), some (.int (nI sj)), some (.int (m + wayN Y a b)), none, none, none] [.int (((Y.2.2 106) (60 * sj + k)).toInt32)] (E x Y)
  rw [hbk]
  show PW _ _ _ 18 [some (.ref 70), some (.int 0), some (.int (nI sj)), some (.int (m + wayN Y a b)), none, none, none] [.int (nI b)] (E x Y)
  refine PW_istore (i := 4) (L2 := [some (.ref 70), some (.int 0), some (.int (nI sj)), some (.int (m + wayN Y a b)), some (.int (nI b)), none, none]) c_M_goPair_18 (Nat.le_of_ble_eq_true rfl) rfl rfl ?_
  refine PW_aload_n c_M_goPair_20 rfl ?_
  refine PW_iload c_M_goPair_21 rfl ?_
  refine PW_iload_n c_M_goPair_23 rfl ?_
  refine PW_aload_n c_M_goPair_24 rfl ?_
  refine PW_iload_n c_M_goPair_25 rfl ?_
  refine PW_iload_n c_M_goPair_26 rfl ?_
  refine PW_V0 (d2 := 0) (st := [.int (m + wayN Y a b), .int (nI b), .ref 70]) [.int 0, .int (m + wayN Y a b)] c_M_goPair_27 lk_M_goPair_327 (po_70 _ _) rfl rfl rfl (Nat.le_of_ble_eq_true rfl) (by first | decide | omega) (Nat.le_of_ble_eq_true rfl) ?_
  refine sp_kt_0 s1 s2 (by omega) hK2 ?_
  show PW _ _ _ 30 [some (.ref 70), some (.int 0), some (.int (nI sj)), some (.int (m + wayN Y a b)), some (.int (nI b)), none, none] [.int (orW wf k ||| orB ef' wf' (m + wayN Y a b) k'), .int (m + wayN Y a b), .int (nI b), .ref 70] (E x Y)
  refine PW_V0 (d2 := 2) (st := []) [.int (nI b), .int (m + wayN Y a b), .int (orW wf k ||| orB ef' wf' (m + wayN Y a b) k')] c_M_goPair_30 lk_M_goPair_277 (po_70 _ _) rfl rfl rfl (Nat.le_of_ble_eq_true rfl) (by first | decide | omega) (Nat.le_of_ble_eq_true rfl) ?_
  refine sp_M_tells1 hW ?_
  show PW _ _ _ 33 [some (.ref 70), some (.int 0), some (.int (nI sj)), some (.int (m + wayN Y a b)), some (.int (nI b)), none, none] [.int (telF Y (nI b) (m + wayN Y a b) (orW wf k ||| orB ef' wf' (m + wayN Y a b) k'))] (E x Y)
  refine PW_istore (i := 5) (L2 := [some (.ref 70), some (.int 0), some (.int (nI sj)), some (.int (m + wayN Y a b)), some (.int (nI b)), some (.int (telF Y (nI b) (m + wayN Y a b) (orW wf k ||| orB ef' wf' (m + wayN Y a b) k'))), none]) c_M_goPair_33 (Nat.le_of_ble_eq_true rfl) rfl rfl ?_
  refine PW_iload_n c_M_goPair_35 rfl ?_
  refine PW_aload_n c_M_goPair_36 rfl ?_
  refine PW_iload c_M_goPair_37 rfl ?_
  refine PW_iload_n c_M_goPair_39 rfl ?_
  refine PW_iload c_M_goPair_40 rfl ?_
  refine PW_V0 (d2 := 3) (st := [.int (m + wayN Y a b)]) [.int (nI b), .int (m + wayN Y a b), .int (telF Y (nI b) (m + wayN Y a b) (orW wf k ||| orB ef' wf' (m + wayN Y a b) k'))] c_M_goPair_42 lk_M_goPair_280 (po_70 _ _) rfl rfl rfl (Nat.le_of_ble_eq_true rfl) (by first | decide | omega) (Nat.le_of_ble_eq_true rfl) ?_
  refine H ?_
  show PW _ _ _ 45 [some (.ref 70), some (.int 0), some (.int (nI sj)), some (.int (m + wayN Y a b)), some (.int (nI b)), some (.int (telF Y (nI b) (m + wayN Y a b) (orW wf k ||| orB ef' wf' (m + wayN Y a b) k'))), none] [.int (mnF T Y (nI b) (m + wayN Y a b) (telF Y (nI b) (m + wayN Y a b) (orW wf k ||| orB ef' wf' (m + wayN Y a b) k'))), .int (m + wayN Y a b)] (E x Y1)
  refine PW_iadd c_M_goPair_45 ?_
  refine PW_istore (i := 6) (L2 := [some (.ref 70), some (.int 0), some (.int (nI sj)), some (.int (m + wayN Y a b)), some (.int (nI b)), some (.int (telF Y (nI b) (m + wayN Y a b) (orW wf k ||| orB ef' wf' (m + wayN Y a b) k'))), some (.int ((m + wayN Y a b) + (mnF T Y (nI b) (m + wayN Y a b) (telF Y (nI b) (m + wayN Y a b) (orW wf k ||| orB ef' wf' (m + wayN Y a b) k')))))]) c_M_goPair_46 (Nat.le_of_ble_eq_true rfl) rfl rfl ?_
  refine PW_aload_n c_M_goPair_48 rfl ?_
  refine PW_get (v := .ref 97) c_M_goPair_49 fl_M_90 (gf_70_41 _ _) ?_
  refine PW_bipush (v := 12) c_M_goPair_52 (by decide) ?_
  refine PW_iload_n c_M_goPair_54 rfl ?_
  refine PW_imul c_M_goPair_55 ?_
  refine PW_aload_n c_M_goPair_56 rfl ?_
  refine PW_get (v := .ref 96) c_M_goPair_57 fl_M_87 (gf_70_40 _ _) ?_
  refine PW_iload_n c_M_goPair_60 rfl ?_
  refine PW_iald (j := 0) c_M_goPair_61 (ar_96 _ _) (vp_in_iff.mpr (by decide)) rfl ?_
  show PW _ _ _ 62 [some (.ref 70), some (.int 0), some (.int (nI sj)), some (.int (m + wayN Y a b)), some (.int (nI b)), some (.int (telF Y (nI b) (m + wayN Y a b) (orW wf k ||| orB ef' wf' (m + wayN Y a b) k'))), some (.int ((m + wayN Y a b) + (mnF T Y (nI b) (m + wayN Y a b) (telF Y (nI b) (m + wayN Y a b) (orW wf k ||| orB ef' wf' (m + wayN Y a b) k')))))] [.int ((Y1.2.1 96) 0), .int (12 * 0), .ref 97] (E x Y1)
  rw [show Y1.2.1 96 0 = nI k by rw [c2 96 (by decide) (by decide)]; exact s1.2.2.2.1]
  show PW _ _ _ 62 [some (.ref 70), some (.int 0), some (.int (nI sj)), some (.int (m + wayN Y a b)), some (.int (nI b)), some (.int (telF Y (nI b) (m + wayN Y a b) (orW wf k ||| orB ef' wf' (m + wayN Y a b) k'))), some (.int ((m + wayN Y a b) + (mnF T Y (nI b) (m + wayN Y a b) (telF Y (nI b) (m + wayN Y a b) (orW wf k ||| orB ef' wf' (m + wayN Y a b) k')))))] [.int (nI k), .int (12 * 0), .ref 97] (E x Y1)
  refine PW_iadd c_M_goPair_62 ?_
  refine PW_iload c_M_goPair_63 rfl ?_
  refine PW_iast (j := 12 * 0 + k) (w2 := E x (sA Y1 97 (upd (Y1.2.1 97) (12 * 0 + k) (telF Y (nI b) (m + wayN Y a b) (orW wf k ||| orB ef' wf' (m + wayN Y a b) k'))))) c_M_goPair_65 (ar_97 _ _) (by rw [(show (12 * 0 + nI k : Int32) = nI (12 * 0 + k) by rw [show (12 * 0 : Int32) = nI (12 * 0) by decide, nI_add])]; exact vp_in_nI (by omega) (by decide)) (by rw [(show (12 * 0 + nI k : Int32) = nI (12 * 0 + k) by rw [show (12 * 0 : Int32) = nI (12 * 0) by decide, nI_add])]; exact nI_clamp (by omega)) (aw_97 _ _ _) ?_
  refine PW_aload_n c_M_goPair_66 rfl ?_
  refine PW_get (v := .ref 98) c_M_goPair_67 fl_M_93 (gf_70_42 _ _) ?_
  refine PW_bipush (v := 12) c_M_goPair_70 (by decide) ?_
  refine PW_iload_n c_M_goPair_72 rfl ?_
  refine PW_imul c_M_goPair_73 ?_
  refine PW_aload_n c_M_goPair_74 rfl ?_
  refine PW_get (v := .ref 96) c_M_goPair_75 fl_M_87 (gf_70_40 _ _) ?_
  refine PW_iload_n c_M_goPair_78 rfl ?_
  refine PW_iald (j := 0) c_M_goPair_79 (ar_96 _ _) (vp_in_iff.mpr (by decide)) rfl ?_
  show PW _ _ _ 80 [some (.ref 70), some (.int 0), some (.int (nI sj)), some (.int (m + wayN Y a b)), some (.int (nI b)), some (.int (telF Y (nI b) (m + wayN Y a b) (orW wf k ||| orB ef' wf' (m + wayN Y a b) k'))), some (.int ((m + wayN Y a b) + (mnF T Y (nI b) (m + wayN Y a b) (telF Y (nI b) (m + wayN Y a b) (orW wf k ||| orB ef' wf' (m + wayN Y a b) k')))))] [.int ((Y1.2.1 96) 0), .int (12 * 0), .ref 98] (E x (sA Y1 97 (upd (Y1.2.1 97) (12 * 0 + k) (telF Y (nI b) (m + wayN Y a b) (orW wf k ||| orB ef' wf' (m + wayN Y a b) k')))))
  rw [show Y1.2.1 96 0 = nI k by rw [c2 96 (by decide) (by decide)]; exact s1.2.2.2.1]
  show PW _ _ _ 80 [some (.ref 70), some (.int 0), some (.int (nI sj)), some (.int (m + wayN Y a b)), some (.int (nI b)), some (.int (telF Y (nI b) (m + wayN Y a b) (orW wf k ||| orB ef' wf' (m + wayN Y a b) k'))), some (.int ((m + wayN Y a b) + (mnF T Y (nI b) (m + wayN Y a b) (telF Y (nI b) (m + wayN Y a b) (orW wf k ||| orB ef' wf' (m + wayN Y a b) k')))))] [.int (nI k), .int (12 * 0), .ref 98] (E x (sA Y1 97 (upd (Y1.2.1 97) (12 * 0 + k) (telF Y (nI b) (m + wayN Y a b) (orW wf k ||| orB ef' wf' (m + wayN Y a b) k')))))
  refine PW_iadd c_M_goPair_80 ?_
  refine PW_iload c_M_goPair_81 rfl ?_
  refine PW_iast (j := 12 * 0 + k) (w2 := E x (sA (sA Y1 97 (upd (Y1.2.1 97) (12 * 0 + k) (telF Y (nI b) (m + wayN Y a b) (orW wf k ||| orB ef' wf' (m + wayN Y a b) k')))) 98 (upd (Y1.2.1 98) (12 * 0 + k) ((m + wayN Y a b) + (mnF T Y (nI b) (m + wayN Y a b) (telF Y (nI b) (m + wayN Y a b) (orW wf k ||| orB ef' wf' (m + wayN Y a b) k'))))))) c_M_goPair_83 (ar_98 _ _) (by rw [(show (12 * 0 + nI k : Int32) = nI (12 * 0 + k) by rw [show (12 * 0 : Int32) = nI (12 * 0) by decide, nI_add])]; exact vp_in_nI (by omega) (by decide)) (by rw [(show (12 * 0 + nI k : Int32) = nI (12 * 0 + k) by rw [show (12 * 0 : Int32) = nI (12 * 0) by decide, nI_add])]; exact nI_clamp (by omega)) (aw_98 _ _ _) ?_
  refine PW_aload_n c_M_goPair_84 rfl ?_
  refine PW_get (v := .ref 96) c_M_goPair_85 fl_M_87 (gf_70_40 _ _) ?_
  refine PW_iload_n c_M_goPair_88 rfl ?_
  refine PW_dup2 c_M_goPair_89 rfl rfl ?_
  refine PW_iald (j := 0) c_M_goPair_90 (ar_96 _ _) (vp_in_iff.mpr (by decide)) rfl ?_
  show PW _ _ _ 91 [some (.ref 70), some (.int 0), some (.int (nI sj)), some (.int (m + wayN Y a b)), some (.int (nI b)), some (.int (telF Y (nI b) (m + wayN Y a b) (orW wf k ||| orB ef' wf' (m + wayN Y a b) k'))), some (.int ((m + wayN Y a b) + (mnF T Y (nI b) (m + wayN Y a b) (telF Y (nI b) (m + wayN Y a b) (orW wf k ||| orB ef' wf' (m + wayN Y a b) k')))))] [.int ((Y1.2.1 96) 0), .int 0, .ref 96] (E x (sA (sA Y1 97 (upd (Y1.2.1 97) (12 * 0 + k) (telF Y (nI b) (m + wayN Y a b) (orW wf k ||| orB ef' wf' (m + wayN Y a b) k')))) 98 (upd (Y1.2.1 98) (12 * 0 + k) ((m + wayN Y a b) + (mnF T Y (nI b) (m + wayN Y a b) (telF Y (nI b) (m + wayN Y a b) (orW wf k ||| orB ef' wf' (m + wayN Y a b) k')))))))
  rw [show Y1.2.1 96 0 = nI k by rw [c2 96 (by decide) (by decide)]; exact s1.2.2.2.1]
  show PW _ _ _ 91 [some (.ref 70), some (.int 0), some (.int (nI sj)), some (.int (m + wayN Y a b)), some (.int (nI b)), some (.int (telF Y (nI b) (m + wayN Y a b) (orW wf k ||| orB ef' wf' (m + wayN Y a b) k'))), some (.int ((m + wayN Y a b) + (mnF T Y (nI b) (m + wayN Y a b) (telF Y (nI b) (m + wayN Y a b) (orW wf k ||| orB ef' wf' (m + wayN Y a b) k')))))] [.int (nI k), .int 0, .ref 96] (E x (sA (sA Y1 97 (upd (Y1.2.1 97) (12 * 0 + k) (telF Y (nI b) (m + wayN Y a b) (orW wf k ||| orB ef' wf' (m + wayN Y a b) k')))) 98 (upd (Y1.2.1 98) (12 * 0 + k) ((m + wayN Y a b) + (mnF T Y (nI b) (m + wayN Y a b) (telF Y (nI b) (m + wayN Y a b) (orW wf k ||| orB ef' wf' (m + wayN Y a b) k')))))))
  refine PW_iconst (v := 1) c_M_goPair_91 (by decide) ?_
  refine PW_iadd c_M_goPair_92 ?_
  refine PW_iast (j := 0) (w2 := E x (sA (sA (sA Y1 97 (upd (Y1.2.1 97) (12 * 0 + k) (telF Y (nI b) (m + wayN Y a b) (orW wf k ||| orB ef' wf' (m + wayN Y a b) k')))) 98 (upd (Y1.2.1 98) (12 * 0 + k) ((m + wayN Y a b) + (mnF T Y (nI b) (m + wayN Y a b) (telF Y (nI b) (m + wayN Y a b) (orW wf k ||| orB ef' wf' (m + wayN Y a b) k')))))) 96 (upd (Y1.2.1 96) 0 ((nI k) + 1)))) c_M_goPair_93 (ar_96 _ _) (vp_in_iff.mpr (by decide)) rfl (aw_96 _ _ _) ?_
  refine PW_aload_n c_M_goPair_94 rfl ?_
  refine PW_get (v := .ref 95) c_M_goPair_95 fl_M_84 (gf_70_39 _ _) ?_
  refine PW_iload_n c_M_goPair_98 rfl ?_
  refine PW_dup2 c_M_goPair_99 rfl rfl ?_
  refine PW_iald (j := 0) c_M_goPair_100 (ar_95 _ _) (vp_in_iff.mpr (by decide)) rfl ?_
  show PW _ _ _ 101 [some (.ref 70), some (.int 0), some (.int (nI sj)), some (.int (m + wayN Y a b)), some (.int (nI b)), some (.int (telF Y (nI b) (m + wayN Y a b) (orW wf k ||| orB ef' wf' (m + wayN Y a b) k'))), some (.int ((m + wayN Y a b) + (mnF T Y (nI b) (m + wayN Y a b) (telF Y (nI b) (m + wayN Y a b) (orW wf k ||| orB ef' wf' (m + wayN Y a b) k')))))] [.int ((Y1.2.1 95) 0), .int 0, .ref 95] (E x (sA (sA (sA Y1 97 (upd (Y1.2.1 97) (12 * 0 + k) (telF Y (nI b) (m + wayN Y a b) (orW wf k ||| orB ef' wf' (m + wayN Y a b) k')))) 98 (upd (Y1.2.1 98) (12 * 0 + k) ((m + wayN Y a b) + (mnF T Y (nI b) (m + wayN Y a b) (telF Y (nI b) (m + wayN Y a b) (orW wf k ||| orB ef' wf' (m + wayN Y a b) k')))))) 96 (upd (Y1.2.1 96) 0 ((nI k) + 1))))
  rw [show Y1.2.1 95 0 = nI k by rw [c2 95 (by decide) (by decide)]; exact s1.2.2.1]
  show PW _ _ _ 101 [some (.ref 70), some (.int 0), some (.int (nI sj)), some (.int (m + wayN Y a b)), some (.int (nI b)), some (.int (telF Y (nI b) (m + wayN Y a b) (orW wf k ||| orB ef' wf' (m + wayN Y a b) k'))), some (.int ((m + wayN Y a b) + (mnF T Y (nI b) (m + wayN Y a b) (telF Y (nI b) (m + wayN Y a b) (orW wf k ||| orB ef' wf' (m + wayN Y a b) k')))))] [.int (nI k), .int 0, .ref 95] (E x (sA (sA (sA Y1 97 (upd (Y1.2.1 97) (12 * 0 + k) (telF Y (nI b) (m + wayN Y a b) (orW wf k ||| orB ef' wf' (m + wayN Y a b) k')))) 98 (upd (Y1.2.1 98) (12 * 0 + k) ((m + wayN Y a b) + (mnF T Y (nI b) (m + wayN Y a b) (telF Y (nI b) (m + wayN Y a b) (orW wf k ||| orB ef' wf' (m + wayN Y a b) k')))))) 96 (upd (Y1.2.1 96) 0 ((nI k) + 1))))
  refine PW_iconst (v := 1) c_M_goPair_101 (by decide) ?_
  refine PW_iadd c_M_goPair_102 ?_
  refine PW_iast (j := 0) (w2 := E x (sA (sA (sA (sA Y1 97 (upd (Y1.2.1 97) (12 * 0 + k) (telF Y (nI b) (m + wayN Y a b) (orW wf k ||| orB ef' wf' (m + wayN Y a b) k')))) 98 (upd (Y1.2.1 98) (12 * 0 + k) ((m + wayN Y a b) + (mnF T Y (nI b) (m + wayN Y a b) (telF Y (nI b) (m + wayN Y a b) (orW wf k ||| orB ef' wf' (m + wayN Y a b) k')))))) 96 (upd (Y1.2.1 96) 0 ((nI k) + 1))) 95 (upd (Y1.2.1 95) 0 ((nI k) + 1)))) c_M_goPair_103 (ar_95 _ _) (vp_in_iff.mpr (by decide)) rfl (aw_95 _ _ _) ?_
  refine PW_aload_n c_M_goPair_104 rfl ?_
  refine PW_get (v := .ref 93) c_M_goPair_105 fl_M_78 (gf_70_37 _ _) ?_
  refine PW_iload_n c_M_goPair_108 rfl ?_
  refine PW_iload c_M_goPair_109 rfl ?_
  refine PW_iast (j := 0) (w2 := E x (sA (sA (sA (sA (sA Y1 97 (upd (Y1.2.1 97) (12 * 0 + k) (telF Y (nI b) (m + wayN Y a b) (orW wf k ||| orB ef' wf' (m + wayN Y a b) k')))) 98 (upd (Y1.2.1 98) (12 * 0 + k) ((m + wayN Y a b) + (mnF T Y (nI b) (m + wayN Y a b) (telF Y (nI b) (m + wayN Y a b) (orW wf k ||| orB ef' wf' (m + wayN Y a b) k')))))) 96 (upd (Y1.2.1 96) 0 ((nI k) + 1))) 95 (upd (Y1.2.1 95) 0 ((nI k) + 1))) 93 (upd (Y1.2.1 93) 0 (nI b)))) c_M_goPair_111 (ar_93 _ _) (vp_in_iff.mpr (by decide)) rfl (aw_93 _ _ _) ?_
  refine PW_aload_n c_M_goPair_112 rfl ?_
  refine PW_get (v := .ref 94) c_M_goPair_113 fl_M_81 (gf_70_38 _ _) ?_
  refine PW_iload_n c_M_goPair_116 rfl ?_
  refine PW_iload c_M_goPair_117 rfl ?_
  refine PW_iast (j := 0) (w2 := E x (sA (sA (sA (sA (sA (sA Y1 97 (upd (Y1.2.1 97) (12 * 0 + k) (telF Y (nI b) (m + wayN Y a b) (orW wf k ||| orB ef' wf' (m + wayN Y a b) k')))) 98 (upd (Y1.2.1 98) (12 * 0 + k) ((m + wayN Y a b) + (mnF T Y (nI b) (m + wayN Y a b) (telF Y (nI b) (m + wayN Y a b) (orW wf k ||| orB ef' wf' (m + wayN Y a b) k')))))) 96 (upd (Y1.2.1 96) 0 ((nI k) + 1))) 95 (upd (Y1.2.1 95) 0 ((nI k) + 1))) 93 (upd (Y1.2.1 93) 0 (nI b))) 94 (upd (Y1.2.1 94) 0 ((m + wayN Y a b) + (mnF T Y (nI b) (m + wayN Y a b) (telF Y (nI b) (m + wayN Y a b) (orW wf k ||| orB ef' wf' (m + wayN Y a b) k'))))))) c_M_goPair_119 (ar_94 _ _) (vp_in_iff.mpr (by decide)) rfl (aw_94 _ _ _) ?_
  refine PW_vreturn c_M_goPair_120 rfl ?_
  exact h
theorem sp_hm1_1 {z : ZS} {post : Option Value → List PE → Prop} {x Y : XS} {sj n k : Nat} (hsj : sj < 6) (hn : n ≤ 60) (h95 : Y.2.1 95 1 = nI k) (h105 : Y.2.1 105 sj = nI n) (hk : k < n) (hk2 : k < 12) (hr : 0 ≤ (Y.2.2 106 (60 * sj + k)).toInt32 ∧ (Y.2.2 106 (60 * sj + k)).toInt32 ≤ 4) (h : post (some (.int 1)) (E x Y)) : PW (2, 0, 0, z) m_M_hasMore post 0 [some (.ref 70), some (.int 1), some (.int (nI sj))] [] (E x Y) := by
  refine PW_aload_n c_M_hasMore_0 rfl ?_
  refine PW_get (v := .ref 95) c_M_hasMore_1 fl_M_84 (gf_70_39 _ _) ?_
  refine PW_iload_n c_M_hasMore_4 rfl ?_
  refine PW_iald (j := 1) c_M_hasMore_5 (ar_95 _ _) (vp_in_iff.mpr (by decide)) rfl ?_
  show PW _ _ _ 6 [some (.ref 70), some (.int 1), some (.int (nI sj))] [.int ((Y.2.1 95) 1)] (E x Y)
  rw [h95]
  show PW _ _ _ 6 [some (.ref 70), some (.int 1), some (.int (nI sj))] [.int (nI k)] (E x Y)
  refine PW_aload_n c_M_hasMore_6 rfl ?_
  refine PW_get (v := .ref 105) c_M_hasMore_7 fl_M_114 (gf_70_54 _ _) ?_
  refine PW_iload_n c_M_hasMore_10 rfl ?_
  refine PW_iald (j := sj) c_M_hasMore_11 (ar_105 _ _) (vp_in_nI hsj (by decide)) (nI_clamp (by omega)) ?_
  show PW _ _ _ 12 [some (.ref 70), some (.int 1), some (.int (nI sj))] [.int ((Y.2.1 105) sj), .int (nI k)] (E x Y)
  rw [h105]
  show PW _ _ _ 12 [some (.ref 70), some (.int 1), some (.int (nI sj))] [.int (nI n), .int (nI k)] (E x Y)
  refine PW_icmp_ge c_M_hasMore_12 (fun h0 => absurd h0 (fun q => absurd ((nI_leI (by omega) (by omega)).mp q) (by omega))) (fun h0 => ?_)
  refine PW_aload_n c_M_hasMore_15 rfl ?_
  refine PW_get (v := .ref 95) c_M_hasMore_16 fl_M_84 (gf_70_39 _ _) ?_
  refine PW_iload_n c_M_hasMore_19 rfl ?_
  refine PW_iald (j := 1) c_M_hasMore_20 (ar_95 _ _) (vp_in_iff.mpr (by decide)) rfl ?_
  show PW _ _ _ 21 [some (.ref 70), some (.int 1), some (.int (nI sj))] [.int ((Y.2.1 95) 1)] (E x Y)
  rw [h95]
  show PW _ _ _ 21 [some (.ref 70), some (.int 1), some (.int (nI sj))] [.int (nI k)] (E x Y)
  refine PW_bipush (v := 12) c_M_hasMore_21 (by decide) ?_
  refine PW_icmp_ge c_M_hasMore_23 (fun h1 => absurd h1 (fun q => absurd ((nI_leI (by decide) (by omega)).mp (show nI 12 ≤ nI k from q)) (by omega))) (fun h1 => ?_)
  refine PW_aload_n c_M_hasMore_26 rfl ?_
  refine PW_iload_n c_M_hasMore_27 rfl ?_
  refine PW_aload_n c_M_hasMore_28 rfl ?_
  refine PW_get (v := .ref 95) c_M_hasMore_29 fl_M_84 (gf_70_39 _ _) ?_
  refine PW_iload_n c_M_hasMore_32 rfl ?_
  refine PW_iald (j := 1) c_M_hasMore_33 (ar_95 _ _) (vp_in_iff.mpr (by decide)) rfl ?_
  show PW _ _ _ 34 [some (.ref 70), some (.int 1), some (.int (nI sj))] [.int ((Y.2.1 95) 1), .int (nI sj), .ref 70] (E x Y)
  rw [h95]
  show PW _ _ _ 34 [some (.ref 70), some (.int 1), some (.int (nI sj))] [.int (nI k), .int (nI sj), .ref 70] (E x Y)
  refine PW_V0 (d2 := 0) (st := []) [.int (nI sj), .int (nI k)] c_M_hasMore_34 lk_M_hasMore_292 (po_70 _ _) rfl rfl rfl (Nat.le_of_ble_eq_true rfl) (by first | decide | omega) (Nat.le_of_ble_eq_true rfl) ?_
  show PW _ _ _ 0 [some (.ref 70), some (.int (nI sj)), some (.int (nI k))] [] (E x Y)
  refine PW_aload_n c_M_byteAt_0 rfl ?_
  refine PW_get (v := .ref 106) c_M_byteAt_1 fl_M_117 (gf_70_55 _ _) ?_
  refine PW_bipush (v := 60) c_M_byteAt_4 (by decide) ?_
  refine PW_iload_n c_M_byteAt_6 rfl ?_
  refine PW_imul c_M_byteAt_7 ?_
  refine PW_iload_n c_M_byteAt_8 rfl ?_
  refine PW_iadd c_M_byteAt_9 ?_
  refine PW_lald (j := 60 * sj + k) c_M_byteAt_10 (ar_106 _ _) (by rw [show (60 : Int32) = nI 60 from rfl, pk_mul, nI_add]; exact vp_in_nI (by omega) (by decide)) (by rw [show (60 : Int32) = nI 60 from rfl, pk_mul, nI_add]; exact nI_clamp (by omega)) ?_
  show PW _ _ _ 11 [some (.ref 70), some (.int (nI sj)), some (.int (nI k))] [.long ((Y.2.2 106) (60 * sj + k))] (E x Y)
  refine PW_l2i c_M_byteAt_11 ?_
  refine PW_ireturn (ty := .int) c_M_byteAt_12 rfl rfl ?_
  show PW _ _ _ 37 [some (.ref 70), some (.int 1), some (.int (nI sj))] [.int (((Y.2.2 106) (60 * sj + k)).toInt32)] (E x Y)
  refine PW_S0 (d2 := 1) (st := []) [.int (((Y.2.2 106) (60 * sj + k)).toInt32)] c_M_hasMore_37 lk_M_hasMore_135 rfl rfl rfl (Nat.le_of_ble_eq_true rfl) (by first | decide | omega) (Nat.le_of_ble_eq_true rfl) ?_
  refine sp_M_isRoom  ?_
  show PW _ _ _ 40 [some (.ref 70), some (.int 1), some (.int (nI sj))] [.int (b2i (0 ≤ (((Y.2.2 106) (60 * sj + k)).toInt32) ∧ (((Y.2.2 106) (60 * sj + k)).toInt32) ≤ 4))] (E x Y)
  refine PW_if_eq c_M_hasMore_40 (fun h2 => absurd hr (b2i_0.mp h2)) (fun _ => ?_)
  refine PW_iconst (v := 1) c_M_hasMore_43 (by decide) ?_
  refine PW_goto c_M_hasMore_44 ?_
  refine PW_ireturn (ty := .boolean) c_M_hasMore_48 rfl (by decide +kernel) ?_
  exact h
theorem sp_hm0_1 {z : ZS} {post : Option Value → List PE → Prop} {x Y : XS} {sj n k : Nat} (hsj : sj < 6) (hn : n ≤ 60) (h95 : Y.2.1 95 1 = nI k) (h105 : Y.2.1 105 sj = nI n) (hk12 : k ≤ 12) (hno : ¬ (k < n ∧ k < 12 ∧ (0 ≤ (Y.2.2 106 (60 * sj + k)).toInt32 ∧ (Y.2.2 106 (60 * sj + k)).toInt32 ≤ 4))) (h : post (some (.int 0)) (E x Y)) : PW (2, 0, 0, z) m_M_hasMore post 0 [some (.ref 70), some (.int 1), some (.int (nI sj))] [] (E x Y) := by
  by_cases q1 : k < n
  · by_cases q2 : k < 12
    · have hr : ¬ (0 ≤ (Y.2.2 106 (60 * sj + k)).toInt32 ∧ (Y.2.2 106 (60 * sj + k)).toInt32 ≤ 4) := fun q => hno ⟨q1, q2, q⟩
      refine PW_aload_n c_M_hasMore_0 rfl ?_
      refine PW_get (v := .ref 95) c_M_hasMore_1 fl_M_84 (gf_70_39 _ _) ?_
      refine PW_iload_n c_M_hasMore_4 rfl ?_
      refine PW_iald (j := 1) c_M_hasMore_5 (ar_95 _ _) (vp_in_iff.mpr (by decide)) rfl ?_
      show PW _ _ _ 6 [some (.ref 70), some (.int 1), some (.int (nI sj))] [.int ((Y.2.1 95) 1)] (E x Y)
      rw [h95]
      show PW _ _ _ 6 [some (.ref 70), some (.int 1), some (.int (nI sj))] [.int (nI k)] (E x Y)
      refine PW_aload_n c_M_hasMore_6 rfl ?_
      refine PW_get (v := .ref 105) c_M_hasMore_7 fl_M_114 (gf_70_54 _ _) ?_
      refine PW_iload_n c_M_hasMore_10 rfl ?_
      refine PW_iald (j := sj) c_M_hasMore_11 (ar_105 _ _) (vp_in_nI hsj (by decide)) (nI_clamp (by omega)) ?_
      show PW _ _ _ 12 [some (.ref 70), some (.int 1), some (.int (nI sj))] [.int ((Y.2.1 105) sj), .int (nI k)] (E x Y)
      rw [h105]
      show PW _ _ _ 12 [some (.ref 70), some (.int 1), some (.int (nI sj))] [.int (nI n), .int (nI k)] (E x Y)
      refine PW_icmp_ge c_M_hasMore_12 (fun h0 => absurd h0 (fun q => absurd ((nI_leI (by omega) (by omega)).mp q) (by omega))) (fun h0 => ?_)
      refine PW_aload_n c_M_hasMore_15 rfl ?_
      refine PW_get (v := .ref 95) c_M_hasMore_16 fl_M_84 (gf_70_39 _ _) ?_
      refine PW_iload_n c_M_hasMore_19 rfl ?_
      refine PW_iald (j := 1) c_M_hasMore_20 (ar_95 _ _) (vp_in_iff.mpr (by decide)) rfl ?_
      show PW _ _ _ 21 [some (.ref 70), some (.int 1), some (.int (nI sj))] [.int ((Y.2.1 95) 1)] (E x Y)
      rw [h95]
      show PW _ _ _ 21 [some (.ref 70), some (.int 1), some (.int (nI sj))] [.int (nI k)] (E x Y)
      refine PW_bipush (v := 12) c_M_hasMore_21 (by decide) ?_
      refine PW_icmp_ge c_M_hasMore_23 (fun h1 => absurd h1 (fun q => absurd ((nI_leI (by decide) (by omega)).mp (show nI 12 ≤ nI k from q)) (by omega))) (fun h1 => ?_)
      refine PW_aload_n c_M_hasMore_26 rfl ?_
      refine PW_iload_n c_M_hasMore_27 rfl ?_
      refine PW_aload_n c_M_hasMore_28 rfl ?_
      refine PW_get (v := .ref 95) c_M_hasMore_29 fl_M_84 (gf_70_39 _ _) ?_
      refine PW_iload_n c_M_hasMore_32 rfl ?_
      refine PW_iald (j := 1) c_M_hasMore_33 (ar_95 _ _) (vp_in_iff.mpr (by decide)) rfl ?_
      show PW _ _ _ 34 [some (.ref 70), some (.int 1), some (.int (nI sj))] [.int ((Y.2.1 95) 1), .int (nI sj), .ref 70] (E x Y)
      rw [h95]
      show PW _ _ _ 34 [some (.ref 70), some (.int 1), some (.int (nI sj))] [.int (nI k), .int (nI sj), .ref 70] (E x Y)
      refine PW_V0 (d2 := 0) (st := []) [.int (nI sj), .int (nI k)] c_M_hasMore_34 lk_M_hasMore_292 (po_70 _ _) rfl rfl rfl (Nat.le_of_ble_eq_true rfl) (by first | decide | omega) (Nat.le_of_ble_eq_true rfl) ?_
      show PW _ _ _ 0 [some (.ref 70), some (.int (nI sj)), some (.int (nI k))] [] (E x Y)
      refine PW_aload_n c_M_byteAt_0 rfl ?_
      refine PW_get (v := .ref 106) c_M_byteAt_1 fl_M_117 (gf_70_55 _ _) ?_
      refine PW_bipush (v := 60) c_M_byteAt_4 (by decide) ?_
      refine PW_iload_n c_M_byteAt_6 rfl ?_
      refine PW_imul c_M_byteAt_7 ?_
      refine PW_iload_n c_M_byteAt_8 rfl ?_
      refine PW_iadd c_M_byteAt_9 ?_
      refine PW_lald (j := 60 * sj + k) c_M_byteAt_10 (ar_106 _ _) (by rw [show (60 : Int32) = nI 60 from rfl, pk_mul, nI_add]; exact vp_in_nI (by omega) (by decide)) (by rw [show (60 : Int32) = nI 60 from rfl, pk_mul, nI_add]; exact nI_clamp (by omega)) ?_
      show PW _ _ _ 11 [some (.ref 70), some (.int (nI sj)), some (.int (nI k))] [.long ((Y.2.2 106) (60 * sj + k))] (E x Y)
      refine PW_l2i c_M_byteAt_11 ?_
      refine PW_ireturn (ty := .int) c_M_byteAt_12 rfl rfl ?_
      show PW _ _ _ 37 [some (.ref 70), some (.int 1), some (.int (nI sj))] [.int (((Y.2.2 106) (60 * sj + k)).toInt32)] (E x Y)
      refine PW_S0 (d2 := 1) (st := []) [.int (((Y.2.2 106) (60 * sj + k)).toInt32)] c_M_hasMore_37 lk_M_hasMore_135 rfl rfl rfl (Nat.le_of_ble_eq_true rfl) (by first | decide | omega) (Nat.le_of_ble_eq_true rfl) ?_
      refine sp_M_isRoom  ?_
      show PW _ _ _ 40 [some (.ref 70), some (.int 1), some (.int (nI sj))] [.int (b2i (0 ≤ (((Y.2.2 106) (60 * sj + k)).toInt32) ∧ (((Y.2.2 106) (60 * sj + k)).toInt32) ≤ 4))] (E x Y)
      refine PW_if_eq c_M_hasMore_40 (fun _ => ?_) (fun h2 => absurd (b2i_n0.mp h2) hr)
      refine PW_iconst (v := 0) c_M_hasMore_47 (by decide) ?_
      refine PW_ireturn (ty := .boolean) c_M_hasMore_48 rfl (by decide +kernel) ?_
      exact h
    · skip
      refine PW_aload_n c_M_hasMore_0 rfl ?_
      refine PW_get (v := .ref 95) c_M_hasMore_1 fl_M_84 (gf_70_39 _ _) ?_
      refine PW_iload_n c_M_hasMore_4 rfl ?_
      refine PW_iald (j := 1) c_M_hasMore_5 (ar_95 _ _) (vp_in_iff.mpr (by decide)) rfl ?_
      show PW _ _ _ 6 [some (.ref 70), some (.int 1), some (.int (nI sj))] [.int ((Y.2.1 95) 1)] (E x Y)
      rw [h95]
      show PW _ _ _ 6 [some (.ref 70), some (.int 1), some (.int (nI sj))] [.int (nI k)] (E x Y)
      refine PW_aload_n c_M_hasMore_6 rfl ?_
      refine PW_get (v := .ref 105) c_M_hasMore_7 fl_M_114 (gf_70_54 _ _) ?_
      refine PW_iload_n c_M_hasMore_10 rfl ?_
      refine PW_iald (j := sj) c_M_hasMore_11 (ar_105 _ _) (vp_in_nI hsj (by decide)) (nI_clamp (by omega)) ?_
      show PW _ _ _ 12 [some (.ref 70), some (.int 1), some (.int (nI sj))] [.int ((Y.2.1 105) sj), .int (nI k)] (E x Y)
      rw [h105]
      show PW _ _ _ 12 [some (.ref 70), some (.int 1), some (.int (nI sj))] [.int (nI n), .int (nI k)] (E x Y)
      refine PW_icmp_ge c_M_hasMore_12 (fun h0 => absurd h0 (fun q => absurd ((nI_leI (by omega) (by omega)).mp q) (by omega))) (fun h0 => ?_)
      refine PW_aload_n c_M_hasMore_15 rfl ?_
      refine PW_get (v := .ref 95) c_M_hasMore_16 fl_M_84 (gf_70_39 _ _) ?_
      refine PW_iload_n c_M_hasMore_19 rfl ?_
      refine PW_iald (j := 1) c_M_hasMore_20 (ar_95 _ _) (vp_in_iff.mpr (by decide)) rfl ?_
      show PW _ _ _ 21 [some (.ref 70), some (.int 1), some (.int (nI sj))] [.int ((Y.2.1 95) 1)] (E x Y)
      rw [h95]
      show PW _ _ _ 21 [some (.ref 70), some (.int 1), some (.int (nI sj))] [.int (nI k)] (E x Y)
      refine PW_bipush (v := 12) c_M_hasMore_21 (by decide) ?_
      refine PW_icmp_ge c_M_hasMore_23 (fun h1 => ?_) (fun h1 => absurd ((nI_leI (by decide) (by omega)).mpr (show 12 ≤ k by omega) : nI 12 ≤ nI k) h1)
      refine PW_iconst (v := 0) c_M_hasMore_47 (by decide) ?_
      refine PW_ireturn (ty := .boolean) c_M_hasMore_48 rfl (by decide +kernel) ?_
      exact h
  · skip
    refine PW_aload_n c_M_hasMore_0 rfl ?_
    refine PW_get (v := .ref 95) c_M_hasMore_1 fl_M_84 (gf_70_39 _ _) ?_
    refine PW_iload_n c_M_hasMore_4 rfl ?_
    refine PW_iald (j := 1) c_M_hasMore_5 (ar_95 _ _) (vp_in_iff.mpr (by decide)) rfl ?_
    show PW _ _ _ 6 [some (.ref 70), some (.int 1), some (.int (nI sj))] [.int ((Y.2.1 95) 1)] (E x Y)
    rw [h95]
    show PW _ _ _ 6 [some (.ref 70), some (.int 1), some (.int (nI sj))] [.int (nI k)] (E x Y)
    refine PW_aload_n c_M_hasMore_6 rfl ?_
    refine PW_get (v := .ref 105) c_M_hasMore_7 fl_M_114 (gf_70_54 _ _) ?_
    refine PW_iload_n c_M_hasMore_10 rfl ?_
    refine PW_iald (j := sj) c_M_hasMore_11 (ar_105 _ _) (vp_in_nI hsj (by decide)) (nI_clamp (by omega)) ?_
    show PW _ _ _ 12 [some (.ref 70), some (.int 1), some (.int (nI sj))] [.int ((Y.2.1 105) sj), .int (nI k)] (E x Y)
    rw [h105]
    show PW _ _ _ 12 [some (.ref 70), some (.int 1), some (.int (nI sj))] [.int (nI n), .int (nI k)] (E x Y)
    refine PW_icmp_ge c_M_hasMore_12 (fun h0 => ?_) (fun h0 => absurd ((nI_leI (by omega) (by omega)).mpr (by omega)) h0)
    refine PW_iconst (v := 0) c_M_hasMore_47 (by decide) ?_
    refine PW_ireturn (ty := .boolean) c_M_hasMore_48 rfl (by decide +kernel) ?_
    exact h
theorem sp_so1_1 {z : ZS} {post : Option Value → List PE → Prop} {x Y : XS} {sj n k a b : Nat} {m : Int32} (hsj : sj < 6) (hn : n ≤ 60) (h95 : Y.2.1 95 1 = nI k) (h105 : Y.2.1 105 sj = nI n) (h93 : Y.2.1 93 1 = nI a) (h94 : Y.2.1 94 1 = m) (hk : k < n) (hk2 : k < 12) (hr : 0 ≤ (Y.2.2 106 (60 * sj + k)).toInt32 ∧ (Y.2.2 106 (60 * sj + k)).toInt32 ≤ 4) (hbk : (Y.2.2 106 (60 * sj + k)).toInt32 = nI b) (ha : a < 5) (hb : b < 5) (h : post (some (.int (m + wayN Y a b))) (E x Y)) : PW (3, 0, 0, z) m_M_startOf post 0 [some (.ref 70), some (.int 1), some (.int (nI sj))] [] (E x Y) := by
  refine PW_aload_n c_M_startOf_0 rfl ?_
  refine PW_iload_n c_M_startOf_1 rfl ?_
  refine PW_iload_n c_M_startOf_2 rfl ?_
  refine PW_V0 (d2 := 2) (st := []) [.int 1, .int (nI sj)] c_M_startOf_3 lk_M_startOf_321 (po_70 _ _) rfl rfl rfl (Nat.le_of_ble_eq_true rfl) (by first | decide | omega) (Nat.le_of_ble_eq_true rfl) ?_
  refine sp_hm1_1 hsj hn h95 h105 hk hk2 hr ?_
  show PW _ _ _ 6 [some (.ref 70), some (.int 1), some (.int (nI sj))] [.int 1] (E x Y)
  refine PW_if_eq c_M_startOf_6 (fun h0 => absurd h0 (by decide)) (fun _ => ?_)
  refine PW_aload_n c_M_startOf_9 rfl ?_
  refine PW_get (v := .ref 94) c_M_startOf_10 fl_M_81 (gf_70_38 _ _) ?_
  refine PW_iload_n c_M_startOf_13 rfl ?_
  refine PW_iald (j := 1) c_M_startOf_14 (ar_94 _ _) (vp_in_iff.mpr (by decide)) rfl ?_
  show PW _ _ _ 15 [some (.ref 70), some (.int 1), some (.int (nI sj))] [.int ((Y.2.1 94) 1)] (E x Y)
  rw [h94]
  show PW _ _ _ 15 [some (.ref 70), some (.int 1), some (.int (nI sj))] [.int m] (E x Y)
  refine PW_aload_n c_M_startOf_15 rfl ?_
  refine PW_aload_n c_M_startOf_16 rfl ?_
  refine PW_get (v := .ref 93) c_M_startOf_17 fl_M_78 (gf_70_37 _ _) ?_
  refine PW_iload_n c_M_startOf_20 rfl ?_
  refine PW_iald (j := 1) c_M_startOf_21 (ar_93 _ _) (vp_in_iff.mpr (by decide)) rfl ?_
  show PW _ _ _ 22 [some (.ref 70), some (.int 1), some (.int (nI sj))] [.int ((Y.2.1 93) 1), .ref 70, .int m] (E x Y)
  rw [h93]
  show PW _ _ _ 22 [some (.ref 70), some (.int 1), some (.int (nI sj))] [.int (nI a), .ref 70, .int m] (E x Y)
  refine PW_aload_n c_M_startOf_22 rfl ?_
  refine PW_iload_n c_M_startOf_23 rfl ?_
  refine PW_aload_n c_M_startOf_24 rfl ?_
  refine PW_get (v := .ref 95) c_M_startOf_25 fl_M_84 (gf_70_39 _ _) ?_
  refine PW_iload_n c_M_startOf_28 rfl ?_
  refine PW_iald (j := 1) c_M_startOf_29 (ar_95 _ _) (vp_in_iff.mpr (by decide)) rfl ?_
  show PW _ _ _ 30 [some (.ref 70), some (.int 1), some (.int (nI sj))] [.int ((Y.2.1 95) 1), .int (nI sj), .ref 70, .int (nI a), .ref 70, .int m] (E x Y)
  rw [h95]
  show PW _ _ _ 30 [some (.ref 70), some (.int 1), some (.int (nI sj))] [.int (nI k), .int (nI sj), .ref 70, .int (nI a), .ref 70, .int m] (E x Y)
  refine PW_V0 (d2 := 0) (st := [.int (nI a), .ref 70, .int m]) [.int (nI sj), .int (nI k)] c_M_startOf_30 lk_M_startOf_292 (po_70 _ _) rfl rfl rfl (Nat.le_of_ble_eq_true rfl) (by first | decide | omega) (Nat.le_of_ble_eq_true rfl) ?_
  show PW _ _ _ 0 [some (.ref 70), some (.int (nI sj)), some (.int (nI k))] [] (E x Y)
  refine PW_aload_n c_M_byteAt_0 rfl ?_
  refine PW_get (v := .ref 106) c_M_byteAt_1 fl_M_117 (gf_70_55 _ _) ?_
  refine PW_bipush (v := 60) c_M_byteAt_4 (by decide) ?_
  refine PW_iload_n c_M_byteAt_6 rfl ?_
  refine PW_imul c_M_byteAt_7 ?_
  refine PW_iload_n c_M_byteAt_8 rfl ?_
  refine PW_iadd c_M_byteAt_9 ?_
  refine PW_lald (j := 60 * sj + k) c_M_byteAt_10 (ar_106 _ _) (by rw [show (60 : Int32) = nI 60 from rfl, pk_mul, nI_add]; exact vp_in_nI (by omega) (by decide)) (by rw [show (60 : Int32) = nI 60 from rfl, pk_mul, nI_add]; exact nI_clamp (by omega)) ?_
  show PW _ _ _ 11 [some (.ref 70), some (.int (nI sj)), some (.int (nI k))] [.long ((Y.2.2 106) (60 * sj + k))] (E x Y)
  refine PW_l2i c_M_byteAt_11 ?_
  refine PW_ireturn (ty := .int) c_M_byteAt_12 rfl rfl ?_
  show PW _ _ _ 33 [some (.ref 70), some (.int 1), some (.int (nI sj))] [.int (((Y.2.2 106) (60 * sj + k)).toInt32), .int (nI a), .ref 70, .int m] (E x Y)
  rw [hbk]
  show PW _ _ _ 33 [some (.ref 70), some (.int 1), some (.int (nI sj))] [.int (nI b), .int (nI a), .ref 70, .int m] (E x Y)
  refine PW_V0 (d2 := 0) (st := [.int m]) [.int (nI a), .int (nI b)] c_M_startOf_33 lk_M_startOf_274 (po_70 _ _) rfl rfl rfl (Nat.le_of_ble_eq_true rfl) (by first | decide | omega) (Nat.le_of_ble_eq_true rfl) ?_
  refine sp_M_wayOf rfl rfl ha hb ?_
  show PW _ _ _ 36 [some (.ref 70), some (.int 1), some (.int (nI sj))] [.int (wayN Y a b), .int m] (E x Y)
  refine PW_iadd c_M_startOf_36 ?_
  refine PW_goto c_M_startOf_37 ?_
  refine PW_ireturn (ty := .int) c_M_startOf_43 rfl rfl ?_
  exact h
theorem sp_so0_1 {z : ZS} {post : Option Value → List PE → Prop} {x Y : XS} {sj n k : Nat} (hsj : sj < 6) (hn : n ≤ 60) (h95 : Y.2.1 95 1 = nI k) (h105 : Y.2.1 105 sj = nI n) (hk12 : k ≤ 12) (hno : ¬ (k < n ∧ k < 12 ∧ (0 ≤ (Y.2.2 106 (60 * sj + k)).toInt32 ∧ (Y.2.2 106 (60 * sj + k)).toInt32 ≤ 4))) (h : post (some (.int 1000000)) (E x Y)) : PW (3, 0, 0, z) m_M_startOf post 0 [some (.ref 70), some (.int 1), some (.int (nI sj))] [] (E x Y) := by
  refine PW_aload_n c_M_startOf_0 rfl ?_
  refine PW_iload_n c_M_startOf_1 rfl ?_
  refine PW_iload_n c_M_startOf_2 rfl ?_
  refine PW_V0 (d2 := 2) (st := []) [.int 1, .int (nI sj)] c_M_startOf_3 lk_M_startOf_321 (po_70 _ _) rfl rfl rfl (Nat.le_of_ble_eq_true rfl) (by first | decide | omega) (Nat.le_of_ble_eq_true rfl) ?_
  refine sp_hm0_1 hsj hn h95 h105 hk12 hno ?_
  show PW _ _ _ 6 [some (.ref 70), some (.int 1), some (.int (nI sj))] [.int 0] (E x Y)
  refine PW_if_eq c_M_startOf_6 (fun _ => ?_) (fun h0 => absurd (by decide) h0)
  refine PW_ldcw c_M_startOf_40 kk_M_314 ?_
  refine PW_ireturn (ty := .int) c_M_startOf_43 rfl rfl ?_
  exact h
theorem lp_kt2_1 {z : ZS} {post : Option Value → List PE → Prop} {x Y : XS} {k k' a a' : Nat} {m mm mm' : Int32} {ef wf ef' wf' : Nat → Int32} (s1 : pYs 1 Y a mm k ef wf) (s2 : pYs 0 Y a' mm' k' ef' wf') (hk : k ≤ 12) (hk2 : k' ≤ 12) (h : post (some (.int (orA (orW wf k) ef' wf' m k'))) (E x Y)) : ∀ j i : Nat, i + j = k' → PW (0, 0, 0, z) m_M_knownTo post 40 [some (.ref 70), some (.int 1), some (.int m), some (.int (orA (orW wf k) ef' wf' m i)), some (.int (nI i))] [] (E x Y) := by
  intro j
  induction j with
  | zero =>
    intro i hi
    refine PW_iload c_M_knownTo_40 rfl ?_
    refine PW_aload_n c_M_knownTo_42 rfl ?_
    refine PW_get (v := .ref 96) c_M_knownTo_43 fl_M_87 (gf_70_40 _ _) ?_
    refine PW_iconst (v := 1) c_M_knownTo_46 (by decide) ?_
    refine PW_iload_n c_M_knownTo_47 rfl ?_
    refine PW_isub c_M_knownTo_48 ?_
    refine PW_iald (j := 0) c_M_knownTo_49 (ar_96 _ _) (vp_in_iff.mpr (by decide)) (by decide) ?_
    show PW _ _ _ 50 [some (.ref 70), some (.int 1), some (.int m), some (.int (orA (orW wf k) ef' wf' m i)), some (.int (nI i))] [.int ((Y.2.1 96) 0), .int (nI i)] (E x Y)
    rw [s2.2.2.2.1]
    show PW _ _ _ 50 [some (.ref 70), some (.int 1), some (.int m), some (.int (orA (orW wf k) ef' wf' m i)), some (.int (nI i))] [.int (nI k'), .int (nI i)] (E x Y)
    refine PW_icmp_ge c_M_knownTo_50 (fun h0 => ?_) (fun h0 => absurd ((nI_leI (by omega) (by omega)).mpr (by omega)) h0)
    refine PW_iload_n c_M_knownTo_94 rfl ?_
    refine PW_ireturn (ty := .int) c_M_knownTo_95 rfl rfl ?_
    rw [show i = k' by omega]
    exact h
  | succ j ih =>
    intro i hi
    by_cases hA : ef' i < m
    · skip
      refine PW_iload c_M_knownTo_40 rfl ?_
      refine PW_aload_n c_M_knownTo_42 rfl ?_
      refine PW_get (v := .ref 96) c_M_knownTo_43 fl_M_87 (gf_70_40 _ _) ?_
      refine PW_iconst (v := 1) c_M_knownTo_46 (by decide) ?_
      refine PW_iload_n c_M_knownTo_47 rfl ?_
      refine PW_isub c_M_knownTo_48 ?_
      refine PW_iald (j := 0) c_M_knownTo_49 (ar_96 _ _) (vp_in_iff.mpr (by decide)) (by decide) ?_
      show PW _ _ _ 50 [some (.ref 70), some (.int 1), some (.int m), some (.int (orA (orW wf k) ef' wf' m i)), some (.int (nI i))] [.int ((Y.2.1 96) 0), .int (nI i)] (E x Y)
      rw [s2.2.2.2.1]
      show PW _ _ _ 50 [some (.ref 70), some (.int 1), some (.int m), some (.int (orA (orW wf k) ef' wf' m i)), some (.int (nI i))] [.int (nI k'), .int (nI i)] (E x Y)
      refine PW_icmp_ge c_M_knownTo_50 (fun h0 => absurd h0 (fun q => absurd ((nI_leI (by omega) (by omega)).mp q) (by omega))) (fun h0 => ?_)
      refine PW_aload_n c_M_knownTo_53 rfl ?_
      refine PW_get (v := .ref 98) c_M_knownTo_54 fl_M_93 (gf_70_42 _ _) ?_
      refine PW_bipush (v := 12) c_M_knownTo_57 (by decide) ?_
      refine PW_iconst (v := 1) c_M_knownTo_59 (by decide) ?_
      refine PW_iload_n c_M_knownTo_60 rfl ?_
      refine PW_isub c_M_knownTo_61 ?_
      refine PW_imul c_M_knownTo_62 ?_
      refine PW_iload c_M_knownTo_63 rfl ?_
      refine PW_iadd c_M_knownTo_65 ?_
      refine PW_iald (j := 12 * 0 + i) c_M_knownTo_66 (ar_98 _ _) (by rw [(show (12 * (1 - 1) + nI i : Int32) = nI (12 * 0 + i) by rw [show (12 * (1 - 1) : Int32) = nI (12 * 0) by decide, nI_add])]; exact vp_in_nI (by omega) (by decide)) (by rw [(show (12 * (1 - 1) + nI i : Int32) = nI (12 * 0 + i) by rw [show (12 * (1 - 1) : Int32) = nI (12 * 0) by decide, nI_add])]; exact nI_clamp (by omega)) ?_
      show PW _ _ _ 67 [some (.ref 70), some (.int 1), some (.int m), some (.int (orA (orW wf k) ef' wf' m i)), some (.int (nI i))] [.int ((Y.2.1 98) (12 * 0 + i))] (E x Y)
      rw [(s2.2.2.2.2 i (by omega)).1]
      show PW _ _ _ 67 [some (.ref 70), some (.int 1), some (.int m), some (.int (orA (orW wf k) ef' wf' m i)), some (.int (nI i))] [.int (ef' i)] (E x Y)
      refine PW_iload_n c_M_knownTo_67 rfl ?_
      refine PW_icmp_ge c_M_knownTo_68 (fun h1 => absurd h1 (Int32.not_le.mpr hA)) (fun h1 => ?_)
      refine PW_iload_n c_M_knownTo_71 rfl ?_
      refine PW_aload_n c_M_knownTo_72 rfl ?_
      refine PW_get (v := .ref 97) c_M_knownTo_73 fl_M_90 (gf_70_41 _ _) ?_
      refine PW_bipush (v := 12) c_M_knownTo_76 (by decide) ?_
      refine PW_iconst (v := 1) c_M_knownTo_78 (by decide) ?_
      refine PW_iload_n c_M_knownTo_79 rfl ?_
      refine PW_isub c_M_knownTo_80 ?_
      refine PW_imul c_M_knownTo_81 ?_
      refine PW_iload c_M_knownTo_82 rfl ?_
      refine PW_iadd c_M_knownTo_84 ?_
      refine PW_iald (j := 12 * 0 + i) c_M_knownTo_85 (ar_97 _ _) (by rw [(show (12 * (1 - 1) + nI i : Int32) = nI (12 * 0 + i) by rw [show (12 * (1 - 1) : Int32) = nI (12 * 0) by decide, nI_add])]; exact vp_in_nI (by omega) (by decide)) (by rw [(show (12 * (1 - 1) + nI i : Int32) = nI (12 * 0 + i) by rw [show (12 * (1 - 1) : Int32) = nI (12 * 0) by decide, nI_add])]; exact nI_clamp (by omega)) ?_
      show PW _ _ _ 86 [some (.ref 70), some (.int 1), some (.int m), some (.int (orA (orW wf k) ef' wf' m i)), some (.int (nI i))] [.int ((Y.2.1 97) (12 * 0 + i)), .int (orA (orW wf k) ef' wf' m i)] (E x Y)
      rw [(s2.2.2.2.2 i (by omega)).2]
      show PW _ _ _ 86 [some (.ref 70), some (.int 1), some (.int m), some (.int (orA (orW wf k) ef' wf' m i)), some (.int (nI i))] [.int (wf' i), .int (orA (orW wf k) ef' wf' m i)] (E x Y)
      refine PW_ior c_M_knownTo_86 ?_
      refine PW_istore_n (i := 3) (L2 := [some (.ref 70), some (.int 1), some (.int m), some (.int ((orA (orW wf k) ef' wf' m i) ||| (wf' i))), some (.int (nI i))]) c_M_knownTo_87 rfl (Nat.le_of_ble_eq_true rfl) rfl rfl ?_
      refine PW_iinc (i := 4) (v := (nI i) + 1) (L2 := [some (.ref 70), some (.int 1), some (.int m), some (.int ((orA (orW wf k) ef' wf' m i) ||| (wf' i))), some (.int ((nI i) + 1))]) c_M_knownTo_88 rfl (iinc_v (by decide)) (Nat.le_of_ble_eq_true rfl) rfl rfl ?_
      refine PW_goto c_M_knownTo_91 ?_
      refine PW.eqL ?_ rfl rfl (ih (i + 1) (by omega))
      show ([some (.ref 70), some (.int 1), some (.int m), some (.int ((orA (orW wf k) ef' wf' m i) ||| (wf' i))), some (.int ((nI i) + 1))] : List (Option Value)) = [some (.ref 70), some (.int 1), some (.int m), some (.int (orA (orW wf k) ef' wf' m (i + 1))), some (.int (nI (i + 1)))]
      rw [nI_1, orA, if_pos hA]
    · skip
      refine PW_iload c_M_knownTo_40 rfl ?_
      refine PW_aload_n c_M_knownTo_42 rfl ?_
      refine PW_get (v := .ref 96) c_M_knownTo_43 fl_M_87 (gf_70_40 _ _) ?_
      refine PW_iconst (v := 1) c_M_knownTo_46 (by decide) ?_
      refine PW_iload_n c_M_knownTo_47 rfl ?_
      refine PW_isub c_M_knownTo_48 ?_
      refine PW_iald (j := 0) c_M_knownTo_49 (ar_96 _ _) (vp_in_iff.mpr (by decide)) (by decide) ?_
      show PW _ _ _ 50 [some (.ref 70), some (.int 1), some (.int m), some (.int (orA (orW wf k) ef' wf' m i)), some (.int (nI i))] [.int ((Y.2.1 96) 0), .int (nI i)] (E x Y)
      rw [s2.2.2.2.1]
      show PW _ _ _ 50 [some (.ref 70), some (.int 1), some (.int m), some (.int (orA (orW wf k) ef' wf' m i)), some (.int (nI i))] [.int (nI k'), .int (nI i)] (E x Y)
      refine PW_icmp_ge c_M_knownTo_50 (fun h0 => absurd h0 (fun q => absurd ((nI_leI (by omega) (by omega)).mp q) (by omega))) (fun h0 => ?_)
      refine PW_aload_n c_M_knownTo_53 rfl ?_
      refine PW_get (v := .ref 98) c_M_knownTo_54 fl_M_93 (gf_70_42 _ _) ?_
      refine PW_bipush (v := 12) c_M_knownTo_57 (by decide) ?_
      refine PW_iconst (v := 1) c_M_knownTo_59 (by decide) ?_
      refine PW_iload_n c_M_knownTo_60 rfl ?_
      refine PW_isub c_M_knownTo_61 ?_
      refine PW_imul c_M_knownTo_62 ?_
      refine PW_iload c_M_knownTo_63 rfl ?_
      refine PW_iadd c_M_knownTo_65 ?_
      refine PW_iald (j := 12 * 0 + i) c_M_knownTo_66 (ar_98 _ _) (by rw [(show (12 * (1 - 1) + nI i : Int32) = nI (12 * 0 + i) by rw [show (12 * (1 - 1) : Int32) = nI (12 * 0) by decide, nI_add])]; exact vp_in_nI (by omega) (by decide)) (by rw [(show (12 * (1 - 1) + nI i : Int32) = nI (12 * 0 + i) by rw [show (12 * (1 - 1) : Int32) = nI (12 * 0) by decide, nI_add])]; exact nI_clamp (by omega)) ?_
      show PW _ _ _ 67 [some (.ref 70), some (.int 1), some (.int m), some (.int (orA (orW wf k) ef' wf' m i)), some (.int (nI i))] [.int ((Y.2.1 98) (12 * 0 + i))] (E x Y)
      rw [(s2.2.2.2.2 i (by omega)).1]
      show PW _ _ _ 67 [some (.ref 70), some (.int 1), some (.int m), some (.int (orA (orW wf k) ef' wf' m i)), some (.int (nI i))] [.int (ef' i)] (E x Y)
      refine PW_iload_n c_M_knownTo_67 rfl ?_
      refine PW_icmp_ge c_M_knownTo_68 (fun h1 => ?_) (fun h1 => absurd (Int32.not_lt.mp hA) h1)
      refine PW_iinc (i := 4) (v := (nI i) + 1) (L2 := [some (.ref 70), some (.int 1), some (.int m), some (.int (orA (orW wf k) ef' wf' m i)), some (.int ((nI i) + 1))]) c_M_knownTo_88 rfl (iinc_v (by decide)) (Nat.le_of_ble_eq_true rfl) rfl rfl ?_
      refine PW_goto c_M_knownTo_91 ?_
      refine PW.eqL ?_ rfl rfl (ih (i + 1) (by omega))
      show ([some (.ref 70), some (.int 1), some (.int m), some (.int (orA (orW wf k) ef' wf' m i)), some (.int ((nI i) + 1))] : List (Option Value)) = [some (.ref 70), some (.int 1), some (.int m), some (.int (orA (orW wf k) ef' wf' m (i + 1))), some (.int (nI (i + 1)))]
      rw [nI_1, orA, if_neg hA]
theorem lp_kt1_1 {z : ZS} {post : Option Value → List PE → Prop} {x Y : XS} {k k' a a' : Nat} {m mm mm' : Int32} {ef wf ef' wf' : Nat → Int32} (s1 : pYs 1 Y a mm k ef wf) (s2 : pYs 0 Y a' mm' k' ef' wf') (hk : k ≤ 12) (hk2 : k' ≤ 12) (h : post (some (.int (orA (orW wf k) ef' wf' m k'))) (E x Y)) : ∀ j i : Nat, i + j = k → PW (0, 0, 0, z) m_M_knownTo post 5 [some (.ref 70), some (.int 1), some (.int m), some (.int (orW wf i)), some (.int (nI i))] [] (E x Y) := by
  intro j
  induction j with
  | zero =>
    intro i hi
    refine PW_iload c_M_knownTo_5 rfl ?_
    refine PW_aload_n c_M_knownTo_7 rfl ?_
    refine PW_get (v := .ref 96) c_M_knownTo_8 fl_M_87 (gf_70_40 _ _) ?_
    refine PW_iload_n c_M_knownTo_11 rfl ?_
    refine PW_iald (j := 1) c_M_knownTo_12 (ar_96 _ _) (vp_in_iff.mpr (by decide)) rfl ?_
    show PW _ _ _ 13 [some (.ref 70), some (.int 1), some (.int m), some (.int (orW wf i)), some (.int (nI i))] [.int ((Y.2.1 96) 1), .int (nI i)] (E x Y)
    rw [s1.2.2.2.1]
    show PW _ _ _ 13 [some (.ref 70), some (.int 1), some (.int m), some (.int (orW wf i)), some (.int (nI i))] [.int (nI k), .int (nI i)] (E x Y)
    refine PW_icmp_ge c_M_knownTo_13 (fun h0 => ?_) (fun h0 => absurd ((nI_leI (by omega) (by omega)).mpr (by omega)) h0)
    refine PW_iconst (v := 0) c_M_knownTo_37 (by decide) ?_
    refine PW_istore (i := 4) (L2 := [some (.ref 70), some (.int 1), some (.int m), some (.int (orW wf i)), some (.int 0)]) c_M_knownTo_38 (Nat.le_of_ble_eq_true rfl) rfl rfl ?_
    rw [show i = k by omega]
    exact lp_kt2_1 s1 s2 hk hk2 h k' 0 (Nat.zero_add _)
  | succ j ih =>
    intro i hi
    refine PW_iload c_M_knownTo_5 rfl ?_
    refine PW_aload_n c_M_knownTo_7 rfl ?_
    refine PW_get (v := .ref 96) c_M_knownTo_8 fl_M_87 (gf_70_40 _ _) ?_
    refine PW_iload_n c_M_knownTo_11 rfl ?_
    refine PW_iald (j := 1) c_M_knownTo_12 (ar_96 _ _) (vp_in_iff.mpr (by decide)) rfl ?_
    show PW _ _ _ 13 [some (.ref 70), some (.int 1), some (.int m), some (.int (orW wf i)), some (.int (nI i))] [.int ((Y.2.1 96) 1), .int (nI i)] (E x Y)
    rw [s1.2.2.2.1]
    show PW _ _ _ 13 [some (.ref 70), some (.int 1), some (.int m), some (.int (orW wf i)), some (.int (nI i))] [.int (nI k), .int (nI i)] (E x Y)
    refine PW_icmp_ge c_M_knownTo_13 (fun h0 => absurd h0 (fun q => absurd ((nI_leI (by omega) (by omega)).mp q) (by omega))) (fun h0 => ?_)
    refine PW_iload_n c_M_knownTo_16 rfl ?_
    refine PW_aload_n c_M_knownTo_17 rfl ?_
    refine PW_get (v := .ref 97) c_M_knownTo_18 fl_M_90 (gf_70_41 _ _) ?_
    refine PW_bipush (v := 12) c_M_knownTo_21 (by decide) ?_
    refine PW_iload_n c_M_knownTo_23 rfl ?_
    refine PW_imul c_M_knownTo_24 ?_
    refine PW_iload c_M_knownTo_25 rfl ?_
    refine PW_iadd c_M_knownTo_27 ?_
    refine PW_iald (j := 12 * 1 + i) c_M_knownTo_28 (ar_97 _ _) (by rw [(show (12 * 1 + nI i : Int32) = nI (12 * 1 + i) by rw [show (12 * 1 : Int32) = nI (12 * 1) by decide, nI_add])]; exact vp_in_nI (by omega) (by decide)) (by rw [(show (12 * 1 + nI i : Int32) = nI (12 * 1 + i) by rw [show (12 * 1 : Int32) = nI (12 * 1) by decide, nI_add])]; exact nI_clamp (by omega)) ?_
    show PW _ _ _ 29 [some (.ref 70), some (.int 1), some (.int m), some (.int (orW wf i)), some (.int (nI i))] [.int ((Y.2.1 97) (12 * 1 + i)), .int (orW wf i)] (E x Y)
    rw [(s1.2.2.2.2 i (by omega)).2]
    show PW _ _ _ 29 [some (.ref 70), some (.int 1), some (.int m), some (.int (orW wf i)), some (.int (nI i))] [.int (wf i), .int (orW wf i)] (E x Y)
    refine PW_ior c_M_knownTo_29 ?_
    refine PW_istore_n (i := 3) (L2 := [some (.ref 70), some (.int 1), some (.int m), some (.int ((orW wf i) ||| (wf i))), some (.int (nI i))]) c_M_knownTo_30 rfl (Nat.le_of_ble_eq_true rfl) rfl rfl ?_
    refine PW_iinc (i := 4) (v := (nI i) + 1) (L2 := [some (.ref 70), some (.int 1), some (.int m), some (.int ((orW wf i) ||| (wf i))), some (.int ((nI i) + 1))]) c_M_knownTo_31 rfl (iinc_v (by decide)) (Nat.le_of_ble_eq_true rfl) rfl rfl ?_
    refine PW_goto c_M_knownTo_34 ?_
    refine PW.eqL ?_ rfl rfl (ih (i + 1) (by omega))
    show ([some (.ref 70), some (.int 1), some (.int m), some (.int ((orW wf i) ||| (wf i))), some (.int ((nI i) + 1))] : List (Option Value)) = [some (.ref 70), some (.int 1), some (.int m), some (.int (orW wf (i + 1))), some (.int (nI (i + 1)))]
    rw [nI_1, orW]
theorem sp_kt_1 {z : ZS} {post : Option Value → List PE → Prop} {x Y : XS} {k k' a a' : Nat} {m mm mm' : Int32} {ef wf ef' wf' : Nat → Int32} (s1 : pYs 1 Y a mm k ef wf) (s2 : pYs 0 Y a' mm' k' ef' wf') (hk : k ≤ 12) (hk2 : k' ≤ 12) (h : post (some (.int (orW wf k ||| orB ef' wf' m k'))) (E x Y)) : PW (0, 0, 0, z) m_M_knownTo post 0 [some (.ref 70), some (.int 1), some (.int m), none, none] [] (E x Y) := by
  refine PW_iconst (v := 0) c_M_knownTo_0 (by decide) ?_
  refine PW_istore_n (i := 3) (L2 := [some (.ref 70), some (.int 1), some (.int m), some (.int 0), none]) c_M_knownTo_1 rfl (Nat.le_of_ble_eq_true rfl) rfl rfl ?_
  refine PW_iconst (v := 0) c_M_knownTo_2 (by decide) ?_
  refine PW_istore (i := 4) (L2 := [some (.ref 70), some (.int 1), some (.int m), some (.int 0), some (.int 0)]) c_M_knownTo_3 (Nat.le_of_ble_eq_true rfl) rfl rfl ?_
  exact lp_kt1_1 s1 s2 hk hk2 (by rw [orA_eq]; exact h) k 0 (Nat.zero_add _)
theorem M_visit1 {T : Option Txt} {x0 Y : XS} {sj n a b k k' a' : Nat} {m m' : Int32} {ef wf ef' wf' : Nat → Int32} (hsj : sj < 6) (hn : n ≤ 60) (hW : WG Y) (hT : lawIs T x0 Y) (h105 : Y.2.1 105 sj = nI n) (s1 : pYs 1 Y a m k ef wf) (s2 : pYs 0 Y a' m' k' ef' wf') (hk : k < n) (hk2 : k < 12) (hK2 : k' ≤ 12) (hr : 0 ≤ (Y.2.2 106 (60 * sj + k)).toInt32 ∧ (Y.2.2 106 (60 * sj + k)).toInt32 ≤ 4) (hbk : (Y.2.2 106 (60 * sj + k)).toInt32 = nI b) (ha : a < 5) (hb : b < 5) : ∃ Y3 : XS, yS Y Y3 ∧ pYs 1 Y3 b (m + wayN Y a b + mnF T Y (nI b) (m + wayN Y a b) (telF Y (nI b) (m + wayN Y a b) (orW wf k ||| orB ef' wf' (m + wayN Y a b) k'))) (k + 1) (upd ef k (m + wayN Y a b + mnF T Y (nI b) (m + wayN Y a b) (telF Y (nI b) (m + wayN Y a b) (orW wf k ||| orB ef' wf' (m + wayN Y a b) k')))) (upd wf k (telF Y (nI b) (m + wayN Y a b) (orW wf k ||| orB ef' wf' (m + wayN Y a b) k'))) ∧ pYs 0 Y3 a' m' k' ef' wf' ∧ ∀ {x : XS} {z : ZS} {post : Option Value → List PE → Prop}, post none (E x Y3) → PW (4, 0, 0, z) m_M_goPair post 0 [some (.ref 70), some (.int 1), some (.int (nI sj)), none, none, none, none] [] (E x Y) := by
  obtain ⟨Y1, ⟨c1, c2, c3⟩, H⟩ := sp_M_takes1 (T := T) (x0 := x0) (y := Y) (r := nI b) (m := m + wayN Y a b) (v := telF Y (nI b) (m + wayN Y a b) (orW wf k ||| orB ef' wf' (m + wayN Y a b) k')) hW (S10_telF hW.2) hT
  refine ⟨sA (sA (sA (sA (sA (sA Y1 97 (upd (Y1.2.1 97) (12 * 1 + k) (telF Y (nI b) (m + wayN Y a b) (orW wf k ||| orB ef' wf' (m + wayN Y a b) k')))) 98 (upd (Y1.2.1 98) (12 * 1 + k) (m + wayN Y a b + mnF T Y (nI b) (m + wayN Y a b) (telF Y (nI b) (m + wayN Y a b) (orW wf k ||| orB ef' wf' (m + wayN Y a b) k'))))) 96 (upd (Y1.2.1 96) 1 (nI k + 1))) 95 (upd (Y1.2.1 95) 1 (nI k + 1))) 93 (upd (Y1.2.1 93) 1 (nI b))) 94 (upd (Y1.2.1 94) 1 (m + wayN Y a b + mnF T Y (nI b) (m + wayN Y a b) (telF Y (nI b) (m + wayN Y a b) (orW wf k ||| orB ef' wf' (m + wayN Y a b) k')))), ⟨fun q hq => ?_, fun q hq => ?_, ?_⟩, ⟨?_, ?_, ?_, ?_, fun i hi => ?_⟩, ⟨?_, ?_, ?_, ?_, fun i hi => ?_⟩, fun {x z post} h => ?_⟩
  · exact congrFun c1 q
  · rw [sA_A, if_neg (by omega), sA_A, if_neg (by omega), sA_A, if_neg (by omega), sA_A, if_neg (by omega), sA_A, if_neg (by omega), sA_A, if_neg (by omega)]
    exact c2 q (by omega) (by omega)
  · exact c3
  · rfl
  · rfl
  · exact nI_1 k
  · exact nI_1 k
  · show upd (Y1.2.1 98) (12 * 1 + k) (m + wayN Y a b + mnF T Y (nI b) (m + wayN Y a b) (telF Y (nI b) (m + wayN Y a b) (orW wf k ||| orB ef' wf' (m + wayN Y a b) k'))) (12 * 1 + i) = _ ∧ upd (Y1.2.1 97) (12 * 1 + k) (telF Y (nI b) (m + wayN Y a b) (orW wf k ||| orB ef' wf' (m + wayN Y a b) k')) (12 * 1 + i) = _
    by_cases q : i = k
    · rw [q, upd_s, upd_s, upd_s, upd_s]; exact ⟨rfl, rfl⟩
    · rw [upd_n q, upd_n q, upd_n (show 12 * 1 + i ≠ 12 * 1 + k by omega), upd_n (show 12 * 1 + i ≠ 12 * 1 + k by omega), c2 98 (by decide) (by decide), c2 97 (by decide) (by decide)]; exact s1.2.2.2.2 i (by omega)
  · show Y1.2.1 93 0 = _
    rw [c2 93 (by decide) (by decide)]; exact s2.1
  · show Y1.2.1 94 0 = _
    rw [c2 94 (by decide) (by decide)]; exact s2.2.1
  · show Y1.2.1 95 0 = _
    rw [c2 95 (by decide) (by decide)]; exact s2.2.2.1
  · show Y1.2.1 96 0 = _
    rw [c2 96 (by decide) (by decide)]; exact s2.2.2.2.1
  · show upd (Y1.2.1 98) (12 * 1 + k) (m + wayN Y a b + mnF T Y (nI b) (m + wayN Y a b) (telF Y (nI b) (m + wayN Y a b) (orW wf k ||| orB ef' wf' (m + wayN Y a b) k'))) (12 * 0 + i) = _ ∧ upd (Y1.2.1 97) (12 * 1 + k) (telF Y (nI b) (m + wayN Y a b) (orW wf k ||| orB ef' wf' (m + wayN Y a b) k')) (12 * 0 + i) = _
    rw [upd_n (by omega), upd_n (by omega), c2 98 (by decide) (by decide), c2 97 (by decide) (by decide)]; exact s2.2.2.2.2 i hi
  refine PW_aload_n c_M_goPair_0 rfl ?_
  refine PW_iload_n c_M_goPair_1 rfl ?_
  refine PW_iload_n c_M_goPair_2 rfl ?_
  refine PW_V0 (d2 := 3) (st := []) [.int 1, .int (nI sj)] c_M_goPair_3 lk_M_goPair_324 (po_70 _ _) rfl rfl rfl (Nat.le_of_ble_eq_true rfl) (by first | decide | omega) (Nat.le_of_ble_eq_true rfl) ?_
  refine sp_so1_1 hsj hn s1.2.2.1 h105 s1.1 s1.2.1 hk hk2 hr hbk ha hb ?_
  show PW _ _ _ 6 [some (.ref 70), some (.int 1), some (.int (nI sj)), none, none, none, none] [.int (m + wayN Y a b)] (E x Y)
  refine PW_istore_n (i := 3) (L2 := [some (.ref 70), some (.int 1), some (.int (nI sj)), some (.int (m + wayN Y a b)), none, none, none]) c_M_goPair_6 rfl (Nat.le_of_ble_eq_true rfl) rfl rfl ?_
  refine PW_aload_n c_M_goPair_7 rfl ?_
  refine PW_iload_n c_M_goPair_8 rfl ?_
  refine PW_aload_n c_M_goPair_9 rfl ?_
  refine PW_get (v := .ref 95) c_M_goPair_10 fl_M_84 (gf_70_39 _ _) ?_
  refine PW_iload_n c_M_goPair_13 rfl ?_
  refine PW_iald (j := 1) c_M_goPair_14 (ar_95 _ _) (vp_in_iff.mpr (by decide)) rfl ?_
  show PW _ _ _ 15 [some (.ref 70), some (.int 1), some (.int (nI sj)), some (.int (m + wayN Y a b)), none, none, none] [.int ((Y.2.1 95) 1), .int (nI sj), .ref 70] (E x Y)
  rw [s1.2.2.1]
  show PW _ _ _ 15 [some (.ref 70), some (.int 1), some (.int (nI sj)), some (.int (m + wayN Y a b)), none, none, none] [.int (nI k), .int (nI sj), .ref 70] (E x Y)
  refine PW_V0 (d2 := 0) (st := []) [.int (nI sj), .int (nI k)] c_M_goPair_15 lk_M_goPair_292 (po_70 _ _) rfl rfl rfl (Nat.le_of_ble_eq_true rfl) (by first | decide | omega) (Nat.le_of_ble_eq_true rfl) ?_
  show PW _ _ _ 0 [some (.ref 70), some (.int (nI sj)), some (.int (nI k))] [] (E x Y)
  refine PW_aload_n c_M_byteAt_0 rfl ?_
  refine PW_get (v := .ref 106) c_M_byteAt_1 fl_M_117 (gf_70_55 _ _) ?_
  refine PW_bipush (v := 60) c_M_byteAt_4 (by decide) ?_
  refine PW_iload_n c_M_byteAt_6 rfl ?_
  refine PW_imul c_M_byteAt_7 ?_
  refine PW_iload_n c_M_byteAt_8 rfl ?_
  refine PW_iadd c_M_byteAt_9 ?_
  refine PW_lald (j := 60 * sj + k) c_M_byteAt_10 (ar_106 _ _) (by rw [show (60 : Int32) = nI 60 from rfl, pk_mul, nI_add]; exact vp_in_nI (by omega) (by decide)) (by rw [show (60 : Int32) = nI 60 from rfl, pk_mul, nI_add]; exact nI_clamp (by omega)) ?_
  show PW _ _ _ 11 [some (.ref 70), some (.int (nI sj)), some (.int (nI k))] [.long ((Y.2.2 106) (60 * sj + k))] (E x Y)
  refine PW_l2i c_M_byteAt_11 ?_
  refine PW_ireturn (ty := .int) c_M_byteAt_12 rfl rfl ?_
  show PW _ _ _ 18 [some (.ref 70), some (.int 1), some (.int (nI sj)), some (.int (m + wayN Y a b)), none, none, none] [.int (((Y.2.2 106) (60 * sj + k)).toInt32)] (E x Y)
  rw [hbk]
  show PW _ _ _ 18 [some (.ref 70), some (.int 1), some (.int (nI sj)), some (.int (m + wayN Y a b)), none, none, none] [.int (nI b)] (E x Y)
  refine PW_istore (i := 4) (L2 := [some (.ref 70), some (.int 1), some (.int (nI sj)), some (.int (m + wayN Y a b)), some (.int (nI b)), none, none]) c_M_goPair_18 (Nat.le_of_ble_eq_true rfl) rfl rfl ?_
  refine PW_aload_n c_M_goPair_20 rfl ?_
  refine PW_iload c_M_goPair_21 rfl ?_
  refine PW_iload_n c_M_goPair_23 rfl ?_
  refine PW_aload_n c_M_goPair_24 rfl ?_
  refine PW_iload_n c_M_goPair_25 rfl ?_
  refine PW_iload_n c_M_goPair_26 rfl ?_
  refine PW_V0 (d2 := 0) (st := [.int (m + wayN Y a b), .int (nI b), .ref 70]) [.int 1, .int (m + wayN Y a b)] c_M_goPair_27 lk_M_goPair_327 (po_70 _ _) rfl rfl rfl (Nat.le_of_ble_eq_true rfl) (by first | decide | omega) (Nat.le_of_ble_eq_true rfl) ?_
  refine sp_kt_1 s1 s2 (by omega) hK2 ?_
  show PW _ _ _ 30 [some (.ref 70), some (.int 1), some (.int (nI sj)), some (.int (m + wayN Y a b)), some (.int (nI b)), none, none] [.int (orW wf k ||| orB ef' wf' (m + wayN Y a b) k'), .int (m + wayN Y a b), .int (nI b), .ref 70] (E x Y)
  refine PW_V0 (d2 := 2) (st := []) [.int (nI b), .int (m + wayN Y a b), .int (orW wf k ||| orB ef' wf' (m + wayN Y a b) k')] c_M_goPair_30 lk_M_goPair_277 (po_70 _ _) rfl rfl rfl (Nat.le_of_ble_eq_true rfl) (by first | decide | omega) (Nat.le_of_ble_eq_true rfl) ?_
  refine sp_M_tells1 hW ?_
  show PW _ _ _ 33 [some (.ref 70), some (.int 1), some (.int (nI sj)), some (.int (m + wayN Y a b)), some (.int (nI b)), none, none] [.int (telF Y (nI b) (m + wayN Y a b) (orW wf k ||| orB ef' wf' (m + wayN Y a b) k'))] (E x Y)
  refine PW_istore (i := 5) (L2 := [some (.ref 70), some (.int 1), some (.int (nI sj)), some (.int (m + wayN Y a b)), some (.int (nI b)), some (.int (telF Y (nI b) (m + wayN Y a b) (orW wf k ||| orB ef' wf' (m + wayN Y a b) k'))), none]) c_M_goPair_33 (Nat.le_of_ble_eq_true rfl) rfl rfl ?_
  refine PW_iload_n c_M_goPair_35 rfl ?_
  refine PW_aload_n c_M_goPair_36 rfl ?_
  refine PW_iload c_M_goPair_37 rfl ?_
  refine PW_iload_n c_M_goPair_39 rfl ?_
  refine PW_iload c_M_goPair_40 rfl ?_
  refine PW_V0 (d2 := 3) (st := [.int (m + wayN Y a b)]) [.int (nI b), .int (m + wayN Y a b), .int (telF Y (nI b) (m + wayN Y a b) (orW wf k ||| orB ef' wf' (m + wayN Y a b) k'))] c_M_goPair_42 lk_M_goPair_280 (po_70 _ _) rfl rfl rfl (Nat.le_of_ble_eq_true rfl) (by first | decide | omega) (Nat.le_of_ble_eq_true rfl) ?_
  refine H ?_
  show PW _ _ _ 45 [some (.ref 70), some (.int 1), some (.int (nI sj)), some (.int (m + wayN Y a b)), some (.int (nI b)), some (.int (telF Y (nI b) (m + wayN Y a b) (orW wf k ||| orB ef' wf' (m + wayN Y a b) k'))), none] [.int (mnF T Y (nI b) (m + wayN Y a b) (telF Y (nI b) (m + wayN Y a b) (orW wf k ||| orB ef' wf' (m + wayN Y a b) k'))), .int (m + wayN Y a b)] (E x Y1)
  refine PW_iadd c_M_goPair_45 ?_
  refine PW_istore (i := 6) (L2 := [some (.ref 70), some (.int 1), some (.int (nI sj)), some (.int (m + wayN Y a b)), some (.int (nI b)), some (.int (telF Y (nI b) (m + wayN Y a b) (orW wf k ||| orB ef' wf' (m + wayN Y a b) k'))), some (.int ((m + wayN Y a b) + (mnF T Y (nI b) (m + wayN Y a b) (telF Y (nI b) (m + wayN Y a b) (orW wf k ||| orB ef' wf' (m + wayN Y a b) k')))))]) c_M_goPair_46 (Nat.le_of_ble_eq_true rfl) rfl rfl ?_
  refine PW_aload_n c_M_goPair_48 rfl ?_
  refine PW_get (v := .ref 97) c_M_goPair_49 fl_M_90 (gf_70_41 _ _) ?_
  refine PW_bipush (v := 12) c_M_goPair_52 (by decide) ?_
  refine PW_iload_n c_M_goPair_54 rfl ?_
  refine PW_imul c_M_goPair_55 ?_
  refine PW_aload_n c_M_goPair_56 rfl ?_
  refine PW_get (v := .ref 96) c_M_goPair_57 fl_M_87 (gf_70_40 _ _) ?_
  refine PW_iload_n c_M_goPair_60 rfl ?_
  refine PW_iald (j := 1) c_M_goPair_61 (ar_96 _ _) (vp_in_iff.mpr (by decide)) rfl ?_
  show PW _ _ _ 62 [some (.ref 70), some (.int 1), some (.int (nI sj)), some (.int (m + wayN Y a b)), some (.int (nI b)), some (.int (telF Y (nI b) (m + wayN Y a b) (orW wf k ||| orB ef' wf' (m + wayN Y a b) k'))), some (.int ((m + wayN Y a b) + (mnF T Y (nI b) (m + wayN Y a b) (telF Y (nI b) (m + wayN Y a b) (orW wf k ||| orB ef' wf' (m + wayN Y a b) k')))))] [.int ((Y1.2.1 96) 1), .int (12 * 1), .ref 97] (E x Y1)
  rw [show Y1.2.1 96 1 = nI k by rw [c2 96 (by decide) (by decide)]; exact s1.2.2.2.1]
  show PW _ _ _ 62 [some (.ref 70), some (.int 1), some (.int (nI sj)), some (.int (m + wayN Y a b)), some (.int (nI b)), some (.int (telF Y (nI b) (m + wayN Y a b) (orW wf k ||| orB ef' wf' (m + wayN Y a b) k'))), some (.int ((m + wayN Y a b) + (mnF T Y (nI b) (m + wayN Y a b) (telF Y (nI b) (m + wayN Y a b) (orW wf k ||| orB ef' wf' (m + wayN Y a b) k')))))] [.int (nI k), .int (12 * 1), .ref 97] (E x Y1)
  refine PW_iadd c_M_goPair_62 ?_
  refine PW_iload c_M_goPair_63 rfl ?_
  refine PW_iast (j := 12 * 1 + k) (w2 := E x (sA Y1 97 (upd (Y1.2.1 97) (12 * 1 + k) (telF Y (nI b) (m + wayN Y a b) (orW wf k ||| orB ef' wf' (m + wayN Y a b) k'))))) c_M_goPair_65 (ar_97 _ _) (by rw [(show (12 * 1 + nI k : Int32) = nI (12 * 1 + k) by rw [show (12 * 1 : Int32) = nI (12 * 1) by decide, nI_add])]; exact vp_in_nI (by omega) (by decide)) (by rw [(show (12 * 1 + nI k : Int32) = nI (12 * 1 + k) by rw [show (12 * 1 : Int32) = nI (12 * 1) by decide, nI_add])]; exact nI_clamp (by omega)) (aw_97 _ _ _) ?_
  refine PW_aload_n c_M_goPair_66 rfl ?_
  refine PW_get (v := .ref 98) c_M_goPair_67 fl_M_93 (gf_70_42 _ _) ?_
  refine PW_bipush (v := 12) c_M_goPair_70 (by decide) ?_
  refine PW_iload_n c_M_goPair_72 rfl ?_
  refine PW_imul c_M_goPair_73 ?_
  refine PW_aload_n c_M_goPair_74 rfl ?_
  refine PW_get (v := .ref 96) c_M_goPair_75 fl_M_87 (gf_70_40 _ _) ?_
  refine PW_iload_n c_M_goPair_78 rfl ?_
  refine PW_iald (j := 1) c_M_goPair_79 (ar_96 _ _) (vp_in_iff.mpr (by decide)) rfl ?_
  show PW _ _ _ 80 [some (.ref 70), some (.int 1), some (.int (nI sj)), some (.int (m + wayN Y a b)), some (.int (nI b)), some (.int (telF Y (nI b) (m + wayN Y a b) (orW wf k ||| orB ef' wf' (m + wayN Y a b) k'))), some (.int ((m + wayN Y a b) + (mnF T Y (nI b) (m + wayN Y a b) (telF Y (nI b) (m + wayN Y a b) (orW wf k ||| orB ef' wf' (m + wayN Y a b) k')))))] [.int ((Y1.2.1 96) 1), .int (12 * 1), .ref 98] (E x (sA Y1 97 (upd (Y1.2.1 97) (12 * 1 + k) (telF Y (nI b) (m + wayN Y a b) (orW wf k ||| orB ef' wf' (m + wayN Y a b) k')))))
  rw [show Y1.2.1 96 1 = nI k by rw [c2 96 (by decide) (by decide)]; exact s1.2.2.2.1]
  show PW _ _ _ 80 [some (.ref 70), some (.int 1), some (.int (nI sj)), some (.int (m + wayN Y a b)), some (.int (nI b)), some (.int (telF Y (nI b) (m + wayN Y a b) (orW wf k ||| orB ef' wf' (m + wayN Y a b) k'))), some (.int ((m + wayN Y a b) + (mnF T Y (nI b) (m + wayN Y a b) (telF Y (nI b) (m + wayN Y a b) (orW wf k ||| orB ef' wf' (m + wayN Y a b) k')))))] [.int (nI k), .int (12 * 1), .ref 98] (E x (sA Y1 97 (upd (Y1.2.1 97) (12 * 1 + k) (telF Y (nI b) (m + wayN Y a b) (orW wf k ||| orB ef' wf' (m + wayN Y a b) k')))))
  refine PW_iadd c_M_goPair_80 ?_
  refine PW_iload c_M_goPair_81 rfl ?_
  refine PW_iast (j := 12 * 1 + k) (w2 := E x (sA (sA Y1 97 (upd (Y1.2.1 97) (12 * 1 + k) (telF Y (nI b) (m + wayN Y a b) (orW wf k ||| orB ef' wf' (m + wayN Y a b) k')))) 98 (upd (Y1.2.1 98) (12 * 1 + k) ((m + wayN Y a b) + (mnF T Y (nI b) (m + wayN Y a b) (telF Y (nI b) (m + wayN Y a b) (orW wf k ||| orB ef' wf' (m + wayN Y a b) k'))))))) c_M_goPair_83 (ar_98 _ _) (by rw [(show (12 * 1 + nI k : Int32) = nI (12 * 1 + k) by rw [show (12 * 1 : Int32) = nI (12 * 1) by decide, nI_add])]; exact vp_in_nI (by omega) (by decide)) (by rw [(show (12 * 1 + nI k : Int32) = nI (12 * 1 + k) by rw [show (12 * 1 : Int32) = nI (12 * 1) by decide, nI_add])]; exact nI_clamp (by omega)) (aw_98 _ _ _) ?_
  refine PW_aload_n c_M_goPair_84 rfl ?_
  refine PW_get (v := .ref 96) c_M_goPair_85 fl_M_87 (gf_70_40 _ _) ?_
  refine PW_iload_n c_M_goPair_88 rfl ?_
  refine PW_dup2 c_M_goPair_89 rfl rfl ?_
  refine PW_iald (j := 1) c_M_goPair_90 (ar_96 _ _) (vp_in_iff.mpr (by decide)) rfl ?_
  show PW _ _ _ 91 [some (.ref 70), some (.int 1), some (.int (nI sj)), some (.int (m + wayN Y a b)), some (.int (nI b)), some (.int (telF Y (nI b) (m + wayN Y a b) (orW wf k ||| orB ef' wf' (m + wayN Y a b) k'))), some (.int ((m + wayN Y a b) + (mnF T Y (nI b) (m + wayN Y a b) (telF Y (nI b) (m + wayN Y a b) (orW wf k ||| orB ef' wf' (m + wayN Y a b) k')))))] [.int ((Y1.2.1 96) 1), .int 1, .ref 96] (E x (sA (sA Y1 97 (upd (Y1.2.1 97) (12 * 1 + k) (telF Y (nI b) (m + wayN Y a b) (orW wf k ||| orB ef' wf' (m + wayN Y a b) k')))) 98 (upd (Y1.2.1 98) (12 * 1 + k) ((m + wayN Y a b) + (mnF T Y (nI b) (m + wayN Y a b) (telF Y (nI b) (m + wayN Y a b) (orW wf k ||| orB ef' wf' (m + wayN Y a b) k')))))))
  rw [show Y1.2.1 96 1 = nI k by rw [c2 96 (by decide) (by decide)]; exact s1.2.2.2.1]
  show PW _ _ _ 91 [some (.ref 70), some (.int 1), some (.int (nI sj)), some (.int (m + wayN Y a b)), some (.int (nI b)), some (.int (telF Y (nI b) (m + wayN Y a b) (orW wf k ||| orB ef' wf' (m + wayN Y a b) k'))), some (.int ((m + wayN Y a b) + (mnF T Y (nI b) (m + wayN Y a b) (telF Y (nI b) (m + wayN Y a b) (orW wf k ||| orB ef' wf' (m + wayN Y a b) k')))))] [.int (nI k), .int 1, .ref 96] (E x (sA (sA Y1 97 (upd (Y1.2.1 97) (12 * 1 + k) (telF Y (nI b) (m + wayN Y a b) (orW wf k ||| orB ef' wf' (m + wayN Y a b) k')))) 98 (upd (Y1.2.1 98) (12 * 1 + k) ((m + wayN Y a b) + (mnF T Y (nI b) (m + wayN Y a b) (telF Y (nI b) (m + wayN Y a b) (orW wf k ||| orB ef' wf' (m + wayN Y a b) k')))))))
  refine PW_iconst (v := 1) c_M_goPair_91 (by decide) ?_
  refine PW_iadd c_M_goPair_92 ?_
  refine PW_iast (j := 1) (w2 := E x (sA (sA (sA Y1 97 (upd (Y1.2.1 97) (12 * 1 + k) (telF Y (nI b) (m + wayN Y a b) (orW wf k ||| orB ef' wf' (m + wayN Y a b) k')))) 98 (upd (Y1.2.1 98) (12 * 1 + k) ((m + wayN Y a b) + (mnF T Y (nI b) (m + wayN Y a b) (telF Y (nI b) (m + wayN Y a b) (orW wf k ||| orB ef' wf' (m + wayN Y a b) k')))))) 96 (upd (Y1.2.1 96) 1 ((nI k) + 1)))) c_M_goPair_93 (ar_96 _ _) (vp_in_iff.mpr (by decide)) rfl (aw_96 _ _ _) ?_
  refine PW_aload_n c_M_goPair_94 rfl ?_
  refine PW_get (v := .ref 95) c_M_goPair_95 fl_M_84 (gf_70_39 _ _) ?_
  refine PW_iload_n c_M_goPair_98 rfl ?_
  refine PW_dup2 c_M_goPair_99 rfl rfl ?_
  refine PW_iald (j := 1) c_M_goPair_100 (ar_95 _ _) (vp_in_iff.mpr (by decide)) rfl ?_
  show PW _ _ _ 101 [some (.ref 70), some (.int 1), some (.int (nI sj)), some (.int (m + wayN Y a b)), some (.int (nI b)), some (.int (telF Y (nI b) (m + wayN Y a b) (orW wf k ||| orB ef' wf' (m + wayN Y a b) k'))), some (.int ((m + wayN Y a b) + (mnF T Y (nI b) (m + wayN Y a b) (telF Y (nI b) (m + wayN Y a b) (orW wf k ||| orB ef' wf' (m + wayN Y a b) k')))))] [.int ((Y1.2.1 95) 1), .int 1, .ref 95] (E x (sA (sA (sA Y1 97 (upd (Y1.2.1 97) (12 * 1 + k) (telF Y (nI b) (m + wayN Y a b) (orW wf k ||| orB ef' wf' (m + wayN Y a b) k')))) 98 (upd (Y1.2.1 98) (12 * 1 + k) ((m + wayN Y a b) + (mnF T Y (nI b) (m + wayN Y a b) (telF Y (nI b) (m + wayN Y a b) (orW wf k ||| orB ef' wf' (m + wayN Y a b) k')))))) 96 (upd (Y1.2.1 96) 1 ((nI k) + 1))))
  rw [show Y1.2.1 95 1 = nI k by rw [c2 95 (by decide) (by decide)]; exact s1.2.2.1]
  show PW _ _ _ 101 [some (.ref 70), some (.int 1), some (.int (nI sj)), some (.int (m + wayN Y a b)), some (.int (nI b)), some (.int (telF Y (nI b) (m + wayN Y a b) (orW wf k ||| orB ef' wf' (m + wayN Y a b) k'))), some (.int ((m + wayN Y a b) + (mnF T Y (nI b) (m + wayN Y a b) (telF Y (nI b) (m + wayN Y a b) (orW wf k ||| orB ef' wf' (m + wayN Y a b) k')))))] [.int (nI k), .int 1, .ref 95] (E x (sA (sA (sA Y1 97 (upd (Y1.2.1 97) (12 * 1 + k) (telF Y (nI b) (m + wayN Y a b) (orW wf k ||| orB ef' wf' (m + wayN Y a b) k')))) 98 (upd (Y1.2.1 98) (12 * 1 + k) ((m + wayN Y a b) + (mnF T Y (nI b) (m + wayN Y a b) (telF Y (nI b) (m + wayN Y a b) (orW wf k ||| orB ef' wf' (m + wayN Y a b) k')))))) 96 (upd (Y1.2.1 96) 1 ((nI k) + 1))))
  refine PW_iconst (v := 1) c_M_goPair_101 (by decide) ?_
  refine PW_iadd c_M_goPair_102 ?_
  refine PW_iast (j := 1) (w2 := E x (sA (sA (sA (sA Y1 97 (upd (Y1.2.1 97) (12 * 1 + k) (telF Y (nI b) (m + wayN Y a b) (orW wf k ||| orB ef' wf' (m + wayN Y a b) k')))) 98 (upd (Y1.2.1 98) (12 * 1 + k) ((m + wayN Y a b) + (mnF T Y (nI b) (m + wayN Y a b) (telF Y (nI b) (m + wayN Y a b) (orW wf k ||| orB ef' wf' (m + wayN Y a b) k')))))) 96 (upd (Y1.2.1 96) 1 ((nI k) + 1))) 95 (upd (Y1.2.1 95) 1 ((nI k) + 1)))) c_M_goPair_103 (ar_95 _ _) (vp_in_iff.mpr (by decide)) rfl (aw_95 _ _ _) ?_
  refine PW_aload_n c_M_goPair_104 rfl ?_
  refine PW_get (v := .ref 93) c_M_goPair_105 fl_M_78 (gf_70_37 _ _) ?_
  refine PW_iload_n c_M_goPair_108 rfl ?_
  refine PW_iload c_M_goPair_109 rfl ?_
  refine PW_iast (j := 1) (w2 := E x (sA (sA (sA (sA (sA Y1 97 (upd (Y1.2.1 97) (12 * 1 + k) (telF Y (nI b) (m + wayN Y a b) (orW wf k ||| orB ef' wf' (m + wayN Y a b) k')))) 98 (upd (Y1.2.1 98) (12 * 1 + k) ((m + wayN Y a b) + (mnF T Y (nI b) (m + wayN Y a b) (telF Y (nI b) (m + wayN Y a b) (orW wf k ||| orB ef' wf' (m + wayN Y a b) k')))))) 96 (upd (Y1.2.1 96) 1 ((nI k) + 1))) 95 (upd (Y1.2.1 95) 1 ((nI k) + 1))) 93 (upd (Y1.2.1 93) 1 (nI b)))) c_M_goPair_111 (ar_93 _ _) (vp_in_iff.mpr (by decide)) rfl (aw_93 _ _ _) ?_
  refine PW_aload_n c_M_goPair_112 rfl ?_
  refine PW_get (v := .ref 94) c_M_goPair_113 fl_M_81 (gf_70_38 _ _) ?_
  refine PW_iload_n c_M_goPair_116 rfl ?_
  refine PW_iload c_M_goPair_117 rfl ?_
  refine PW_iast (j := 1) (w2 := E x (sA (sA (sA (sA (sA (sA Y1 97 (upd (Y1.2.1 97) (12 * 1 + k) (telF Y (nI b) (m + wayN Y a b) (orW wf k ||| orB ef' wf' (m + wayN Y a b) k')))) 98 (upd (Y1.2.1 98) (12 * 1 + k) ((m + wayN Y a b) + (mnF T Y (nI b) (m + wayN Y a b) (telF Y (nI b) (m + wayN Y a b) (orW wf k ||| orB ef' wf' (m + wayN Y a b) k')))))) 96 (upd (Y1.2.1 96) 1 ((nI k) + 1))) 95 (upd (Y1.2.1 95) 1 ((nI k) + 1))) 93 (upd (Y1.2.1 93) 1 (nI b))) 94 (upd (Y1.2.1 94) 1 ((m + wayN Y a b) + (mnF T Y (nI b) (m + wayN Y a b) (telF Y (nI b) (m + wayN Y a b) (orW wf k ||| orB ef' wf' (m + wayN Y a b) k'))))))) c_M_goPair_119 (ar_94 _ _) (vp_in_iff.mpr (by decide)) rfl (aw_94 _ _ _) ?_
  refine PW_vreturn c_M_goPair_120 rfl ?_
  exact h
