theorem sp_M_roomOf {z : ZS} {post : Option Value → List PE → Prop} {x y : XS}  {g m : Int32} (hg : 0 ≤ g.toInt ∧ g.toInt < ((10 : Nat) : Int)) (h : post (some (.int (rO y g.toNatClampNeg m))) (E x y)) : PW (0, 0, 0, z) m_M_roomOf post 0 [some (.ref 70), some (.int g), some (.int m)] [] (E x y) := by
  refine PW_iload_n c_M_roomOf_0 rfl ?_
  refine PW_aload_n c_M_roomOf_1 rfl ?_
  refine PW_get (v := .ref 73) c_M_roomOf_2 fl_M_16 (gf_70_4 _ _) ?_
  refine PW_iload_n c_M_roomOf_5 rfl ?_
  refine PW_iald (j := g.toNatClampNeg) c_M_roomOf_6 (ar_73 _ _) (vp_in_iff.mpr hg) rfl ?_
  show PW _ _ _ 7 [some (.ref 70), some (.int g), some (.int m)] [.int ((y.2.1 73) g.toNatClampNeg), .int m] (E x y)
  refine PW_icmp_ge c_M_roomOf_7 (fun h0 => ?_) (fun h0 => ?_)
  · refine PW_aload_n c_M_roomOf_19 rfl ?_
    refine PW_get (v := .ref 72) c_M_roomOf_20 fl_M_13 (gf_70_3 _ _) ?_
    refine PW_iload_n c_M_roomOf_23 rfl ?_
    refine PW_iald (j := g.toNatClampNeg) c_M_roomOf_24 (ar_72 _ _) (vp_in_iff.mpr hg) rfl ?_
    show PW _ _ _ 25 [some (.ref 70), some (.int g), some (.int m)] [.int ((y.2.1 72) g.toNatClampNeg)] (E x y)
    refine PW_ireturn (ty := .int) c_M_roomOf_25 rfl rfl ?_
    exact pqi h (if_neg (Int32.not_lt.mpr h0))
  · refine PW_aload_n c_M_roomOf_10 rfl ?_
    refine PW_get (v := .ref 71) c_M_roomOf_11 fl_M_7 (gf_70_2 _ _) ?_
    refine PW_iload_n c_M_roomOf_14 rfl ?_
    refine PW_iald (j := g.toNatClampNeg) c_M_roomOf_15 (ar_71 _ _) (vp_in_iff.mpr hg) rfl ?_
    show PW _ _ _ 16 [some (.ref 70), some (.int g), some (.int m)] [.int ((y.2.1 71) g.toNatClampNeg)] (E x y)
    refine PW_goto c_M_roomOf_16 ?_
    refine PW_ireturn (ty := .int) c_M_roomOf_25 rfl rfl ?_
    exact pqi h (if_pos (Int32.not_le.mp h0))
theorem lp_M_thereIn {z : ZS} {post : Option Value → List PE → Prop} {x y : XS} {r m : Int32}  (hW : WG y) (hn : nG y ≤ 10) (h : post (some (.int (thI y r m))) (E x y)) : ∀ (j k : Nat), k + j = nG y → PW (1, 0, 0, z) m_M_thereIn post 5 [some (.ref 70), some (.int r), some (.int m), some (.int (bitsT (fun g => rO y g m == r) k)), some (.int (nI k))] [] (E x y) := by
  intro j
  induction j with
  | zero =>
    intro k hk
    refine PW_iload c_M_thereIn_5 rfl ?_
    refine PW_aload_n c_M_thereIn_7 rfl ?_
    refine PW_get (v := .int (y.1 561)) c_M_thereIn_8 fl_M_128 (gf_70_1 _ _) ?_
    refine PW_icmp_ge c_M_thereIn_11 (fun h0 => ?_) (fun h0 => absurd ((ge_t hW.1 (by omega) (by omega)).mpr (by omega)) h0)
    refine PW_iload_n c_M_thereIn_38 rfl ?_
    refine PW_ireturn (ty := .int) c_M_thereIn_39 rfl rfl ?_
    exact pqi h (by rw [thI, show k = nG y by omega])
  | succ j ih =>
    intro k hk
    refine PW_iload c_M_thereIn_5 rfl ?_
    refine PW_aload_n c_M_thereIn_7 rfl ?_
    refine PW_get (v := .int (y.1 561)) c_M_thereIn_8 fl_M_128 (gf_70_1 _ _) ?_
    refine PW_icmp_ge c_M_thereIn_11 (fun h0 => absurd h0 (fun q => absurd ((ge_t hW.1 (by omega) (by omega)).mp q) (by omega))) (fun h0 => ?_)
    refine PW_aload_n c_M_thereIn_14 rfl ?_
    refine PW_iload c_M_thereIn_15 rfl ?_
    refine PW_iload_n c_M_thereIn_17 rfl ?_
    refine PW_V0 (d2 := 0) (st := []) [.int (nI k), .int m] c_M_thereIn_18 lk_M_thereIn_176 (po_70 _ _) rfl rfl rfl (Nat.le_of_ble_eq_true rfl) (by first | decide | omega) (Nat.le_of_ble_eq_true rfl) ?_
    refine sp_M_roomOf (by rw [nI_toInt (by omega)]; omega) ?_
    show PW _ _ _ 21 [some (.ref 70), some (.int r), some (.int m), some (.int (bitsT (fun g => rO y g m == r) k)), some (.int (nI k))] [.int (rO y (nI k).toNatClampNeg m)] (E x y)
    refine PW_iload_n c_M_thereIn_21 rfl ?_
    refine PW_icmp_ne c_M_thereIn_22 (fun h1 => ?_) (fun h1 => ?_)
    · refine PW_iinc (i := 4) (v := (nI k) + 1) (L2 := [some (.ref 70), some (.int r), some (.int m), some (.int (bitsT (fun g => rO y g m == r) k)), some (.int ((nI k) + 1))]) c_M_thereIn_32 rfl (iinc_v (by decide)) (Nat.le_of_ble_eq_true rfl) rfl rfl ?_
      refine PW_goto c_M_thereIn_35 ?_
      refine PW.eqL ?_ rfl rfl (ih (k + 1) (by omega))
      show ([some (.ref 70), some (.int r), some (.int m), some (.int (bitsT (fun g => rO y g m == r) k)), some (.int ((nI k) + 1))] : List (Option Value)) = [some (.ref 70), some (.int r), some (.int m), some (.int (bitsT (fun g => rO y g m == r) (k + 1))), some (.int (nI (k + 1)))]
      rw [nI_1, bitsT, if_neg (by rw [nI_clamp (by omega)] at h1; simpa using h1)]
    · refine PW_iload_n c_M_thereIn_25 rfl ?_
      refine PW_iconst (v := 1) c_M_thereIn_26 (by decide) ?_
      refine PW_iload c_M_thereIn_27 rfl ?_
      refine PW_ishl c_M_thereIn_29 ?_
      refine PW_ior c_M_thereIn_30 ?_
      refine PW_istore_n (i := 3) (L2 := [some (.ref 70), some (.int r), some (.int m), some (.int ((bitsT (fun g => rO y g m == r) k) ||| (1 <<< ((nI k) &&& 31)))), some (.int (nI k))]) c_M_thereIn_31 rfl (Nat.le_of_ble_eq_true rfl) rfl rfl ?_
      refine PW_iinc (i := 4) (v := (nI k) + 1) (L2 := [some (.ref 70), some (.int r), some (.int m), some (.int ((bitsT (fun g => rO y g m == r) k) ||| (1 <<< ((nI k) &&& 31)))), some (.int ((nI k) + 1))]) c_M_thereIn_32 rfl (iinc_v (by decide)) (Nat.le_of_ble_eq_true rfl) rfl rfl ?_
      refine PW_goto c_M_thereIn_35 ?_
      refine PW.eqL ?_ rfl rfl (ih (k + 1) (by omega))
      show ([some (.ref 70), some (.int r), some (.int m), some (.int ((bitsT (fun g => rO y g m == r) k) ||| (1 <<< ((nI k) &&& 31)))), some (.int ((nI k) + 1))] : List (Option Value)) = [some (.ref 70), some (.int r), some (.int m), some (.int (bitsT (fun g => rO y g m == r) (k + 1))), some (.int (nI (k + 1)))]
      rw [nI_1, bitsT, if_pos (by rw [nI_clamp (by omega)] at h1; simpa using h1)]
theorem sp_M_thereIn {z : ZS} {post : Option Value → List PE → Prop} {x y : XS}  {r m : Int32} (hW : WG y) (h : post (some (.int (thI y r m))) (E x y)) : PW (1, 0, 0, z) m_M_thereIn post 0 [some (.ref 70), some (.int r), some (.int m), none, none] [] (E x y) := by
  refine PW_iconst (v := 0) c_M_thereIn_0 (by decide) ?_
  refine PW_istore_n (i := 3) (L2 := [some (.ref 70), some (.int r), some (.int m), some (.int 0), none]) c_M_thereIn_1 rfl (Nat.le_of_ble_eq_true rfl) rfl rfl ?_
  refine PW_iconst (v := 0) c_M_thereIn_2 (by decide) ?_
  refine PW_istore (i := 4) (L2 := [some (.ref 70), some (.int r), some (.int m), some (.int 0), some (.int 0)]) c_M_thereIn_3 (Nat.le_of_ble_eq_true rfl) rfl rfl ?_
  exact lp_M_thereIn hW hW.2 h (nG y) 0 (Nat.zero_add _)
theorem lp_M_allMust {z : ZS} {post : Option Value → List PE → Prop} {x y : XS}  (hW : WG y) (hn : nG y ≤ 10) (h : post (some (.int (mustB y))) (E x y)) : ∀ (j k : Nat), k + j = nG y → PW (0, 0, 0, z) m_M_allMust post 4 [some (.ref 70), some (.int (orS (y.2.1 75) k)), some (.int (nI k))] [] (E x y) := by
  intro j
  induction j with
  | zero =>
    intro k hk
    refine PW_iload_n c_M_allMust_4 rfl ?_
    refine PW_aload_n c_M_allMust_5 rfl ?_
    refine PW_get (v := .int (y.1 561)) c_M_allMust_6 fl_M_128 (gf_70_1 _ _) ?_
    refine PW_icmp_ge c_M_allMust_9 (fun h0 => ?_) (fun h0 => absurd ((ge_t hW.1 (by omega) (by omega)).mpr (by omega)) h0)
    refine PW_iload_n c_M_allMust_29 rfl ?_
    refine PW_ireturn (ty := .int) c_M_allMust_30 rfl rfl ?_
    exact pqi h (by rw [mustB, show k = nG y by omega])
  | succ j ih =>
    intro k hk
    refine PW_iload_n c_M_allMust_4 rfl ?_
    refine PW_aload_n c_M_allMust_5 rfl ?_
    refine PW_get (v := .int (y.1 561)) c_M_allMust_6 fl_M_128 (gf_70_1 _ _) ?_
    refine PW_icmp_ge c_M_allMust_9 (fun h0 => absurd h0 (fun q => absurd ((ge_t hW.1 (by omega) (by omega)).mp q) (by omega))) (fun h0 => ?_)
    refine PW_iload_n c_M_allMust_12 rfl ?_
    refine PW_aload_n c_M_allMust_13 rfl ?_
    refine PW_get (v := .ref 75) c_M_allMust_14 fl_M_22 (gf_70_6 _ _) ?_
    refine PW_iload_n c_M_allMust_17 rfl ?_
    refine PW_iald (j := k) c_M_allMust_18 (ar_75 _ _) (vp_in_nI (by omega) (by decide)) (nI_clamp (by omega)) ?_
    show PW _ _ _ 19 [some (.ref 70), some (.int (orS (y.2.1 75) k)), some (.int (nI k))] [.int ((y.2.1 75) k), .int (orS (y.2.1 75) k)] (E x y)
    refine PW_iload_n c_M_allMust_19 rfl ?_
    refine PW_ishl c_M_allMust_20 ?_
    refine PW_ior c_M_allMust_21 ?_
    refine PW_istore_n (i := 1) (L2 := [some (.ref 70), some (.int ((orS (y.2.1 75) k) ||| (((y.2.1 75) k) <<< ((nI k) &&& 31)))), some (.int (nI k))]) c_M_allMust_22 rfl (Nat.le_of_ble_eq_true rfl) rfl rfl ?_
    refine PW_iinc (i := 2) (v := (nI k) + 1) (L2 := [some (.ref 70), some (.int ((orS (y.2.1 75) k) ||| (((y.2.1 75) k) <<< ((nI k) &&& 31)))), some (.int ((nI k) + 1))]) c_M_allMust_23 rfl (iinc_v (by decide)) (Nat.le_of_ble_eq_true rfl) rfl rfl ?_
    refine PW_goto c_M_allMust_26 ?_
    refine PW.eqL ?_ rfl rfl (ih (k + 1) (by omega))
    show ([some (.ref 70), some (.int ((orS (y.2.1 75) k) ||| (((y.2.1 75) k) <<< ((nI k) &&& 31)))), some (.int ((nI k) + 1))] : List (Option Value)) = [some (.ref 70), some (.int (orS (y.2.1 75) (k + 1))), some (.int (nI (k + 1)))]
    rw [nI_1, orS]
theorem sp_M_allMust {z : ZS} {post : Option Value → List PE → Prop} {x y : XS}  (hW : WG y) (h : post (some (.int (mustB y))) (E x y)) : PW (0, 0, 0, z) m_M_allMust post 0 [some (.ref 70), none, none] [] (E x y) := by
  refine PW_iconst (v := 0) c_M_allMust_0 (by decide) ?_
  refine PW_istore_n (i := 1) (L2 := [some (.ref 70), some (.int 0), none]) c_M_allMust_1 rfl (Nat.le_of_ble_eq_true rfl) rfl rfl ?_
  refine PW_iconst (v := 0) c_M_allMust_2 (by decide) ?_
  refine PW_istore_n (i := 2) (L2 := [some (.ref 70), some (.int 0), some (.int 0)]) c_M_allMust_3 rfl (Nat.le_of_ble_eq_true rfl) rfl rfl ?_
  exact lp_M_allMust hW hW.2 h (nG y) 0 (Nat.zero_add _)
theorem lp_M_hosts {z : ZS} {post : Option Value → List PE → Prop} {x y : XS}  (hW : WG y) (hn : nG y ≤ 10) (h : post (some (.int (hostB y))) (E x y)) : ∀ (j k : Nat), k + j = nG y → PW (0, 0, 0, z) m_M_hosts post 4 [some (.ref 70), some (.int (orS (y.2.1 76) k)), some (.int (nI k))] [] (E x y) := by
  intro j
  induction j with
  | zero =>
    intro k hk
    refine PW_iload_n c_M_hosts_4 rfl ?_
    refine PW_aload_n c_M_hosts_5 rfl ?_
    refine PW_get (v := .int (y.1 561)) c_M_hosts_6 fl_M_128 (gf_70_1 _ _) ?_
    refine PW_icmp_ge c_M_hosts_9 (fun h0 => ?_) (fun h0 => absurd ((ge_t hW.1 (by omega) (by omega)).mpr (by omega)) h0)
    refine PW_iload_n c_M_hosts_29 rfl ?_
    refine PW_ireturn (ty := .int) c_M_hosts_30 rfl rfl ?_
    exact pqi h (by rw [hostB, show k = nG y by omega])
  | succ j ih =>
    intro k hk
    refine PW_iload_n c_M_hosts_4 rfl ?_
    refine PW_aload_n c_M_hosts_5 rfl ?_
    refine PW_get (v := .int (y.1 561)) c_M_hosts_6 fl_M_128 (gf_70_1 _ _) ?_
    refine PW_icmp_ge c_M_hosts_9 (fun h0 => absurd h0 (fun q => absurd ((ge_t hW.1 (by omega) (by omega)).mp q) (by omega))) (fun h0 => ?_)
    refine PW_iload_n c_M_hosts_12 rfl ?_
    refine PW_aload_n c_M_hosts_13 rfl ?_
    refine PW_get (v := .ref 76) c_M_hosts_14 fl_M_25 (gf_70_7 _ _) ?_
    refine PW_iload_n c_M_hosts_17 rfl ?_
    refine PW_iald (j := k) c_M_hosts_18 (ar_76 _ _) (vp_in_nI (by omega) (by decide)) (nI_clamp (by omega)) ?_
    show PW _ _ _ 19 [some (.ref 70), some (.int (orS (y.2.1 76) k)), some (.int (nI k))] [.int ((y.2.1 76) k), .int (orS (y.2.1 76) k)] (E x y)
    refine PW_iload_n c_M_hosts_19 rfl ?_
    refine PW_ishl c_M_hosts_20 ?_
    refine PW_ior c_M_hosts_21 ?_
    refine PW_istore_n (i := 1) (L2 := [some (.ref 70), some (.int ((orS (y.2.1 76) k) ||| (((y.2.1 76) k) <<< ((nI k) &&& 31)))), some (.int (nI k))]) c_M_hosts_22 rfl (Nat.le_of_ble_eq_true rfl) rfl rfl ?_
    refine PW_iinc (i := 2) (v := (nI k) + 1) (L2 := [some (.ref 70), some (.int ((orS (y.2.1 76) k) ||| (((y.2.1 76) k) <<< ((nI k) &&& 31)))), some (.int ((nI k) + 1))]) c_M_hosts_23 rfl (iinc_v (by decide)) (Nat.le_of_ble_eq_true rfl) rfl rfl ?_
    refine PW_goto c_M_hosts_26 ?_
    refine PW.eqL ?_ rfl rfl (ih (k + 1) (by omega))
    show ([some (.ref 70), some (.int ((orS (y.2.1 76) k) ||| (((y.2.1 76) k) <<< ((nI k) &&& 31)))), some (.int ((nI k) + 1))] : List (Option Value)) = [some (.ref 70), some (.int (orS (y.2.1 76) (k + 1))), some (.int (nI (k + 1)))]
    rw [nI_1, orS]
theorem sp_M_hosts {z : ZS} {post : Option Value → List PE → Prop} {x y : XS}  (hW : WG y) (h : post (some (.int (hostB y))) (E x y)) : PW (0, 0, 0, z) m_M_hosts post 0 [some (.ref 70), none, none] [] (E x y) := by
  refine PW_iconst (v := 0) c_M_hosts_0 (by decide) ?_
  refine PW_istore_n (i := 1) (L2 := [some (.ref 70), some (.int 0), none]) c_M_hosts_1 rfl (Nat.le_of_ble_eq_true rfl) rfl rfl ?_
  refine PW_iconst (v := 0) c_M_hosts_2 (by decide) ?_
  refine PW_istore_n (i := 2) (L2 := [some (.ref 70), some (.int 0), some (.int 0)]) c_M_hosts_3 rfl (Nat.le_of_ble_eq_true rfl) rfl rfl ?_
  exact lp_M_hosts hW hW.2 h (nG y) 0 (Nat.zero_add _)
