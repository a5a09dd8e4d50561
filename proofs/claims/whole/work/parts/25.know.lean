/-! who knows -/
def kwB (y : XS) (kn m : Int32) (g : Nat) : Bool := (decide (0 < g) && bt kn (g - 1) && (rO y g m == rO y (g - 1) m)) || (decide (g + 1 < nG y) && bt kn (g + 1) && (rO y g m == rO y (g + 1) m))
def kwF (y : XS) (kn m : Int32) : Int32 := kn ||| bitsT (kwB y kn m) (nG y)
theorem S10_kwF {y : XS} {kn m : Int32} (hW : WG y) (h : S10 kn) : S10 (kwF y kn m) := S10_or h (S10_bitsT _ hW.2)
theorem prd {k : Nat} (h : 0 < k) : nI k - 1 = nI (k - 1) := by
  obtain ⟨j, rfl⟩ : ∃ j, k = j + 1 := ⟨k - 1, by omega⟩
  exact pr1 j
theorem or3 (a b c : Int32) : a ||| b ||| c ||| c = a ||| (b ||| c) := bt_ext fun i hi => by
  simp only [bt_or]
  cases bt a i <;> cases bt b i <;> cases bt c i <;> rfl
theorem or2 (a b c : Int32) : a ||| b ||| c = a ||| (b ||| c) := bt_ext fun i hi => by
  simp only [bt_or]
  cases bt a i <;> cases bt b i <;> cases bt c i <;> rfl
set_option maxHeartbeats 4000000 in
theorem lp_M_knowThen {z : ZS} {post : Option Value → List PE → Prop} {x y : XS} {kn m : Int32} (hW : WG y) (hn : nG y ≤ 10) (hS : S10 kn) (h : post (some (.int (kwF y kn m))) (E x y)) : ∀ j k : Nat, k + j = nG y → PW (1, 0, 0, z) m_M_knowThen post 5 [some (.ref 70), some (.int kn), some (.int m), some (.int (kn ||| bitsT (kwB y kn m) k)), some (.int (nI k))] [] (E x y) := by
  intro j
  induction j with
  | zero =>
    intro k hk
    refine PW_iload c_M_knowThen_5 rfl ?_
    refine PW_aload_n c_M_knowThen_7 rfl ?_
    refine PW_get (v := .int (y.1 561)) c_M_knowThen_8 fl_M_128 (gf_70_1 _ _) ?_
    refine PW_icmp_ge c_M_knowThen_11 (fun h0 => ?_) (fun h0 => absurd ((ge_t2 hW.1 (by omega) (by omega)).mpr (by omega)) h0)
    refine PW_iload_n c_M_knowThen_112 rfl ?_
    refine PW_ireturn (ty := .int) c_M_knowThen_113 rfl rfl ?_
    exact pqi h (by rw [kwF, show k = nG y by omega])
  | succ j ih =>
    intro k hk
    by_cases hA0 : 0 < k
    · by_cases hA1 : bt kn (k - 1) = true
      · by_cases hA2 : rO y k m = rO y (k - 1) m
        · skip
          by_cases hB0 : k + 1 < nG y
          · by_cases hB1 : bt kn (k + 1) = true
            · by_cases hB2 : rO y k m = rO y (k + 1) m
              · skip
                refine PW_iload c_M_knowThen_5 rfl ?_
                refine PW_aload_n c_M_knowThen_7 rfl ?_
                refine PW_get (v := .int (y.1 561)) c_M_knowThen_8 fl_M_128 (gf_70_1 _ _) ?_
                refine PW_icmp_ge c_M_knowThen_11 (fun h0 => absurd h0 (fun q => absurd ((ge_t2 hW.1 (by omega) (by omega)).mp q) (by omega))) (fun h0 => ?_)
                refine PW_iload c_M_knowThen_14 rfl ?_
                refine PW_if_le c_M_knowThen_16 (fun h1 => absurd h1 (fun q => absurd ((nI_leI (by omega) (by decide)).mp (show nI k ≤ nI 0 from q)) (by omega))) (fun h1 => ?_)
                refine PW_iload_n c_M_knowThen_19 rfl ?_
                refine PW_iload c_M_knowThen_20 rfl ?_
                refine PW_iconst (v := 1) c_M_knowThen_22 (by decide) ?_
                refine PW_isub c_M_knowThen_23 ?_
                refine PW_ishr c_M_knowThen_24 ?_
                refine PW_iconst (v := 1) c_M_knowThen_25 (by decide) ?_
                refine PW_iand c_M_knowThen_26 ?_
                refine PW_iconst (v := 1) c_M_knowThen_27 (by decide) ?_
                refine PW_icmp_ne c_M_knowThen_28 (fun h2 => absurd h2 (not_not_intro (by rw [prd hA0, bt_at hS (by omega)]; exact hA1))) (fun h2 => ?_)
                refine PW_aload_n c_M_knowThen_31 rfl ?_
                refine PW_iload c_M_knowThen_32 rfl ?_
                refine PW_iload_n c_M_knowThen_34 rfl ?_
                refine PW_V0 (d2 := 0) (st := []) [.int (nI k), .int m] c_M_knowThen_35 lk_M_knowThen_176 (po_70 _ _) rfl rfl rfl (Nat.le_of_ble_eq_true rfl) (by first | decide | omega) (Nat.le_of_ble_eq_true rfl) ?_
                refine sp_M_roomOf (by rw [nI_toInt (by omega)]; omega) ?_
                show PW _ _ _ 38 [some (.ref 70), some (.int kn), some (.int m), some (.int (kn ||| bitsT (kwB y kn m) k)), some (.int (nI k))] [.int (rO y (nI k).toNatClampNeg m)] (E x y)
                refine PW_aload_n c_M_knowThen_38 rfl ?_
                refine PW_iload c_M_knowThen_39 rfl ?_
                refine PW_iconst (v := 1) c_M_knowThen_41 (by decide) ?_
                refine PW_isub c_M_knowThen_42 ?_
                refine PW_iload_n c_M_knowThen_43 rfl ?_
                refine PW_V0 (d2 := 0) (st := [.int (rO y (nI k).toNatClampNeg m)]) [.int ((nI k) - 1), .int m] c_M_knowThen_44 lk_M_knowThen_176 (po_70 _ _) rfl rfl rfl (Nat.le_of_ble_eq_true rfl) (by first | decide | omega) (Nat.le_of_ble_eq_true rfl) ?_
                refine sp_M_roomOf (by rw [prd hA0, nI_toInt (by omega)]; omega) ?_
                show PW _ _ _ 47 [some (.ref 70), some (.int kn), some (.int m), some (.int (kn ||| bitsT (kwB y kn m) k)), some (.int (nI k))] [.int (rO y ((nI k) - 1).toNatClampNeg m), .int (rO y (nI k).toNatClampNeg m)] (E x y)
                refine PW_icmp_ne c_M_knowThen_47 (fun h3 => absurd h3 (not_not_intro (by rw [prd hA0, nI_clamp (by omega), nI_clamp (by omega)]; exact hA2))) (fun h3 => ?_)
                refine PW_iload_n c_M_knowThen_50 rfl ?_
                refine PW_iconst (v := 1) c_M_knowThen_51 (by decide) ?_
                refine PW_iload c_M_knowThen_52 rfl ?_
                refine PW_ishl c_M_knowThen_54 ?_
                refine PW_ior c_M_knowThen_55 ?_
                refine PW_istore_n (i := 3) (L2 := [some (.ref 70), some (.int kn), some (.int m), some (.int ((kn ||| bitsT (kwB y kn m) k) ||| (1 <<< ((nI k) &&& 31)))), some (.int (nI k))]) c_M_knowThen_56 rfl (Nat.le_of_ble_eq_true rfl) rfl rfl ?_
                refine PW_iload c_M_knowThen_57 rfl ?_
                refine PW_iconst (v := 1) c_M_knowThen_59 (by decide) ?_
                refine PW_iadd c_M_knowThen_60 ?_
                refine PW_aload_n c_M_knowThen_61 rfl ?_
                refine PW_get (v := .int (y.1 561)) c_M_knowThen_62 fl_M_128 (gf_70_1 _ _) ?_
                refine PW_icmp_ge c_M_knowThen_65 (fun h4 => absurd h4 (by rw [nI_1]; exact fun q => absurd ((ge_t2 hW.1 (by omega) (by omega)).mp q) (by omega))) (fun h4 => ?_)
                refine PW_iload_n c_M_knowThen_68 rfl ?_
                refine PW_iload c_M_knowThen_69 rfl ?_
                refine PW_iconst (v := 1) c_M_knowThen_71 (by decide) ?_
                refine PW_iadd c_M_knowThen_72 ?_
                refine PW_ishr c_M_knowThen_73 ?_
                refine PW_iconst (v := 1) c_M_knowThen_74 (by decide) ?_
                refine PW_iand c_M_knowThen_75 ?_
                refine PW_iconst (v := 1) c_M_knowThen_76 (by decide) ?_
                refine PW_icmp_ne c_M_knowThen_77 (fun h5 => absurd h5 (not_not_intro (by rw [nI_1, bt_at hS (by omega)]; exact hB1))) (fun h5 => ?_)
                refine PW_aload_n c_M_knowThen_80 rfl ?_
                refine PW_iload c_M_knowThen_81 rfl ?_
                refine PW_iload_n c_M_knowThen_83 rfl ?_
                refine PW_V0 (d2 := 0) (st := []) [.int (nI k), .int m] c_M_knowThen_84 lk_M_knowThen_176 (po_70 _ _) rfl rfl rfl (Nat.le_of_ble_eq_true rfl) (by first | decide | omega) (Nat.le_of_ble_eq_true rfl) ?_
                refine sp_M_roomOf (by rw [nI_toInt (by omega)]; omega) ?_
                show PW _ _ _ 87 [some (.ref 70), some (.int kn), some (.int m), some (.int ((kn ||| bitsT (kwB y kn m) k) ||| (1 <<< ((nI k) &&& 31)))), some (.int (nI k))] [.int (rO y (nI k).toNatClampNeg m)] (E x y)
                refine PW_aload_n c_M_knowThen_87 rfl ?_
                refine PW_iload c_M_knowThen_88 rfl ?_
                refine PW_iconst (v := 1) c_M_knowThen_90 (by decide) ?_
                refine PW_iadd c_M_knowThen_91 ?_
                refine PW_iload_n c_M_knowThen_92 rfl ?_
                refine PW_V0 (d2 := 0) (st := [.int (rO y (nI k).toNatClampNeg m)]) [.int ((nI k) + 1), .int m] c_M_knowThen_93 lk_M_knowThen_176 (po_70 _ _) rfl rfl rfl (Nat.le_of_ble_eq_true rfl) (by first | decide | omega) (Nat.le_of_ble_eq_true rfl) ?_
                refine sp_M_roomOf (by rw [nI_1, nI_toInt (by omega)]; omega) ?_
                show PW _ _ _ 96 [some (.ref 70), some (.int kn), some (.int m), some (.int ((kn ||| bitsT (kwB y kn m) k) ||| (1 <<< ((nI k) &&& 31)))), some (.int (nI k))] [.int (rO y ((nI k) + 1).toNatClampNeg m), .int (rO y (nI k).toNatClampNeg m)] (E x y)
                refine PW_icmp_ne c_M_knowThen_96 (fun h6 => absurd h6 (not_not_intro (by rw [nI_1, nI_clamp (by omega), nI_clamp (by omega)]; exact hB2))) (fun h6 => ?_)
                refine PW_iload_n c_M_knowThen_99 rfl ?_
                refine PW_iconst (v := 1) c_M_knowThen_100 (by decide) ?_
                refine PW_iload c_M_knowThen_101 rfl ?_
                refine PW_ishl c_M_knowThen_103 ?_
                refine PW_ior c_M_knowThen_104 ?_
                refine PW_istore_n (i := 3) (L2 := [some (.ref 70), some (.int kn), some (.int m), some (.int (((kn ||| bitsT (kwB y kn m) k) ||| (1 <<< ((nI k) &&& 31))) ||| (1 <<< ((nI k) &&& 31)))), some (.int (nI k))]) c_M_knowThen_105 rfl (Nat.le_of_ble_eq_true rfl) rfl rfl ?_
                refine PW_iinc (i := 4) (v := (nI k) + 1) (L2 := [some (.ref 70), some (.int kn), some (.int m), some (.int (((kn ||| bitsT (kwB y kn m) k) ||| (1 <<< ((nI k) &&& 31))) ||| (1 <<< ((nI k) &&& 31)))), some (.int ((nI k) + 1))]) c_M_knowThen_106 rfl (iinc_v (by decide)) (Nat.le_of_ble_eq_true rfl) rfl rfl ?_
                refine PW_goto c_M_knowThen_109 ?_
                have hq : kwB y kn m k = true := by simp [kwB, hA0, hA1, hA2, hB0, hB1, hB2]
                refine PW.eqL ?_ rfl rfl (ih (k + 1) (by omega))
                show ([some (.ref 70), some (.int kn), some (.int m), some (.int (((kn ||| bitsT (kwB y kn m) k) ||| (1 <<< ((nI k) &&& 31))) ||| (1 <<< ((nI k) &&& 31)))), some (.int ((nI k) + 1))] : List (Option Value)) = [some (.ref 70), some (.int kn), some (.int m), some (.int (kn ||| bitsT (kwB y kn m) (k + 1))), some (.int (nI (k + 1)))]
                rw [nI_1, bitsT, if_pos hq, or3]
              · skip
                refine PW_iload c_M_knowThen_5 rfl ?_
                refine PW_aload_n c_M_knowThen_7 rfl ?_
                refine PW_get (v := .int (y.1 561)) c_M_knowThen_8 fl_M_128 (gf_70_1 _ _) ?_
                refine PW_icmp_ge c_M_knowThen_11 (fun h0 => absurd h0 (fun q => absurd ((ge_t2 hW.1 (by omega) (by omega)).mp q) (by omega))) (fun h0 => ?_)
                refine PW_iload c_M_knowThen_14 rfl ?_
                refine PW_if_le c_M_knowThen_16 (fun h1 => absurd h1 (fun q => absurd ((nI_leI (by omega) (by decide)).mp (show nI k ≤ nI 0 from q)) (by omega))) (fun h1 => ?_)
                refine PW_iload_n c_M_knowThen_19 rfl ?_
                refine PW_iload c_M_knowThen_20 rfl ?_
                refine PW_iconst (v := 1) c_M_knowThen_22 (by decide) ?_
                refine PW_isub c_M_knowThen_23 ?_
                refine PW_ishr c_M_knowThen_24 ?_
                refine PW_iconst (v := 1) c_M_knowThen_25 (by decide) ?_
                refine PW_iand c_M_knowThen_26 ?_
                refine PW_iconst (v := 1) c_M_knowThen_27 (by decide) ?_
                refine PW_icmp_ne c_M_knowThen_28 (fun h2 => absurd h2 (not_not_intro (by rw [prd hA0, bt_at hS (by omega)]; exact hA1))) (fun h2 => ?_)
                refine PW_aload_n c_M_knowThen_31 rfl ?_
                refine PW_iload c_M_knowThen_32 rfl ?_
                refine PW_iload_n c_M_knowThen_34 rfl ?_
                refine PW_V0 (d2 := 0) (st := []) [.int (nI k), .int m] c_M_knowThen_35 lk_M_knowThen_176 (po_70 _ _) rfl rfl rfl (Nat.le_of_ble_eq_true rfl) (by first | decide | omega) (Nat.le_of_ble_eq_true rfl) ?_
                refine sp_M_roomOf (by rw [nI_toInt (by omega)]; omega) ?_
                show PW _ _ _ 38 [some (.ref 70), some (.int kn), some (.int m), some (.int (kn ||| bitsT (kwB y kn m) k)), some (.int (nI k))] [.int (rO y (nI k).toNatClampNeg m)] (E x y)
                refine PW_aload_n c_M_knowThen_38 rfl ?_
                refine PW_iload c_M_knowThen_39 rfl ?_
                refine PW_iconst (v := 1) c_M_knowThen_41 (by decide) ?_
                refine PW_isub c_M_knowThen_42 ?_
                refine PW_iload_n c_M_knowThen_43 rfl ?_
                refine PW_V0 (d2 := 0) (st := [.int (rO y (nI k).toNatClampNeg m)]) [.int ((nI k) - 1), .int m] c_M_knowThen_44 lk_M_knowThen_176 (po_70 _ _) rfl rfl rfl (Nat.le_of_ble_eq_true rfl) (by first | decide | omega) (Nat.le_of_ble_eq_true rfl) ?_
                refine sp_M_roomOf (by rw [prd hA0, nI_toInt (by omega)]; omega) ?_
                show PW _ _ _ 47 [some (.ref 70), some (.int kn), some (.int m), some (.int (kn ||| bitsT (kwB y kn m) k)), some (.int (nI k))] [.int (rO y ((nI k) - 1).toNatClampNeg m), .int (rO y (nI k).toNatClampNeg m)] (E x y)
                refine PW_icmp_ne c_M_knowThen_47 (fun h3 => absurd h3 (not_not_intro (by rw [prd hA0, nI_clamp (by omega), nI_clamp (by omega)]; exact hA2))) (fun h3 => ?_)
                refine PW_iload_n c_M_knowThen_50 rfl ?_
                refine PW_iconst (v := 1) c_M_knowThen_51 (by decide) ?_
                refine PW_iload c_M_knowThen_52 rfl ?_
                refine PW_ishl c_M_knowThen_54 ?_
                refine PW_ior c_M_knowThen_55 ?_
                refine PW_istore_n (i := 3) (L2 := [some (.ref 70), some (.int kn), some (.int m), some (.int ((kn ||| bitsT (kwB y kn m) k) ||| (1 <<< ((nI k) &&& 31)))), some (.int (nI k))]) c_M_knowThen_56 rfl (Nat.le_of_ble_eq_true rfl) rfl rfl ?_
                refine PW_iload c_M_knowThen_57 rfl ?_
                refine PW_iconst (v := 1) c_M_knowThen_59 (by decide) ?_
                refine PW_iadd c_M_knowThen_60 ?_
                refine PW_aload_n c_M_knowThen_61 rfl ?_
                refine PW_get (v := .int (y.1 561)) c_M_knowThen_62 fl_M_128 (gf_70_1 _ _) ?_
                refine PW_icmp_ge c_M_knowThen_65 (fun h4 => absurd h4 (by rw [nI_1]; exact fun q => absurd ((ge_t2 hW.1 (by omega) (by omega)).mp q) (by omega))) (fun h4 => ?_)
                refine PW_iload_n c_M_knowThen_68 rfl ?_
                refine PW_iload c_M_knowThen_69 rfl ?_
                refine PW_iconst (v := 1) c_M_knowThen_71 (by decide) ?_
                refine PW_iadd c_M_knowThen_72 ?_
                refine PW_ishr c_M_knowThen_73 ?_
                refine PW_iconst (v := 1) c_M_knowThen_74 (by decide) ?_
                refine PW_iand c_M_knowThen_75 ?_
                refine PW_iconst (v := 1) c_M_knowThen_76 (by decide) ?_
                refine PW_icmp_ne c_M_knowThen_77 (fun h5 => absurd h5 (not_not_intro (by rw [nI_1, bt_at hS (by omega)]; exact hB1))) (fun h5 => ?_)
                refine PW_aload_n c_M_knowThen_80 rfl ?_
                refine PW_iload c_M_knowThen_81 rfl ?_
                refine PW_iload_n c_M_knowThen_83 rfl ?_
                refine PW_V0 (d2 := 0) (st := []) [.int (nI k), .int m] c_M_knowThen_84 lk_M_knowThen_176 (po_70 _ _) rfl rfl rfl (Nat.le_of_ble_eq_true rfl) (by first | decide | omega) (Nat.le_of_ble_eq_true rfl) ?_
                refine sp_M_roomOf (by rw [nI_toInt (by omega)]; omega) ?_
                show PW _ _ _ 87 [some (.ref 70), some (.int kn), some (.int m), some (.int ((kn ||| bitsT (kwB y kn m) k) ||| (1 <<< ((nI k) &&& 31)))), some (.int (nI k))] [.int (rO y (nI k).toNatClampNeg m)] (E x y)
                refine PW_aload_n c_M_knowThen_87 rfl ?_
                refine PW_iload c_M_knowThen_88 rfl ?_
                refine PW_iconst (v := 1) c_M_knowThen_90 (by decide) ?_
                refine PW_iadd c_M_knowThen_91 ?_
                refine PW_iload_n c_M_knowThen_92 rfl ?_
                refine PW_V0 (d2 := 0) (st := [.int (rO y (nI k).toNatClampNeg m)]) [.int ((nI k) + 1), .int m] c_M_knowThen_93 lk_M_knowThen_176 (po_70 _ _) rfl rfl rfl (Nat.le_of_ble_eq_true rfl) (by first | decide | omega) (Nat.le_of_ble_eq_true rfl) ?_
                refine sp_M_roomOf (by rw [nI_1, nI_toInt (by omega)]; omega) ?_
                show PW _ _ _ 96 [some (.ref 70), some (.int kn), some (.int m), some (.int ((kn ||| bitsT (kwB y kn m) k) ||| (1 <<< ((nI k) &&& 31)))), some (.int (nI k))] [.int (rO y ((nI k) + 1).toNatClampNeg m), .int (rO y (nI k).toNatClampNeg m)] (E x y)
                refine PW_icmp_ne c_M_knowThen_96 (fun h6 => ?_) (fun h6 => absurd h6 (by rw [nI_1, nI_clamp (by omega), nI_clamp (by omega)]; exact hB2))
                refine PW_iinc (i := 4) (v := (nI k) + 1) (L2 := [some (.ref 70), some (.int kn), some (.int m), some (.int ((kn ||| bitsT (kwB y kn m) k) ||| (1 <<< ((nI k) &&& 31)))), some (.int ((nI k) + 1))]) c_M_knowThen_106 rfl (iinc_v (by decide)) (Nat.le_of_ble_eq_true rfl) rfl rfl ?_
                refine PW_goto c_M_knowThen_109 ?_
                have hq : kwB y kn m k = true := by simp [kwB, hA0, hA1, hA2, hB0, hB1, hB2]
                refine PW.eqL ?_ rfl rfl (ih (k + 1) (by omega))
                show ([some (.ref 70), some (.int kn), some (.int m), some (.int ((kn ||| bitsT (kwB y kn m) k) ||| (1 <<< ((nI k) &&& 31)))), some (.int ((nI k) + 1))] : List (Option Value)) = [some (.ref 70), some (.int kn), some (.int m), some (.int (kn ||| bitsT (kwB y kn m) (k + 1))), some (.int (nI (k + 1)))]
                rw [nI_1, bitsT, if_pos hq, or2]
            · skip
              refine PW_iload c_M_knowThen_5 rfl ?_
              refine PW_aload_n c_M_knowThen_7 rfl ?_
              refine PW_get (v := .int (y.1 561)) c_M_knowThen_8 fl_M_128 (gf_70_1 _ _) ?_
              refine PW_icmp_ge c_M_knowThen_11 (fun h0 => absurd h0 (fun q => absurd ((ge_t2 hW.1 (by omega) (by omega)).mp q) (by omega))) (fun h0 => ?_)
              refine PW_iload c_M_knowThen_14 rfl ?_
              refine PW_if_le c_M_knowThen_16 (fun h1 => absurd h1 (fun q => absurd ((nI_leI (by omega) (by decide)).mp (show nI k ≤ nI 0 from q)) (by omega))) (fun h1 => ?_)
              refine PW_iload_n c_M_knowThen_19 rfl ?_
              refine PW_iload c_M_knowThen_20 rfl ?_
              refine PW_iconst (v := 1) c_M_knowThen_22 (by decide) ?_
              refine PW_isub c_M_knowThen_23 ?_
              refine PW_ishr c_M_knowThen_24 ?_
              refine PW_iconst (v := 1) c_M_knowThen_25 (by decide) ?_
              refine PW_iand c_M_knowThen_26 ?_
              refine PW_iconst (v := 1) c_M_knowThen_27 (by decide) ?_
              refine PW_icmp_ne c_M_knowThen_28 (fun h2 => absurd h2 (not_not_intro (by rw [prd hA0, bt_at hS (by omega)]; exact hA1))) (fun h2 => ?_)
              refine PW_aload_n c_M_knowThen_31 rfl ?_
              refine PW_iload c_M_knowThen_32 rfl ?_
              refine PW_iload_n c_M_knowThen_34 rfl ?_
              refine PW_V0 (d2 := 0) (st := []) [.int (nI k), .int m] c_M_knowThen_35 lk_M_knowThen_176 (po_70 _ _) rfl rfl rfl (Nat.le_of_ble_eq_true rfl) (by first | decide | omega) (Nat.le_of_ble_eq_true rfl) ?_
              refine sp_M_roomOf (by rw [nI_toInt (by omega)]; omega) ?_
              show PW _ _ _ 38 [some (.ref 70), some (.int kn), some (.int m), some (.int (kn ||| bitsT (kwB y kn m) k)), some (.int (nI k))] [.int (rO y (nI k).toNatClampNeg m)] (E x y)
              refine PW_aload_n c_M_knowThen_38 rfl ?_
              refine PW_iload c_M_knowThen_39 rfl ?_
              refine PW_iconst (v := 1) c_M_knowThen_41 (by decide) ?_
              refine PW_isub c_M_knowThen_42 ?_
              refine PW_iload_n c_M_knowThen_43 rfl ?_
              refine PW_V0 (d2 := 0) (st := [.int (rO y (nI k).toNatClampNeg m)]) [.int ((nI k) - 1), .int m] c_M_knowThen_44 lk_M_knowThen_176 (po_70 _ _) rfl rfl rfl (Nat.le_of_ble_eq_true rfl) (by first | decide | omega) (Nat.le_of_ble_eq_true rfl) ?_
              refine sp_M_roomOf (by rw [prd hA0, nI_toInt (by omega)]; omega) ?_
              show PW _ _ _ 47 [some (.ref 70), some (.int kn), some (.int m), some (.int (kn ||| bitsT (kwB y kn m) k)), some (.int (nI k))] [.int (rO y ((nI k) - 1).toNatClampNeg m), .int (rO y (nI k).toNatClampNeg m)] (E x y)
              refine PW_icmp_ne c_M_knowThen_47 (fun h3 => absurd h3 (not_not_intro (by rw [prd hA0, nI_clamp (by omega), nI_clamp (by omega)]; exact hA2))) (fun h3 => ?_)
              refine PW_iload_n c_M_knowThen_50 rfl ?_
              refine PW_iconst (v := 1) c_M_knowThen_51 (by decide) ?_
              refine PW_iload c_M_knowThen_52 rfl ?_
              refine PW_ishl c_M_knowThen_54 ?_
              refine PW_ior c_M_knowThen_55 ?_
              refine PW_istore_n (i := 3) (L2 := [some (.ref 70), some (.int kn), some (.int m), some (.int ((kn ||| bitsT (kwB y kn m) k) ||| (1 <<< ((nI k) &&& 31)))), some (.int (nI k))]) c_M_knowThen_56 rfl (Nat.le_of_ble_eq_true rfl) rfl rfl ?_
              refine PW_iload c_M_knowThen_57 rfl ?_
              refine PW_iconst (v := 1) c_M_knowThen_59 (by decide) ?_
              refine PW_iadd c_M_knowThen_60 ?_
              refine PW_aload_n c_M_knowThen_61 rfl ?_
              refine PW_get (v := .int (y.1 561)) c_M_knowThen_62 fl_M_128 (gf_70_1 _ _) ?_
              refine PW_icmp_ge c_M_knowThen_65 (fun h4 => absurd h4 (by rw [nI_1]; exact fun q => absurd ((ge_t2 hW.1 (by omega) (by omega)).mp q) (by omega))) (fun h4 => ?_)
              refine PW_iload_n c_M_knowThen_68 rfl ?_
              refine PW_iload c_M_knowThen_69 rfl ?_
              refine PW_iconst (v := 1) c_M_knowThen_71 (by decide) ?_
              refine PW_iadd c_M_knowThen_72 ?_
              refine PW_ishr c_M_knowThen_73 ?_
              refine PW_iconst (v := 1) c_M_knowThen_74 (by decide) ?_
              refine PW_iand c_M_knowThen_75 ?_
              refine PW_iconst (v := 1) c_M_knowThen_76 (by decide) ?_
              refine PW_icmp_ne c_M_knowThen_77 (fun h5 => ?_) (fun h5 => absurd h5 (by rw [nI_1, bt_at hS (by omega)]; exact hB1))
              refine PW_iinc (i := 4) (v := (nI k) + 1) (L2 := [some (.ref 70), some (.int kn), some (.int m), some (.int ((kn ||| bitsT (kwB y kn m) k) ||| (1 <<< ((nI k) &&& 31)))), some (.int ((nI k) + 1))]) c_M_knowThen_106 rfl (iinc_v (by decide)) (Nat.le_of_ble_eq_true rfl) rfl rfl ?_
              refine PW_goto c_M_knowThen_109 ?_
              have hq : kwB y kn m k = true := by simp [kwB, hA0, hA1, hA2, hB0, hB1]
              refine PW.eqL ?_ rfl rfl (ih (k + 1) (by omega))
              show ([some (.ref 70), some (.int kn), some (.int m), some (.int ((kn ||| bitsT (kwB y kn m) k) ||| (1 <<< ((nI k) &&& 31)))), some (.int ((nI k) + 1))] : List (Option Value)) = [some (.ref 70), some (.int kn), some (.int m), some (.int (kn ||| bitsT (kwB y kn m) (k + 1))), some (.int (nI (k + 1)))]
              rw [nI_1, bitsT, if_pos hq, or2]
          · skip
            refine PW_iload c_M_knowThen_5 rfl ?_
            refine PW_aload_n c_M_knowThen_7 rfl ?_
            refine PW_get (v := .int (y.1 561)) c_M_knowThen_8 fl_M_128 (gf_70_1 _ _) ?_
            refine PW_icmp_ge c_M_knowThen_11 (fun h0 => absurd h0 (fun q => absurd ((ge_t2 hW.1 (by omega) (by omega)).mp q) (by omega))) (fun h0 => ?_)
            refine PW_iload c_M_knowThen_14 rfl ?_
            refine PW_if_le c_M_knowThen_16 (fun h1 => absurd h1 (fun q => absurd ((nI_leI (by omega) (by decide)).mp (show nI k ≤ nI 0 from q)) (by omega))) (fun h1 => ?_)
            refine PW_iload_n c_M_knowThen_19 rfl ?_
            refine PW_iload c_M_knowThen_20 rfl ?_
            refine PW_iconst (v := 1) c_M_knowThen_22 (by decide) ?_
            refine PW_isub c_M_knowThen_23 ?_
            refine PW_ishr c_M_knowThen_24 ?_
            refine PW_iconst (v := 1) c_M_knowThen_25 (by decide) ?_
            refine PW_iand c_M_knowThen_26 ?_
            refine PW_iconst (v := 1) c_M_knowThen_27 (by decide) ?_
            refine PW_icmp_ne c_M_knowThen_28 (fun h2 => absurd h2 (not_not_intro (by rw [prd hA0, bt_at hS (by omega)]; exact hA1))) (fun h2 => ?_)
            refine PW_aload_n c_M_knowThen_31 rfl ?_
            refine PW_iload c_M_knowThen_32 rfl ?_
            refine PW_iload_n c_M_knowThen_34 rfl ?_
            refine PW_V0 (d2 := 0) (st := []) [.int (nI k), .int m] c_M_knowThen_35 lk_M_knowThen_176 (po_70 _ _) rfl rfl rfl (Nat.le_of_ble_eq_true rfl) (by first | decide | omega) (Nat.le_of_ble_eq_true rfl) ?_
            refine sp_M_roomOf (by rw [nI_toInt (by omega)]; omega) ?_
            show PW _ _ _ 38 [some (.ref 70), some (.int kn), some (.int m), some (.int (kn ||| bitsT (kwB y kn m) k)), some (.int (nI k))] [.int (rO y (nI k).toNatClampNeg m)] (E x y)
            refine PW_aload_n c_M_knowThen_38 rfl ?_
            refine PW_iload c_M_knowThen_39 rfl ?_
            refine PW_iconst (v := 1) c_M_knowThen_41 (by decide) ?_
            refine PW_isub c_M_knowThen_42 ?_
            refine PW_iload_n c_M_knowThen_43 rfl ?_
            refine PW_V0 (d2 := 0) (st := [.int (rO y (nI k).toNatClampNeg m)]) [.int ((nI k) - 1), .int m] c_M_knowThen_44 lk_M_knowThen_176 (po_70 _ _) rfl rfl rfl (Nat.le_of_ble_eq_true rfl) (by first | decide | omega) (Nat.le_of_ble_eq_true rfl) ?_
            refine sp_M_roomOf (by rw [prd hA0, nI_toInt (by omega)]; omega) ?_
            show PW _ _ _ 47 [some (.ref 70), some (.int kn), some (.int m), some (.int (kn ||| bitsT (kwB y kn m) k)), some (.int (nI k))] [.int (rO y ((nI k) - 1).toNatClampNeg m), .int (rO y (nI k).toNatClampNeg m)] (E x y)
            refine PW_icmp_ne c_M_knowThen_47 (fun h3 => absurd h3 (not_not_intro (by rw [prd hA0, nI_clamp (by omega), nI_clamp (by omega)]; exact hA2))) (fun h3 => ?_)
            refine PW_iload_n c_M_knowThen_50 rfl ?_
            refine PW_iconst (v := 1) c_M_knowThen_51 (by decide) ?_
            refine PW_iload c_M_knowThen_52 rfl ?_
            refine PW_ishl c_M_knowThen_54 ?_
            refine PW_ior c_M_knowThen_55 ?_
            refine PW_istore_n (i := 3) (L2 := [some (.ref 70), some (.int kn), some (.int m), some (.int ((kn ||| bitsT (kwB y kn m) k) ||| (1 <<< ((nI k) &&& 31)))), some (.int (nI k))]) c_M_knowThen_56 rfl (Nat.le_of_ble_eq_true rfl) rfl rfl ?_
            refine PW_iload c_M_knowThen_57 rfl ?_
            refine PW_iconst (v := 1) c_M_knowThen_59 (by decide) ?_
            refine PW_iadd c_M_knowThen_60 ?_
            refine PW_aload_n c_M_knowThen_61 rfl ?_
            refine PW_get (v := .int (y.1 561)) c_M_knowThen_62 fl_M_128 (gf_70_1 _ _) ?_
            refine PW_icmp_ge c_M_knowThen_65 (fun h4 => ?_) (fun h4 => absurd (by rw [nI_1]; exact ((ge_t2 hW.1 (by omega) (by omega)).mpr (by omega : nG y ≤ k + 1))) h4)
            refine PW_iinc (i := 4) (v := (nI k) + 1) (L2 := [some (.ref 70), some (.int kn), some (.int m), some (.int ((kn ||| bitsT (kwB y kn m) k) ||| (1 <<< ((nI k) &&& 31)))), some (.int ((nI k) + 1))]) c_M_knowThen_106 rfl (iinc_v (by decide)) (Nat.le_of_ble_eq_true rfl) rfl rfl ?_
            refine PW_goto c_M_knowThen_109 ?_
            have hq : kwB y kn m k = true := by simp [kwB, hA0, hA1, hA2, hB0]
            refine PW.eqL ?_ rfl rfl (ih (k + 1) (by omega))
            show ([some (.ref 70), some (.int kn), some (.int m), some (.int ((kn ||| bitsT (kwB y kn m) k) ||| (1 <<< ((nI k) &&& 31)))), some (.int ((nI k) + 1))] : List (Option Value)) = [some (.ref 70), some (.int kn), some (.int m), some (.int (kn ||| bitsT (kwB y kn m) (k + 1))), some (.int (nI (k + 1)))]
            rw [nI_1, bitsT, if_pos hq, or2]
        · skip
          by_cases hB0 : k + 1 < nG y
          · by_cases hB1 : bt kn (k + 1) = true
            · by_cases hB2 : rO y k m = rO y (k + 1) m
              · skip
                refine PW_iload c_M_knowThen_5 rfl ?_
                refine PW_aload_n c_M_knowThen_7 rfl ?_
                refine PW_get (v := .int (y.1 561)) c_M_knowThen_8 fl_M_128 (gf_70_1 _ _) ?_
                refine PW_icmp_ge c_M_knowThen_11 (fun h0 => absurd h0 (fun q => absurd ((ge_t2 hW.1 (by omega) (by omega)).mp q) (by omega))) (fun h0 => ?_)
                refine PW_iload c_M_knowThen_14 rfl ?_
                refine PW_if_le c_M_knowThen_16 (fun h1 => absurd h1 (fun q => absurd ((nI_leI (by omega) (by decide)).mp (show nI k ≤ nI 0 from q)) (by omega))) (fun h1 => ?_)
                refine PW_iload_n c_M_knowThen_19 rfl ?_
                refine PW_iload c_M_knowThen_20 rfl ?_
                refine PW_iconst (v := 1) c_M_knowThen_22 (by decide) ?_
                refine PW_isub c_M_knowThen_23 ?_
                refine PW_ishr c_M_knowThen_24 ?_
                refine PW_iconst (v := 1) c_M_knowThen_25 (by decide) ?_
                refine PW_iand c_M_knowThen_26 ?_
                refine PW_iconst (v := 1) c_M_knowThen_27 (by decide) ?_
                refine PW_icmp_ne c_M_knowThen_28 (fun h2 => absurd h2 (not_not_intro (by rw [prd hA0, bt_at hS (by omega)]; exact hA1))) (fun h2 => ?_)
                refine PW_aload_n c_M_knowThen_31 rfl ?_
                refine PW_iload c_M_knowThen_32 rfl ?_
                refine PW_iload_n c_M_knowThen_34 rfl ?_
                refine PW_V0 (d2 := 0) (st := []) [.int (nI k), .int m] c_M_knowThen_35 lk_M_knowThen_176 (po_70 _ _) rfl rfl rfl (Nat.le_of_ble_eq_true rfl) (by first | decide | omega) (Nat.le_of_ble_eq_true rfl) ?_
                refine sp_M_roomOf (by rw [nI_toInt (by omega)]; omega) ?_
                show PW _ _ _ 38 [some (.ref 70), some (.int kn), some (.int m), some (.int (kn ||| bitsT (kwB y kn m) k)), some (.int (nI k))] [.int (rO y (nI k).toNatClampNeg m)] (E x y)
                refine PW_aload_n c_M_knowThen_38 rfl ?_
                refine PW_iload c_M_knowThen_39 rfl ?_
                refine PW_iconst (v := 1) c_M_knowThen_41 (by decide) ?_
                refine PW_isub c_M_knowThen_42 ?_
                refine PW_iload_n c_M_knowThen_43 rfl ?_
                refine PW_V0 (d2 := 0) (st := [.int (rO y (nI k).toNatClampNeg m)]) [.int ((nI k) - 1), .int m] c_M_knowThen_44 lk_M_knowThen_176 (po_70 _ _) rfl rfl rfl (Nat.le_of_ble_eq_true rfl) (by first | decide | omega) (Nat.le_of_ble_eq_true rfl) ?_
                refine sp_M_roomOf (by rw [prd hA0, nI_toInt (by omega)]; omega) ?_
                show PW _ _ _ 47 [some (.ref 70), some (.int kn), some (.int m), some (.int (kn ||| bitsT (kwB y kn m) k)), some (.int (nI k))] [.int (rO y ((nI k) - 1).toNatClampNeg m), .int (rO y (nI k).toNatClampNeg m)] (E x y)
                refine PW_icmp_ne c_M_knowThen_47 (fun h3 => ?_) (fun h3 => absurd h3 (by rw [prd hA0, nI_clamp (by omega), nI_clamp (by omega)]; exact hA2))
                refine PW_iload c_M_knowThen_57 rfl ?_
                refine PW_iconst (v := 1) c_M_knowThen_59 (by decide) ?_
                refine PW_iadd c_M_knowThen_60 ?_
                refine PW_aload_n c_M_knowThen_61 rfl ?_
                refine PW_get (v := .int (y.1 561)) c_M_knowThen_62 fl_M_128 (gf_70_1 _ _) ?_
                refine PW_icmp_ge c_M_knowThen_65 (fun h4 => absurd h4 (by rw [nI_1]; exact fun q => absurd ((ge_t2 hW.1 (by omega) (by omega)).mp q) (by omega))) (fun h4 => ?_)
                refine PW_iload_n c_M_knowThen_68 rfl ?_
                refine PW_iload c_M_knowThen_69 rfl ?_
                refine PW_iconst (v := 1) c_M_knowThen_71 (by decide) ?_
                refine PW_iadd c_M_knowThen_72 ?_
                refine PW_ishr c_M_knowThen_73 ?_
                refine PW_iconst (v := 1) c_M_knowThen_74 (by decide) ?_
                refine PW_iand c_M_knowThen_75 ?_
                refine PW_iconst (v := 1) c_M_knowThen_76 (by decide) ?_
                refine PW_icmp_ne c_M_knowThen_77 (fun h5 => absurd h5 (not_not_intro (by rw [nI_1, bt_at hS (by omega)]; exact hB1))) (fun h5 => ?_)
                refine PW_aload_n c_M_knowThen_80 rfl ?_
                refine PW_iload c_M_knowThen_81 rfl ?_
                refine PW_iload_n c_M_knowThen_83 rfl ?_
                refine PW_V0 (d2 := 0) (st := []) [.int (nI k), .int m] c_M_knowThen_84 lk_M_knowThen_176 (po_70 _ _) rfl rfl rfl (Nat.le_of_ble_eq_true rfl) (by first | decide | omega) (Nat.le_of_ble_eq_true rfl) ?_
                refine sp_M_roomOf (by rw [nI_toInt (by omega)]; omega) ?_
                show PW _ _ _ 87 [some (.ref 70), some (.int kn), some (.int m), some (.int (kn ||| bitsT (kwB y kn m) k)), some (.int (nI k))] [.int (rO y (nI k).toNatClampNeg m)] (E x y)
                refine PW_aload_n c_M_knowThen_87 rfl ?_
                refine PW_iload c_M_knowThen_88 rfl ?_
                refine PW_iconst (v := 1) c_M_knowThen_90 (by decide) ?_
                refine PW_iadd c_M_knowThen_91 ?_
                refine PW_iload_n c_M_knowThen_92 rfl ?_
                refine PW_V0 (d2 := 0) (st := [.int (rO y (nI k).toNatClampNeg m)]) [.int ((nI k) + 1), .int m] c_M_knowThen_93 lk_M_knowThen_176 (po_70 _ _) rfl rfl rfl (Nat.le_of_ble_eq_true rfl) (by first | decide | omega) (Nat.le_of_ble_eq_true rfl) ?_
                refine sp_M_roomOf (by rw [nI_1, nI_toInt (by omega)]; omega) ?_
                show PW _ _ _ 96 [some (.ref 70), some (.int kn), some (.int m), some (.int (kn ||| bitsT (kwB y kn m) k)), some (.int (nI k))] [.int (rO y ((nI k) + 1).toNatClampNeg m), .int (rO y (nI k).toNatClampNeg m)] (E x y)
                refine PW_icmp_ne c_M_knowThen_96 (fun h6 => absurd h6 (not_not_intro (by rw [nI_1, nI_clamp (by omega), nI_clamp (by omega)]; exact hB2))) (fun h6 => ?_)
                refine PW_iload_n c_M_knowThen_99 rfl ?_
                refine PW_iconst (v := 1) c_M_knowThen_100 (by decide) ?_
                refine PW_iload c_M_knowThen_101 rfl ?_
                refine PW_ishl c_M_knowThen_103 ?_
                refine PW_ior c_M_knowThen_104 ?_
                refine PW_istore_n (i := 3) (L2 := [some (.ref 70), some (.int kn), some (.int m), some (.int ((kn ||| bitsT (kwB y kn m) k) ||| (1 <<< ((nI k) &&& 31)))), some (.int (nI k))]) c_M_knowThen_105 rfl (Nat.le_of_ble_eq_true rfl) rfl rfl ?_
                refine PW_iinc (i := 4) (v := (nI k) + 1) (L2 := [some (.ref 70), some (.int kn), some (.int m), some (.int ((kn ||| bitsT (kwB y kn m) k) ||| (1 <<< ((nI k) &&& 31)))), some (.int ((nI k) + 1))]) c_M_knowThen_106 rfl (iinc_v (by decide)) (Nat.le_of_ble_eq_true rfl) rfl rfl ?_
                refine PW_goto c_M_knowThen_109 ?_
                have hq : kwB y kn m k = true := by simp [kwB, hA0, hA1, hA2, hB0, hB1, hB2]
                refine PW.eqL ?_ rfl rfl (ih (k + 1) (by omega))
                show ([some (.ref 70), some (.int kn), some (.int m), some (.int ((kn ||| bitsT (kwB y kn m) k) ||| (1 <<< ((nI k) &&& 31)))), some (.int ((nI k) + 1))] : List (Option Value)) = [some (.ref 70), some (.int kn), some (.int m), some (.int (kn ||| bitsT (kwB y kn m) (k + 1))), some (.int (nI (k + 1)))]
                rw [nI_1, bitsT, if_pos hq, or2]
              · skip
                refine PW_iload c_M_knowThen_5 rfl ?_
                refine PW_aload_n c_M_knowThen_7 rfl ?_
                refine PW_get (v := .int (y.1 561)) c_M_knowThen_8 fl_M_128 (gf_70_1 _ _) ?_
                refine PW_icmp_ge c_M_knowThen_11 (fun h0 => absurd h0 (fun q => absurd ((ge_t2 hW.1 (by omega) (by omega)).mp q) (by omega))) (fun h0 => ?_)
                refine PW_iload c_M_knowThen_14 rfl ?_
                refine PW_if_le c_M_knowThen_16 (fun h1 => absurd h1 (fun q => absurd ((nI_leI (by omega) (by decide)).mp (show nI k ≤ nI 0 from q)) (by omega))) (fun h1 => ?_)
                refine PW_iload_n c_M_knowThen_19 rfl ?_
                refine PW_iload c_M_knowThen_20 rfl ?_
                refine PW_iconst (v := 1) c_M_knowThen_22 (by decide) ?_
                refine PW_isub c_M_knowThen_23 ?_
                refine PW_ishr c_M_knowThen_24 ?_
                refine PW_iconst (v := 1) c_M_knowThen_25 (by decide) ?_
                refine PW_iand c_M_knowThen_26 ?_
                refine PW_iconst (v := 1) c_M_knowThen_27 (by decide) ?_
                refine PW_icmp_ne c_M_knowThen_28 (fun h2 => absurd h2 (not_not_intro (by rw [prd hA0, bt_at hS (by omega)]; exact hA1))) (fun h2 => ?_)
                refine PW_aload_n c_M_knowThen_31 rfl ?_
                refine PW_iload c_M_knowThen_32 rfl ?_
                refine PW_iload_n c_M_knowThen_34 rfl ?_
                refine PW_V0 (d2 := 0) (st := []) [.int (nI k), .int m] c_M_knowThen_35 lk_M_knowThen_176 (po_70 _ _) rfl rfl rfl (Nat.le_of_ble_eq_true rfl) (by first | decide | omega) (Nat.le_of_ble_eq_true rfl) ?_
                refine sp_M_roomOf (by rw [nI_toInt (by omega)]; omega) ?_
                show PW _ _ _ 38 [some (.ref 70), some (.int kn), some (.int m), some (.int (kn ||| bitsT (kwB y kn m) k)), some (.int (nI k))] [.int (rO y (nI k).toNatClampNeg m)] (E x y)
                refine PW_aload_n c_M_knowThen_38 rfl ?_
                refine PW_iload c_M_knowThen_39 rfl ?_
                refine PW_iconst (v := 1) c_M_knowThen_41 (by decide) ?_
                refine PW_isub c_M_knowThen_42 ?_
                refine PW_iload_n c_M_knowThen_43 rfl ?_
                refine PW_V0 (d2 := 0) (st := [.int (rO y (nI k).toNatClampNeg m)]) [.int ((nI k) - 1), .int m] c_M_knowThen_44 lk_M_knowThen_176 (po_70 _ _) rfl rfl rfl (Nat.le_of_ble_eq_true rfl) (by first | decide | omega) (Nat.le_of_ble_eq_true rfl) ?_
                refine sp_M_roomOf (by rw [prd hA0, nI_toInt (by omega)]; omega) ?_
                show PW _ _ _ 47 [some (.ref 70), some (.int kn), some (.int m), some (.int (kn ||| bitsT (kwB y kn m) k)), some (.int (nI k))] [.int (rO y ((nI k) - 1).toNatClampNeg m), .int (rO y (nI k).toNatClampNeg m)] (E x y)
                refine PW_icmp_ne c_M_knowThen_47 (fun h3 => ?_) (fun h3 => absurd h3 (by rw [prd hA0, nI_clamp (by omega), nI_clamp (by omega)]; exact hA2))
                refine PW_iload c_M_knowThen_57 rfl ?_
                refine PW_iconst (v := 1) c_M_knowThen_59 (by decide) ?_
                refine PW_iadd c_M_knowThen_60 ?_
                refine PW_aload_n c_M_knowThen_61 rfl ?_
                refine PW_get (v := .int (y.1 561)) c_M_knowThen_62 fl_M_128 (gf_70_1 _ _) ?_
                refine PW_icmp_ge c_M_knowThen_65 (fun h4 => absurd h4 (by rw [nI_1]; exact fun q => absurd ((ge_t2 hW.1 (by omega) (by omega)).mp q) (by omega))) (fun h4 => ?_)
                refine PW_iload_n c_M_knowThen_68 rfl ?_
                refine PW_iload c_M_knowThen_69 rfl ?_
                refine PW_iconst (v := 1) c_M_knowThen_71 (by decide) ?_
                refine PW_iadd c_M_knowThen_72 ?_
                refine PW_ishr c_M_knowThen_73 ?_
                refine PW_iconst (v := 1) c_M_knowThen_74 (by decide) ?_
                refine PW_iand c_M_knowThen_75 ?_
                refine PW_iconst (v := 1) c_M_knowThen_76 (by decide) ?_
                refine PW_icmp_ne c_M_knowThen_77 (fun h5 => absurd h5 (not_not_intro (by rw [nI_1, bt_at hS (by omega)]; exact hB1))) (fun h5 => ?_)
                refine PW_aload_n c_M_knowThen_80 rfl ?_
                refine PW_iload c_M_knowThen_81 rfl ?_
                refine PW_iload_n c_M_knowThen_83 rfl ?_
                refine PW_V0 (d2 := 0) (st := []) [.int (nI k), .int m] c_M_knowThen_84 lk_M_knowThen_176 (po_70 _ _) rfl rfl rfl (Nat.le_of_ble_eq_true rfl) (by first | decide | omega) (Nat.le_of_ble_eq_true rfl) ?_
                refine sp_M_roomOf (by rw [nI_toInt (by omega)]; omega) ?_
                show PW _ _ _ 87 [some (.ref 70), some (.int kn), some (.int m), some (.int (kn ||| bitsT (kwB y kn m) k)), some (.int (nI k))] [.int (rO y (nI k).toNatClampNeg m)] (E x y)
                refine PW_aload_n c_M_knowThen_87 rfl ?_
                refine PW_iload c_M_knowThen_88 rfl ?_
                refine PW_iconst (v := 1) c_M_knowThen_90 (by decide) ?_
                refine PW_iadd c_M_knowThen_91 ?_
                refine PW_iload_n c_M_knowThen_92 rfl ?_
                refine PW_V0 (d2 := 0) (st := [.int (rO y (nI k).toNatClampNeg m)]) [.int ((nI k) + 1), .int m] c_M_knowThen_93 lk_M_knowThen_176 (po_70 _ _) rfl rfl rfl (Nat.le_of_ble_eq_true rfl) (by first | decide | omega) (Nat.le_of_ble_eq_true rfl) ?_
                refine sp_M_roomOf (by rw [nI_1, nI_toInt (by omega)]; omega) ?_
                show PW _ _ _ 96 [some (.ref 70), some (.int kn), some (.int m), some (.int (kn ||| bitsT (kwB y kn m) k)), some (.int (nI k))] [.int (rO y ((nI k) + 1).toNatClampNeg m), .int (rO y (nI k).toNatClampNeg m)] (E x y)
                refine PW_icmp_ne c_M_knowThen_96 (fun h6 => ?_) (fun h6 => absurd h6 (by rw [nI_1, nI_clamp (by omega), nI_clamp (by omega)]; exact hB2))
                refine PW_iinc (i := 4) (v := (nI k) + 1) (L2 := [some (.ref 70), some (.int kn), some (.int m), some (.int (kn ||| bitsT (kwB y kn m) k)), some (.int ((nI k) + 1))]) c_M_knowThen_106 rfl (iinc_v (by decide)) (Nat.le_of_ble_eq_true rfl) rfl rfl ?_
                refine PW_goto c_M_knowThen_109 ?_
                have hq : kwB y kn m k = false := by simp [kwB, hA0, hA1, hA2, hB0, hB1, hB2]
                refine PW.eqL ?_ rfl rfl (ih (k + 1) (by omega))
                show ([some (.ref 70), some (.int kn), some (.int m), some (.int (kn ||| bitsT (kwB y kn m) k)), some (.int ((nI k) + 1))] : List (Option Value)) = [some (.ref 70), some (.int kn), some (.int m), some (.int (kn ||| bitsT (kwB y kn m) (k + 1))), some (.int (nI (k + 1)))]
                rw [nI_1, bitsT, if_neg (by rw [hq]; decide)]
            · skip
              refine PW_iload c_M_knowThen_5 rfl ?_
              refine PW_aload_n c_M_knowThen_7 rfl ?_
              refine PW_get (v := .int (y.1 561)) c_M_knowThen_8 fl_M_128 (gf_70_1 _ _) ?_
              refine PW_icmp_ge c_M_knowThen_11 (fun h0 => absurd h0 (fun q => absurd ((ge_t2 hW.1 (by omega) (by omega)).mp q) (by omega))) (fun h0 => ?_)
              refine PW_iload c_M_knowThen_14 rfl ?_
              refine PW_if_le c_M_knowThen_16 (fun h1 => absurd h1 (fun q => absurd ((nI_leI (by omega) (by decide)).mp (show nI k ≤ nI 0 from q)) (by omega))) (fun h1 => ?_)
              refine PW_iload_n c_M_knowThen_19 rfl ?_
              refine PW_iload c_M_knowThen_20 rfl ?_
              refine PW_iconst (v := 1) c_M_knowThen_22 (by decide) ?_
              refine PW_isub c_M_knowThen_23 ?_
              refine PW_ishr c_M_knowThen_24 ?_
              refine PW_iconst (v := 1) c_M_knowThen_25 (by decide) ?_
              refine PW_iand c_M_knowThen_26 ?_
              refine PW_iconst (v := 1) c_M_knowThen_27 (by decide) ?_
              refine PW_icmp_ne c_M_knowThen_28 (fun h2 => absurd h2 (not_not_intro (by rw [prd hA0, bt_at hS (by omega)]; exact hA1))) (fun h2 => ?_)
              refine PW_aload_n c_M_knowThen_31 rfl ?_
              refine PW_iload c_M_knowThen_32 rfl ?_
              refine PW_iload_n c_M_knowThen_34 rfl ?_
              refine PW_V0 (d2 := 0) (st := []) [.int (nI k), .int m] c_M_knowThen_35 lk_M_knowThen_176 (po_70 _ _) rfl rfl rfl (Nat.le_of_ble_eq_true rfl) (by first | decide | omega) (Nat.le_of_ble_eq_true rfl) ?_
              refine sp_M_roomOf (by rw [nI_toInt (by omega)]; omega) ?_
              show PW _ _ _ 38 [some (.ref 70), some (.int kn), some (.int m), some (.int (kn ||| bitsT (kwB y kn m) k)), some (.int (nI k))] [.int (rO y (nI k).toNatClampNeg m)] (E x y)
              refine PW_aload_n c_M_knowThen_38 rfl ?_
              refine PW_iload c_M_knowThen_39 rfl ?_
              refine PW_iconst (v := 1) c_M_knowThen_41 (by decide) ?_
              refine PW_isub c_M_knowThen_42 ?_
              refine PW_iload_n c_M_knowThen_43 rfl ?_
              refine PW_V0 (d2 := 0) (st := [.int (rO y (nI k).toNatClampNeg m)]) [.int ((nI k) - 1), .int m] c_M_knowThen_44 lk_M_knowThen_176 (po_70 _ _) rfl rfl rfl (Nat.le_of_ble_eq_true rfl) (by first | decide | omega) (Nat.le_of_ble_eq_true rfl) ?_
              refine sp_M_roomOf (by rw [prd hA0, nI_toInt (by omega)]; omega) ?_
              show PW _ _ _ 47 [some (.ref 70), some (.int kn), some (.int m), some (.int (kn ||| bitsT (kwB y kn m) k)), some (.int (nI k))] [.int (rO y ((nI k) - 1).toNatClampNeg m), .int (rO y (nI k).toNatClampNeg m)] (E x y)
              refine PW_icmp_ne c_M_knowThen_47 (fun h3 => ?_) (fun h3 => absurd h3 (by rw [prd hA0, nI_clamp (by omega), nI_clamp (by omega)]; exact hA2))
              refine PW_iload c_M_knowThen_57 rfl ?_
              refine PW_iconst (v := 1) c_M_knowThen_59 (by decide) ?_
              refine PW_iadd c_M_knowThen_60 ?_
              refine PW_aload_n c_M_knowThen_61 rfl ?_
              refine PW_get (v := .int (y.1 561)) c_M_knowThen_62 fl_M_128 (gf_70_1 _ _) ?_
              refine PW_icmp_ge c_M_knowThen_65 (fun h4 => absurd h4 (by rw [nI_1]; exact fun q => absurd ((ge_t2 hW.1 (by omega) (by omega)).mp q) (by omega))) (fun h4 => ?_)
              refine PW_iload_n c_M_knowThen_68 rfl ?_
              refine PW_iload c_M_knowThen_69 rfl ?_
              refine PW_iconst (v := 1) c_M_knowThen_71 (by decide) ?_
              refine PW_iadd c_M_knowThen_72 ?_
              refine PW_ishr c_M_knowThen_73 ?_
              refine PW_iconst (v := 1) c_M_knowThen_74 (by decide) ?_
              refine PW_iand c_M_knowThen_75 ?_
              refine PW_iconst (v := 1) c_M_knowThen_76 (by decide) ?_
              refine PW_icmp_ne c_M_knowThen_77 (fun h5 => ?_) (fun h5 => absurd h5 (by rw [nI_1, bt_at hS (by omega)]; exact hB1))
              refine PW_iinc (i := 4) (v := (nI k) + 1) (L2 := [some (.ref 70), some (.int kn), some (.int m), some (.int (kn ||| bitsT (kwB y kn m) k)), some (.int ((nI k) + 1))]) c_M_knowThen_106 rfl (iinc_v (by decide)) (Nat.le_of_ble_eq_true rfl) rfl rfl ?_
              refine PW_goto c_M_knowThen_109 ?_
              have hq : kwB y kn m k = false := by simp [kwB, hA0, hA1, hA2, hB0, hB1]
              refine PW.eqL ?_ rfl rfl (ih (k + 1) (by omega))
              show ([some (.ref 70), some (.int kn), some (.int m), some (.int (kn ||| bitsT (kwB y kn m) k)), some (.int ((nI k) + 1))] : List (Option Value)) = [some (.ref 70), some (.int kn), some (.int m), some (.int (kn ||| bitsT (kwB y kn m) (k + 1))), some (.int (nI (k + 1)))]
              rw [nI_1, bitsT, if_neg (by rw [hq]; decide)]
          · skip
            refine PW_iload c_M_knowThen_5 rfl ?_
            refine PW_aload_n c_M_knowThen_7 rfl ?_
            refine PW_get (v := .int (y.1 561)) c_M_knowThen_8 fl_M_128 (gf_70_1 _ _) ?_
            refine PW_icmp_ge c_M_knowThen_11 (fun h0 => absurd h0 (fun q => absurd ((ge_t2 hW.1 (by omega) (by omega)).mp q) (by omega))) (fun h0 => ?_)
            refine PW_iload c_M_knowThen_14 rfl ?_
            refine PW_if_le c_M_knowThen_16 (fun h1 => absurd h1 (fun q => absurd ((nI_leI (by omega) (by decide)).mp (show nI k ≤ nI 0 from q)) (by omega))) (fun h1 => ?_)
            refine PW_iload_n c_M_knowThen_19 rfl ?_
            refine PW_iload c_M_knowThen_20 rfl ?_
            refine PW_iconst (v := 1) c_M_knowThen_22 (by decide) ?_
            refine PW_isub c_M_knowThen_23 ?_
            refine PW_ishr c_M_knowThen_24 ?_
            refine PW_iconst (v := 1) c_M_knowThen_25 (by decide) ?_
            refine PW_iand c_M_knowThen_26 ?_
            refine PW_iconst (v := 1) c_M_knowThen_27 (by decide) ?_
            refine PW_icmp_ne c_M_knowThen_28 (fun h2 => absurd h2 (not_not_intro (by rw [prd hA0, bt_at hS (by omega)]; exact hA1))) (fun h2 => ?_)
            refine PW_aload_n c_M_knowThen_31 rfl ?_
            refine PW_iload c_M_knowThen_32 rfl ?_
            refine PW_iload_n c_M_knowThen_34 rfl ?_
            refine PW_V0 (d2 := 0) (st := []) [.int (nI k), .int m] c_M_knowThen_35 lk_M_knowThen_176 (po_70 _ _) rfl rfl rfl (Nat.le_of_ble_eq_true rfl) (by first | decide | omega) (Nat.le_of_ble_eq_true rfl) ?_
            refine sp_M_roomOf (by rw [nI_toInt (by omega)]; omega) ?_
            show PW _ _ _ 38 [some (.ref 70), some (.int kn), some (.int m), some (.int (kn ||| bitsT (kwB y kn m) k)), some (.int (nI k))] [.int (rO y (nI k).toNatClampNeg m)] (E x y)
            refine PW_aload_n c_M_knowThen_38 rfl ?_
            refine PW_iload c_M_knowThen_39 rfl ?_
            refine PW_iconst (v := 1) c_M_knowThen_41 (by decide) ?_
            refine PW_isub c_M_knowThen_42 ?_
            refine PW_iload_n c_M_knowThen_43 rfl ?_
            refine PW_V0 (d2 := 0) (st := [.int (rO y (nI k).toNatClampNeg m)]) [.int ((nI k) - 1), .int m] c_M_knowThen_44 lk_M_knowThen_176 (po_70 _ _) rfl rfl rfl (Nat.le_of_ble_eq_true rfl) (by first | decide | omega) (Nat.le_of_ble_eq_true rfl) ?_
            refine sp_M_roomOf (by rw [prd hA0, nI_toInt (by omega)]; omega) ?_
            show PW _ _ _ 47 [some (.ref 70), some (.int kn), some (.int m), some (.int (kn ||| bitsT (kwB y kn m) k)), some (.int (nI k))] [.int (rO y ((nI k) - 1).toNatClampNeg m), .int (rO y (nI k).toNatClampNeg m)] (E x y)
            refine PW_icmp_ne c_M_knowThen_47 (fun h3 => ?_) (fun h3 => absurd h3 (by rw [prd hA0, nI_clamp (by omega), nI_clamp (by omega)]; exact hA2))
            refine PW_iload c_M_knowThen_57 rfl ?_
            refine PW_iconst (v := 1) c_M_knowThen_59 (by decide) ?_
            refine PW_iadd c_M_knowThen_60 ?_
            refine PW_aload_n c_M_knowThen_61 rfl ?_
            refine PW_get (v := .int (y.1 561)) c_M_knowThen_62 fl_M_128 (gf_70_1 _ _) ?_
            refine PW_icmp_ge c_M_knowThen_65 (fun h4 => ?_) (fun h4 => absurd (by rw [nI_1]; exact ((ge_t2 hW.1 (by omega) (by omega)).mpr (by omega : nG y ≤ k + 1))) h4)
            refine PW_iinc (i := 4) (v := (nI k) + 1) (L2 := [some (.ref 70), some (.int kn), some (.int m), some (.int (kn ||| bitsT (kwB y kn m) k)), some (.int ((nI k) + 1))]) c_M_knowThen_106 rfl (iinc_v (by decide)) (Nat.le_of_ble_eq_true rfl) rfl rfl ?_
            refine PW_goto c_M_knowThen_109 ?_
            have hq : kwB y kn m k = false := by simp [kwB, hA0, hA1, hA2, hB0]
            refine PW.eqL ?_ rfl rfl (ih (k + 1) (by omega))
            show ([some (.ref 70), some (.int kn), some (.int m), some (.int (kn ||| bitsT (kwB y kn m) k)), some (.int ((nI k) + 1))] : List (Option Value)) = [some (.ref 70), some (.int kn), some (.int m), some (.int (kn ||| bitsT (kwB y kn m) (k + 1))), some (.int (nI (k + 1)))]
            rw [nI_1, bitsT, if_neg (by rw [hq]; decide)]
      · skip
        by_cases hB0 : k + 1 < nG y
        · by_cases hB1 : bt kn (k + 1) = true
          · by_cases hB2 : rO y k m = rO y (k + 1) m
            · skip
              refine PW_iload c_M_knowThen_5 rfl ?_
              refine PW_aload_n c_M_knowThen_7 rfl ?_
              refine PW_get (v := .int (y.1 561)) c_M_knowThen_8 fl_M_128 (gf_70_1 _ _) ?_
              refine PW_icmp_ge c_M_knowThen_11 (fun h0 => absurd h0 (fun q => absurd ((ge_t2 hW.1 (by omega) (by omega)).mp q) (by omega))) (fun h0 => ?_)
              refine PW_iload c_M_knowThen_14 rfl ?_
              refine PW_if_le c_M_knowThen_16 (fun h1 => absurd h1 (fun q => absurd ((nI_leI (by omega) (by decide)).mp (show nI k ≤ nI 0 from q)) (by omega))) (fun h1 => ?_)
              refine PW_iload_n c_M_knowThen_19 rfl ?_
              refine PW_iload c_M_knowThen_20 rfl ?_
              refine PW_iconst (v := 1) c_M_knowThen_22 (by decide) ?_
              refine PW_isub c_M_knowThen_23 ?_
              refine PW_ishr c_M_knowThen_24 ?_
              refine PW_iconst (v := 1) c_M_knowThen_25 (by decide) ?_
              refine PW_iand c_M_knowThen_26 ?_
              refine PW_iconst (v := 1) c_M_knowThen_27 (by decide) ?_
              refine PW_icmp_ne c_M_knowThen_28 (fun h2 => ?_) (fun h2 => absurd h2 (by rw [prd hA0, bt_at hS (by omega)]; exact hA1))
              refine PW_iload c_M_knowThen_57 rfl ?_
              refine PW_iconst (v := 1) c_M_knowThen_59 (by decide) ?_
              refine PW_iadd c_M_knowThen_60 ?_
              refine PW_aload_n c_M_knowThen_61 rfl ?_
              refine PW_get (v := .int (y.1 561)) c_M_knowThen_62 fl_M_128 (gf_70_1 _ _) ?_
              refine PW_icmp_ge c_M_knowThen_65 (fun h3 => absurd h3 (by rw [nI_1]; exact fun q => absurd ((ge_t2 hW.1 (by omega) (by omega)).mp q) (by omega))) (fun h3 => ?_)
              refine PW_iload_n c_M_knowThen_68 rfl ?_
              refine PW_iload c_M_knowThen_69 rfl ?_
              refine PW_iconst (v := 1) c_M_knowThen_71 (by decide) ?_
              refine PW_iadd c_M_knowThen_72 ?_
              refine PW_ishr c_M_knowThen_73 ?_
              refine PW_iconst (v := 1) c_M_knowThen_74 (by decide) ?_
              refine PW_iand c_M_knowThen_75 ?_
              refine PW_iconst (v := 1) c_M_knowThen_76 (by decide) ?_
              refine PW_icmp_ne c_M_knowThen_77 (fun h4 => absurd h4 (not_not_intro (by rw [nI_1, bt_at hS (by omega)]; exact hB1))) (fun h4 => ?_)
              refine PW_aload_n c_M_knowThen_80 rfl ?_
              refine PW_iload c_M_knowThen_81 rfl ?_
              refine PW_iload_n c_M_knowThen_83 rfl ?_
              refine PW_V0 (d2 := 0) (st := []) [.int (nI k), .int m] c_M_knowThen_84 lk_M_knowThen_176 (po_70 _ _) rfl rfl rfl (Nat.le_of_ble_eq_true rfl) (by first | decide | omega) (Nat.le_of_ble_eq_true rfl) ?_
              refine sp_M_roomOf (by rw [nI_toInt (by omega)]; omega) ?_
              show PW _ _ _ 87 [some (.ref 70), some (.int kn), some (.int m), some (.int (kn ||| bitsT (kwB y kn m) k)), some (.int (nI k))] [.int (rO y (nI k).toNatClampNeg m)] (E x y)
              refine PW_aload_n c_M_knowThen_87 rfl ?_
              refine PW_iload c_M_knowThen_88 rfl ?_
              refine PW_iconst (v := 1) c_M_knowThen_90 (by decide) ?_
              refine PW_iadd c_M_knowThen_91 ?_
              refine PW_iload_n c_M_knowThen_92 rfl ?_
              refine PW_V0 (d2 := 0) (st := [.int (rO y (nI k).toNatClampNeg m)]) [.int ((nI k) + 1), .int m] c_M_knowThen_93 lk_M_knowThen_176 (po_70 _ _) rfl rfl rfl (Nat.le_of_ble_eq_true rfl) (by first | decide | omega) (Nat.le_of_ble_eq_true rfl) ?_
              refine sp_M_roomOf (by rw [nI_1, nI_toInt (by omega)]; omega) ?_
              show PW _ _ _ 96 [some (.ref 70), some (.int kn), some (.int m), some (.int (kn ||| bitsT (kwB y kn m) k)), some (.int (nI k))] [.int (rO y ((nI k) + 1).toNatClampNeg m), .int (rO y (nI k).toNatClampNeg m)] (E x y)
              refine PW_icmp_ne c_M_knowThen_96 (fun h5 => absurd h5 (not_not_intro (by rw [nI_1, nI_clamp (by omega), nI_clamp (by omega)]; exact hB2))) (fun h5 => ?_)
              refine PW_iload_n c_M_knowThen_99 rfl ?_
              refine PW_iconst (v := 1) c_M_knowThen_100 (by decide) ?_
              refine PW_iload c_M_knowThen_101 rfl ?_
              refine PW_ishl c_M_knowThen_103 ?_
              refine PW_ior c_M_knowThen_104 ?_
              refine PW_istore_n (i := 3) (L2 := [some (.ref 70), some (.int kn), some (.int m), some (.int ((kn ||| bitsT (kwB y kn m) k) ||| (1 <<< ((nI k) &&& 31)))), some (.int (nI k))]) c_M_knowThen_105 rfl (Nat.le_of_ble_eq_true rfl) rfl rfl ?_
              refine PW_iinc (i := 4) (v := (nI k) + 1) (L2 := [some (.ref 70), some (.int kn), some (.int m), some (.int ((kn ||| bitsT (kwB y kn m) k) ||| (1 <<< ((nI k) &&& 31)))), some (.int ((nI k) + 1))]) c_M_knowThen_106 rfl (iinc_v (by decide)) (Nat.le_of_ble_eq_true rfl) rfl rfl ?_
              refine PW_goto c_M_knowThen_109 ?_
              have hq : kwB y kn m k = true := by simp [kwB, hA0, hA1, hB0, hB1, hB2]
              refine PW.eqL ?_ rfl rfl (ih (k + 1) (by omega))
              show ([some (.ref 70), some (.int kn), some (.int m), some (.int ((kn ||| bitsT (kwB y kn m) k) ||| (1 <<< ((nI k) &&& 31)))), some (.int ((nI k) + 1))] : List (Option Value)) = [some (.ref 70), some (.int kn), some (.int m), some (.int (kn ||| bitsT (kwB y kn m) (k + 1))), some (.int (nI (k + 1)))]
              rw [nI_1, bitsT, if_pos hq, or2]
            · skip
              refine PW_iload c_M_knowThen_5 rfl ?_
              refine PW_aload_n c_M_knowThen_7 rfl ?_
              refine PW_get (v := .int (y.1 561)) c_M_knowThen_8 fl_M_128 (gf_70_1 _ _) ?_
              refine PW_icmp_ge c_M_knowThen_11 (fun h0 => absurd h0 (fun q => absurd ((ge_t2 hW.1 (by omega) (by omega)).mp q) (by omega))) (fun h0 => ?_)
              refine PW_iload c_M_knowThen_14 rfl ?_
              refine PW_if_le c_M_knowThen_16 (fun h1 => absurd h1 (fun q => absurd ((nI_leI (by omega) (by decide)).mp (show nI k ≤ nI 0 from q)) (by omega))) (fun h1 => ?_)
              refine PW_iload_n c_M_knowThen_19 rfl ?_
              refine PW_iload c_M_knowThen_20 rfl ?_
              refine PW_iconst (v := 1) c_M_knowThen_22 (by decide) ?_
              refine PW_isub c_M_knowThen_23 ?_
              refine PW_ishr c_M_knowThen_24 ?_
              refine PW_iconst (v := 1) c_M_knowThen_25 (by decide) ?_
              refine PW_iand c_M_knowThen_26 ?_
              refine PW_iconst (v := 1) c_M_knowThen_27 (by decide) ?_
              refine PW_icmp_ne c_M_knowThen_28 (fun h2 => ?_) (fun h2 => absurd h2 (by rw [prd hA0, bt_at hS (by omega)]; exact hA1))
              refine PW_iload c_M_knowThen_57 rfl ?_
              refine PW_iconst (v := 1) c_M_knowThen_59 (by decide) ?_
              refine PW_iadd c_M_knowThen_60 ?_
              refine PW_aload_n c_M_knowThen_61 rfl ?_
              refine PW_get (v := .int (y.1 561)) c_M_knowThen_62 fl_M_128 (gf_70_1 _ _) ?_
              refine PW_icmp_ge c_M_knowThen_65 (fun h3 => absurd h3 (by rw [nI_1]; exact fun q => absurd ((ge_t2 hW.1 (by omega) (by omega)).mp q) (by omega))) (fun h3 => ?_)
              refine PW_iload_n c_M_knowThen_68 rfl ?_
              refine PW_iload c_M_knowThen_69 rfl ?_
              refine PW_iconst (v := 1) c_M_knowThen_71 (by decide) ?_
              refine PW_iadd c_M_knowThen_72 ?_
              refine PW_ishr c_M_knowThen_73 ?_
              refine PW_iconst (v := 1) c_M_knowThen_74 (by decide) ?_
              refine PW_iand c_M_knowThen_75 ?_
              refine PW_iconst (v := 1) c_M_knowThen_76 (by decide) ?_
              refine PW_icmp_ne c_M_knowThen_77 (fun h4 => absurd h4 (not_not_intro (by rw [nI_1, bt_at hS (by omega)]; exact hB1))) (fun h4 => ?_)
              refine PW_aload_n c_M_knowThen_80 rfl ?_
              refine PW_iload c_M_knowThen_81 rfl ?_
              refine PW_iload_n c_M_knowThen_83 rfl ?_
              refine PW_V0 (d2 := 0) (st := []) [.int (nI k), .int m] c_M_knowThen_84 lk_M_knowThen_176 (po_70 _ _) rfl rfl rfl (Nat.le_of_ble_eq_true rfl) (by first | decide | omega) (Nat.le_of_ble_eq_true rfl) ?_
              refine sp_M_roomOf (by rw [nI_toInt (by omega)]; omega) ?_
              show PW _ _ _ 87 [some (.ref 70), some (.int kn), some (.int m), some (.int (kn ||| bitsT (kwB y kn m) k)), some (.int (nI k))] [.int (rO y (nI k).toNatClampNeg m)] (E x y)
              refine PW_aload_n c_M_knowThen_87 rfl ?_
              refine PW_iload c_M_knowThen_88 rfl ?_
              refine PW_iconst (v := 1) c_M_knowThen_90 (by decide) ?_
              refine PW_iadd c_M_knowThen_91 ?_
              refine PW_iload_n c_M_knowThen_92 rfl ?_
              refine PW_V0 (d2 := 0) (st := [.int (rO y (nI k).toNatClampNeg m)]) [.int ((nI k) + 1), .int m] c_M_knowThen_93 lk_M_knowThen_176 (po_70 _ _) rfl rfl rfl (Nat.le_of_ble_eq_true rfl) (by first | decide | omega) (Nat.le_of_ble_eq_true rfl) ?_
              refine sp_M_roomOf (by rw [nI_1, nI_toInt (by omega)]; omega) ?_
              show PW _ _ _ 96 [some (.ref 70), some (.int kn), some (.int m), some (.int (kn ||| bitsT (kwB y kn m) k)), some (.int (nI k))] [.int (rO y ((nI k) + 1).toNatClampNeg m), .int (rO y (nI k).toNatClampNeg m)] (E x y)
              refine PW_icmp_ne c_M_knowThen_96 (fun h5 => ?_) (fun h5 => absurd h5 (by rw [nI_1, nI_clamp (by omega), nI_clamp (by omega)]; exact hB2))
              refine PW_iinc (i := 4) (v := (nI k) + 1) (L2 := [some (.ref 70), some (.int kn), some (.int m), some (.int (kn ||| bitsT (kwB y kn m) k)), some (.int ((nI k) + 1))]) c_M_knowThen_106 rfl (iinc_v (by decide)) (Nat.le_of_ble_eq_true rfl) rfl rfl ?_
              refine PW_goto c_M_knowThen_109 ?_
              have hq : kwB y kn m k = false := by simp [kwB, hA0, hA1, hB0, hB1, hB2]
              refine PW.eqL ?_ rfl rfl (ih (k + 1) (by omega))
              show ([some (.ref 70), some (.int kn), some (.int m), some (.int (kn ||| bitsT (kwB y kn m) k)), some (.int ((nI k) + 1))] : List (Option Value)) = [some (.ref 70), some (.int kn), some (.int m), some (.int (kn ||| bitsT (kwB y kn m) (k + 1))), some (.int (nI (k + 1)))]
              rw [nI_1, bitsT, if_neg (by rw [hq]; decide)]
          · skip
            refine PW_iload c_M_knowThen_5 rfl ?_
            refine PW_aload_n c_M_knowThen_7 rfl ?_
            refine PW_get (v := .int (y.1 561)) c_M_knowThen_8 fl_M_128 (gf_70_1 _ _) ?_
            refine PW_icmp_ge c_M_knowThen_11 (fun h0 => absurd h0 (fun q => absurd ((ge_t2 hW.1 (by omega) (by omega)).mp q) (by omega))) (fun h0 => ?_)
            refine PW_iload c_M_knowThen_14 rfl ?_
            refine PW_if_le c_M_knowThen_16 (fun h1 => absurd h1 (fun q => absurd ((nI_leI (by omega) (by decide)).mp (show nI k ≤ nI 0 from q)) (by omega))) (fun h1 => ?_)
            refine PW_iload_n c_M_knowThen_19 rfl ?_
            refine PW_iload c_M_knowThen_20 rfl ?_
            refine PW_iconst (v := 1) c_M_knowThen_22 (by decide) ?_
            refine PW_isub c_M_knowThen_23 ?_
            refine PW_ishr c_M_knowThen_24 ?_
            refine PW_iconst (v := 1) c_M_knowThen_25 (by decide) ?_
            refine PW_iand c_M_knowThen_26 ?_
            refine PW_iconst (v := 1) c_M_knowThen_27 (by decide) ?_
            refine PW_icmp_ne c_M_knowThen_28 (fun h2 => ?_) (fun h2 => absurd h2 (by rw [prd hA0, bt_at hS (by omega)]; exact hA1))
            refine PW_iload c_M_knowThen_57 rfl ?_
            refine PW_iconst (v := 1) c_M_knowThen_59 (by decide) ?_
            refine PW_iadd c_M_knowThen_60 ?_
            refine PW_aload_n c_M_knowThen_61 rfl ?_
            refine PW_get (v := .int (y.1 561)) c_M_knowThen_62 fl_M_128 (gf_70_1 _ _) ?_
            refine PW_icmp_ge c_M_knowThen_65 (fun h3 => absurd h3 (by rw [nI_1]; exact fun q => absurd ((ge_t2 hW.1 (by omega) (by omega)).mp q) (by omega))) (fun h3 => ?_)
            refine PW_iload_n c_M_knowThen_68 rfl ?_
            refine PW_iload c_M_knowThen_69 rfl ?_
            refine PW_iconst (v := 1) c_M_knowThen_71 (by decide) ?_
            refine PW_iadd c_M_knowThen_72 ?_
            refine PW_ishr c_M_knowThen_73 ?_
            refine PW_iconst (v := 1) c_M_knowThen_74 (by decide) ?_
            refine PW_iand c_M_knowThen_75 ?_
            refine PW_iconst (v := 1) c_M_knowThen_76 (by decide) ?_
            refine PW_icmp_ne c_M_knowThen_77 (fun h4 => ?_) (fun h4 => absurd h4 (by rw [nI_1, bt_at hS (by omega)]; exact hB1))
            refine PW_iinc (i := 4) (v := (nI k) + 1) (L2 := [some (.ref 70), some (.int kn), some (.int m), some (.int (kn ||| bitsT (kwB y kn m) k)), some (.int ((nI k) + 1))]) c_M_knowThen_106 rfl (iinc_v (by decide)) (Nat.le_of_ble_eq_true rfl) rfl rfl ?_
            refine PW_goto c_M_knowThen_109 ?_
            have hq : kwB y kn m k = false := by simp [kwB, hA0, hA1, hB0, hB1]
            refine PW.eqL ?_ rfl rfl (ih (k + 1) (by omega))
            show ([some (.ref 70), some (.int kn), some (.int m), some (.int (kn ||| bitsT (kwB y kn m) k)), some (.int ((nI k) + 1))] : List (Option Value)) = [some (.ref 70), some (.int kn), some (.int m), some (.int (kn ||| bitsT (kwB y kn m) (k + 1))), some (.int (nI (k + 1)))]
            rw [nI_1, bitsT, if_neg (by rw [hq]; decide)]
        · skip
          refine PW_iload c_M_knowThen_5 rfl ?_
          refine PW_aload_n c_M_knowThen_7 rfl ?_
          refine PW_get (v := .int (y.1 561)) c_M_knowThen_8 fl_M_128 (gf_70_1 _ _) ?_
          refine PW_icmp_ge c_M_knowThen_11 (fun h0 => absurd h0 (fun q => absurd ((ge_t2 hW.1 (by omega) (by omega)).mp q) (by omega))) (fun h0 => ?_)
          refine PW_iload c_M_knowThen_14 rfl ?_
          refine PW_if_le c_M_knowThen_16 (fun h1 => absurd h1 (fun q => absurd ((nI_leI (by omega) (by decide)).mp (show nI k ≤ nI 0 from q)) (by omega))) (fun h1 => ?_)
          refine PW_iload_n c_M_knowThen_19 rfl ?_
          refine PW_iload c_M_knowThen_20 rfl ?_
          refine PW_iconst (v := 1) c_M_knowThen_22 (by decide) ?_
          refine PW_isub c_M_knowThen_23 ?_
          refine PW_ishr c_M_knowThen_24 ?_
          refine PW_iconst (v := 1) c_M_knowThen_25 (by decide) ?_
          refine PW_iand c_M_knowThen_26 ?_
          refine PW_iconst (v := 1) c_M_knowThen_27 (by decide) ?_
          refine PW_icmp_ne c_M_knowThen_28 (fun h2 => ?_) (fun h2 => absurd h2 (by rw [prd hA0, bt_at hS (by omega)]; exact hA1))
          refine PW_iload c_M_knowThen_57 rfl ?_
          refine PW_iconst (v := 1) c_M_knowThen_59 (by decide) ?_
          refine PW_iadd c_M_knowThen_60 ?_
          refine PW_aload_n c_M_knowThen_61 rfl ?_
          refine PW_get (v := .int (y.1 561)) c_M_knowThen_62 fl_M_128 (gf_70_1 _ _) ?_
          refine PW_icmp_ge c_M_knowThen_65 (fun h3 => ?_) (fun h3 => absurd (by rw [nI_1]; exact ((ge_t2 hW.1 (by omega) (by omega)).mpr (by omega : nG y ≤ k + 1))) h3)
          refine PW_iinc (i := 4) (v := (nI k) + 1) (L2 := [some (.ref 70), some (.int kn), some (.int m), some (.int (kn ||| bitsT (kwB y kn m) k)), some (.int ((nI k) + 1))]) c_M_knowThen_106 rfl (iinc_v (by decide)) (Nat.le_of_ble_eq_true rfl) rfl rfl ?_
          refine PW_goto c_M_knowThen_109 ?_
          have hq : kwB y kn m k = false := by simp [kwB, hA0, hA1, hB0]
          refine PW.eqL ?_ rfl rfl (ih (k + 1) (by omega))
          show ([some (.ref 70), some (.int kn), some (.int m), some (.int (kn ||| bitsT (kwB y kn m) k)), some (.int ((nI k) + 1))] : List (Option Value)) = [some (.ref 70), some (.int kn), some (.int m), some (.int (kn ||| bitsT (kwB y kn m) (k + 1))), some (.int (nI (k + 1)))]
          rw [nI_1, bitsT, if_neg (by rw [hq]; decide)]
    · skip
      by_cases hB0 : k + 1 < nG y
      · by_cases hB1 : bt kn (k + 1) = true
        · by_cases hB2 : rO y k m = rO y (k + 1) m
          · skip
            refine PW_iload c_M_knowThen_5 rfl ?_
            refine PW_aload_n c_M_knowThen_7 rfl ?_
            refine PW_get (v := .int (y.1 561)) c_M_knowThen_8 fl_M_128 (gf_70_1 _ _) ?_
            refine PW_icmp_ge c_M_knowThen_11 (fun h0 => absurd h0 (fun q => absurd ((ge_t2 hW.1 (by omega) (by omega)).mp q) (by omega))) (fun h0 => ?_)
            refine PW_iload c_M_knowThen_14 rfl ?_
            refine PW_if_le c_M_knowThen_16 (fun h1 => ?_) (fun h1 => absurd (show nI k ≤ nI 0 from (nI_leI (by omega) (by decide)).mpr (by omega)) h1)
            refine PW_iload c_M_knowThen_57 rfl ?_
            refine PW_iconst (v := 1) c_M_knowThen_59 (by decide) ?_
            refine PW_iadd c_M_knowThen_60 ?_
            refine PW_aload_n c_M_knowThen_61 rfl ?_
            refine PW_get (v := .int (y.1 561)) c_M_knowThen_62 fl_M_128 (gf_70_1 _ _) ?_
            refine PW_icmp_ge c_M_knowThen_65 (fun h2 => absurd h2 (by rw [nI_1]; exact fun q => absurd ((ge_t2 hW.1 (by omega) (by omega)).mp q) (by omega))) (fun h2 => ?_)
            refine PW_iload_n c_M_knowThen_68 rfl ?_
            refine PW_iload c_M_knowThen_69 rfl ?_
            refine PW_iconst (v := 1) c_M_knowThen_71 (by decide) ?_
            refine PW_iadd c_M_knowThen_72 ?_
            refine PW_ishr c_M_knowThen_73 ?_
            refine PW_iconst (v := 1) c_M_knowThen_74 (by decide) ?_
            refine PW_iand c_M_knowThen_75 ?_
            refine PW_iconst (v := 1) c_M_knowThen_76 (by decide) ?_
            refine PW_icmp_ne c_M_knowThen_77 (fun h3 => absurd h3 (not_not_intro (by rw [nI_1, bt_at hS (by omega)]; exact hB1))) (fun h3 => ?_)
            refine PW_aload_n c_M_knowThen_80 rfl ?_
            refine PW_iload c_M_knowThen_81 rfl ?_
            refine PW_iload_n c_M_knowThen_83 rfl ?_
            refine PW_V0 (d2 := 0) (st := []) [.int (nI k), .int m] c_M_knowThen_84 lk_M_knowThen_176 (po_70 _ _) rfl rfl rfl (Nat.le_of_ble_eq_true rfl) (by first | decide | omega) (Nat.le_of_ble_eq_true rfl) ?_
            refine sp_M_roomOf (by rw [nI_toInt (by omega)]; omega) ?_
            show PW _ _ _ 87 [some (.ref 70), some (.int kn), some (.int m), some (.int (kn ||| bitsT (kwB y kn m) k)), some (.int (nI k))] [.int (rO y (nI k).toNatClampNeg m)] (E x y)
            refine PW_aload_n c_M_knowThen_87 rfl ?_
            refine PW_iload c_M_knowThen_88 rfl ?_
            refine PW_iconst (v := 1) c_M_knowThen_90 (by decide) ?_
            refine PW_iadd c_M_knowThen_91 ?_
            refine PW_iload_n c_M_knowThen_92 rfl ?_
            refine PW_V0 (d2 := 0) (st := [.int (rO y (nI k).toNatClampNeg m)]) [.int ((nI k) + 1), .int m] c_M_knowThen_93 lk_M_knowThen_176 (po_70 _ _) rfl rfl rfl (Nat.le_of_ble_eq_true rfl) (by first | decide | omega) (Nat.le_of_ble_eq_true rfl) ?_
            refine sp_M_roomOf (by rw [nI_1, nI_toInt (by omega)]; omega) ?_
            show PW _ _ _ 96 [some (.ref 70), some (.int kn), some (.int m), some (.int (kn ||| bitsT (kwB y kn m) k)), some (.int (nI k))] [.int (rO y ((nI k) + 1).toNatClampNeg m), .int (rO y (nI k).toNatClampNeg m)] (E x y)
            refine PW_icmp_ne c_M_knowThen_96 (fun h4 => absurd h4 (not_not_intro (by rw [nI_1, nI_clamp (by omega), nI_clamp (by omega)]; exact hB2))) (fun h4 => ?_)
            refine PW_iload_n c_M_knowThen_99 rfl ?_
            refine PW_iconst (v := 1) c_M_knowThen_100 (by decide) ?_
            refine PW_iload c_M_knowThen_101 rfl ?_
            refine PW_ishl c_M_knowThen_103 ?_
            refine PW_ior c_M_knowThen_104 ?_
            refine PW_istore_n (i := 3) (L2 := [some (.ref 70), some (.int kn), some (.int m), some (.int ((kn ||| bitsT (kwB y kn m) k) ||| (1 <<< ((nI k) &&& 31)))), some (.int (nI k))]) c_M_knowThen_105 rfl (Nat.le_of_ble_eq_true rfl) rfl rfl ?_
            refine PW_iinc (i := 4) (v := (nI k) + 1) (L2 := [some (.ref 70), some (.int kn), some (.int m), some (.int ((kn ||| bitsT (kwB y kn m) k) ||| (1 <<< ((nI k) &&& 31)))), some (.int ((nI k) + 1))]) c_M_knowThen_106 rfl (iinc_v (by decide)) (Nat.le_of_ble_eq_true rfl) rfl rfl ?_
            refine PW_goto c_M_knowThen_109 ?_
            have hq : kwB y kn m k = true := by simp [kwB, hA0, hB0, hB1, hB2]
            refine PW.eqL ?_ rfl rfl (ih (k + 1) (by omega))
            show ([some (.ref 70), some (.int kn), some (.int m), some (.int ((kn ||| bitsT (kwB y kn m) k) ||| (1 <<< ((nI k) &&& 31)))), some (.int ((nI k) + 1))] : List (Option Value)) = [some (.ref 70), some (.int kn), some (.int m), some (.int (kn ||| bitsT (kwB y kn m) (k + 1))), some (.int (nI (k + 1)))]
            rw [nI_1, bitsT, if_pos hq, or2]
          · skip
            refine PW_iload c_M_knowThen_5 rfl ?_
            refine PW_aload_n c_M_knowThen_7 rfl ?_
            refine PW_get (v := .int (y.1 561)) c_M_knowThen_8 fl_M_128 (gf_70_1 _ _) ?_
            refine PW_icmp_ge c_M_knowThen_11 (fun h0 => absurd h0 (fun q => absurd ((ge_t2 hW.1 (by omega) (by omega)).mp q) (by omega))) (fun h0 => ?_)
            refine PW_iload c_M_knowThen_14 rfl ?_
            refine PW_if_le c_M_knowThen_16 (fun h1 => ?_) (fun h1 => absurd (show nI k ≤ nI 0 from (nI_leI (by omega) (by decide)).mpr (by omega)) h1)
            refine PW_iload c_M_knowThen_57 rfl ?_
            refine PW_iconst (v := 1) c_M_knowThen_59 (by decide) ?_
            refine PW_iadd c_M_knowThen_60 ?_
            refine PW_aload_n c_M_knowThen_61 rfl ?_
            refine PW_get (v := .int (y.1 561)) c_M_knowThen_62 fl_M_128 (gf_70_1 _ _) ?_
            refine PW_icmp_ge c_M_knowThen_65 (fun h2 => absurd h2 (by rw [nI_1]; exact fun q => absurd ((ge_t2 hW.1 (by omega) (by omega)).mp q) (by omega))) (fun h2 => ?_)
            refine PW_iload_n c_M_knowThen_68 rfl ?_
            refine PW_iload c_M_knowThen_69 rfl ?_
            refine PW_iconst (v := 1) c_M_knowThen_71 (by decide) ?_
            refine PW_iadd c_M_knowThen_72 ?_
            refine PW_ishr c_M_knowThen_73 ?_
            refine PW_iconst (v := 1) c_M_knowThen_74 (by decide) ?_
            refine PW_iand c_M_knowThen_75 ?_
            refine PW_iconst (v := 1) c_M_knowThen_76 (by decide) ?_
            refine PW_icmp_ne c_M_knowThen_77 (fun h3 => absurd h3 (not_not_intro (by rw [nI_1, bt_at hS (by omega)]; exact hB1))) (fun h3 => ?_)
            refine PW_aload_n c_M_knowThen_80 rfl ?_
            refine PW_iload c_M_knowThen_81 rfl ?_
            refine PW_iload_n c_M_knowThen_83 rfl ?_
            refine PW_V0 (d2 := 0) (st := []) [.int (nI k), .int m] c_M_knowThen_84 lk_M_knowThen_176 (po_70 _ _) rfl rfl rfl (Nat.le_of_ble_eq_true rfl) (by first | decide | omega) (Nat.le_of_ble_eq_true rfl) ?_
            refine sp_M_roomOf (by rw [nI_toInt (by omega)]; omega) ?_
            show PW _ _ _ 87 [some (.ref 70), some (.int kn), some (.int m), some (.int (kn ||| bitsT (kwB y kn m) k)), some (.int (nI k))] [.int (rO y (nI k).toNatClampNeg m)] (E x y)
            refine PW_aload_n c_M_knowThen_87 rfl ?_
            refine PW_iload c_M_knowThen_88 rfl ?_
            refine PW_iconst (v := 1) c_M_knowThen_90 (by decide) ?_
            refine PW_iadd c_M_knowThen_91 ?_
            refine PW_iload_n c_M_knowThen_92 rfl ?_
            refine PW_V0 (d2 := 0) (st := [.int (rO y (nI k).toNatClampNeg m)]) [.int ((nI k) + 1), .int m] c_M_knowThen_93 lk_M_knowThen_176 (po_70 _ _) rfl rfl rfl (Nat.le_of_ble_eq_true rfl) (by first | decide | omega) (Nat.le_of_ble_eq_true rfl) ?_
            refine sp_M_roomOf (by rw [nI_1, nI_toInt (by omega)]; omega) ?_
            show PW _ _ _ 96 [some (.ref 70), some (.int kn), some (.int m), some (.int (kn ||| bitsT (kwB y kn m) k)), some (.int (nI k))] [.int (rO y ((nI k) + 1).toNatClampNeg m), .int (rO y (nI k).toNatClampNeg m)] (E x y)
            refine PW_icmp_ne c_M_knowThen_96 (fun h4 => ?_) (fun h4 => absurd h4 (by rw [nI_1, nI_clamp (by omega), nI_clamp (by omega)]; exact hB2))
            refine PW_iinc (i := 4) (v := (nI k) + 1) (L2 := [some (.ref 70), some (.int kn), some (.int m), some (.int (kn ||| bitsT (kwB y kn m) k)), some (.int ((nI k) + 1))]) c_M_knowThen_106 rfl (iinc_v (by decide)) (Nat.le_of_ble_eq_true rfl) rfl rfl ?_
            refine PW_goto c_M_knowThen_109 ?_
            have hq : kwB y kn m k = false := by simp [kwB, hA0, hB0, hB1, hB2]
            refine PW.eqL ?_ rfl rfl (ih (k + 1) (by omega))
            show ([some (.ref 70), some (.int kn), some (.int m), some (.int (kn ||| bitsT (kwB y kn m) k)), some (.int ((nI k) + 1))] : List (Option Value)) = [some (.ref 70), some (.int kn), some (.int m), some (.int (kn ||| bitsT (kwB y kn m) (k + 1))), some (.int (nI (k + 1)))]
            rw [nI_1, bitsT, if_neg (by rw [hq]; decide)]
        · skip
          refine PW_iload c_M_knowThen_5 rfl ?_
          refine PW_aload_n c_M_knowThen_7 rfl ?_
          refine PW_get (v := .int (y.1 561)) c_M_knowThen_8 fl_M_128 (gf_70_1 _ _) ?_
          refine PW_icmp_ge c_M_knowThen_11 (fun h0 => absurd h0 (fun q => absurd ((ge_t2 hW.1 (by omega) (by omega)).mp q) (by omega))) (fun h0 => ?_)
          refine PW_iload c_M_knowThen_14 rfl ?_
          refine PW_if_le c_M_knowThen_16 (fun h1 => ?_) (fun h1 => absurd (show nI k ≤ nI 0 from (nI_leI (by omega) (by decide)).mpr (by omega)) h1)
          refine PW_iload c_M_knowThen_57 rfl ?_
          refine PW_iconst (v := 1) c_M_knowThen_59 (by decide) ?_
          refine PW_iadd c_M_knowThen_60 ?_
          refine PW_aload_n c_M_knowThen_61 rfl ?_
          refine PW_get (v := .int (y.1 561)) c_M_knowThen_62 fl_M_128 (gf_70_1 _ _) ?_
          refine PW_icmp_ge c_M_knowThen_65 (fun h2 => absurd h2 (by rw [nI_1]; exact fun q => absurd ((ge_t2 hW.1 (by omega) (by omega)).mp q) (by omega))) (fun h2 => ?_)
          refine PW_iload_n c_M_knowThen_68 rfl ?_
          refine PW_iload c_M_knowThen_69 rfl ?_
          refine PW_iconst (v := 1) c_M_knowThen_71 (by decide) ?_
          refine PW_iadd c_M_knowThen_72 ?_
          refine PW_ishr c_M_knowThen_73 ?_
          refine PW_iconst (v := 1) c_M_knowThen_74 (by decide) ?_
          refine PW_iand c_M_knowThen_75 ?_
          refine PW_iconst (v := 1) c_M_knowThen_76 (by decide) ?_
          refine PW_icmp_ne c_M_knowThen_77 (fun h3 => ?_) (fun h3 => absurd h3 (by rw [nI_1, bt_at hS (by omega)]; exact hB1))
          refine PW_iinc (i := 4) (v := (nI k) + 1) (L2 := [some (.ref 70), some (.int kn), some (.int m), some (.int (kn ||| bitsT (kwB y kn m) k)), some (.int ((nI k) + 1))]) c_M_knowThen_106 rfl (iinc_v (by decide)) (Nat.le_of_ble_eq_true rfl) rfl rfl ?_
          refine PW_goto c_M_knowThen_109 ?_
          have hq : kwB y kn m k = false := by simp [kwB, hA0, hB0, hB1]
          refine PW.eqL ?_ rfl rfl (ih (k + 1) (by omega))
          show ([some (.ref 70), some (.int kn), some (.int m), some (.int (kn ||| bitsT (kwB y kn m) k)), some (.int ((nI k) + 1))] : List (Option Value)) = [some (.ref 70), some (.int kn), some (.int m), some (.int (kn ||| bitsT (kwB y kn m) (k + 1))), some (.int (nI (k + 1)))]
          rw [nI_1, bitsT, if_neg (by rw [hq]; decide)]
      · skip
        refine PW_iload c_M_knowThen_5 rfl ?_
        refine PW_aload_n c_M_knowThen_7 rfl ?_
        refine PW_get (v := .int (y.1 561)) c_M_knowThen_8 fl_M_128 (gf_70_1 _ _) ?_
        refine PW_icmp_ge c_M_knowThen_11 (fun h0 => absurd h0 (fun q => absurd ((ge_t2 hW.1 (by omega) (by omega)).mp q) (by omega))) (fun h0 => ?_)
        refine PW_iload c_M_knowThen_14 rfl ?_
        refine PW_if_le c_M_knowThen_16 (fun h1 => ?_) (fun h1 => absurd (show nI k ≤ nI 0 from (nI_leI (by omega) (by decide)).mpr (by omega)) h1)
        refine PW_iload c_M_knowThen_57 rfl ?_
        refine PW_iconst (v := 1) c_M_knowThen_59 (by decide) ?_
        refine PW_iadd c_M_knowThen_60 ?_
        refine PW_aload_n c_M_knowThen_61 rfl ?_
        refine PW_get (v := .int (y.1 561)) c_M_knowThen_62 fl_M_128 (gf_70_1 _ _) ?_
        refine PW_icmp_ge c_M_knowThen_65 (fun h2 => ?_) (fun h2 => absurd (by rw [nI_1]; exact ((ge_t2 hW.1 (by omega) (by omega)).mpr (by omega : nG y ≤ k + 1))) h2)
        refine PW_iinc (i := 4) (v := (nI k) + 1) (L2 := [some (.ref 70), some (.int kn), some (.int m), some (.int (kn ||| bitsT (kwB y kn m) k)), some (.int ((nI k) + 1))]) c_M_knowThen_106 rfl (iinc_v (by decide)) (Nat.le_of_ble_eq_true rfl) rfl rfl ?_
        refine PW_goto c_M_knowThen_109 ?_
        have hq : kwB y kn m k = false := by simp [kwB, hA0, hB0]
        refine PW.eqL ?_ rfl rfl (ih (k + 1) (by omega))
        show ([some (.ref 70), some (.int kn), some (.int m), some (.int (kn ||| bitsT (kwB y kn m) k)), some (.int ((nI k) + 1))] : List (Option Value)) = [some (.ref 70), some (.int kn), some (.int m), some (.int (kn ||| bitsT (kwB y kn m) (k + 1))), some (.int (nI (k + 1)))]
        rw [nI_1, bitsT, if_neg (by rw [hq]; decide)]
theorem sp_M_knowThen {z : ZS} {post : Option Value → List PE → Prop} {x y : XS}  {kn m : Int32} (hW : WG y) (hS : S10 kn) (h : post (some (.int (kwF y kn m))) (E x y)) : PW (1, 0, 0, z) m_M_knowThen post 0 [some (.ref 70), some (.int kn), some (.int m), none, none] [] (E x y) := by
  refine PW_iload_n c_M_knowThen_0 rfl ?_
  refine PW_istore_n (i := 3) (L2 := [some (.ref 70), some (.int kn), some (.int m), some (.int kn), none]) c_M_knowThen_1 rfl (Nat.le_of_ble_eq_true rfl) rfl rfl ?_
  refine PW_iconst (v := 0) c_M_knowThen_2 (by decide) ?_
  refine PW_istore (i := 4) (L2 := [some (.ref 70), some (.int kn), some (.int m), some (.int kn), some (.int 0)]) c_M_knowThen_3 (Nat.le_of_ble_eq_true rfl) rfl rfl ?_
  refine PW.eqL ?_ rfl rfl (lp_M_knowThen hW hW.2 hS h (nG y) 0 (Nat.zero_add _))
  show ([some (.ref 70), some (.int kn), some (.int m), some (.int kn), some (.int 0)] : List (Option Value)) = [some (.ref 70), some (.int kn), some (.int m), some (.int (kn ||| bitsT (kwB y kn m) 0)), some (.int (nI 0))]
  rw [bitsT, show kn ||| 0 = kn from bt_ext fun i hi => by rw [bt_or, bt_0, Bool.or_false]]
  rfl
