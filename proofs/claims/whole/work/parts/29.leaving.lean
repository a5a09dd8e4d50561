/-! who leaves when -/
theorem sp_H_fact6 {z : ZS} {post : Option Value → List PE → Prop} {x y : XS} {k : Nat} (C : CPg x y) (hk : k < nG y) (h : post (some (.int (y.2.1 77 k))) (E x y)) : PW (2, 0, 0, z) m_H_fact post 0 [some (.ref 6), some (.int (nI k)), some (.int 6)] [] (E x y) := by
  have hn := C.1.2
  have hki : 0 ≤ (nI k).toInt ∧ (nI k).toInt < (nG y : Int) := by rw [nI_toInt (by omega)]; omega
  refine PW_aload_n c_H_fact_0 rfl ?_
  refine PW_iload_n c_H_fact_1 rfl ?_
  refine PW_iload_n c_H_fact_2 rfl ?_
  refine PW_V0 (d2 := 1) (st := []) [.int (nI k), .int 6] c_H_fact_3 lk_H_fact_41 (po_6 _ _) rfl rfl rfl (Nat.le_of_ble_eq_true rfl) (by first | decide | omega) (Nat.le_of_ble_eq_true rfl) ?_
  show PW _ _ _ 0 [some (.ref 6), some (.int (nI k)), some (.int 6)] [] (E x y)
  refine PW_iload_n c_H_hasFact_0 rfl ?_
  refine PW_bipush (v := 7) c_H_hasFact_1 (by decide) ?_
  refine PW_icmp_ne c_H_hasFact_3 (fun _ => ?_) (fun h0 => absurd h0 (by decide))
  refine PW_iload_n c_H_hasFact_25 rfl ?_
  refine PW_if_lt c_H_hasFact_26 (fun h1 => absurd h1 (by decide)) (fun _ => ?_)
  refine PW_iload_n c_H_hasFact_29 rfl ?_
  refine PW_aload_n c_H_hasFact_30 rfl ?_
  refine PW_get (v := .ref 7) c_H_hasFact_31 fl_H_13 (gf_6_0 _ _) ?_
  refine PW_alen (v := 7) c_H_hasFact_34 (ar_7 _ _) (t0 := 5) rfl (by decide) ?_
  refine PW_icmp_ge c_H_hasFact_35 (fun h2 => absurd h2 (by decide)) (fun _ => ?_)
  refine PW_aload_n c_H_hasFact_38 rfl ?_
  refine PW_iload_n c_H_hasFact_39 rfl ?_
  refine PW_V0 (d2 := 0) (st := []) [.int (nI k)] c_H_hasFact_40 lk_H_hasFact_37 (po_6 _ _) rfl rfl rfl (Nat.le_of_ble_eq_true rfl) (by first | decide | omega) (Nat.le_of_ble_eq_true rfl) ?_
  refine sp_H_isGuest C.W C.x51 ?_
  show PW _ _ _ 43 [some (.ref 6), some (.int (nI k)), some (.int 6)] [.int (b2i (0 ≤ (nI k).toInt ∧ (nI k).toInt < (nG y : Int)))] (E x y)
  refine PW_if_eq c_H_hasFact_43 (fun h3 => absurd hki (b2i_0.mp h3)) (fun _ => ?_)
  refine PW_iconst (v := 1) c_H_hasFact_46 (by decide) ?_
  refine PW_goto c_H_hasFact_47 ?_
  refine PW_ireturn (ty := .boolean) c_H_hasFact_51 rfl (by decide +kernel) ?_
  show PW _ _ _ 6 [some (.ref 6), some (.int (nI k)), some (.int 6)] [.int 1] (E x y)
  refine PW_if_ne c_H_fact_6 (fun _ => ?_) (fun h4 => absurd h4 (by decide))
  refine PW_iload_n c_H_fact_11 rfl ?_
  refine PW_bipush (v := 7) c_H_fact_12 (by decide) ?_
  refine PW_icmp_ne c_H_fact_14 (fun _ => ?_) (fun h5 => absurd h5 (by decide))
  refine PW_aload_n c_H_fact_26 rfl ?_
  refine PW_get (v := .ref 7) c_H_fact_27 fl_H_13 (gf_6_0 _ _) ?_
  refine PW_iload_n c_H_fact_30 rfl ?_
  refine PW_aald (j := 6) c_H_fact_31 (ar_7 _ _) (t0 := 5) rfl rfl (vp_in_iff.mpr (by decide)) rfl ?_
  rw [if_pos (by decide)]
  show PW _ _ _ 32 [some (.ref 6), some (.int (nI k)), some (.int 6)] [.ref 14] (E x y)
  refine PW_iload_n c_H_fact_32 rfl ?_
  refine PW_iald (j := k) c_H_fact_33 (ar_14 _ _) (vp_in_nI (by omega) (by decide)) (nI_clamp (by omega)) ?_
  show PW _ _ _ 34 [some (.ref 6), some (.int (nI k)), some (.int 6)] [.int ((x.2.1 14) k)] (E x y)
  refine PW_ireturn (ty := .int) c_H_fact_34 rfl rfl ?_
  exact pqi h (C.row 6 (by omega) hk).symm
theorem lp_Y_readLeaving {z : ZS} {post : Option Value → List PE → Prop} {x y : XS} {m : Int32} (C : CPg x y) (h : PW (3, 0, 0, z) m_Y_readLeaving post 58 [some (.ref 44), some (.int (y.1 561)), some (.int m), some (.int (bitsT (fun g => decide (y.2.1 77 g ≤ m)) (nG y))), some (.int (nI (nG y)))] [] (E x y)) : ∀ j k : Nat, k + j = nG y → PW (3, 0, 0, z) m_Y_readLeaving post 24 [some (.ref 44), some (.int (y.1 561)), some (.int m), some (.int (bitsT (fun g => decide (y.2.1 77 g ≤ m)) k)), some (.int (nI k))] [] (E x y) := by
  have hn := C.1.2
  intro j
  induction j with
  | zero =>
    intro k hk
    refine PW_iload c_Y_readLeaving_24 rfl ?_
    refine PW_iload_n c_Y_readLeaving_26 rfl ?_
    refine PW_icmp_ge c_Y_readLeaving_27 (fun h0 => ?_) (fun h0 => absurd ((ge_t2 C.1.1 (by omega) (by omega)).mpr (by omega)) h0)
    rw [show k = nG y by omega]
    exact h
  | succ j ih =>
    intro k hk
    by_cases hA : y.2.1 77 k ≤ m
    · skip
      refine PW_iload c_Y_readLeaving_24 rfl ?_
      refine PW_iload_n c_Y_readLeaving_26 rfl ?_
      refine PW_icmp_ge c_Y_readLeaving_27 (fun h0 => absurd h0 (fun q => absurd ((ge_t2 C.1.1 (by omega) (by omega)).mp q) (by omega))) (fun h0 => ?_)
      refine PW_aload_n c_Y_readLeaving_30 rfl ?_
      refine PW_get (v := .ref 6) c_Y_readLeaving_31 fl_Y_17 (gf_44_0 _ _) ?_
      refine PW_iload c_Y_readLeaving_34 rfl ?_
      refine PW_bipush (v := 6) c_Y_readLeaving_36 (by decide) ?_
      refine PW_V0 (d2 := 2) (st := []) [.int (nI k), .int 6] c_Y_readLeaving_38 lk_Y_readLeaving_44 (po_6 _ _) rfl rfl rfl (Nat.le_of_ble_eq_true rfl) (by first | decide | omega) (Nat.le_of_ble_eq_true rfl) ?_
      refine sp_H_fact6 C (by omega) ?_
      show PW _ _ _ 41 [some (.ref 44), some (.int (y.1 561)), some (.int m), some (.int (bitsT (fun g => decide (y.2.1 77 g ≤ m)) k)), some (.int (nI k))] [.int (y.2.1 77 k)] (E x y)
      refine PW_iload_n c_Y_readLeaving_41 rfl ?_
      refine PW_icmp_gt c_Y_readLeaving_42 (fun h1 => absurd h1 (Int32.not_lt.mpr hA)) (fun h1 => ?_)
      refine PW_iload_n c_Y_readLeaving_45 rfl ?_
      refine PW_iconst (v := 1) c_Y_readLeaving_46 (by decide) ?_
      refine PW_iload c_Y_readLeaving_47 rfl ?_
      refine PW_ishl c_Y_readLeaving_49 ?_
      refine PW_ior c_Y_readLeaving_50 ?_
      refine PW_istore_n (i := 3) (L2 := [some (.ref 44), some (.int (y.1 561)), some (.int m), some (.int ((bitsT (fun g => decide (y.2.1 77 g ≤ m)) k) ||| (1 <<< ((nI k) &&& 31)))), some (.int (nI k))]) c_Y_readLeaving_51 rfl (Nat.le_of_ble_eq_true rfl) rfl rfl ?_
      refine PW_iinc (i := 4) (v := (nI k) + 1) (L2 := [some (.ref 44), some (.int (y.1 561)), some (.int m), some (.int ((bitsT (fun g => decide (y.2.1 77 g ≤ m)) k) ||| (1 <<< ((nI k) &&& 31)))), some (.int ((nI k) + 1))]) c_Y_readLeaving_52 rfl (iinc_v (by decide)) (Nat.le_of_ble_eq_true rfl) rfl rfl ?_
      refine PW_goto c_Y_readLeaving_55 ?_
      refine PW.eqL ?_ rfl rfl (ih (k + 1) (by omega))
      show ([some (.ref 44), some (.int (y.1 561)), some (.int m), some (.int ((bitsT (fun g => decide (y.2.1 77 g ≤ m)) k) ||| (1 <<< ((nI k) &&& 31)))), some (.int ((nI k) + 1))] : List (Option Value)) = [some (.ref 44), some (.int (y.1 561)), some (.int m), some (.int (bitsT (fun g => decide (y.2.1 77 g ≤ m)) (k + 1))), some (.int (nI (k + 1)))]
      rw [nI_1, bitsT, if_pos (by simp [hA])]
    · skip
      refine PW_iload c_Y_readLeaving_24 rfl ?_
      refine PW_iload_n c_Y_readLeaving_26 rfl ?_
      refine PW_icmp_ge c_Y_readLeaving_27 (fun h0 => absurd h0 (fun q => absurd ((ge_t2 C.1.1 (by omega) (by omega)).mp q) (by omega))) (fun h0 => ?_)
      refine PW_aload_n c_Y_readLeaving_30 rfl ?_
      refine PW_get (v := .ref 6) c_Y_readLeaving_31 fl_Y_17 (gf_44_0 _ _) ?_
      refine PW_iload c_Y_readLeaving_34 rfl ?_
      refine PW_bipush (v := 6) c_Y_readLeaving_36 (by decide) ?_
      refine PW_V0 (d2 := 2) (st := []) [.int (nI k), .int 6] c_Y_readLeaving_38 lk_Y_readLeaving_44 (po_6 _ _) rfl rfl rfl (Nat.le_of_ble_eq_true rfl) (by first | decide | omega) (Nat.le_of_ble_eq_true rfl) ?_
      refine sp_H_fact6 C (by omega) ?_
      show PW _ _ _ 41 [some (.ref 44), some (.int (y.1 561)), some (.int m), some (.int (bitsT (fun g => decide (y.2.1 77 g ≤ m)) k)), some (.int (nI k))] [.int (y.2.1 77 k)] (E x y)
      refine PW_iload_n c_Y_readLeaving_41 rfl ?_
      refine PW_icmp_gt c_Y_readLeaving_42 (fun h1 => ?_) (fun h1 => absurd (Int32.not_le.mp hA) h1)
      refine PW_iinc (i := 4) (v := (nI k) + 1) (L2 := [some (.ref 44), some (.int (y.1 561)), some (.int m), some (.int (bitsT (fun g => decide (y.2.1 77 g ≤ m)) k)), some (.int ((nI k) + 1))]) c_Y_readLeaving_52 rfl (iinc_v (by decide)) (Nat.le_of_ble_eq_true rfl) rfl rfl ?_
      refine PW_goto c_Y_readLeaving_55 ?_
      refine PW.eqL ?_ rfl rfl (ih (k + 1) (by omega))
      show ([some (.ref 44), some (.int (y.1 561)), some (.int m), some (.int (bitsT (fun g => decide (y.2.1 77 g ≤ m)) k)), some (.int ((nI k) + 1))] : List (Option Value)) = [some (.ref 44), some (.int (y.1 561)), some (.int m), some (.int (bitsT (fun g => decide (y.2.1 77 g ≤ m)) (k + 1))), some (.int (nI (k + 1)))]
      rw [nI_1, bitsT, if_neg (by simp [hA])]
