/-! a text worked out by the reference -/
theorem sp_m1 {z : ZS} {post : Option Value → List PE → Prop} {x y : XS} {a0 : Int32} {Ed n k : Nat} {f : Nat → Int32} {l6 : Option Value} {v : Int32} (hEd : Ed ≤ 130) (hk : k < Ed) (hn : n < 120) (h84 : y.2.1 84 k = 1) (h85 : y.2.1 85 k = v) (h : ∀ l6' : Option Value, PW (1, 0, 0, z) m_M_worked post 12 [some (.ref 70), some (.int 0), some (.int a0), some (.int (nI Ed)), some (.int (nI (n + 1))), some (.int (nI (k + 1))), l6'] [] (E x (sA y 90 ((upd f n v))))) : PW (1, 0, 0, z) m_M_worked post 12 [some (.ref 70), some (.int 0), some (.int a0), some (.int (nI Ed)), some (.int (nI n)), some (.int (nI k)), l6] [] (E x (sA y 90 f)) := by
  refine PW_iload c_M_worked_12 rfl ?_
  refine PW_sipush (v := 130) c_M_worked_14 (by decide) ?_
  refine PW_iload_n c_M_worked_17 rfl ?_
  refine PW_imul c_M_worked_18 ?_
  refine PW_iload_n c_M_worked_19 rfl ?_
  refine PW_iadd c_M_worked_20 ?_
  refine PW_icmp_ge c_M_worked_21 (fun h0 => absurd h0 (by rw [(show (130 * 0 + nI Ed : Int32) = nI Ed by rw [show (130 * 0 : Int32) = 0 by decide, Int32.zero_add])]; exact fun q => absurd ((nI_leI (by omega) (by omega)).mp q) (by omega))) (fun h0 => ?_)
  refine PW_aload_n c_M_worked_24 rfl ?_
  refine PW_get (v := .ref 84) c_M_worked_25 fl_M_50 (gf_70_22 _ _) ?_
  refine PW_iload c_M_worked_28 rfl ?_
  refine PW_bald (j := k) c_M_worked_30 (ar_84 _ _) (vp_in_nI (by omega) (by decide)) (nI_clamp (by omega)) ?_
  show PW _ _ _ 31 [some (.ref 70), some (.int 0), some (.int a0), some (.int (nI Ed)), some (.int (nI n)), some (.int (nI k)), l6] [.int ((y.2.1 84) k)] (E x (sA y 90 f))
  rw [h84]
  show PW _ _ _ 31 [some (.ref 70), some (.int 0), some (.int a0), some (.int (nI Ed)), some (.int (nI n)), some (.int (nI k)), l6] [.int 1] (E x (sA y 90 f))
  refine PW_istore (i := 6) (L2 := [some (.ref 70), some (.int 0), some (.int a0), some (.int (nI Ed)), some (.int (nI n)), some (.int (nI k)), some (.int 1)]) c_M_worked_31 (Nat.le_of_ble_eq_true rfl) rfl rfl ?_
  refine PW_iload c_M_worked_33 rfl ?_
  refine PW_iconst (v := 1) c_M_worked_35 (by decide) ?_
  refine PW_icmp_eq c_M_worked_36 (fun _ => ?_) (fun h1 => absurd (by decide) h1)
  refine PW_aload_n c_M_worked_45 rfl ?_
  refine PW_get (v := .ref 90) c_M_worked_46 fl_M_69 (gf_70_28 _ _) ?_
  refine PW_iload c_M_worked_49 rfl ?_
  refine PW_iload c_M_worked_51 rfl ?_
  refine PW_iconst (v := 1) c_M_worked_53 (by decide) ?_
  refine PW_icmp_ne c_M_worked_54 (fun h2 => absurd (by decide) h2) (fun _ => ?_)
  refine PW_aload_n c_M_worked_57 rfl ?_
  refine PW_get (v := .ref 85) c_M_worked_58 fl_M_53 (gf_70_23 _ _) ?_
  refine PW_iload c_M_worked_61 rfl ?_
  refine PW_iald (j := k) c_M_worked_63 (ar_85 _ _) (vp_in_nI (by omega) (by decide)) (nI_clamp (by omega)) ?_
  show PW _ _ _ 64 [some (.ref 70), some (.int 0), some (.int a0), some (.int (nI Ed)), some (.int (nI n)), some (.int (nI k)), some (.int 1)] [.int ((y.2.1 85) k), .int (nI n), .ref 90] (E x (sA y 90 f))
  rw [h85]
  show PW _ _ _ 64 [some (.ref 70), some (.int 0), some (.int a0), some (.int (nI Ed)), some (.int (nI n)), some (.int (nI k)), some (.int 1)] [.int v, .int (nI n), .ref 90] (E x (sA y 90 f))
  refine PW_goto c_M_worked_64 ?_
  refine PW_iast (j := n) (w2 := E x (sA (sA y 90 f) 90 (upd f n v))) c_M_worked_79 (ar_90 _ _) (by rw [show (nI n : Int32) = nI n from rfl]; exact vp_in_nI (by omega) (by decide)) (by rw [show (nI n : Int32) = nI n from rfl]; exact nI_clamp (by omega)) (aw_90 _ _ _) ?_
  refine PW_iinc (i := 4) (v := (nI n) + 1) (L2 := [some (.ref 70), some (.int 0), some (.int a0), some (.int (nI Ed)), some (.int ((nI n) + 1)), some (.int (nI k)), some (.int 1)]) c_M_worked_80 rfl (iinc_v (by decide)) (Nat.le_of_ble_eq_true rfl) rfl rfl ?_
  refine PW_goto c_M_worked_83 ?_
  refine PW_iinc (i := 5) (v := (nI k) + 1) (L2 := [some (.ref 70), some (.int 0), some (.int a0), some (.int (nI Ed)), some (.int ((nI n) + 1)), some (.int ((nI k) + 1)), some (.int 1)]) c_M_worked_182 rfl (iinc_v (by decide)) (Nat.le_of_ble_eq_true rfl) rfl rfl ?_
  refine PW_goto c_M_worked_185 ?_
  refine PW.eqL ?_ rfl ?_ (h (some (.int 1)))
  · show ([some (.ref 70), some (.int 0), some (.int a0), some (.int (nI Ed)), some (.int ((nI n) + 1)), some (.int ((nI k) + 1)), some (.int 1)] : List (Option Value)) = _
    rw [nI_1, nI_1]
  · first | rfl | rw [sA_sA] | (rw [sA_sA, h85]) | skip
theorem sp_m2 {z : ZS} {post : Option Value → List PE → Prop} {x y : XS} {a0 : Int32} {Ed n k : Nat} {f : Nat → Int32} {l6 : Option Value} {v : Int32} (hEd : Ed ≤ 130) (hk : k < Ed) (hn : n < 120) (h84 : y.2.1 84 k = 2) (h85 : y.2.1 85 k = v) (hv : 0 ≤ v.toInt ∧ v.toInt < 5) (h : ∀ l6' : Option Value, PW (1, 0, 0, z) m_M_worked post 12 [some (.ref 70), some (.int 0), some (.int a0), some (.int (nI Ed)), some (.int (nI (n + 1))), some (.int (nI (k + 1))), l6'] [] (E x (sA y 90 ((upd f n (y.2.1 89 v.toNatClampNeg)))))) : PW (1, 0, 0, z) m_M_worked post 12 [some (.ref 70), some (.int 0), some (.int a0), some (.int (nI Ed)), some (.int (nI n)), some (.int (nI k)), l6] [] (E x (sA y 90 f)) := by
  refine PW_iload c_M_worked_12 rfl ?_
  refine PW_sipush (v := 130) c_M_worked_14 (by decide) ?_
  refine PW_iload_n c_M_worked_17 rfl ?_
  refine PW_imul c_M_worked_18 ?_
  refine PW_iload_n c_M_worked_19 rfl ?_
  refine PW_iadd c_M_worked_20 ?_
  refine PW_icmp_ge c_M_worked_21 (fun h0 => absurd h0 (by rw [(show (130 * 0 + nI Ed : Int32) = nI Ed by rw [show (130 * 0 : Int32) = 0 by decide, Int32.zero_add])]; exact fun q => absurd ((nI_leI (by omega) (by omega)).mp q) (by omega))) (fun h0 => ?_)
  refine PW_aload_n c_M_worked_24 rfl ?_
  refine PW_get (v := .ref 84) c_M_worked_25 fl_M_50 (gf_70_22 _ _) ?_
  refine PW_iload c_M_worked_28 rfl ?_
  refine PW_bald (j := k) c_M_worked_30 (ar_84 _ _) (vp_in_nI (by omega) (by decide)) (nI_clamp (by omega)) ?_
  show PW _ _ _ 31 [some (.ref 70), some (.int 0), some (.int a0), some (.int (nI Ed)), some (.int (nI n)), some (.int (nI k)), l6] [.int ((y.2.1 84) k)] (E x (sA y 90 f))
  rw [h84]
  show PW _ _ _ 31 [some (.ref 70), some (.int 0), some (.int a0), some (.int (nI Ed)), some (.int (nI n)), some (.int (nI k)), l6] [.int 2] (E x (sA y 90 f))
  refine PW_istore (i := 6) (L2 := [some (.ref 70), some (.int 0), some (.int a0), some (.int (nI Ed)), some (.int (nI n)), some (.int (nI k)), some (.int 2)]) c_M_worked_31 (Nat.le_of_ble_eq_true rfl) rfl rfl ?_
  refine PW_iload c_M_worked_33 rfl ?_
  refine PW_iconst (v := 1) c_M_worked_35 (by decide) ?_
  refine PW_icmp_eq c_M_worked_36 (fun h1 => absurd h1 (by decide)) (fun _ => ?_)
  refine PW_iload c_M_worked_39 rfl ?_
  refine PW_iconst (v := 2) c_M_worked_41 (by decide) ?_
  refine PW_icmp_ne c_M_worked_42 (fun h2 => absurd (by decide) h2) (fun _ => ?_)
  refine PW_aload_n c_M_worked_45 rfl ?_
  refine PW_get (v := .ref 90) c_M_worked_46 fl_M_69 (gf_70_28 _ _) ?_
  refine PW_iload c_M_worked_49 rfl ?_
  refine PW_iload c_M_worked_51 rfl ?_
  refine PW_iconst (v := 1) c_M_worked_53 (by decide) ?_
  refine PW_icmp_ne c_M_worked_54 (fun _ => ?_) (fun h3 => absurd h3 (by decide))
  refine PW_aload_n c_M_worked_67 rfl ?_
  refine PW_get (v := .ref 89) c_M_worked_68 fl_M_66 (gf_70_27 _ _) ?_
  refine PW_aload_n c_M_worked_71 rfl ?_
  refine PW_get (v := .ref 85) c_M_worked_72 fl_M_53 (gf_70_23 _ _) ?_
  refine PW_iload c_M_worked_75 rfl ?_
  refine PW_iald (j := k) c_M_worked_77 (ar_85 _ _) (vp_in_nI (by omega) (by decide)) (nI_clamp (by omega)) ?_
  show PW _ _ _ 78 [some (.ref 70), some (.int 0), some (.int a0), some (.int (nI Ed)), some (.int (nI n)), some (.int (nI k)), some (.int 2)] [.int ((y.2.1 85) k), .ref 89, .int (nI n), .ref 90] (E x (sA y 90 f))
  rw [h85]
  show PW _ _ _ 78 [some (.ref 70), some (.int 0), some (.int a0), some (.int (nI Ed)), some (.int (nI n)), some (.int (nI k)), some (.int 2)] [.int v, .ref 89, .int (nI n), .ref 90] (E x (sA y 90 f))
  refine PW_iald (j := v.toNatClampNeg) c_M_worked_78 (ar_89 _ _) (vp_in_iff.mpr ⟨hv.1, by omega⟩) rfl ?_
  show PW _ _ _ 79 [some (.ref 70), some (.int 0), some (.int a0), some (.int (nI Ed)), some (.int (nI n)), some (.int (nI k)), some (.int 2)] [.int ((y.2.1 89) v.toNatClampNeg), .int (nI n), .ref 90] (E x (sA y 90 f))
  refine PW_iast (j := n) (w2 := E x (sA (sA y 90 f) 90 (upd f n ((y.2.1 89) v.toNatClampNeg)))) c_M_worked_79 (ar_90 _ _) (by rw [show (nI n : Int32) = nI n from rfl]; exact vp_in_nI (by omega) (by decide)) (by rw [show (nI n : Int32) = nI n from rfl]; exact nI_clamp (by omega)) (aw_90 _ _ _) ?_
  refine PW_iinc (i := 4) (v := (nI n) + 1) (L2 := [some (.ref 70), some (.int 0), some (.int a0), some (.int (nI Ed)), some (.int ((nI n) + 1)), some (.int (nI k)), some (.int 2)]) c_M_worked_80 rfl (iinc_v (by decide)) (Nat.le_of_ble_eq_true rfl) rfl rfl ?_
  refine PW_goto c_M_worked_83 ?_
  refine PW_iinc (i := 5) (v := (nI k) + 1) (L2 := [some (.ref 70), some (.int 0), some (.int a0), some (.int (nI Ed)), some (.int ((nI n) + 1)), some (.int ((nI k) + 1)), some (.int 2)]) c_M_worked_182 rfl (iinc_v (by decide)) (Nat.le_of_ble_eq_true rfl) rfl rfl ?_
  refine PW_goto c_M_worked_185 ?_
  refine PW.eqL ?_ rfl ?_ (h (some (.int 2)))
  · show ([some (.ref 70), some (.int 0), some (.int a0), some (.int (nI Ed)), some (.int ((nI n) + 1)), some (.int ((nI k) + 1)), some (.int 2)] : List (Option Value)) = _
    rw [nI_1, nI_1]
  · first | rfl | rw [sA_sA] | (rw [sA_sA, h85]) | skip
theorem sp_m3 {z : ZS} {post : Option Value → List PE → Prop} {x y : XS} {a0 : Int32} {Ed n k : Nat} {f : Nat → Int32} {l6 : Option Value} {v : Int32} (hEd : Ed ≤ 130) (hk : k < Ed) (hn : n < 120) (h84 : y.2.1 84 k = 3) (h85 : y.2.1 85 k = v) (h : ∀ l6' : Option Value, PW (1, 0, 0, z) m_M_worked post 12 [some (.ref 70), some (.int 0), some (.int a0), some (.int (nI Ed)), some (.int (nI (n + 1))), some (.int (nI (k + 1))), l6'] [] (E x (sA y 90 ((upd f n (if f n = 0 then 1 else 0)))))) : PW (1, 0, 0, z) m_M_worked post 12 [some (.ref 70), some (.int 0), some (.int a0), some (.int (nI Ed)), some (.int (nI (n + 1))), some (.int (nI k)), l6] [] (E x (sA y 90 f)) := by
  by_cases hv : f n = 0
  · rw [if_pos hv] at h
    refine PW_iload c_M_worked_12 rfl ?_
    refine PW_sipush (v := 130) c_M_worked_14 (by decide) ?_
    refine PW_iload_n c_M_worked_17 rfl ?_
    refine PW_imul c_M_worked_18 ?_
    refine PW_iload_n c_M_worked_19 rfl ?_
    refine PW_iadd c_M_worked_20 ?_
    refine PW_icmp_ge c_M_worked_21 (fun h0 => absurd h0 (by rw [(show (130 * 0 + nI Ed : Int32) = nI Ed by rw [show (130 * 0 : Int32) = 0 by decide, Int32.zero_add])]; exact fun q => absurd ((nI_leI (by omega) (by omega)).mp q) (by omega))) (fun h0 => ?_)
    refine PW_aload_n c_M_worked_24 rfl ?_
    refine PW_get (v := .ref 84) c_M_worked_25 fl_M_50 (gf_70_22 _ _) ?_
    refine PW_iload c_M_worked_28 rfl ?_
    refine PW_bald (j := k) c_M_worked_30 (ar_84 _ _) (vp_in_nI (by omega) (by decide)) (nI_clamp (by omega)) ?_
    show PW _ _ _ 31 [some (.ref 70), some (.int 0), some (.int a0), some (.int (nI Ed)), some (.int (nI (n + 1))), some (.int (nI k)), l6] [.int ((y.2.1 84) k)] (E x (sA y 90 f))
    rw [h84]
    show PW _ _ _ 31 [some (.ref 70), some (.int 0), some (.int a0), some (.int (nI Ed)), some (.int (nI (n + 1))), some (.int (nI k)), l6] [.int 3] (E x (sA y 90 f))
    refine PW_istore (i := 6) (L2 := [some (.ref 70), some (.int 0), some (.int a0), some (.int (nI Ed)), some (.int (nI (n + 1))), some (.int (nI k)), some (.int 3)]) c_M_worked_31 (Nat.le_of_ble_eq_true rfl) rfl rfl ?_
    refine PW_iload c_M_worked_33 rfl ?_
    refine PW_iconst (v := 1) c_M_worked_35 (by decide) ?_
    refine PW_icmp_eq c_M_worked_36 (fun h1 => absurd h1 (by decide)) (fun _ => ?_)
    refine PW_iload c_M_worked_39 rfl ?_
    refine PW_iconst (v := 2) c_M_worked_41 (by decide) ?_
    refine PW_icmp_ne c_M_worked_42 (fun _ => ?_) (fun h2 => absurd h2 (by decide))
    refine PW_iload c_M_worked_86 rfl ?_
    refine PW_iconst (v := 3) c_M_worked_88 (by decide) ?_
    refine PW_icmp_ne c_M_worked_89 (fun h3 => absurd (by decide) h3) (fun _ => ?_)
    refine PW_aload_n c_M_worked_92 rfl ?_
    refine PW_get (v := .ref 90) c_M_worked_93 fl_M_69 (gf_70_28 _ _) ?_
    refine PW_iload c_M_worked_96 rfl ?_
    refine PW_iconst (v := 1) c_M_worked_98 (by decide) ?_
    refine PW_isub c_M_worked_99 ?_
    refine PW_aload_n c_M_worked_100 rfl ?_
    refine PW_get (v := .ref 90) c_M_worked_101 fl_M_69 (gf_70_28 _ _) ?_
    refine PW_iload c_M_worked_104 rfl ?_
    refine PW_iconst (v := 1) c_M_worked_106 (by decide) ?_
    refine PW_isub c_M_worked_107 ?_
    refine PW_iald (j := n) c_M_worked_108 (ar_90 _ _) (by rw [show (nI (n + 1) - 1 : Int32) = nI n from pr1 n]; exact vp_in_nI (by omega) (by decide)) (by rw [show (nI (n + 1) - 1 : Int32) = nI n from pr1 n]; exact nI_clamp (by omega)) ?_
    show PW _ _ _ 109 [some (.ref 70), some (.int 0), some (.int a0), some (.int (nI Ed)), some (.int (nI (n + 1))), some (.int (nI k)), some (.int 3)] [.int (f n), .int ((nI (n + 1)) - 1), .ref 90] (E x (sA y 90 f))
    refine PW_if_ne c_M_worked_109 (fun h4 => absurd h4 (not_not_intro hv)) (fun h4 => ?_)
    refine PW_iconst (v := 1) c_M_worked_112 (by decide) ?_
    refine PW_goto c_M_worked_113 ?_
    refine PW_iast (j := n) (w2 := E x (sA (sA y 90 f) 90 (upd f n 1))) c_M_worked_117 (ar_90 _ _) (by rw [show (nI (n + 1) - 1 : Int32) = nI n from pr1 n]; exact vp_in_nI (by omega) (by decide)) (by rw [show (nI (n + 1) - 1 : Int32) = nI n from pr1 n]; exact nI_clamp (by omega)) (aw_90 _ _ _) ?_
    refine PW_goto c_M_worked_118 ?_
    refine PW_iinc (i := 5) (v := (nI k) + 1) (L2 := [some (.ref 70), some (.int 0), some (.int a0), some (.int (nI Ed)), some (.int (nI (n + 1))), some (.int ((nI k) + 1)), some (.int 3)]) c_M_worked_182 rfl (iinc_v (by decide)) (Nat.le_of_ble_eq_true rfl) rfl rfl ?_
    refine PW_goto c_M_worked_185 ?_
    refine PW.eqL ?_ rfl ?_ (h (some (.int 3)))
    · show ([some (.ref 70), some (.int 0), some (.int a0), some (.int (nI Ed)), some (.int (nI (n + 1))), some (.int ((nI k) + 1)), some (.int 3)] : List (Option Value)) = _
      rw [nI_1]
    · first | rfl | rw [sA_sA] | (rw [sA_sA, h85]) | skip
  · rw [if_neg hv] at h
    refine PW_iload c_M_worked_12 rfl ?_
    refine PW_sipush (v := 130) c_M_worked_14 (by decide) ?_
    refine PW_iload_n c_M_worked_17 rfl ?_
    refine PW_imul c_M_worked_18 ?_
    refine PW_iload_n c_M_worked_19 rfl ?_
    refine PW_iadd c_M_worked_20 ?_
    refine PW_icmp_ge c_M_worked_21 (fun h0 => absurd h0 (by rw [(show (130 * 0 + nI Ed : Int32) = nI Ed by rw [show (130 * 0 : Int32) = 0 by decide, Int32.zero_add])]; exact fun q => absurd ((nI_leI (by omega) (by omega)).mp q) (by omega))) (fun h0 => ?_)
    refine PW_aload_n c_M_worked_24 rfl ?_
    refine PW_get (v := .ref 84) c_M_worked_25 fl_M_50 (gf_70_22 _ _) ?_
    refine PW_iload c_M_worked_28 rfl ?_
    refine PW_bald (j := k) c_M_worked_30 (ar_84 _ _) (vp_in_nI (by omega) (by decide)) (nI_clamp (by omega)) ?_
    show PW _ _ _ 31 [some (.ref 70), some (.int 0), some (.int a0), some (.int (nI Ed)), some (.int (nI (n + 1))), some (.int (nI k)), l6] [.int ((y.2.1 84) k)] (E x (sA y 90 f))
    rw [h84]
    show PW _ _ _ 31 [some (.ref 70), some (.int 0), some (.int a0), some (.int (nI Ed)), some (.int (nI (n + 1))), some (.int (nI k)), l6] [.int 3] (E x (sA y 90 f))
    refine PW_istore (i := 6) (L2 := [some (.ref 70), some (.int 0), some (.int a0), some (.int (nI Ed)), some (.int (nI (n + 1))), some (.int (nI k)), some (.int 3)]) c_M_worked_31 (Nat.le_of_ble_eq_true rfl) rfl rfl ?_
    refine PW_iload c_M_worked_33 rfl ?_
    refine PW_iconst (v := 1) c_M_worked_35 (by decide) ?_
    refine PW_icmp_eq c_M_worked_36 (fun h1 => absurd h1 (by decide)) (fun _ => ?_)
    refine PW_iload c_M_worked_39 rfl ?_
    refine PW_iconst (v := 2) c_M_worked_41 (by decide) ?_
    refine PW_icmp_ne c_M_worked_42 (fun _ => ?_) (fun h2 => absurd h2 (by decide))
    refine PW_iload c_M_worked_86 rfl ?_
    refine PW_iconst (v := 3) c_M_worked_88 (by decide) ?_
    refine PW_icmp_ne c_M_worked_89 (fun h3 => absurd (by decide) h3) (fun _ => ?_)
    refine PW_aload_n c_M_worked_92 rfl ?_
    refine PW_get (v := .ref 90) c_M_worked_93 fl_M_69 (gf_70_28 _ _) ?_
    refine PW_iload c_M_worked_96 rfl ?_
    refine PW_iconst (v := 1) c_M_worked_98 (by decide) ?_
    refine PW_isub c_M_worked_99 ?_
    refine PW_aload_n c_M_worked_100 rfl ?_
    refine PW_get (v := .ref 90) c_M_worked_101 fl_M_69 (gf_70_28 _ _) ?_
    refine PW_iload c_M_worked_104 rfl ?_
    refine PW_iconst (v := 1) c_M_worked_106 (by decide) ?_
    refine PW_isub c_M_worked_107 ?_
    refine PW_iald (j := n) c_M_worked_108 (ar_90 _ _) (by rw [show (nI (n + 1) - 1 : Int32) = nI n from pr1 n]; exact vp_in_nI (by omega) (by decide)) (by rw [show (nI (n + 1) - 1 : Int32) = nI n from pr1 n]; exact nI_clamp (by omega)) ?_
    show PW _ _ _ 109 [some (.ref 70), some (.int 0), some (.int a0), some (.int (nI Ed)), some (.int (nI (n + 1))), some (.int (nI k)), some (.int 3)] [.int (f n), .int ((nI (n + 1)) - 1), .ref 90] (E x (sA y 90 f))
    refine PW_if_ne c_M_worked_109 (fun h4 => ?_) (fun h4 => absurd h4 hv)
    refine PW_iconst (v := 0) c_M_worked_116 (by decide) ?_
    refine PW_iast (j := n) (w2 := E x (sA (sA y 90 f) 90 (upd f n 0))) c_M_worked_117 (ar_90 _ _) (by rw [show (nI (n + 1) - 1 : Int32) = nI n from pr1 n]; exact vp_in_nI (by omega) (by decide)) (by rw [show (nI (n + 1) - 1 : Int32) = nI n from pr1 n]; exact nI_clamp (by omega)) (aw_90 _ _ _) ?_
    refine PW_goto c_M_worked_118 ?_
    refine PW_iinc (i := 5) (v := (nI k) + 1) (L2 := [some (.ref 70), some (.int 0), some (.int a0), some (.int (nI Ed)), some (.int (nI (n + 1))), some (.int ((nI k) + 1)), some (.int 3)]) c_M_worked_182 rfl (iinc_v (by decide)) (Nat.le_of_ble_eq_true rfl) rfl rfl ?_
    refine PW_goto c_M_worked_185 ?_
    refine PW.eqL ?_ rfl ?_ (h (some (.int 3)))
    · show ([some (.ref 70), some (.int 0), some (.int a0), some (.int (nI Ed)), some (.int (nI (n + 1))), some (.int ((nI k) + 1)), some (.int 3)] : List (Option Value)) = _
      rw [nI_1]
    · first | rfl | rw [sA_sA] | (rw [sA_sA, h85]) | skip
theorem sp_m4 {z : ZS} {post : Option Value → List PE → Prop} {x y : XS} {a0 : Int32} {Ed n k : Nat} {f : Nat → Int32} {l6 : Option Value} {v : Int32} (hEd : Ed ≤ 130) (hk : k < Ed) (hn : n < 120) (h84 : y.2.1 84 k = 4) (h85 : y.2.1 85 k = v) (h : ∀ l6' : Option Value, PW (1, 0, 0, z) m_M_worked post 12 [some (.ref 70), some (.int 0), some (.int a0), some (.int (nI Ed)), some (.int (nI (n + 1))), some (.int (nI (k + 1))), l6'] [] (E x (sA y 90 ((upd f n (-(f n))))))) : PW (1, 0, 0, z) m_M_worked post 12 [some (.ref 70), some (.int 0), some (.int a0), some (.int (nI Ed)), some (.int (nI (n + 1))), some (.int (nI k)), l6] [] (E x (sA y 90 f)) := by
  refine PW_iload c_M_worked_12 rfl ?_
  refine PW_sipush (v := 130) c_M_worked_14 (by decide) ?_
  refine PW_iload_n c_M_worked_17 rfl ?_
  refine PW_imul c_M_worked_18 ?_
  refine PW_iload_n c_M_worked_19 rfl ?_
  refine PW_iadd c_M_worked_20 ?_
  refine PW_icmp_ge c_M_worked_21 (fun h0 => absurd h0 (by rw [(show (130 * 0 + nI Ed : Int32) = nI Ed by rw [show (130 * 0 : Int32) = 0 by decide, Int32.zero_add])]; exact fun q => absurd ((nI_leI (by omega) (by omega)).mp q) (by omega))) (fun h0 => ?_)
  refine PW_aload_n c_M_worked_24 rfl ?_
  refine PW_get (v := .ref 84) c_M_worked_25 fl_M_50 (gf_70_22 _ _) ?_
  refine PW_iload c_M_worked_28 rfl ?_
  refine PW_bald (j := k) c_M_worked_30 (ar_84 _ _) (vp_in_nI (by omega) (by decide)) (nI_clamp (by omega)) ?_
  show PW _ _ _ 31 [some (.ref 70), some (.int 0), some (.int a0), some (.int (nI Ed)), some (.int (nI (n + 1))), some (.int (nI k)), l6] [.int ((y.2.1 84) k)] (E x (sA y 90 f))
  rw [h84]
  show PW _ _ _ 31 [some (.ref 70), some (.int 0), some (.int a0), some (.int (nI Ed)), some (.int (nI (n + 1))), some (.int (nI k)), l6] [.int 4] (E x (sA y 90 f))
  refine PW_istore (i := 6) (L2 := [some (.ref 70), some (.int 0), some (.int a0), some (.int (nI Ed)), some (.int (nI (n + 1))), some (.int (nI k)), some (.int 4)]) c_M_worked_31 (Nat.le_of_ble_eq_true rfl) rfl rfl ?_
  refine PW_iload c_M_worked_33 rfl ?_
  refine PW_iconst (v := 1) c_M_worked_35 (by decide) ?_
  refine PW_icmp_eq c_M_worked_36 (fun h1 => absurd h1 (by decide)) (fun _ => ?_)
  refine PW_iload c_M_worked_39 rfl ?_
  refine PW_iconst (v := 2) c_M_worked_41 (by decide) ?_
  refine PW_icmp_ne c_M_worked_42 (fun _ => ?_) (fun h2 => absurd h2 (by decide))
  refine PW_iload c_M_worked_86 rfl ?_
  refine PW_iconst (v := 3) c_M_worked_88 (by decide) ?_
  refine PW_icmp_ne c_M_worked_89 (fun _ => ?_) (fun h3 => absurd h3 (by decide))
  refine PW_iload c_M_worked_121 rfl ?_
  refine PW_iconst (v := 4) c_M_worked_123 (by decide) ?_
  refine PW_icmp_ne c_M_worked_124 (fun h4 => absurd (by decide) h4) (fun _ => ?_)
  refine PW_aload_n c_M_worked_127 rfl ?_
  refine PW_get (v := .ref 90) c_M_worked_128 fl_M_69 (gf_70_28 _ _) ?_
  refine PW_iload c_M_worked_131 rfl ?_
  refine PW_iconst (v := 1) c_M_worked_133 (by decide) ?_
  refine PW_isub c_M_worked_134 ?_
  refine PW_aload_n c_M_worked_135 rfl ?_
  refine PW_get (v := .ref 90) c_M_worked_136 fl_M_69 (gf_70_28 _ _) ?_
  refine PW_iload c_M_worked_139 rfl ?_
  refine PW_iconst (v := 1) c_M_worked_141 (by decide) ?_
  refine PW_isub c_M_worked_142 ?_
  refine PW_iald (j := n) c_M_worked_143 (ar_90 _ _) (by rw [show (nI (n + 1) - 1 : Int32) = nI n from pr1 n]; exact vp_in_nI (by omega) (by decide)) (by rw [show (nI (n + 1) - 1 : Int32) = nI n from pr1 n]; exact nI_clamp (by omega)) ?_
  show PW _ _ _ 144 [some (.ref 70), some (.int 0), some (.int a0), some (.int (nI Ed)), some (.int (nI (n + 1))), some (.int (nI k)), some (.int 4)] [.int (f n), .int ((nI (n + 1)) - 1), .ref 90] (E x (sA y 90 f))
  refine PW_ineg c_M_worked_144 ?_
  refine PW_iast (j := n) (w2 := E x (sA (sA y 90 f) 90 (upd f n (-(f n))))) c_M_worked_145 (ar_90 _ _) (by rw [show (nI (n + 1) - 1 : Int32) = nI n from pr1 n]; exact vp_in_nI (by omega) (by decide)) (by rw [show (nI (n + 1) - 1 : Int32) = nI n from pr1 n]; exact nI_clamp (by omega)) (aw_90 _ _ _) ?_
  refine PW_goto c_M_worked_146 ?_
  refine PW_iinc (i := 5) (v := (nI k) + 1) (L2 := [some (.ref 70), some (.int 0), some (.int a0), some (.int (nI Ed)), some (.int (nI (n + 1))), some (.int ((nI k) + 1)), some (.int 4)]) c_M_worked_182 rfl (iinc_v (by decide)) (Nat.le_of_ble_eq_true rfl) rfl rfl ?_
  refine PW_goto c_M_worked_185 ?_
  refine PW.eqL ?_ rfl ?_ (h (some (.int 4)))
  · show ([some (.ref 70), some (.int 0), some (.int a0), some (.int (nI Ed)), some (.int (nI (n + 1))), some (.int ((nI k) + 1)), some (.int 4)] : List (Option Value)) = _
    rw [nI_1]
  · first | rfl | rw [sA_sA] | (rw [sA_sA, h85]) | skip
theorem sp_mb_37 {z : ZS} {post : Option Value → List PE → Prop} {x y : XS} {a0 : Int32} {Ed n k : Nat} {f : Nat → Int32} {l6 : Option Value} {v : Int32} (hEd : Ed ≤ 130) (hk : k < Ed) (hn : n < 120) (h84 : y.2.1 84 k = nI 37) (h85 : y.2.1 85 k = v) (h : ∀ l6' : Option Value, PW (1, 0, 0, z) m_M_worked post 12 [some (.ref 70), some (.int 0), some (.int a0), some (.int (nI Ed)), some (.int (nI (n + 1))), some (.int (nI (k + 1))), l6'] [] (E x (sA y 90 ((upd f n (twF 37 (f n) (f (n + 1)))))))) : PW (1, 0, 0, z) m_M_worked post 12 [some (.ref 70), some (.int 0), some (.int a0), some (.int (nI Ed)), some (.int (nI (n + 2))), some (.int (nI k)), l6] [] (E x (sA y 90 f)) := by
  refine PW_iload c_M_worked_12 rfl ?_
  refine PW_sipush (v := 130) c_M_worked_14 (by decide) ?_
  refine PW_iload_n c_M_worked_17 rfl ?_
  refine PW_imul c_M_worked_18 ?_
  refine PW_iload_n c_M_worked_19 rfl ?_
  refine PW_iadd c_M_worked_20 ?_
  refine PW_icmp_ge c_M_worked_21 (fun h0 => absurd h0 (by rw [(show (130 * 0 + nI Ed : Int32) = nI Ed by rw [show (130 * 0 : Int32) = 0 by decide, Int32.zero_add])]; exact fun q => absurd ((nI_leI (by omega) (by omega)).mp q) (by omega))) (fun h0 => ?_)
  refine PW_aload_n c_M_worked_24 rfl ?_
  refine PW_get (v := .ref 84) c_M_worked_25 fl_M_50 (gf_70_22 _ _) ?_
  refine PW_iload c_M_worked_28 rfl ?_
  refine PW_bald (j := k) c_M_worked_30 (ar_84 _ _) (vp_in_nI (by omega) (by decide)) (nI_clamp (by omega)) ?_
  show PW _ _ _ 31 [some (.ref 70), some (.int 0), some (.int a0), some (.int (nI Ed)), some (.int (nI (n + 2))), some (.int (nI k)), l6] [.int ((y.2.1 84) k)] (E x (sA y 90 f))
  rw [h84]
  show PW _ _ _ 31 [some (.ref 70), some (.int 0), some (.int a0), some (.int (nI Ed)), some (.int (nI (n + 2))), some (.int (nI k)), l6] [.int 37] (E x (sA y 90 f))
  refine PW_istore (i := 6) (L2 := [some (.ref 70), some (.int 0), some (.int a0), some (.int (nI Ed)), some (.int (nI (n + 2))), some (.int (nI k)), some (.int 37)]) c_M_worked_31 (Nat.le_of_ble_eq_true rfl) rfl rfl ?_
  refine PW_iload c_M_worked_33 rfl ?_
  refine PW_iconst (v := 1) c_M_worked_35 (by decide) ?_
  refine PW_icmp_eq c_M_worked_36 (fun h1 => absurd h1 (by decide)) (fun _ => ?_)
  refine PW_iload c_M_worked_39 rfl ?_
  refine PW_iconst (v := 2) c_M_worked_41 (by decide) ?_
  refine PW_icmp_ne c_M_worked_42 (fun _ => ?_) (fun h2 => absurd h2 (by decide))
  refine PW_iload c_M_worked_86 rfl ?_
  refine PW_iconst (v := 3) c_M_worked_88 (by decide) ?_
  refine PW_icmp_ne c_M_worked_89 (fun _ => ?_) (fun h3 => absurd h3 (by decide))
  refine PW_iload c_M_worked_121 rfl ?_
  refine PW_iconst (v := 4) c_M_worked_123 (by decide) ?_
  refine PW_icmp_ne c_M_worked_124 (fun _ => ?_) (fun h4 => absurd h4 (by decide))
  refine PW_iinc (i := 4) (v := (nI (n + 2)) + (-1)) (L2 := [some (.ref 70), some (.int 0), some (.int a0), some (.int (nI Ed)), some (.int ((nI (n + 2)) + (-1))), some (.int (nI k)), some (.int 37)]) c_M_worked_149 rfl (iinc_v (by decide)) (Nat.le_of_ble_eq_true rfl) rfl rfl ?_
  refine PW_aload_n c_M_worked_152 rfl ?_
  refine PW_get (v := .ref 90) c_M_worked_153 fl_M_69 (gf_70_28 _ _) ?_
  refine PW_iload c_M_worked_156 rfl ?_
  refine PW_iconst (v := 1) c_M_worked_158 (by decide) ?_
  refine PW_isub c_M_worked_159 ?_
  refine PW_iload c_M_worked_160 rfl ?_
  refine PW_aload_n c_M_worked_162 rfl ?_
  refine PW_get (v := .ref 90) c_M_worked_163 fl_M_69 (gf_70_28 _ _) ?_
  refine PW_iload c_M_worked_166 rfl ?_
  refine PW_iconst (v := 1) c_M_worked_168 (by decide) ?_
  refine PW_isub c_M_worked_169 ?_
  refine PW_iald (j := n) c_M_worked_170 (ar_90 _ _) (by rw [show (nI (n + 2) + (-1) - 1 : Int32) = nI n from (by rw [pr2, pr1, pr1])]; exact vp_in_nI (by omega) (by decide)) (by rw [show (nI (n + 2) + (-1) - 1 : Int32) = nI n from (by rw [pr2, pr1, pr1])]; exact nI_clamp (by omega)) ?_
  show PW _ _ _ 171 [some (.ref 70), some (.int 0), some (.int a0), some (.int (nI Ed)), some (.int ((nI (n + 2)) + (-1))), some (.int (nI k)), some (.int 37)] [.int (f n), .int 37, .int (((nI (n + 2)) + (-1)) - 1), .ref 90] (E x (sA y 90 f))
  refine PW_aload_n c_M_worked_171 rfl ?_
  refine PW_get (v := .ref 90) c_M_worked_172 fl_M_69 (gf_70_28 _ _) ?_
  refine PW_iload c_M_worked_175 rfl ?_
  refine PW_iald (j := (n + 1)) c_M_worked_177 (ar_90 _ _) (by rw [show (nI (n + 2) + (-1) : Int32) = nI (n + 1) from (by rw [pr2, pr1])]; exact vp_in_nI (by omega) (by decide)) (by rw [show (nI (n + 2) + (-1) : Int32) = nI (n + 1) from (by rw [pr2, pr1])]; exact nI_clamp (by omega)) ?_
  show PW _ _ _ 178 [some (.ref 70), some (.int 0), some (.int a0), some (.int (nI Ed)), some (.int ((nI (n + 2)) + (-1))), some (.int (nI k)), some (.int 37)] [.int (f ((n + 1))), .int (f n), .int 37, .int (((nI (n + 2)) + (-1)) - 1), .ref 90] (E x (sA y 90 f))
  refine PW_S0 (d2 := 0) (st := [.int (((nI (n + 2)) + (-1)) - 1), .ref 90]) [.int 37, .int (f n), .int (f ((n + 1)))] c_M_worked_178 lk_M_worked_240 rfl rfl rfl (Nat.le_of_ble_eq_true rfl) (by first | decide | omega) (Nat.le_of_ble_eq_true rfl) ?_
  refine sp_M_twoOf_37 ?_
  show PW _ _ _ 181 [some (.ref 70), some (.int 0), some (.int a0), some (.int (nI Ed)), some (.int ((nI (n + 2)) + (-1))), some (.int (nI k)), some (.int 37)] [.int (twF 37 (f n) (f ((n + 1)))), .int (((nI (n + 2)) + (-1)) - 1), .ref 90] (E x (sA y 90 f))
  refine PW_iast (j := n) (w2 := E x (sA (sA y 90 f) 90 (upd f n (twF 37 (f n) (f ((n + 1))))))) c_M_worked_181 (ar_90 _ _) (by rw [show (nI (n + 2) + (-1) - 1 : Int32) = nI n from (by rw [pr2, pr1, pr1])]; exact vp_in_nI (by omega) (by decide)) (by rw [show (nI (n + 2) + (-1) - 1 : Int32) = nI n from (by rw [pr2, pr1, pr1])]; exact nI_clamp (by omega)) (aw_90 _ _ _) ?_
  refine PW_iinc (i := 5) (v := (nI k) + 1) (L2 := [some (.ref 70), some (.int 0), some (.int a0), some (.int (nI Ed)), some (.int ((nI (n + 2)) + (-1))), some (.int ((nI k) + 1)), some (.int 37)]) c_M_worked_182 rfl (iinc_v (by decide)) (Nat.le_of_ble_eq_true rfl) rfl rfl ?_
  refine PW_goto c_M_worked_185 ?_
  refine PW.eqL ?_ rfl ?_ (h (some (.int 37)))
  · show ([some (.ref 70), some (.int 0), some (.int a0), some (.int (nI Ed)), some (.int ((nI (n + 2)) + (-1))), some (.int ((nI k) + 1)), some (.int 37)] : List (Option Value)) = _
    rw [nI_1, pr2, pr1]
  · first | rfl | rw [sA_sA] | (rw [sA_sA, h85]) | skip
theorem sp_mb_38 {z : ZS} {post : Option Value → List PE → Prop} {x y : XS} {a0 : Int32} {Ed n k : Nat} {f : Nat → Int32} {l6 : Option Value} {v : Int32} (hEd : Ed ≤ 130) (hk : k < Ed) (hn : n < 120) (h84 : y.2.1 84 k = nI 38) (h85 : y.2.1 85 k = v) (h : ∀ l6' : Option Value, PW (1, 0, 0, z) m_M_worked post 12 [some (.ref 70), some (.int 0), some (.int a0), some (.int (nI Ed)), some (.int (nI (n + 1))), some (.int (nI (k + 1))), l6'] [] (E x (sA y 90 ((upd f n (twF 38 (f n) (f (n + 1)))))))) : PW (1, 0, 0, z) m_M_worked post 12 [some (.ref 70), some (.int 0), some (.int a0), some (.int (nI Ed)), some (.int (nI (n + 2))), some (.int (nI k)), l6] [] (E x (sA y 90 f)) := by
  refine PW_iload c_M_worked_12 rfl ?_
  refine PW_sipush (v := 130) c_M_worked_14 (by decide) ?_
  refine PW_iload_n c_M_worked_17 rfl ?_
  refine PW_imul c_M_worked_18 ?_
  refine PW_iload_n c_M_worked_19 rfl ?_
  refine PW_iadd c_M_worked_20 ?_
  refine PW_icmp_ge c_M_worked_21 (fun h0 => absurd h0 (by rw [(show (130 * 0 + nI Ed : Int32) = nI Ed by rw [show (130 * 0 : Int32) = 0 by decide, Int32.zero_add])]; exact fun q => absurd ((nI_leI (by omega) (by omega)).mp q) (by omega))) (fun h0 => ?_)
  refine PW_aload_n c_M_worked_24 rfl ?_
  refine PW_get (v := .ref 84) c_M_worked_25 fl_M_50 (gf_70_22 _ _) ?_
  refine PW_iload c_M_worked_28 rfl ?_
  refine PW_bald (j := k) c_M_worked_30 (ar_84 _ _) (vp_in_nI (by omega) (by decide)) (nI_clamp (by omega)) ?_
  show PW _ _ _ 31 [some (.ref 70), some (.int 0), some (.int a0), some (.int (nI Ed)), some (.int (nI (n + 2))), some (.int (nI k)), l6] [.int ((y.2.1 84) k)] (E x (sA y 90 f))
  rw [h84]
  show PW _ _ _ 31 [some (.ref 70), some (.int 0), some (.int a0), some (.int (nI Ed)), some (.int (nI (n + 2))), some (.int (nI k)), l6] [.int 38] (E x (sA y 90 f))
  refine PW_istore (i := 6) (L2 := [some (.ref 70), some (.int 0), some (.int a0), some (.int (nI Ed)), some (.int (nI (n + 2))), some (.int (nI k)), some (.int 38)]) c_M_worked_31 (Nat.le_of_ble_eq_true rfl) rfl rfl ?_
  refine PW_iload c_M_worked_33 rfl ?_
  refine PW_iconst (v := 1) c_M_worked_35 (by decide) ?_
  refine PW_icmp_eq c_M_worked_36 (fun h1 => absurd h1 (by decide)) (fun _ => ?_)
  refine PW_iload c_M_worked_39 rfl ?_
  refine PW_iconst (v := 2) c_M_worked_41 (by decide) ?_
  refine PW_icmp_ne c_M_worked_42 (fun _ => ?_) (fun h2 => absurd h2 (by decide))
  refine PW_iload c_M_worked_86 rfl ?_
  refine PW_iconst (v := 3) c_M_worked_88 (by decide) ?_
  refine PW_icmp_ne c_M_worked_89 (fun _ => ?_) (fun h3 => absurd h3 (by decide))
  refine PW_iload c_M_worked_121 rfl ?_
  refine PW_iconst (v := 4) c_M_worked_123 (by decide) ?_
  refine PW_icmp_ne c_M_worked_124 (fun _ => ?_) (fun h4 => absurd h4 (by decide))
  refine PW_iinc (i := 4) (v := (nI (n + 2)) + (-1)) (L2 := [some (.ref 70), some (.int 0), some (.int a0), some (.int (nI Ed)), some (.int ((nI (n + 2)) + (-1))), some (.int (nI k)), some (.int 38)]) c_M_worked_149 rfl (iinc_v (by decide)) (Nat.le_of_ble_eq_true rfl) rfl rfl ?_
  refine PW_aload_n c_M_worked_152 rfl ?_
  refine PW_get (v := .ref 90) c_M_worked_153 fl_M_69 (gf_70_28 _ _) ?_
  refine PW_iload c_M_worked_156 rfl ?_
  refine PW_iconst (v := 1) c_M_worked_158 (by decide) ?_
  refine PW_isub c_M_worked_159 ?_
  refine PW_iload c_M_worked_160 rfl ?_
  refine PW_aload_n c_M_worked_162 rfl ?_
  refine PW_get (v := .ref 90) c_M_worked_163 fl_M_69 (gf_70_28 _ _) ?_
  refine PW_iload c_M_worked_166 rfl ?_
  refine PW_iconst (v := 1) c_M_worked_168 (by decide) ?_
  refine PW_isub c_M_worked_169 ?_
  refine PW_iald (j := n) c_M_worked_170 (ar_90 _ _) (by rw [show (nI (n + 2) + (-1) - 1 : Int32) = nI n from (by rw [pr2, pr1, pr1])]; exact vp_in_nI (by omega) (by decide)) (by rw [show (nI (n + 2) + (-1) - 1 : Int32) = nI n from (by rw [pr2, pr1, pr1])]; exact nI_clamp (by omega)) ?_
  show PW _ _ _ 171 [some (.ref 70), some (.int 0), some (.int a0), some (.int (nI Ed)), some (.int ((nI (n + 2)) + (-1))), some (.int (nI k)), some (.int 38)] [.int (f n), .int 38, .int (((nI (n + 2)) + (-1)) - 1), .ref 90] (E x (sA y 90 f))
  refine PW_aload_n c_M_worked_171 rfl ?_
  refine PW_get (v := .ref 90) c_M_worked_172 fl_M_69 (gf_70_28 _ _) ?_
  refine PW_iload c_M_worked_175 rfl ?_
  refine PW_iald (j := (n + 1)) c_M_worked_177 (ar_90 _ _) (by rw [show (nI (n + 2) + (-1) : Int32) = nI (n + 1) from (by rw [pr2, pr1])]; exact vp_in_nI (by omega) (by decide)) (by rw [show (nI (n + 2) + (-1) : Int32) = nI (n + 1) from (by rw [pr2, pr1])]; exact nI_clamp (by omega)) ?_
  show PW _ _ _ 178 [some (.ref 70), some (.int 0), some (.int a0), some (.int (nI Ed)), some (.int ((nI (n + 2)) + (-1))), some (.int (nI k)), some (.int 38)] [.int (f ((n + 1))), .int (f n), .int 38, .int (((nI (n + 2)) + (-1)) - 1), .ref 90] (E x (sA y 90 f))
  refine PW_S0 (d2 := 0) (st := [.int (((nI (n + 2)) + (-1)) - 1), .ref 90]) [.int 38, .int (f n), .int (f ((n + 1)))] c_M_worked_178 lk_M_worked_240 rfl rfl rfl (Nat.le_of_ble_eq_true rfl) (by first | decide | omega) (Nat.le_of_ble_eq_true rfl) ?_
  refine sp_M_twoOf_38 ?_
  show PW _ _ _ 181 [some (.ref 70), some (.int 0), some (.int a0), some (.int (nI Ed)), some (.int ((nI (n + 2)) + (-1))), some (.int (nI k)), some (.int 38)] [.int (twF 38 (f n) (f ((n + 1)))), .int (((nI (n + 2)) + (-1)) - 1), .ref 90] (E x (sA y 90 f))
  refine PW_iast (j := n) (w2 := E x (sA (sA y 90 f) 90 (upd f n (twF 38 (f n) (f ((n + 1))))))) c_M_worked_181 (ar_90 _ _) (by rw [show (nI (n + 2) + (-1) - 1 : Int32) = nI n from (by rw [pr2, pr1, pr1])]; exact vp_in_nI (by omega) (by decide)) (by rw [show (nI (n + 2) + (-1) - 1 : Int32) = nI n from (by rw [pr2, pr1, pr1])]; exact nI_clamp (by omega)) (aw_90 _ _ _) ?_
  refine PW_iinc (i := 5) (v := (nI k) + 1) (L2 := [some (.ref 70), some (.int 0), some (.int a0), some (.int (nI Ed)), some (.int ((nI (n + 2)) + (-1))), some (.int ((nI k) + 1)), some (.int 38)]) c_M_worked_182 rfl (iinc_v (by decide)) (Nat.le_of_ble_eq_true rfl) rfl rfl ?_
  refine PW_goto c_M_worked_185 ?_
  refine PW.eqL ?_ rfl ?_ (h (some (.int 38)))
  · show ([some (.ref 70), some (.int 0), some (.int a0), some (.int (nI Ed)), some (.int ((nI (n + 2)) + (-1))), some (.int ((nI k) + 1)), some (.int 38)] : List (Option Value)) = _
    rw [nI_1, pr2, pr1]
  · first | rfl | rw [sA_sA] | (rw [sA_sA, h85]) | skip
theorem sp_mb_42 {z : ZS} {post : Option Value → List PE → Prop} {x y : XS} {a0 : Int32} {Ed n k : Nat} {f : Nat → Int32} {l6 : Option Value} {v : Int32} (hEd : Ed ≤ 130) (hk : k < Ed) (hn : n < 120) (h84 : y.2.1 84 k = nI 42) (h85 : y.2.1 85 k = v) (h : ∀ l6' : Option Value, PW (1, 0, 0, z) m_M_worked post 12 [some (.ref 70), some (.int 0), some (.int a0), some (.int (nI Ed)), some (.int (nI (n + 1))), some (.int (nI (k + 1))), l6'] [] (E x (sA y 90 ((upd f n (twF 42 (f n) (f (n + 1)))))))) : PW (1, 0, 0, z) m_M_worked post 12 [some (.ref 70), some (.int 0), some (.int a0), some (.int (nI Ed)), some (.int (nI (n + 2))), some (.int (nI k)), l6] [] (E x (sA y 90 f)) := by
  refine PW_iload c_M_worked_12 rfl ?_
  refine PW_sipush (v := 130) c_M_worked_14 (by decide) ?_
  refine PW_iload_n c_M_worked_17 rfl ?_
  refine PW_imul c_M_worked_18 ?_
  refine PW_iload_n c_M_worked_19 rfl ?_
  refine PW_iadd c_M_worked_20 ?_
  refine PW_icmp_ge c_M_worked_21 (fun h0 => absurd h0 (by rw [(show (130 * 0 + nI Ed : Int32) = nI Ed by rw [show (130 * 0 : Int32) = 0 by decide, Int32.zero_add])]; exact fun q => absurd ((nI_leI (by omega) (by omega)).mp q) (by omega))) (fun h0 => ?_)
  refine PW_aload_n c_M_worked_24 rfl ?_
  refine PW_get (v := .ref 84) c_M_worked_25 fl_M_50 (gf_70_22 _ _) ?_
  refine PW_iload c_M_worked_28 rfl ?_
  refine PW_bald (j := k) c_M_worked_30 (ar_84 _ _) (vp_in_nI (by omega) (by decide)) (nI_clamp (by omega)) ?_
  show PW _ _ _ 31 [some (.ref 70), some (.int 0), some (.int a0), some (.int (nI Ed)), some (.int (nI (n + 2))), some (.int (nI k)), l6] [.int ((y.2.1 84) k)] (E x (sA y 90 f))
  rw [h84]
  show PW _ _ _ 31 [some (.ref 70), some (.int 0), some (.int a0), some (.int (nI Ed)), some (.int (nI (n + 2))), some (.int (nI k)), l6] [.int 42] (E x (sA y 90 f))
  refine PW_istore (i := 6) (L2 := [some (.ref 70), some (.int 0), some (.int a0), some (.int (nI Ed)), some (.int (nI (n + 2))), some (.int (nI k)), some (.int 42)]) c_M_worked_31 (Nat.le_of_ble_eq_true rfl) rfl rfl ?_
  refine PW_iload c_M_worked_33 rfl ?_
  refine PW_iconst (v := 1) c_M_worked_35 (by decide) ?_
  refine PW_icmp_eq c_M_worked_36 (fun h1 => absurd h1 (by decide)) (fun _ => ?_)
  refine PW_iload c_M_worked_39 rfl ?_
  refine PW_iconst (v := 2) c_M_worked_41 (by decide) ?_
  refine PW_icmp_ne c_M_worked_42 (fun _ => ?_) (fun h2 => absurd h2 (by decide))
  refine PW_iload c_M_worked_86 rfl ?_
  refine PW_iconst (v := 3) c_M_worked_88 (by decide) ?_
  refine PW_icmp_ne c_M_worked_89 (fun _ => ?_) (fun h3 => absurd h3 (by decide))
  refine PW_iload c_M_worked_121 rfl ?_
  refine PW_iconst (v := 4) c_M_worked_123 (by decide) ?_
  refine PW_icmp_ne c_M_worked_124 (fun _ => ?_) (fun h4 => absurd h4 (by decide))
  refine PW_iinc (i := 4) (v := (nI (n + 2)) + (-1)) (L2 := [some (.ref 70), some (.int 0), some (.int a0), some (.int (nI Ed)), some (.int ((nI (n + 2)) + (-1))), some (.int (nI k)), some (.int 42)]) c_M_worked_149 rfl (iinc_v (by decide)) (Nat.le_of_ble_eq_true rfl) rfl rfl ?_
  refine PW_aload_n c_M_worked_152 rfl ?_
  refine PW_get (v := .ref 90) c_M_worked_153 fl_M_69 (gf_70_28 _ _) ?_
  refine PW_iload c_M_worked_156 rfl ?_
  refine PW_iconst (v := 1) c_M_worked_158 (by decide) ?_
  refine PW_isub c_M_worked_159 ?_
  refine PW_iload c_M_worked_160 rfl ?_
  refine PW_aload_n c_M_worked_162 rfl ?_
  refine PW_get (v := .ref 90) c_M_worked_163 fl_M_69 (gf_70_28 _ _) ?_
  refine PW_iload c_M_worked_166 rfl ?_
  refine PW_iconst (v := 1) c_M_worked_168 (by decide) ?_
  refine PW_isub c_M_worked_169 ?_
  refine PW_iald (j := n) c_M_worked_170 (ar_90 _ _) (by rw [show (nI (n + 2) + (-1) - 1 : Int32) = nI n from (by rw [pr2, pr1, pr1])]; exact vp_in_nI (by omega) (by decide)) (by rw [show (nI (n + 2) + (-1) - 1 : Int32) = nI n from (by rw [pr2, pr1, pr1])]; exact nI_clamp (by omega)) ?_
  show PW _ _ _ 171 [some (.ref 70), some (.int 0), some (.int a0), some (.int (nI Ed)), some (.int ((nI (n + 2)) + (-1))), some (.int (nI k)), some (.int 42)] [.int (f n), .int 42, .int (((nI (n + 2)) + (-1)) - 1), .ref 90] (E x (sA y 90 f))
  refine PW_aload_n c_M_worked_171 rfl ?_
  refine PW_get (v := .ref 90) c_M_worked_172 fl_M_69 (gf_70_28 _ _) ?_
  refine PW_iload c_M_worked_175 rfl ?_
  refine PW_iald (j := (n + 1)) c_M_worked_177 (ar_90 _ _) (by rw [show (nI (n + 2) + (-1) : Int32) = nI (n + 1) from (by rw [pr2, pr1])]; exact vp_in_nI (by omega) (by decide)) (by rw [show (nI (n + 2) + (-1) : Int32) = nI (n + 1) from (by rw [pr2, pr1])]; exact nI_clamp (by omega)) ?_
  show PW _ _ _ 178 [some (.ref 70), some (.int 0), some (.int a0), some (.int (nI Ed)), some (.int ((nI (n + 2)) + (-1))), some (.int (nI k)), some (.int 42)] [.int (f ((n + 1))), .int (f n), .int 42, .int (((nI (n + 2)) + (-1)) - 1), .ref 90] (E x (sA y 90 f))
  refine PW_S0 (d2 := 0) (st := [.int (((nI (n + 2)) + (-1)) - 1), .ref 90]) [.int 42, .int (f n), .int (f ((n + 1)))] c_M_worked_178 lk_M_worked_240 rfl rfl rfl (Nat.le_of_ble_eq_true rfl) (by first | decide | omega) (Nat.le_of_ble_eq_true rfl) ?_
  refine sp_M_twoOf_42 ?_
  show PW _ _ _ 181 [some (.ref 70), some (.int 0), some (.int a0), some (.int (nI Ed)), some (.int ((nI (n + 2)) + (-1))), some (.int (nI k)), some (.int 42)] [.int (twF 42 (f n) (f ((n + 1)))), .int (((nI (n + 2)) + (-1)) - 1), .ref 90] (E x (sA y 90 f))
  refine PW_iast (j := n) (w2 := E x (sA (sA y 90 f) 90 (upd f n (twF 42 (f n) (f ((n + 1))))))) c_M_worked_181 (ar_90 _ _) (by rw [show (nI (n + 2) + (-1) - 1 : Int32) = nI n from (by rw [pr2, pr1, pr1])]; exact vp_in_nI (by omega) (by decide)) (by rw [show (nI (n + 2) + (-1) - 1 : Int32) = nI n from (by rw [pr2, pr1, pr1])]; exact nI_clamp (by omega)) (aw_90 _ _ _) ?_
  refine PW_iinc (i := 5) (v := (nI k) + 1) (L2 := [some (.ref 70), some (.int 0), some (.int a0), some (.int (nI Ed)), some (.int ((nI (n + 2)) + (-1))), some (.int ((nI k) + 1)), some (.int 42)]) c_M_worked_182 rfl (iinc_v (by decide)) (Nat.le_of_ble_eq_true rfl) rfl rfl ?_
  refine PW_goto c_M_worked_185 ?_
  refine PW.eqL ?_ rfl ?_ (h (some (.int 42)))
  · show ([some (.ref 70), some (.int 0), some (.int a0), some (.int (nI Ed)), some (.int ((nI (n + 2)) + (-1))), some (.int ((nI k) + 1)), some (.int 42)] : List (Option Value)) = _
    rw [nI_1, pr2, pr1]
  · first | rfl | rw [sA_sA] | (rw [sA_sA, h85]) | skip
theorem sp_mb_43 {z : ZS} {post : Option Value → List PE → Prop} {x y : XS} {a0 : Int32} {Ed n k : Nat} {f : Nat → Int32} {l6 : Option Value} {v : Int32} (hEd : Ed ≤ 130) (hk : k < Ed) (hn : n < 120) (h84 : y.2.1 84 k = nI 43) (h85 : y.2.1 85 k = v) (h : ∀ l6' : Option Value, PW (1, 0, 0, z) m_M_worked post 12 [some (.ref 70), some (.int 0), some (.int a0), some (.int (nI Ed)), some (.int (nI (n + 1))), some (.int (nI (k + 1))), l6'] [] (E x (sA y 90 ((upd f n (twF 43 (f n) (f (n + 1)))))))) : PW (1, 0, 0, z) m_M_worked post 12 [some (.ref 70), some (.int 0), some (.int a0), some (.int (nI Ed)), some (.int (nI (n + 2))), some (.int (nI k)), l6] [] (E x (sA y 90 f)) := by
  refine PW_iload c_M_worked_12 rfl ?_
  refine PW_sipush (v := 130) c_M_worked_14 (by decide) ?_
  refine PW_iload_n c_M_worked_17 rfl ?_
  refine PW_imul c_M_worked_18 ?_
  refine PW_iload_n c_M_worked_19 rfl ?_
  refine PW_iadd c_M_worked_20 ?_
  refine PW_icmp_ge c_M_worked_21 (fun h0 => absurd h0 (by rw [(show (130 * 0 + nI Ed : Int32) = nI Ed by rw [show (130 * 0 : Int32) = 0 by decide, Int32.zero_add])]; exact fun q => absurd ((nI_leI (by omega) (by omega)).mp q) (by omega))) (fun h0 => ?_)
  refine PW_aload_n c_M_worked_24 rfl ?_
  refine PW_get (v := .ref 84) c_M_worked_25 fl_M_50 (gf_70_22 _ _) ?_
  refine PW_iload c_M_worked_28 rfl ?_
  refine PW_bald (j := k) c_M_worked_30 (ar_84 _ _) (vp_in_nI (by omega) (by decide)) (nI_clamp (by omega)) ?_
  show PW _ _ _ 31 [some (.ref 70), some (.int 0), some (.int a0), some (.int (nI Ed)), some (.int (nI (n + 2))), some (.int (nI k)), l6] [.int ((y.2.1 84) k)] (E x (sA y 90 f))
  rw [h84]
  show PW _ _ _ 31 [some (.ref 70), some (.int 0), some (.int a0), some (.int (nI Ed)), some (.int (nI (n + 2))), some (.int (nI k)), l6] [.int 43] (E x (sA y 90 f))
  refine PW_istore (i := 6) (L2 := [some (.ref 70), some (.int 0), some (.int a0), some (.int (nI Ed)), some (.int (nI (n + 2))), some (.int (nI k)), some (.int 43)]) c_M_worked_31 (Nat.le_of_ble_eq_true rfl) rfl rfl ?_
  refine PW_iload c_M_worked_33 rfl ?_
  refine PW_iconst (v := 1) c_M_worked_35 (by decide) ?_
  refine PW_icmp_eq c_M_worked_36 (fun h1 => absurd h1 (by decide)) (fun _ => ?_)
  refine PW_iload c_M_worked_39 rfl ?_
  refine PW_iconst (v := 2) c_M_worked_41 (by decide) ?_
  refine PW_icmp_ne c_M_worked_42 (fun _ => ?_) (fun h2 => absurd h2 (by decide))
  refine PW_iload c_M_worked_86 rfl ?_
  refine PW_iconst (v := 3) c_M_worked_88 (by decide) ?_
  refine PW_icmp_ne c_M_worked_89 (fun _ => ?_) (fun h3 => absurd h3 (by decide))
  refine PW_iload c_M_worked_121 rfl ?_
  refine PW_iconst (v := 4) c_M_worked_123 (by decide) ?_
  refine PW_icmp_ne c_M_worked_124 (fun _ => ?_) (fun h4 => absurd h4 (by decide))
  refine PW_iinc (i := 4) (v := (nI (n + 2)) + (-1)) (L2 := [some (.ref 70), some (.int 0), some (.int a0), some (.int (nI Ed)), some (.int ((nI (n + 2)) + (-1))), some (.int (nI k)), some (.int 43)]) c_M_worked_149 rfl (iinc_v (by decide)) (Nat.le_of_ble_eq_true rfl) rfl rfl ?_
  refine PW_aload_n c_M_worked_152 rfl ?_
  refine PW_get (v := .ref 90) c_M_worked_153 fl_M_69 (gf_70_28 _ _) ?_
  refine PW_iload c_M_worked_156 rfl ?_
  refine PW_iconst (v := 1) c_M_worked_158 (by decide) ?_
  refine PW_isub c_M_worked_159 ?_
  refine PW_iload c_M_worked_160 rfl ?_
  refine PW_aload_n c_M_worked_162 rfl ?_
  refine PW_get (v := .ref 90) c_M_worked_163 fl_M_69 (gf_70_28 _ _) ?_
  refine PW_iload c_M_worked_166 rfl ?_
  refine PW_iconst (v := 1) c_M_worked_168 (by decide) ?_
  refine PW_isub c_M_worked_169 ?_
  refine PW_iald (j := n) c_M_worked_170 (ar_90 _ _) (by rw [show (nI (n + 2) + (-1) - 1 : Int32) = nI n from (by rw [pr2, pr1, pr1])]; exact vp_in_nI (by omega) (by decide)) (by rw [show (nI (n + 2) + (-1) - 1 : Int32) = nI n from (by rw [pr2, pr1, pr1])]; exact nI_clamp (by omega)) ?_
  show PW _ _ _ 171 [some (.ref 70), some (.int 0), some (.int a0), some (.int (nI Ed)), some (.int ((nI (n + 2)) + (-1))), some (.int (nI k)), some (.int 43)] [.int (f n), .int 43, .int (((nI (n + 2)) + (-1)) - 1), .ref 90] (E x (sA y 90 f))
  refine PW_aload_n c_M_worked_171 rfl ?_
  refine PW_get (v := .ref 90) c_M_worked_172 fl_M_69 (gf_70_28 _ _) ?_
  refine PW_iload c_M_worked_175 rfl ?_
  refine PW_iald (j := (n + 1)) c_M_worked_177 (ar_90 _ _) (by rw [show (nI (n + 2) + (-1) : Int32) = nI (n + 1) from (by rw [pr2, pr1])]; exact vp_in_nI (by omega) (by decide)) (by rw [show (nI (n + 2) + (-1) : Int32) = nI (n + 1) from (by rw [pr2, pr1])]; exact nI_clamp (by omega)) ?_
  show PW _ _ _ 178 [some (.ref 70), some (.int 0), some (.int a0), some (.int (nI Ed)), some (.int ((nI (n + 2)) + (-1))), some (.int (nI k)), some (.int 43)] [.int (f ((n + 1))), .int (f n), .int 43, .int (((nI (n + 2)) + (-1)) - 1), .ref 90] (E x (sA y 90 f))
  refine PW_S0 (d2 := 0) (st := [.int (((nI (n + 2)) + (-1)) - 1), .ref 90]) [.int 43, .int (f n), .int (f ((n + 1)))] c_M_worked_178 lk_M_worked_240 rfl rfl rfl (Nat.le_of_ble_eq_true rfl) (by first | decide | omega) (Nat.le_of_ble_eq_true rfl) ?_
  refine sp_M_twoOf_43 ?_
  show PW _ _ _ 181 [some (.ref 70), some (.int 0), some (.int a0), some (.int (nI Ed)), some (.int ((nI (n + 2)) + (-1))), some (.int (nI k)), some (.int 43)] [.int (twF 43 (f n) (f ((n + 1)))), .int (((nI (n + 2)) + (-1)) - 1), .ref 90] (E x (sA y 90 f))
  refine PW_iast (j := n) (w2 := E x (sA (sA y 90 f) 90 (upd f n (twF 43 (f n) (f ((n + 1))))))) c_M_worked_181 (ar_90 _ _) (by rw [show (nI (n + 2) + (-1) - 1 : Int32) = nI n from (by rw [pr2, pr1, pr1])]; exact vp_in_nI (by omega) (by decide)) (by rw [show (nI (n + 2) + (-1) - 1 : Int32) = nI n from (by rw [pr2, pr1, pr1])]; exact nI_clamp (by omega)) (aw_90 _ _ _) ?_
  refine PW_iinc (i := 5) (v := (nI k) + 1) (L2 := [some (.ref 70), some (.int 0), some (.int a0), some (.int (nI Ed)), some (.int ((nI (n + 2)) + (-1))), some (.int ((nI k) + 1)), some (.int 43)]) c_M_worked_182 rfl (iinc_v (by decide)) (Nat.le_of_ble_eq_true rfl) rfl rfl ?_
  refine PW_goto c_M_worked_185 ?_
  refine PW.eqL ?_ rfl ?_ (h (some (.int 43)))
  · show ([some (.ref 70), some (.int 0), some (.int a0), some (.int (nI Ed)), some (.int ((nI (n + 2)) + (-1))), some (.int ((nI k) + 1)), some (.int 43)] : List (Option Value)) = _
    rw [nI_1, pr2, pr1]
  · first | rfl | rw [sA_sA] | (rw [sA_sA, h85]) | skip
theorem sp_mb_45 {z : ZS} {post : Option Value → List PE → Prop} {x y : XS} {a0 : Int32} {Ed n k : Nat} {f : Nat → Int32} {l6 : Option Value} {v : Int32} (hEd : Ed ≤ 130) (hk : k < Ed) (hn : n < 120) (h84 : y.2.1 84 k = nI 45) (h85 : y.2.1 85 k = v) (h : ∀ l6' : Option Value, PW (1, 0, 0, z) m_M_worked post 12 [some (.ref 70), some (.int 0), some (.int a0), some (.int (nI Ed)), some (.int (nI (n + 1))), some (.int (nI (k + 1))), l6'] [] (E x (sA y 90 ((upd f n (twF 45 (f n) (f (n + 1)))))))) : PW (1, 0, 0, z) m_M_worked post 12 [some (.ref 70), some (.int 0), some (.int a0), some (.int (nI Ed)), some (.int (nI (n + 2))), some (.int (nI k)), l6] [] (E x (sA y 90 f)) := by
  refine PW_iload c_M_worked_12 rfl ?_
  refine PW_sipush (v := 130) c_M_worked_14 (by decide) ?_
  refine PW_iload_n c_M_worked_17 rfl ?_
  refine PW_imul c_M_worked_18 ?_
  refine PW_iload_n c_M_worked_19 rfl ?_
  refine PW_iadd c_M_worked_20 ?_
  refine PW_icmp_ge c_M_worked_21 (fun h0 => absurd h0 (by rw [(show (130 * 0 + nI Ed : Int32) = nI Ed by rw [show (130 * 0 : Int32) = 0 by decide, Int32.zero_add])]; exact fun q => absurd ((nI_leI (by omega) (by omega)).mp q) (by omega))) (fun h0 => ?_)
  refine PW_aload_n c_M_worked_24 rfl ?_
  refine PW_get (v := .ref 84) c_M_worked_25 fl_M_50 (gf_70_22 _ _) ?_
  refine PW_iload c_M_worked_28 rfl ?_
  refine PW_bald (j := k) c_M_worked_30 (ar_84 _ _) (vp_in_nI (by omega) (by decide)) (nI_clamp (by omega)) ?_
  show PW _ _ _ 31 [some (.ref 70), some (.int 0), some (.int a0), some (.int (nI Ed)), some (.int (nI (n + 2))), some (.int (nI k)), l6] [.int ((y.2.1 84) k)] (E x (sA y 90 f))
  rw [h84]
  show PW _ _ _ 31 [some (.ref 70), some (.int 0), some (.int a0), some (.int (nI Ed)), some (.int (nI (n + 2))), some (.int (nI k)), l6] [.int 45] (E x (sA y 90 f))
  refine PW_istore (i := 6) (L2 := [some (.ref 70), some (.int 0), some (.int a0), some (.int (nI Ed)), some (.int (nI (n + 2))), some (.int (nI k)), some (.int 45)]) c_M_worked_31 (Nat.le_of_ble_eq_true rfl) rfl rfl ?_
  refine PW_iload c_M_worked_33 rfl ?_
  refine PW_iconst (v := 1) c_M_worked_35 (by decide) ?_
  refine PW_icmp_eq c_M_worked_36 (fun h1 => absurd h1 (by decide)) (fun _ => ?_)
  refine PW_iload c_M_worked_39 rfl ?_
  refine PW_iconst (v := 2) c_M_worked_41 (by decide) ?_
  refine PW_icmp_ne c_M_worked_42 (fun _ => ?_) (fun h2 => absurd h2 (by decide))
  refine PW_iload c_M_worked_86 rfl ?_
  refine PW_iconst (v := 3) c_M_worked_88 (by decide) ?_
  refine PW_icmp_ne c_M_worked_89 (fun _ => ?_) (fun h3 => absurd h3 (by decide))
  refine PW_iload c_M_worked_121 rfl ?_
  refine PW_iconst (v := 4) c_M_worked_123 (by decide) ?_
  refine PW_icmp_ne c_M_worked_124 (fun _ => ?_) (fun h4 => absurd h4 (by decide))
  refine PW_iinc (i := 4) (v := (nI (n + 2)) + (-1)) (L2 := [some (.ref 70), some (.int 0), some (.int a0), some (.int (nI Ed)), some (.int ((nI (n + 2)) + (-1))), some (.int (nI k)), some (.int 45)]) c_M_worked_149 rfl (iinc_v (by decide)) (Nat.le_of_ble_eq_true rfl) rfl rfl ?_
  refine PW_aload_n c_M_worked_152 rfl ?_
  refine PW_get (v := .ref 90) c_M_worked_153 fl_M_69 (gf_70_28 _ _) ?_
  refine PW_iload c_M_worked_156 rfl ?_
  refine PW_iconst (v := 1) c_M_worked_158 (by decide) ?_
  refine PW_isub c_M_worked_159 ?_
  refine PW_iload c_M_worked_160 rfl ?_
  refine PW_aload_n c_M_worked_162 rfl ?_
  refine PW_get (v := .ref 90) c_M_worked_163 fl_M_69 (gf_70_28 _ _) ?_
  refine PW_iload c_M_worked_166 rfl ?_
  refine PW_iconst (v := 1) c_M_worked_168 (by decide) ?_
  refine PW_isub c_M_worked_169 ?_
  refine PW_iald (j := n) c_M_worked_170 (ar_90 _ _) (by rw [show (nI (n + 2) + (-1) - 1 : Int32) = nI n from (by rw [pr2, pr1, pr1])]; exact vp_in_nI (by omega) (by decide)) (by rw [show (nI (n + 2) + (-1) - 1 : Int32) = nI n from (by rw [pr2, pr1, pr1])]; exact nI_clamp (by omega)) ?_
  show PW _ _ _ 171 [some (.ref 70), some (.int 0), some (.int a0), some (.int (nI Ed)), some (.int ((nI (n + 2)) + (-1))), some (.int (nI k)), some (.int 45)] [.int (f n), .int 45, .int (((nI (n + 2)) + (-1)) - 1), .ref 90] (E x (sA y 90 f))
  refine PW_aload_n c_M_worked_171 rfl ?_
  refine PW_get (v := .ref 90) c_M_worked_172 fl_M_69 (gf_70_28 _ _) ?_
  refine PW_iload c_M_worked_175 rfl ?_
  refine PW_iald (j := (n + 1)) c_M_worked_177 (ar_90 _ _) (by rw [show (nI (n + 2) + (-1) : Int32) = nI (n + 1) from (by rw [pr2, pr1])]; exact vp_in_nI (by omega) (by decide)) (by rw [show (nI (n + 2) + (-1) : Int32) = nI (n + 1) from (by rw [pr2, pr1])]; exact nI_clamp (by omega)) ?_
  show PW _ _ _ 178 [some (.ref 70), some (.int 0), some (.int a0), some (.int (nI Ed)), some (.int ((nI (n + 2)) + (-1))), some (.int (nI k)), some (.int 45)] [.int (f ((n + 1))), .int (f n), .int 45, .int (((nI (n + 2)) + (-1)) - 1), .ref 90] (E x (sA y 90 f))
  refine PW_S0 (d2 := 0) (st := [.int (((nI (n + 2)) + (-1)) - 1), .ref 90]) [.int 45, .int (f n), .int (f ((n + 1)))] c_M_worked_178 lk_M_worked_240 rfl rfl rfl (Nat.le_of_ble_eq_true rfl) (by first | decide | omega) (Nat.le_of_ble_eq_true rfl) ?_
  refine sp_M_twoOf_45 ?_
  show PW _ _ _ 181 [some (.ref 70), some (.int 0), some (.int a0), some (.int (nI Ed)), some (.int ((nI (n + 2)) + (-1))), some (.int (nI k)), some (.int 45)] [.int (twF 45 (f n) (f ((n + 1)))), .int (((nI (n + 2)) + (-1)) - 1), .ref 90] (E x (sA y 90 f))
  refine PW_iast (j := n) (w2 := E x (sA (sA y 90 f) 90 (upd f n (twF 45 (f n) (f ((n + 1))))))) c_M_worked_181 (ar_90 _ _) (by rw [show (nI (n + 2) + (-1) - 1 : Int32) = nI n from (by rw [pr2, pr1, pr1])]; exact vp_in_nI (by omega) (by decide)) (by rw [show (nI (n + 2) + (-1) - 1 : Int32) = nI n from (by rw [pr2, pr1, pr1])]; exact nI_clamp (by omega)) (aw_90 _ _ _) ?_
  refine PW_iinc (i := 5) (v := (nI k) + 1) (L2 := [some (.ref 70), some (.int 0), some (.int a0), some (.int (nI Ed)), some (.int ((nI (n + 2)) + (-1))), some (.int ((nI k) + 1)), some (.int 45)]) c_M_worked_182 rfl (iinc_v (by decide)) (Nat.le_of_ble_eq_true rfl) rfl rfl ?_
  refine PW_goto c_M_worked_185 ?_
  refine PW.eqL ?_ rfl ?_ (h (some (.int 45)))
  · show ([some (.ref 70), some (.int 0), some (.int a0), some (.int (nI Ed)), some (.int ((nI (n + 2)) + (-1))), some (.int ((nI k) + 1)), some (.int 45)] : List (Option Value)) = _
    rw [nI_1, pr2, pr1]
  · first | rfl | rw [sA_sA] | (rw [sA_sA, h85]) | skip
theorem sp_mb_47 {z : ZS} {post : Option Value → List PE → Prop} {x y : XS} {a0 : Int32} {Ed n k : Nat} {f : Nat → Int32} {l6 : Option Value} {v : Int32} (hEd : Ed ≤ 130) (hk : k < Ed) (hn : n < 120) (h84 : y.2.1 84 k = nI 47) (h85 : y.2.1 85 k = v) (h : ∀ l6' : Option Value, PW (1, 0, 0, z) m_M_worked post 12 [some (.ref 70), some (.int 0), some (.int a0), some (.int (nI Ed)), some (.int (nI (n + 1))), some (.int (nI (k + 1))), l6'] [] (E x (sA y 90 ((upd f n (twF 47 (f n) (f (n + 1)))))))) : PW (1, 0, 0, z) m_M_worked post 12 [some (.ref 70), some (.int 0), some (.int a0), some (.int (nI Ed)), some (.int (nI (n + 2))), some (.int (nI k)), l6] [] (E x (sA y 90 f)) := by
  refine PW_iload c_M_worked_12 rfl ?_
  refine PW_sipush (v := 130) c_M_worked_14 (by decide) ?_
  refine PW_iload_n c_M_worked_17 rfl ?_
  refine PW_imul c_M_worked_18 ?_
  refine PW_iload_n c_M_worked_19 rfl ?_
  refine PW_iadd c_M_worked_20 ?_
  refine PW_icmp_ge c_M_worked_21 (fun h0 => absurd h0 (by rw [(show (130 * 0 + nI Ed : Int32) = nI Ed by rw [show (130 * 0 : Int32) = 0 by decide, Int32.zero_add])]; exact fun q => absurd ((nI_leI (by omega) (by omega)).mp q) (by omega))) (fun h0 => ?_)
  refine PW_aload_n c_M_worked_24 rfl ?_
  refine PW_get (v := .ref 84) c_M_worked_25 fl_M_50 (gf_70_22 _ _) ?_
  refine PW_iload c_M_worked_28 rfl ?_
  refine PW_bald (j := k) c_M_worked_30 (ar_84 _ _) (vp_in_nI (by omega) (by decide)) (nI_clamp (by omega)) ?_
  show PW _ _ _ 31 [some (.ref 70), some (.int 0), some (.int a0), some (.int (nI Ed)), some (.int (nI (n + 2))), some (.int (nI k)), l6] [.int ((y.2.1 84) k)] (E x (sA y 90 f))
  rw [h84]
  show PW _ _ _ 31 [some (.ref 70), some (.int 0), some (.int a0), some (.int (nI Ed)), some (.int (nI (n + 2))), some (.int (nI k)), l6] [.int 47] (E x (sA y 90 f))
  refine PW_istore (i := 6) (L2 := [some (.ref 70), some (.int 0), some (.int a0), some (.int (nI Ed)), some (.int (nI (n + 2))), some (.int (nI k)), some (.int 47)]) c_M_worked_31 (Nat.le_of_ble_eq_true rfl) rfl rfl ?_
  refine PW_iload c_M_worked_33 rfl ?_
  refine PW_iconst (v := 1) c_M_worked_35 (by decide) ?_
  refine PW_icmp_eq c_M_worked_36 (fun h1 => absurd h1 (by decide)) (fun _ => ?_)
  refine PW_iload c_M_worked_39 rfl ?_
  refine PW_iconst (v := 2) c_M_worked_41 (by decide) ?_
  refine PW_icmp_ne c_M_worked_42 (fun _ => ?_) (fun h2 => absurd h2 (by decide))
  refine PW_iload c_M_worked_86 rfl ?_
  refine PW_iconst (v := 3) c_M_worked_88 (by decide) ?_
  refine PW_icmp_ne c_M_worked_89 (fun _ => ?_) (fun h3 => absurd h3 (by decide))
  refine PW_iload c_M_worked_121 rfl ?_
  refine PW_iconst (v := 4) c_M_worked_123 (by decide) ?_
  refine PW_icmp_ne c_M_worked_124 (fun _ => ?_) (fun h4 => absurd h4 (by decide))
  refine PW_iinc (i := 4) (v := (nI (n + 2)) + (-1)) (L2 := [some (.ref 70), some (.int 0), some (.int a0), some (.int (nI Ed)), some (.int ((nI (n + 2)) + (-1))), some (.int (nI k)), some (.int 47)]) c_M_worked_149 rfl (iinc_v (by decide)) (Nat.le_of_ble_eq_true rfl) rfl rfl ?_
  refine PW_aload_n c_M_worked_152 rfl ?_
  refine PW_get (v := .ref 90) c_M_worked_153 fl_M_69 (gf_70_28 _ _) ?_
  refine PW_iload c_M_worked_156 rfl ?_
  refine PW_iconst (v := 1) c_M_worked_158 (by decide) ?_
  refine PW_isub c_M_worked_159 ?_
  refine PW_iload c_M_worked_160 rfl ?_
  refine PW_aload_n c_M_worked_162 rfl ?_
  refine PW_get (v := .ref 90) c_M_worked_163 fl_M_69 (gf_70_28 _ _) ?_
  refine PW_iload c_M_worked_166 rfl ?_
  refine PW_iconst (v := 1) c_M_worked_168 (by decide) ?_
  refine PW_isub c_M_worked_169 ?_
  refine PW_iald (j := n) c_M_worked_170 (ar_90 _ _) (by rw [show (nI (n + 2) + (-1) - 1 : Int32) = nI n from (by rw [pr2, pr1, pr1])]; exact vp_in_nI (by omega) (by decide)) (by rw [show (nI (n + 2) + (-1) - 1 : Int32) = nI n from (by rw [pr2, pr1, pr1])]; exact nI_clamp (by omega)) ?_
  show PW _ _ _ 171 [some (.ref 70), some (.int 0), some (.int a0), some (.int (nI Ed)), some (.int ((nI (n + 2)) + (-1))), some (.int (nI k)), some (.int 47)] [.int (f n), .int 47, .int (((nI (n + 2)) + (-1)) - 1), .ref 90] (E x (sA y 90 f))
  refine PW_aload_n c_M_worked_171 rfl ?_
  refine PW_get (v := .ref 90) c_M_worked_172 fl_M_69 (gf_70_28 _ _) ?_
  refine PW_iload c_M_worked_175 rfl ?_
  refine PW_iald (j := (n + 1)) c_M_worked_177 (ar_90 _ _) (by rw [show (nI (n + 2) + (-1) : Int32) = nI (n + 1) from (by rw [pr2, pr1])]; exact vp_in_nI (by omega) (by decide)) (by rw [show (nI (n + 2) + (-1) : Int32) = nI (n + 1) from (by rw [pr2, pr1])]; exact nI_clamp (by omega)) ?_
  show PW _ _ _ 178 [some (.ref 70), some (.int 0), some (.int a0), some (.int (nI Ed)), some (.int ((nI (n + 2)) + (-1))), some (.int (nI k)), some (.int 47)] [.int (f ((n + 1))), .int (f n), .int 47, .int (((nI (n + 2)) + (-1)) - 1), .ref 90] (E x (sA y 90 f))
  refine PW_S0 (d2 := 0) (st := [.int (((nI (n + 2)) + (-1)) - 1), .ref 90]) [.int 47, .int (f n), .int (f ((n + 1)))] c_M_worked_178 lk_M_worked_240 rfl rfl rfl (Nat.le_of_ble_eq_true rfl) (by first | decide | omega) (Nat.le_of_ble_eq_true rfl) ?_
  refine sp_M_twoOf_47 ?_
  show PW _ _ _ 181 [some (.ref 70), some (.int 0), some (.int a0), some (.int (nI Ed)), some (.int ((nI (n + 2)) + (-1))), some (.int (nI k)), some (.int 47)] [.int (twF 47 (f n) (f ((n + 1)))), .int (((nI (n + 2)) + (-1)) - 1), .ref 90] (E x (sA y 90 f))
  refine PW_iast (j := n) (w2 := E x (sA (sA y 90 f) 90 (upd f n (twF 47 (f n) (f ((n + 1))))))) c_M_worked_181 (ar_90 _ _) (by rw [show (nI (n + 2) + (-1) - 1 : Int32) = nI n from (by rw [pr2, pr1, pr1])]; exact vp_in_nI (by omega) (by decide)) (by rw [show (nI (n + 2) + (-1) - 1 : Int32) = nI n from (by rw [pr2, pr1, pr1])]; exact nI_clamp (by omega)) (aw_90 _ _ _) ?_
  refine PW_iinc (i := 5) (v := (nI k) + 1) (L2 := [some (.ref 70), some (.int 0), some (.int a0), some (.int (nI Ed)), some (.int ((nI (n + 2)) + (-1))), some (.int ((nI k) + 1)), some (.int 47)]) c_M_worked_182 rfl (iinc_v (by decide)) (Nat.le_of_ble_eq_true rfl) rfl rfl ?_
  refine PW_goto c_M_worked_185 ?_
  refine PW.eqL ?_ rfl ?_ (h (some (.int 47)))
  · show ([some (.ref 70), some (.int 0), some (.int a0), some (.int (nI Ed)), some (.int ((nI (n + 2)) + (-1))), some (.int ((nI k) + 1)), some (.int 47)] : List (Option Value)) = _
    rw [nI_1, pr2, pr1]
  · first | rfl | rw [sA_sA] | (rw [sA_sA, h85]) | skip
theorem sp_mb_60 {z : ZS} {post : Option Value → List PE → Prop} {x y : XS} {a0 : Int32} {Ed n k : Nat} {f : Nat → Int32} {l6 : Option Value} {v : Int32} (hEd : Ed ≤ 130) (hk : k < Ed) (hn : n < 120) (h84 : y.2.1 84 k = nI 60) (h85 : y.2.1 85 k = v) (h : ∀ l6' : Option Value, PW (1, 0, 0, z) m_M_worked post 12 [some (.ref 70), some (.int 0), some (.int a0), some (.int (nI Ed)), some (.int (nI (n + 1))), some (.int (nI (k + 1))), l6'] [] (E x (sA y 90 ((upd f n (twF 60 (f n) (f (n + 1)))))))) : PW (1, 0, 0, z) m_M_worked post 12 [some (.ref 70), some (.int 0), some (.int a0), some (.int (nI Ed)), some (.int (nI (n + 2))), some (.int (nI k)), l6] [] (E x (sA y 90 f)) := by
  refine PW_iload c_M_worked_12 rfl ?_
  refine PW_sipush (v := 130) c_M_worked_14 (by decide) ?_
  refine PW_iload_n c_M_worked_17 rfl ?_
  refine PW_imul c_M_worked_18 ?_
  refine PW_iload_n c_M_worked_19 rfl ?_
  refine PW_iadd c_M_worked_20 ?_
  refine PW_icmp_ge c_M_worked_21 (fun h0 => absurd h0 (by rw [(show (130 * 0 + nI Ed : Int32) = nI Ed by rw [show (130 * 0 : Int32) = 0 by decide, Int32.zero_add])]; exact fun q => absurd ((nI_leI (by omega) (by omega)).mp q) (by omega))) (fun h0 => ?_)
  refine PW_aload_n c_M_worked_24 rfl ?_
  refine PW_get (v := .ref 84) c_M_worked_25 fl_M_50 (gf_70_22 _ _) ?_
  refine PW_iload c_M_worked_28 rfl ?_
  refine PW_bald (j := k) c_M_worked_30 (ar_84 _ _) (vp_in_nI (by omega) (by decide)) (nI_clamp (by omega)) ?_
  show PW _ _ _ 31 [some (.ref 70), some (.int 0), some (.int a0), some (.int (nI Ed)), some (.int (nI (n + 2))), some (.int (nI k)), l6] [.int ((y.2.1 84) k)] (E x (sA y 90 f))
  rw [h84]
  show PW _ _ _ 31 [some (.ref 70), some (.int 0), some (.int a0), some (.int (nI Ed)), some (.int (nI (n + 2))), some (.int (nI k)), l6] [.int 60] (E x (sA y 90 f))
  refine PW_istore (i := 6) (L2 := [some (.ref 70), some (.int 0), some (.int a0), some (.int (nI Ed)), some (.int (nI (n + 2))), some (.int (nI k)), some (.int 60)]) c_M_worked_31 (Nat.le_of_ble_eq_true rfl) rfl rfl ?_
  refine PW_iload c_M_worked_33 rfl ?_
  refine PW_iconst (v := 1) c_M_worked_35 (by decide) ?_
  refine PW_icmp_eq c_M_worked_36 (fun h1 => absurd h1 (by decide)) (fun _ => ?_)
  refine PW_iload c_M_worked_39 rfl ?_
  refine PW_iconst (v := 2) c_M_worked_41 (by decide) ?_
  refine PW_icmp_ne c_M_worked_42 (fun _ => ?_) (fun h2 => absurd h2 (by decide))
  refine PW_iload c_M_worked_86 rfl ?_
  refine PW_iconst (v := 3) c_M_worked_88 (by decide) ?_
  refine PW_icmp_ne c_M_worked_89 (fun _ => ?_) (fun h3 => absurd h3 (by decide))
  refine PW_iload c_M_worked_121 rfl ?_
  refine PW_iconst (v := 4) c_M_worked_123 (by decide) ?_
  refine PW_icmp_ne c_M_worked_124 (fun _ => ?_) (fun h4 => absurd h4 (by decide))
  refine PW_iinc (i := 4) (v := (nI (n + 2)) + (-1)) (L2 := [some (.ref 70), some (.int 0), some (.int a0), some (.int (nI Ed)), some (.int ((nI (n + 2)) + (-1))), some (.int (nI k)), some (.int 60)]) c_M_worked_149 rfl (iinc_v (by decide)) (Nat.le_of_ble_eq_true rfl) rfl rfl ?_
  refine PW_aload_n c_M_worked_152 rfl ?_
  refine PW_get (v := .ref 90) c_M_worked_153 fl_M_69 (gf_70_28 _ _) ?_
  refine PW_iload c_M_worked_156 rfl ?_
  refine PW_iconst (v := 1) c_M_worked_158 (by decide) ?_
  refine PW_isub c_M_worked_159 ?_
  refine PW_iload c_M_worked_160 rfl ?_
  refine PW_aload_n c_M_worked_162 rfl ?_
  refine PW_get (v := .ref 90) c_M_worked_163 fl_M_69 (gf_70_28 _ _) ?_
  refine PW_iload c_M_worked_166 rfl ?_
  refine PW_iconst (v := 1) c_M_worked_168 (by decide) ?_
  refine PW_isub c_M_worked_169 ?_
  refine PW_iald (j := n) c_M_worked_170 (ar_90 _ _) (by rw [show (nI (n + 2) + (-1) - 1 : Int32) = nI n from (by rw [pr2, pr1, pr1])]; exact vp_in_nI (by omega) (by decide)) (by rw [show (nI (n + 2) + (-1) - 1 : Int32) = nI n from (by rw [pr2, pr1, pr1])]; exact nI_clamp (by omega)) ?_
  show PW _ _ _ 171 [some (.ref 70), some (.int 0), some (.int a0), some (.int (nI Ed)), some (.int ((nI (n + 2)) + (-1))), some (.int (nI k)), some (.int 60)] [.int (f n), .int 60, .int (((nI (n + 2)) + (-1)) - 1), .ref 90] (E x (sA y 90 f))
  refine PW_aload_n c_M_worked_171 rfl ?_
  refine PW_get (v := .ref 90) c_M_worked_172 fl_M_69 (gf_70_28 _ _) ?_
  refine PW_iload c_M_worked_175 rfl ?_
  refine PW_iald (j := (n + 1)) c_M_worked_177 (ar_90 _ _) (by rw [show (nI (n + 2) + (-1) : Int32) = nI (n + 1) from (by rw [pr2, pr1])]; exact vp_in_nI (by omega) (by decide)) (by rw [show (nI (n + 2) + (-1) : Int32) = nI (n + 1) from (by rw [pr2, pr1])]; exact nI_clamp (by omega)) ?_
  show PW _ _ _ 178 [some (.ref 70), some (.int 0), some (.int a0), some (.int (nI Ed)), some (.int ((nI (n + 2)) + (-1))), some (.int (nI k)), some (.int 60)] [.int (f ((n + 1))), .int (f n), .int 60, .int (((nI (n + 2)) + (-1)) - 1), .ref 90] (E x (sA y 90 f))
  refine PW_S0 (d2 := 0) (st := [.int (((nI (n + 2)) + (-1)) - 1), .ref 90]) [.int 60, .int (f n), .int (f ((n + 1)))] c_M_worked_178 lk_M_worked_240 rfl rfl rfl (Nat.le_of_ble_eq_true rfl) (by first | decide | omega) (Nat.le_of_ble_eq_true rfl) ?_
  refine sp_M_twoOf_60 ?_
  show PW _ _ _ 181 [some (.ref 70), some (.int 0), some (.int a0), some (.int (nI Ed)), some (.int ((nI (n + 2)) + (-1))), some (.int (nI k)), some (.int 60)] [.int (twF 60 (f n) (f ((n + 1)))), .int (((nI (n + 2)) + (-1)) - 1), .ref 90] (E x (sA y 90 f))
  refine PW_iast (j := n) (w2 := E x (sA (sA y 90 f) 90 (upd f n (twF 60 (f n) (f ((n + 1))))))) c_M_worked_181 (ar_90 _ _) (by rw [show (nI (n + 2) + (-1) - 1 : Int32) = nI n from (by rw [pr2, pr1, pr1])]; exact vp_in_nI (by omega) (by decide)) (by rw [show (nI (n + 2) + (-1) - 1 : Int32) = nI n from (by rw [pr2, pr1, pr1])]; exact nI_clamp (by omega)) (aw_90 _ _ _) ?_
  refine PW_iinc (i := 5) (v := (nI k) + 1) (L2 := [some (.ref 70), some (.int 0), some (.int a0), some (.int (nI Ed)), some (.int ((nI (n + 2)) + (-1))), some (.int ((nI k) + 1)), some (.int 60)]) c_M_worked_182 rfl (iinc_v (by decide)) (Nat.le_of_ble_eq_true rfl) rfl rfl ?_
  refine PW_goto c_M_worked_185 ?_
  refine PW.eqL ?_ rfl ?_ (h (some (.int 60)))
  · show ([some (.ref 70), some (.int 0), some (.int a0), some (.int (nI Ed)), some (.int ((nI (n + 2)) + (-1))), some (.int ((nI k) + 1)), some (.int 60)] : List (Option Value)) = _
    rw [nI_1, pr2, pr1]
  · first | rfl | rw [sA_sA] | (rw [sA_sA, h85]) | skip
theorem sp_mb_61 {z : ZS} {post : Option Value → List PE → Prop} {x y : XS} {a0 : Int32} {Ed n k : Nat} {f : Nat → Int32} {l6 : Option Value} {v : Int32} (hEd : Ed ≤ 130) (hk : k < Ed) (hn : n < 120) (h84 : y.2.1 84 k = nI 61) (h85 : y.2.1 85 k = v) (h : ∀ l6' : Option Value, PW (1, 0, 0, z) m_M_worked post 12 [some (.ref 70), some (.int 0), some (.int a0), some (.int (nI Ed)), some (.int (nI (n + 1))), some (.int (nI (k + 1))), l6'] [] (E x (sA y 90 ((upd f n (twF 61 (f n) (f (n + 1)))))))) : PW (1, 0, 0, z) m_M_worked post 12 [some (.ref 70), some (.int 0), some (.int a0), some (.int (nI Ed)), some (.int (nI (n + 2))), some (.int (nI k)), l6] [] (E x (sA y 90 f)) := by
  refine PW_iload c_M_worked_12 rfl ?_
  refine PW_sipush (v := 130) c_M_worked_14 (by decide) ?_
  refine PW_iload_n c_M_worked_17 rfl ?_
  refine PW_imul c_M_worked_18 ?_
  refine PW_iload_n c_M_worked_19 rfl ?_
  refine PW_iadd c_M_worked_20 ?_
  refine PW_icmp_ge c_M_worked_21 (fun h0 => absurd h0 (by rw [(show (130 * 0 + nI Ed : Int32) = nI Ed by rw [show (130 * 0 : Int32) = 0 by decide, Int32.zero_add])]; exact fun q => absurd ((nI_leI (by omega) (by omega)).mp q) (by omega))) (fun h0 => ?_)
  refine PW_aload_n c_M_worked_24 rfl ?_
  refine PW_get (v := .ref 84) c_M_worked_25 fl_M_50 (gf_70_22 _ _) ?_
  refine PW_iload c_M_worked_28 rfl ?_
  refine PW_bald (j := k) c_M_worked_30 (ar_84 _ _) (vp_in_nI (by omega) (by decide)) (nI_clamp (by omega)) ?_
  show PW _ _ _ 31 [some (.ref 70), some (.int 0), some (.int a0), some (.int (nI Ed)), some (.int (nI (n + 2))), some (.int (nI k)), l6] [.int ((y.2.1 84) k)] (E x (sA y 90 f))
  rw [h84]
  show PW _ _ _ 31 [some (.ref 70), some (.int 0), some (.int a0), some (.int (nI Ed)), some (.int (nI (n + 2))), some (.int (nI k)), l6] [.int 61] (E x (sA y 90 f))
  refine PW_istore (i := 6) (L2 := [some (.ref 70), some (.int 0), some (.int a0), some (.int (nI Ed)), some (.int (nI (n + 2))), some (.int (nI k)), some (.int 61)]) c_M_worked_31 (Nat.le_of_ble_eq_true rfl) rfl rfl ?_
  refine PW_iload c_M_worked_33 rfl ?_
  refine PW_iconst (v := 1) c_M_worked_35 (by decide) ?_
  refine PW_icmp_eq c_M_worked_36 (fun h1 => absurd h1 (by decide)) (fun _ => ?_)
  refine PW_iload c_M_worked_39 rfl ?_
  refine PW_iconst (v := 2) c_M_worked_41 (by decide) ?_
  refine PW_icmp_ne c_M_worked_42 (fun _ => ?_) (fun h2 => absurd h2 (by decide))
  refine PW_iload c_M_worked_86 rfl ?_
  refine PW_iconst (v := 3) c_M_worked_88 (by decide) ?_
  refine PW_icmp_ne c_M_worked_89 (fun _ => ?_) (fun h3 => absurd h3 (by decide))
  refine PW_iload c_M_worked_121 rfl ?_
  refine PW_iconst (v := 4) c_M_worked_123 (by decide) ?_
  refine PW_icmp_ne c_M_worked_124 (fun _ => ?_) (fun h4 => absurd h4 (by decide))
  refine PW_iinc (i := 4) (v := (nI (n + 2)) + (-1)) (L2 := [some (.ref 70), some (.int 0), some (.int a0), some (.int (nI Ed)), some (.int ((nI (n + 2)) + (-1))), some (.int (nI k)), some (.int 61)]) c_M_worked_149 rfl (iinc_v (by decide)) (Nat.le_of_ble_eq_true rfl) rfl rfl ?_
  refine PW_aload_n c_M_worked_152 rfl ?_
  refine PW_get (v := .ref 90) c_M_worked_153 fl_M_69 (gf_70_28 _ _) ?_
  refine PW_iload c_M_worked_156 rfl ?_
  refine PW_iconst (v := 1) c_M_worked_158 (by decide) ?_
  refine PW_isub c_M_worked_159 ?_
  refine PW_iload c_M_worked_160 rfl ?_
  refine PW_aload_n c_M_worked_162 rfl ?_
  refine PW_get (v := .ref 90) c_M_worked_163 fl_M_69 (gf_70_28 _ _) ?_
  refine PW_iload c_M_worked_166 rfl ?_
  refine PW_iconst (v := 1) c_M_worked_168 (by decide) ?_
  refine PW_isub c_M_worked_169 ?_
  refine PW_iald (j := n) c_M_worked_170 (ar_90 _ _) (by rw [show (nI (n + 2) + (-1) - 1 : Int32) = nI n from (by rw [pr2, pr1, pr1])]; exact vp_in_nI (by omega) (by decide)) (by rw [show (nI (n + 2) + (-1) - 1 : Int32) = nI n from (by rw [pr2, pr1, pr1])]; exact nI_clamp (by omega)) ?_
  show PW _ _ _ 171 [some (.ref 70), some (.int 0), some (.int a0), some (.int (nI Ed)), some (.int ((nI (n + 2)) + (-1))), some (.int (nI k)), some (.int 61)] [.int (f n), .int 61, .int (((nI (n + 2)) + (-1)) - 1), .ref 90] (E x (sA y 90 f))
  refine PW_aload_n c_M_worked_171 rfl ?_
  refine PW_get (v := .ref 90) c_M_worked_172 fl_M_69 (gf_70_28 _ _) ?_
  refine PW_iload c_M_worked_175 rfl ?_
  refine PW_iald (j := (n + 1)) c_M_worked_177 (ar_90 _ _) (by rw [show (nI (n + 2) + (-1) : Int32) = nI (n + 1) from (by rw [pr2, pr1])]; exact vp_in_nI (by omega) (by decide)) (by rw [show (nI (n + 2) + (-1) : Int32) = nI (n + 1) from (by rw [pr2, pr1])]; exact nI_clamp (by omega)) ?_
  show PW _ _ _ 178 [some (.ref 70), some (.int 0), some (.int a0), some (.int (nI Ed)), some (.int ((nI (n + 2)) + (-1))), some (.int (nI k)), some (.int 61)] [.int (f ((n + 1))), .int (f n), .int 61, .int (((nI (n + 2)) + (-1)) - 1), .ref 90] (E x (sA y 90 f))
  refine PW_S0 (d2 := 0) (st := [.int (((nI (n + 2)) + (-1)) - 1), .ref 90]) [.int 61, .int (f n), .int (f ((n + 1)))] c_M_worked_178 lk_M_worked_240 rfl rfl rfl (Nat.le_of_ble_eq_true rfl) (by first | decide | omega) (Nat.le_of_ble_eq_true rfl) ?_
  refine sp_M_twoOf_61 ?_
  show PW _ _ _ 181 [some (.ref 70), some (.int 0), some (.int a0), some (.int (nI Ed)), some (.int ((nI (n + 2)) + (-1))), some (.int (nI k)), some (.int 61)] [.int (twF 61 (f n) (f ((n + 1)))), .int (((nI (n + 2)) + (-1)) - 1), .ref 90] (E x (sA y 90 f))
  refine PW_iast (j := n) (w2 := E x (sA (sA y 90 f) 90 (upd f n (twF 61 (f n) (f ((n + 1))))))) c_M_worked_181 (ar_90 _ _) (by rw [show (nI (n + 2) + (-1) - 1 : Int32) = nI n from (by rw [pr2, pr1, pr1])]; exact vp_in_nI (by omega) (by decide)) (by rw [show (nI (n + 2) + (-1) - 1 : Int32) = nI n from (by rw [pr2, pr1, pr1])]; exact nI_clamp (by omega)) (aw_90 _ _ _) ?_
  refine PW_iinc (i := 5) (v := (nI k) + 1) (L2 := [some (.ref 70), some (.int 0), some (.int a0), some (.int (nI Ed)), some (.int ((nI (n + 2)) + (-1))), some (.int ((nI k) + 1)), some (.int 61)]) c_M_worked_182 rfl (iinc_v (by decide)) (Nat.le_of_ble_eq_true rfl) rfl rfl ?_
  refine PW_goto c_M_worked_185 ?_
  refine PW.eqL ?_ rfl ?_ (h (some (.int 61)))
  · show ([some (.ref 70), some (.int 0), some (.int a0), some (.int (nI Ed)), some (.int ((nI (n + 2)) + (-1))), some (.int ((nI k) + 1)), some (.int 61)] : List (Option Value)) = _
    rw [nI_1, pr2, pr1]
  · first | rfl | rw [sA_sA] | (rw [sA_sA, h85]) | skip
theorem sp_mb_62 {z : ZS} {post : Option Value → List PE → Prop} {x y : XS} {a0 : Int32} {Ed n k : Nat} {f : Nat → Int32} {l6 : Option Value} {v : Int32} (hEd : Ed ≤ 130) (hk : k < Ed) (hn : n < 120) (h84 : y.2.1 84 k = nI 62) (h85 : y.2.1 85 k = v) (h : ∀ l6' : Option Value, PW (1, 0, 0, z) m_M_worked post 12 [some (.ref 70), some (.int 0), some (.int a0), some (.int (nI Ed)), some (.int (nI (n + 1))), some (.int (nI (k + 1))), l6'] [] (E x (sA y 90 ((upd f n (twF 62 (f n) (f (n + 1)))))))) : PW (1, 0, 0, z) m_M_worked post 12 [some (.ref 70), some (.int 0), some (.int a0), some (.int (nI Ed)), some (.int (nI (n + 2))), some (.int (nI k)), l6] [] (E x (sA y 90 f)) := by
  refine PW_iload c_M_worked_12 rfl ?_
  refine PW_sipush (v := 130) c_M_worked_14 (by decide) ?_
  refine PW_iload_n c_M_worked_17 rfl ?_
  refine PW_imul c_M_worked_18 ?_
  refine PW_iload_n c_M_worked_19 rfl ?_
  refine PW_iadd c_M_worked_20 ?_
  refine PW_icmp_ge c_M_worked_21 (fun h0 => absurd h0 (by rw [(show (130 * 0 + nI Ed : Int32) = nI Ed by rw [show (130 * 0 : Int32) = 0 by decide, Int32.zero_add])]; exact fun q => absurd ((nI_leI (by omega) (by omega)).mp q) (by omega))) (fun h0 => ?_)
  refine PW_aload_n c_M_worked_24 rfl ?_
  refine PW_get (v := .ref 84) c_M_worked_25 fl_M_50 (gf_70_22 _ _) ?_
  refine PW_iload c_M_worked_28 rfl ?_
  refine PW_bald (j := k) c_M_worked_30 (ar_84 _ _) (vp_in_nI (by omega) (by decide)) (nI_clamp (by omega)) ?_
  show PW _ _ _ 31 [some (.ref 70), some (.int 0), some (.int a0), some (.int (nI Ed)), some (.int (nI (n + 2))), some (.int (nI k)), l6] [.int ((y.2.1 84) k)] (E x (sA y 90 f))
  rw [h84]
  show PW _ _ _ 31 [some (.ref 70), some (.int 0), some (.int a0), some (.int (nI Ed)), some (.int (nI (n + 2))), some (.int (nI k)), l6] [.int 62] (E x (sA y 90 f))
  refine PW_istore (i := 6) (L2 := [some (.ref 70), some (.int 0), some (.int a0), some (.int (nI Ed)), some (.int (nI (n + 2))), some (.int (nI k)), some (.int 62)]) c_M_worked_31 (Nat.le_of_ble_eq_true rfl) rfl rfl ?_
  refine PW_iload c_M_worked_33 rfl ?_
  refine PW_iconst (v := 1) c_M_worked_35 (by decide) ?_
  refine PW_icmp_eq c_M_worked_36 (fun h1 => absurd h1 (by decide)) (fun _ => ?_)
  refine PW_iload c_M_worked_39 rfl ?_
  refine PW_iconst (v := 2) c_M_worked_41 (by decide) ?_
  refine PW_icmp_ne c_M_worked_42 (fun _ => ?_) (fun h2 => absurd h2 (by decide))
  refine PW_iload c_M_worked_86 rfl ?_
  refine PW_iconst (v := 3) c_M_worked_88 (by decide) ?_
  refine PW_icmp_ne c_M_worked_89 (fun _ => ?_) (fun h3 => absurd h3 (by decide))
  refine PW_iload c_M_worked_121 rfl ?_
  refine PW_iconst (v := 4) c_M_worked_123 (by decide) ?_
  refine PW_icmp_ne c_M_worked_124 (fun _ => ?_) (fun h4 => absurd h4 (by decide))
  refine PW_iinc (i := 4) (v := (nI (n + 2)) + (-1)) (L2 := [some (.ref 70), some (.int 0), some (.int a0), some (.int (nI Ed)), some (.int ((nI (n + 2)) + (-1))), some (.int (nI k)), some (.int 62)]) c_M_worked_149 rfl (iinc_v (by decide)) (Nat.le_of_ble_eq_true rfl) rfl rfl ?_
  refine PW_aload_n c_M_worked_152 rfl ?_
  refine PW_get (v := .ref 90) c_M_worked_153 fl_M_69 (gf_70_28 _ _) ?_
  refine PW_iload c_M_worked_156 rfl ?_
  refine PW_iconst (v := 1) c_M_worked_158 (by decide) ?_
  refine PW_isub c_M_worked_159 ?_
  refine PW_iload c_M_worked_160 rfl ?_
  refine PW_aload_n c_M_worked_162 rfl ?_
  refine PW_get (v := .ref 90) c_M_worked_163 fl_M_69 (gf_70_28 _ _) ?_
  refine PW_iload c_M_worked_166 rfl ?_
  refine PW_iconst (v := 1) c_M_worked_168 (by decide) ?_
  refine PW_isub c_M_worked_169 ?_
  refine PW_iald (j := n) c_M_worked_170 (ar_90 _ _) (by rw [show (nI (n + 2) + (-1) - 1 : Int32) = nI n from (by rw [pr2, pr1, pr1])]; exact vp_in_nI (by omega) (by decide)) (by rw [show (nI (n + 2) + (-1) - 1 : Int32) = nI n from (by rw [pr2, pr1, pr1])]; exact nI_clamp (by omega)) ?_
  show PW _ _ _ 171 [some (.ref 70), some (.int 0), some (.int a0), some (.int (nI Ed)), some (.int ((nI (n + 2)) + (-1))), some (.int (nI k)), some (.int 62)] [.int (f n), .int 62, .int (((nI (n + 2)) + (-1)) - 1), .ref 90] (E x (sA y 90 f))
  refine PW_aload_n c_M_worked_171 rfl ?_
  refine PW_get (v := .ref 90) c_M_worked_172 fl_M_69 (gf_70_28 _ _) ?_
  refine PW_iload c_M_worked_175 rfl ?_
  refine PW_iald (j := (n + 1)) c_M_worked_177 (ar_90 _ _) (by rw [show (nI (n + 2) + (-1) : Int32) = nI (n + 1) from (by rw [pr2, pr1])]; exact vp_in_nI (by omega) (by decide)) (by rw [show (nI (n + 2) + (-1) : Int32) = nI (n + 1) from (by rw [pr2, pr1])]; exact nI_clamp (by omega)) ?_
  show PW _ _ _ 178 [some (.ref 70), some (.int 0), some (.int a0), some (.int (nI Ed)), some (.int ((nI (n + 2)) + (-1))), some (.int (nI k)), some (.int 62)] [.int (f ((n + 1))), .int (f n), .int 62, .int (((nI (n + 2)) + (-1)) - 1), .ref 90] (E x (sA y 90 f))
  refine PW_S0 (d2 := 0) (st := [.int (((nI (n + 2)) + (-1)) - 1), .ref 90]) [.int 62, .int (f n), .int (f ((n + 1)))] c_M_worked_178 lk_M_worked_240 rfl rfl rfl (Nat.le_of_ble_eq_true rfl) (by first | decide | omega) (Nat.le_of_ble_eq_true rfl) ?_
  refine sp_M_twoOf_62 ?_
  show PW _ _ _ 181 [some (.ref 70), some (.int 0), some (.int a0), some (.int (nI Ed)), some (.int ((nI (n + 2)) + (-1))), some (.int (nI k)), some (.int 62)] [.int (twF 62 (f n) (f ((n + 1)))), .int (((nI (n + 2)) + (-1)) - 1), .ref 90] (E x (sA y 90 f))
  refine PW_iast (j := n) (w2 := E x (sA (sA y 90 f) 90 (upd f n (twF 62 (f n) (f ((n + 1))))))) c_M_worked_181 (ar_90 _ _) (by rw [show (nI (n + 2) + (-1) - 1 : Int32) = nI n from (by rw [pr2, pr1, pr1])]; exact vp_in_nI (by omega) (by decide)) (by rw [show (nI (n + 2) + (-1) - 1 : Int32) = nI n from (by rw [pr2, pr1, pr1])]; exact nI_clamp (by omega)) (aw_90 _ _ _) ?_
  refine PW_iinc (i := 5) (v := (nI k) + 1) (L2 := [some (.ref 70), some (.int 0), some (.int a0), some (.int (nI Ed)), some (.int ((nI (n + 2)) + (-1))), some (.int ((nI k) + 1)), some (.int 62)]) c_M_worked_182 rfl (iinc_v (by decide)) (Nat.le_of_ble_eq_true rfl) rfl rfl ?_
  refine PW_goto c_M_worked_185 ?_
  refine PW.eqL ?_ rfl ?_ (h (some (.int 62)))
  · show ([some (.ref 70), some (.int 0), some (.int a0), some (.int (nI Ed)), some (.int ((nI (n + 2)) + (-1))), some (.int ((nI k) + 1)), some (.int 62)] : List (Option Value)) = _
    rw [nI_1, pr2, pr1]
  · first | rfl | rw [sA_sA] | (rw [sA_sA, h85]) | skip
theorem sp_mb_124 {z : ZS} {post : Option Value → List PE → Prop} {x y : XS} {a0 : Int32} {Ed n k : Nat} {f : Nat → Int32} {l6 : Option Value} {v : Int32} (hEd : Ed ≤ 130) (hk : k < Ed) (hn : n < 120) (h84 : y.2.1 84 k = nI 124) (h85 : y.2.1 85 k = v) (h : ∀ l6' : Option Value, PW (1, 0, 0, z) m_M_worked post 12 [some (.ref 70), some (.int 0), some (.int a0), some (.int (nI Ed)), some (.int (nI (n + 1))), some (.int (nI (k + 1))), l6'] [] (E x (sA y 90 ((upd f n (twF 124 (f n) (f (n + 1)))))))) : PW (1, 0, 0, z) m_M_worked post 12 [some (.ref 70), some (.int 0), some (.int a0), some (.int (nI Ed)), some (.int (nI (n + 2))), some (.int (nI k)), l6] [] (E x (sA y 90 f)) := by
  refine PW_iload c_M_worked_12 rfl ?_
  refine PW_sipush (v := 130) c_M_worked_14 (by decide) ?_
  refine PW_iload_n c_M_worked_17 rfl ?_
  refine PW_imul c_M_worked_18 ?_
  refine PW_iload_n c_M_worked_19 rfl ?_
  refine PW_iadd c_M_worked_20 ?_
  refine PW_icmp_ge c_M_worked_21 (fun h0 => absurd h0 (by rw [(show (130 * 0 + nI Ed : Int32) = nI Ed by rw [show (130 * 0 : Int32) = 0 by decide, Int32.zero_add])]; exact fun q => absurd ((nI_leI (by omega) (by omega)).mp q) (by omega))) (fun h0 => ?_)
  refine PW_aload_n c_M_worked_24 rfl ?_
  refine PW_get (v := .ref 84) c_M_worked_25 fl_M_50 (gf_70_22 _ _) ?_
  refine PW_iload c_M_worked_28 rfl ?_
  refine PW_bald (j := k) c_M_worked_30 (ar_84 _ _) (vp_in_nI (by omega) (by decide)) (nI_clamp (by omega)) ?_
  show PW _ _ _ 31 [some (.ref 70), some (.int 0), some (.int a0), some (.int (nI Ed)), some (.int (nI (n + 2))), some (.int (nI k)), l6] [.int ((y.2.1 84) k)] (E x (sA y 90 f))
  rw [h84]
  show PW _ _ _ 31 [some (.ref 70), some (.int 0), some (.int a0), some (.int (nI Ed)), some (.int (nI (n + 2))), some (.int (nI k)), l6] [.int 124] (E x (sA y 90 f))
  refine PW_istore (i := 6) (L2 := [some (.ref 70), some (.int 0), some (.int a0), some (.int (nI Ed)), some (.int (nI (n + 2))), some (.int (nI k)), some (.int 124)]) c_M_worked_31 (Nat.le_of_ble_eq_true rfl) rfl rfl ?_
  refine PW_iload c_M_worked_33 rfl ?_
  refine PW_iconst (v := 1) c_M_worked_35 (by decide) ?_
  refine PW_icmp_eq c_M_worked_36 (fun h1 => absurd h1 (by decide)) (fun _ => ?_)
  refine PW_iload c_M_worked_39 rfl ?_
  refine PW_iconst (v := 2) c_M_worked_41 (by decide) ?_
  refine PW_icmp_ne c_M_worked_42 (fun _ => ?_) (fun h2 => absurd h2 (by decide))
  refine PW_iload c_M_worked_86 rfl ?_
  refine PW_iconst (v := 3) c_M_worked_88 (by decide) ?_
  refine PW_icmp_ne c_M_worked_89 (fun _ => ?_) (fun h3 => absurd h3 (by decide))
  refine PW_iload c_M_worked_121 rfl ?_
  refine PW_iconst (v := 4) c_M_worked_123 (by decide) ?_
  refine PW_icmp_ne c_M_worked_124 (fun _ => ?_) (fun h4 => absurd h4 (by decide))
  refine PW_iinc (i := 4) (v := (nI (n + 2)) + (-1)) (L2 := [some (.ref 70), some (.int 0), some (.int a0), some (.int (nI Ed)), some (.int ((nI (n + 2)) + (-1))), some (.int (nI k)), some (.int 124)]) c_M_worked_149 rfl (iinc_v (by decide)) (Nat.le_of_ble_eq_true rfl) rfl rfl ?_
  refine PW_aload_n c_M_worked_152 rfl ?_
  refine PW_get (v := .ref 90) c_M_worked_153 fl_M_69 (gf_70_28 _ _) ?_
  refine PW_iload c_M_worked_156 rfl ?_
  refine PW_iconst (v := 1) c_M_worked_158 (by decide) ?_
  refine PW_isub c_M_worked_159 ?_
  refine PW_iload c_M_worked_160 rfl ?_
  refine PW_aload_n c_M_worked_162 rfl ?_
  refine PW_get (v := .ref 90) c_M_worked_163 fl_M_69 (gf_70_28 _ _) ?_
  refine PW_iload c_M_worked_166 rfl ?_
  refine PW_iconst (v := 1) c_M_worked_168 (by decide) ?_
  refine PW_isub c_M_worked_169 ?_
  refine PW_iald (j := n) c_M_worked_170 (ar_90 _ _) (by rw [show (nI (n + 2) + (-1) - 1 : Int32) = nI n from (by rw [pr2, pr1, pr1])]; exact vp_in_nI (by omega) (by decide)) (by rw [show (nI (n + 2) + (-1) - 1 : Int32) = nI n from (by rw [pr2, pr1, pr1])]; exact nI_clamp (by omega)) ?_
  show PW _ _ _ 171 [some (.ref 70), some (.int 0), some (.int a0), some (.int (nI Ed)), some (.int ((nI (n + 2)) + (-1))), some (.int (nI k)), some (.int 124)] [.int (f n), .int 124, .int (((nI (n + 2)) + (-1)) - 1), .ref 90] (E x (sA y 90 f))
  refine PW_aload_n c_M_worked_171 rfl ?_
  refine PW_get (v := .ref 90) c_M_worked_172 fl_M_69 (gf_70_28 _ _) ?_
  refine PW_iload c_M_worked_175 rfl ?_
  refine PW_iald (j := (n + 1)) c_M_worked_177 (ar_90 _ _) (by rw [show (nI (n + 2) + (-1) : Int32) = nI (n + 1) from (by rw [pr2, pr1])]; exact vp_in_nI (by omega) (by decide)) (by rw [show (nI (n + 2) + (-1) : Int32) = nI (n + 1) from (by rw [pr2, pr1])]; exact nI_clamp (by omega)) ?_
  show PW _ _ _ 178 [some (.ref 70), some (.int 0), some (.int a0), some (.int (nI Ed)), some (.int ((nI (n + 2)) + (-1))), some (.int (nI k)), some (.int 124)] [.int (f ((n + 1))), .int (f n), .int 124, .int (((nI (n + 2)) + (-1)) - 1), .ref 90] (E x (sA y 90 f))
  refine PW_S0 (d2 := 0) (st := [.int (((nI (n + 2)) + (-1)) - 1), .ref 90]) [.int 124, .int (f n), .int (f ((n + 1)))] c_M_worked_178 lk_M_worked_240 rfl rfl rfl (Nat.le_of_ble_eq_true rfl) (by first | decide | omega) (Nat.le_of_ble_eq_true rfl) ?_
  refine sp_M_twoOf_124 ?_
  show PW _ _ _ 181 [some (.ref 70), some (.int 0), some (.int a0), some (.int (nI Ed)), some (.int ((nI (n + 2)) + (-1))), some (.int (nI k)), some (.int 124)] [.int (twF 124 (f n) (f ((n + 1)))), .int (((nI (n + 2)) + (-1)) - 1), .ref 90] (E x (sA y 90 f))
  refine PW_iast (j := n) (w2 := E x (sA (sA y 90 f) 90 (upd f n (twF 124 (f n) (f ((n + 1))))))) c_M_worked_181 (ar_90 _ _) (by rw [show (nI (n + 2) + (-1) - 1 : Int32) = nI n from (by rw [pr2, pr1, pr1])]; exact vp_in_nI (by omega) (by decide)) (by rw [show (nI (n + 2) + (-1) - 1 : Int32) = nI n from (by rw [pr2, pr1, pr1])]; exact nI_clamp (by omega)) (aw_90 _ _ _) ?_
  refine PW_iinc (i := 5) (v := (nI k) + 1) (L2 := [some (.ref 70), some (.int 0), some (.int a0), some (.int (nI Ed)), some (.int ((nI (n + 2)) + (-1))), some (.int ((nI k) + 1)), some (.int 124)]) c_M_worked_182 rfl (iinc_v (by decide)) (Nat.le_of_ble_eq_true rfl) rfl rfl ?_
  refine PW_goto c_M_worked_185 ?_
  refine PW.eqL ?_ rfl ?_ (h (some (.int 124)))
  · show ([some (.ref 70), some (.int 0), some (.int a0), some (.int (nI Ed)), some (.int ((nI (n + 2)) + (-1))), some (.int ((nI k) + 1)), some (.int 124)] : List (Option Value)) = _
    rw [nI_1, pr2, pr1]
  · first | rfl | rw [sA_sA] | (rw [sA_sA, h85]) | skip
theorem sp_mb {z : ZS} {post : Option Value → List PE → Prop} {x y : XS} {a0 : Int32} {Ed n k : Nat} {f : Nat → Int32} {l6 : Option Value} {a : Nat} {v : Int32} (ha : a = 37 ∨ a = 38 ∨ a = 42 ∨ a = 43 ∨ a = 45 ∨ a = 47 ∨ a = 60 ∨ a = 61 ∨ a = 62 ∨ a = 124) (hEd : Ed ≤ 130) (hk : k < Ed) (hn : n < 120) (h84 : y.2.1 84 k = nI a) (h85 : y.2.1 85 k = v) (h : ∀ l6' : Option Value, PW (1, 0, 0, z) m_M_worked post 12 [some (.ref 70), some (.int 0), some (.int a0), some (.int (nI Ed)), some (.int (nI (n + 1))), some (.int (nI (k + 1))), l6'] [] (E x (sA y 90 ((upd f n (twF a (f n) (f (n + 1)))))))) : PW (1, 0, 0, z) m_M_worked post 12 [some (.ref 70), some (.int 0), some (.int a0), some (.int (nI Ed)), some (.int (nI (n + 2))), some (.int (nI k)), l6] [] (E x (sA y 90 f)) := by
  rcases ha with rfl | rfl | rfl | rfl | rfl | rfl | rfl | rfl | rfl | rfl
  · exact sp_mb_37 hEd hk hn h84 h85 h
  · exact sp_mb_38 hEd hk hn h84 h85 h
  · exact sp_mb_42 hEd hk hn h84 h85 h
  · exact sp_mb_43 hEd hk hn h84 h85 h
  · exact sp_mb_45 hEd hk hn h84 h85 h
  · exact sp_mb_47 hEd hk hn h84 h85 h
  · exact sp_mb_60 hEd hk hn h84 h85 h
  · exact sp_mb_61 hEd hk hn h84 h85 h
  · exact sp_mb_62 hEd hk hn h84 h85 h
  · exact sp_mb_124 hEd hk hn h84 h85 h
theorem sp_mend {z : ZS} {post : Option Value → List PE → Prop} {x y : XS} {a0 : Int32} {Ed n : Nat} {f : Nat → Int32} {l6 : Option Value} (h : post (some (.int (f 0))) (E x (sA y 90 f))) : PW (1, 0, 0, z) m_M_worked post 12 [some (.ref 70), some (.int 0), some (.int a0), some (.int (nI Ed)), some (.int (nI n)), some (.int (nI Ed)), l6] [] (E x (sA y 90 f)) := by
  refine PW_iload c_M_worked_12 rfl ?_
  refine PW_sipush (v := 130) c_M_worked_14 (by decide) ?_
  refine PW_iload_n c_M_worked_17 rfl ?_
  refine PW_imul c_M_worked_18 ?_
  refine PW_iload_n c_M_worked_19 rfl ?_
  refine PW_iadd c_M_worked_20 ?_
  refine PW_icmp_ge c_M_worked_21 (fun h0 => ?_) (fun h0 => absurd (by rw [(show (130 * 0 + nI Ed : Int32) = nI Ed by rw [show (130 * 0 : Int32) = 0 by decide, Int32.zero_add])]; exact Int32.le_refl _) h0)
  refine PW_aload_n c_M_worked_188 rfl ?_
  refine PW_get (v := .ref 90) c_M_worked_189 fl_M_69 (gf_70_28 _ _) ?_
  refine PW_iconst (v := 0) c_M_worked_192 (by decide) ?_
  refine PW_iald (j := 0) c_M_worked_193 (ar_90 _ _) (vp_in_iff.mpr (by decide)) rfl ?_
  show PW _ _ _ 194 [some (.ref 70), some (.int 0), some (.int a0), some (.int (nI Ed)), some (.int (nI n)), some (.int (nI Ed)), l6] [.int (f 0)] (E x (sA y 90 f))
  refine PW_ireturn (ty := .int) c_M_worked_194 rfl rfl ?_
  exact h
