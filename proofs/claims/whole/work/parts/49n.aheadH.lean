theorem ra_11 {o h : Nat → Bool} {k : Nat} (fo : o k = true) (fh : h k = true) : nI (sB o k + sB h k) + (1 + 1) = nI (sB o (k + 1) + sB h (k + 1)) := by
  rw [show (1 : Int32) + 1 = nI 2 from rfl, nI_add]
  congr 1
  rw [sB, sB, fo, fh]
  simp only [Bool.toNat_true, Bool.toNat_false]
  omega
theorem rs_11 {o h : Nat → Bool} {k : Nat} (fo : o k = true) (fh : h k = true) : (1 : Int32) = nI (shB o h (k + 1)) := by
  rw [shB, fo, fh]; rfl
theorem ra_10 {o h : Nat → Bool} {k : Nat} (fo : o k = true) (fh : h k = false) : nI (sB o k + sB h k) + (1 + 0) = nI (sB o (k + 1) + sB h (k + 1)) := by
  rw [show (1 : Int32) + 0 = nI 1 from rfl, nI_add]
  congr 1
  rw [sB, sB, fo, fh]
  simp only [Bool.toNat_true, Bool.toNat_false]
  omega
theorem rs_10 {o h : Nat → Bool} {k : Nat} (fo : o k = true) (fh : h k = false) : nI (shB o h k) = nI (shB o h (k + 1)) := by
  rw [shB, fo, fh]
  simp
theorem ra_01 {o h : Nat → Bool} {k : Nat} (fo : o k = false) (fh : h k = true) : nI (sB o k + sB h k) + (0 + 1) = nI (sB o (k + 1) + sB h (k + 1)) := by
  rw [show (0 : Int32) + 1 = nI 1 from rfl, nI_add]
  congr 1
  rw [sB, sB, fo, fh]
  simp only [Bool.toNat_true, Bool.toNat_false]
  omega
theorem rs_01 {o h : Nat → Bool} {k : Nat} (fo : o k = false) (fh : h k = true) : nI (shB o h k) = nI (shB o h (k + 1)) := by
  rw [shB, fo, fh]
  simp
theorem ra_00 {o h : Nat → Bool} {k : Nat} (fo : o k = false) (fh : h k = false) : nI (sB o k + sB h k) + (0 + 0) = nI (sB o (k + 1) + sB h (k + 1)) := by
  rw [show (0 : Int32) + 0 = nI 0 from rfl, nI_add]
  congr 1
  rw [sB, sB, fo, fh]
  simp only [Bool.toNat_true, Bool.toNat_false]
  omega
theorem rs_00 {o h : Nat → Bool} {k : Nat} (fo : o k = false) (fh : h k = false) : nI (shB o h k) = nI (shB o h (k + 1)) := by
  rw [shB, fo, fh]
  simp
theorem ra_end {o h : Nat → Bool} : nI (sB o 5 + sB h 5) - nI (shB o h 5) = nI (roA o h) := by
  have h1 := shB_o (o := o) (h := h) 5
  have h2 : ∀ (f : Nat → Bool), sB f 5 ≤ 5 := fun f => by
    have := fun i => tN_1 (a := f i)
    have a0 := this 0; have a1 := this 1; have a2 := this 2; have a3 := this 3; have a4 := this 4
    simp only [sB]
    omega
  have h3 := h2 o
  have h4 := h2 h
  refine Int32.toInt_inj.mp ?_
  unfold roA
  rw [ti_sub (by rw [nI_toInt (by omega), nI_toInt (by omega)]; omega) (by rw [nI_toInt (by omega), nI_toInt (by omega)]; omega), nI_toInt (by omega), nI_toInt (by omega), nI_toInt (by omega)]
  omega
theorem lp_H_ra {z : ZS} {post : Option Value → List PE → Prop} {x y : XS} {m t : Int32} (C : CPg x y) (hm : 0 ≤ m.toInt) (h : post (some (.int (nI (roA (rAo y m t) (rAh y m t))))) (E x y)) : ∀ (j k : Nat) {l7 l8 l9 : Option Value}, k + j = 5 → PW (2, 0, 0, z) m_H_roomsAhead post 18 [some (.ref 6), some (.int m), some (.int t), some (.int (mustB y &&& (t ^^^ -1))), some (.int (nI (sB (rAo y m t) k + sB (rAh y m t) k))), some (.int (nI (shB (rAo y m t) (rAh y m t) k))), some (.int (nI k)), l7, l8, l9] [] (E x y) := by
  intro j
  induction j with
  | zero =>
    intro k l7 l8 l9 hk0
    refine PW_iload c_H_roomsAhead_18 rfl ?_
    refine PW_iconst (v := 5) c_H_roomsAhead_20 (by decide) ?_
    refine PW_icmp_ge c_H_roomsAhead_21 (fun h0 => ?_) (fun h0 => absurd (by rw [show k = 5 by omega]; decide : (5 : Int32) ≤ nI k) h0)
    refine PW_iload c_H_roomsAhead_132 rfl ?_
    refine PW_iload c_H_roomsAhead_134 rfl ?_
    refine PW_isub c_H_roomsAhead_136 ?_
    refine PW_ireturn (ty := .int) c_H_roomsAhead_137 rfl rfl ?_
    rw [show k = 5 by omega]
    exact pqi h ra_end.symm
  | succ j ih =>
    intro k l7 l8 l9 hk0
    have hk : k < 5 := by omega
    have hpr : x.2.1 (17 + k) 99 = thI y (nI k) 99 := C.pres hk (by decide : 99 < 100)
    cases fo : rAo y m t k
    · have eo : stV y m t k &&& (hostB y ^^^ -1) = 0 := by unfold rAo at fo; simpa using fo
      cases fh : rAh y m t k
      · have eh : stV y m t k &&& hostB y = 0 := by unfold rAh at fh; simpa using fh
        refine PW_iload c_H_roomsAhead_18 rfl ?_
        refine PW_iconst (v := 5) c_H_roomsAhead_20 (by decide) ?_
        refine PW_icmp_ge c_H_roomsAhead_21 (fun h0 => absurd h0 (fun q => absurd ((nI_leI (by decide) (by omega)).mp (show nI 5 ≤ nI k from q)) (by omega))) (fun h0 => ?_)
        refine PW_aload_n c_H_roomsAhead_24 rfl ?_
        refine PW_iload c_H_roomsAhead_25 rfl ?_
        refine PW_iload_n c_H_roomsAhead_27 rfl ?_
        refine PW_V0 (d2 := 1) (st := []) [.int (nI k), .int m] c_H_roomsAhead_28 lk_H_roomsAhead_74 (po_6 _ _) rfl rfl rfl (Nat.le_of_ble_eq_true rfl) (by first | decide | omega) (Nat.le_of_ble_eq_true rfl) ?_
        refine sp_H_whoIsIn C (by rw [nI_toInt (by omega)]; omega) hm ?_
        show PW _ _ _ 31 [some (.ref 6), some (.int m), some (.int t), some (.int (mustB y &&& (t ^^^ -1))), some (.int (nI (sB (rAo y m t) k + sB (rAh y m t) k))), some (.int (nI (shB (rAo y m t) (rAh y m t) k))), some (.int (nI k)), l7, l8, l9] [.int (thI y (nI k) m)] (E x y)
        refine PW_aload_n c_H_roomsAhead_31 rfl ?_
        refine PW_get (v := .ref 16) c_H_roomsAhead_32 fl_H_20 (gf_6_2 _ _) ?_
        refine PW_iload c_H_roomsAhead_35 rfl ?_
        refine PW_aald (j := k) c_H_roomsAhead_37 (ar_16 _ _) (t0 := 5) rfl rfl (vp_in_nI hk (by decide)) (nI_clamp (by omega)) ?_
        rw [if_pos hk]
        show PW _ _ _ 38 [some (.ref 6), some (.int m), some (.int t), some (.int (mustB y &&& (t ^^^ -1))), some (.int (nI (sB (rAo y m t) k + sB (rAh y m t) k))), some (.int (nI (shB (rAo y m t) (rAh y m t) k))), some (.int (nI k)), l7, l8, l9] [.ref (17 + k), .int (thI y (nI k) m)] (E x y)
        refine PW_bipush (v := 99) c_H_roomsAhead_38 (by decide) ?_
        refine PW_iald (j := 99) c_H_roomsAhead_40 (fr_present _ _ hk) (vp_in_iff.mpr (by decide)) rfl ?_
        show PW _ _ _ 41 [some (.ref 6), some (.int m), some (.int t), some (.int (mustB y &&& (t ^^^ -1))), some (.int (nI (sB (rAo y m t) k + sB (rAh y m t) k))), some (.int (nI (shB (rAo y m t) (rAh y m t) k))), some (.int (nI k)), l7, l8, l9] [.int ((x.2.1 (17 + k)) 99), .int (thI y (nI k) m)] (E x y)
        rw [hpr]
        show PW _ _ _ 41 [some (.ref 6), some (.int m), some (.int t), some (.int (mustB y &&& (t ^^^ -1))), some (.int (nI (sB (rAo y m t) k + sB (rAh y m t) k))), some (.int (nI (shB (rAo y m t) (rAh y m t) k))), some (.int (nI k)), l7, l8, l9] [.int (thI y (nI k) 99), .int (thI y (nI k) m)] (E x y)
        refine PW_iand c_H_roomsAhead_41 ?_
        refine PW_iload_n c_H_roomsAhead_42 rfl ?_
        refine PW_iand c_H_roomsAhead_43 ?_
        refine PW_istore (i := 7) (L2 := [some (.ref 6), some (.int m), some (.int t), some (.int (mustB y &&& (t ^^^ -1))), some (.int (nI (sB (rAo y m t) k + sB (rAh y m t) k))), some (.int (nI (shB (rAo y m t) (rAh y m t) k))), some (.int (nI k)), some (.int (((thI y (nI k) m) &&& (thI y (nI k) 99)) &&& (mustB y &&& (t ^^^ -1)))), l8, l9]) c_H_roomsAhead_44 (Nat.le_of_ble_eq_true rfl) rfl rfl ?_
        refine PW_iload c_H_roomsAhead_46 rfl ?_
        refine PW_aload_n c_H_roomsAhead_48 rfl ?_
        refine PW_get (v := .int (x.1 53)) c_H_roomsAhead_49 fl_H_52 (gf_6_5 _ _) ?_
        rw [C.x53]
        show PW _ _ _ 52 [some (.ref 6), some (.int m), some (.int t), some (.int (mustB y &&& (t ^^^ -1))), some (.int (nI (sB (rAo y m t) k + sB (rAh y m t) k))), some (.int (nI (shB (rAo y m t) (rAh y m t) k))), some (.int (nI k)), some (.int (((thI y (nI k) m) &&& (thI y (nI k) 99)) &&& (mustB y &&& (t ^^^ -1)))), l8, l9] [.int (hostB y), .int (((thI y (nI k) m) &&& (thI y (nI k) 99)) &&& (mustB y &&& (t ^^^ -1)))] (E x y)
        refine PW_iconst (v := -1) c_H_roomsAhead_52 (by decide) ?_
        refine PW_ixor c_H_roomsAhead_53 ?_
        refine PW_iand c_H_roomsAhead_54 ?_
        refine PW_if_eq c_H_roomsAhead_55 (fun h1 => ?_) (fun h1 => absurd eo h1)
        refine PW_iconst (v := 0) c_H_roomsAhead_62 (by decide) ?_
        refine PW_istore (i := 8) (L2 := [some (.ref 6), some (.int m), some (.int t), some (.int (mustB y &&& (t ^^^ -1))), some (.int (nI (sB (rAo y m t) k + sB (rAh y m t) k))), some (.int (nI (shB (rAo y m t) (rAh y m t) k))), some (.int (nI k)), some (.int (((thI y (nI k) m) &&& (thI y (nI k) 99)) &&& (mustB y &&& (t ^^^ -1)))), some (.int 0), l9]) c_H_roomsAhead_63 (Nat.le_of_ble_eq_true rfl) rfl rfl ?_
        refine PW_iload c_H_roomsAhead_65 rfl ?_
        refine PW_aload_n c_H_roomsAhead_67 rfl ?_
        refine PW_get (v := .int (x.1 53)) c_H_roomsAhead_68 fl_H_52 (gf_6_5 _ _) ?_
        rw [C.x53]
        show PW _ _ _ 71 [some (.ref 6), some (.int m), some (.int t), some (.int (mustB y &&& (t ^^^ -1))), some (.int (nI (sB (rAo y m t) k + sB (rAh y m t) k))), some (.int (nI (shB (rAo y m t) (rAh y m t) k))), some (.int (nI k)), some (.int (((thI y (nI k) m) &&& (thI y (nI k) 99)) &&& (mustB y &&& (t ^^^ -1)))), some (.int 0), l9] [.int (hostB y), .int (((thI y (nI k) m) &&& (thI y (nI k) 99)) &&& (mustB y &&& (t ^^^ -1)))] (E x y)
        refine PW_iand c_H_roomsAhead_71 ?_
        refine PW_if_eq c_H_roomsAhead_72 (fun h2 => ?_) (fun h2 => absurd eh h2)
        refine PW_iconst (v := 0) c_H_roomsAhead_79 (by decide) ?_
        refine PW_istore (i := 9) (L2 := [some (.ref 6), some (.int m), some (.int t), some (.int (mustB y &&& (t ^^^ -1))), some (.int (nI (sB (rAo y m t) k + sB (rAh y m t) k))), some (.int (nI (shB (rAo y m t) (rAh y m t) k))), some (.int (nI k)), some (.int (((thI y (nI k) m) &&& (thI y (nI k) 99)) &&& (mustB y &&& (t ^^^ -1)))), some (.int 0), some (.int 0)]) c_H_roomsAhead_80 (Nat.le_of_ble_eq_true rfl) rfl rfl ?_
        refine PW_iload c_H_roomsAhead_82 rfl ?_
        refine PW_iload c_H_roomsAhead_84 rfl ?_
        refine PW_if_eq c_H_roomsAhead_86 (fun _ => ?_) (fun h3 => absurd (by decide) h3)
        refine PW_iconst (v := 0) c_H_roomsAhead_93 (by decide) ?_
        refine PW_iload c_H_roomsAhead_94 rfl ?_
        refine PW_if_eq c_H_roomsAhead_96 (fun _ => ?_) (fun h4 => absurd (by decide) h4)
        refine PW_iconst (v := 0) c_H_roomsAhead_103 (by decide) ?_
        refine PW_iadd c_H_roomsAhead_104 ?_
        refine PW_iadd c_H_roomsAhead_105 ?_
        refine PW_istore (i := 4) (L2 := [some (.ref 6), some (.int m), some (.int t), some (.int (mustB y &&& (t ^^^ -1))), some (.int ((nI (sB (rAo y m t) k + sB (rAh y m t) k)) + (0 + 0))), some (.int (nI (shB (rAo y m t) (rAh y m t) k))), some (.int (nI k)), some (.int (((thI y (nI k) m) &&& (thI y (nI k) 99)) &&& (mustB y &&& (t ^^^ -1)))), some (.int 0), some (.int 0)]) c_H_roomsAhead_106 (Nat.le_of_ble_eq_true rfl) rfl rfl ?_
        refine PW_iload c_H_roomsAhead_108 rfl ?_
        refine PW_if_eq c_H_roomsAhead_110 (fun _ => ?_) (fun h5 => absurd (by decide) h5)
        refine PW_iload c_H_roomsAhead_122 rfl ?_
        refine PW_istore (i := 5) (L2 := [some (.ref 6), some (.int m), some (.int t), some (.int (mustB y &&& (t ^^^ -1))), some (.int ((nI (sB (rAo y m t) k + sB (rAh y m t) k)) + (0 + 0))), some (.int (nI (shB (rAo y m t) (rAh y m t) k))), some (.int (nI k)), some (.int (((thI y (nI k) m) &&& (thI y (nI k) 99)) &&& (mustB y &&& (t ^^^ -1)))), some (.int 0), some (.int 0)]) c_H_roomsAhead_124 (Nat.le_of_ble_eq_true rfl) rfl rfl ?_
        refine PW_iinc (i := 6) (v := (nI k) + 1) (L2 := [some (.ref 6), some (.int m), some (.int t), some (.int (mustB y &&& (t ^^^ -1))), some (.int ((nI (sB (rAo y m t) k + sB (rAh y m t) k)) + (0 + 0))), some (.int (nI (shB (rAo y m t) (rAh y m t) k))), some (.int ((nI k) + 1)), some (.int (((thI y (nI k) m) &&& (thI y (nI k) 99)) &&& (mustB y &&& (t ^^^ -1)))), some (.int 0), some (.int 0)]) c_H_roomsAhead_126 rfl (iinc_v (by decide)) (Nat.le_of_ble_eq_true rfl) rfl rfl ?_
        refine PW_goto c_H_roomsAhead_129 ?_
        refine PW.eqL ?_ rfl rfl (ih (k + 1) (l7 := some (.int (((thI y (nI k) m) &&& (thI y (nI k) 99)) &&& (mustB y &&& (t ^^^ -1))))) (l8 := some (.int 0)) (l9 := some (.int 0)) (by omega))
        show ([some (.ref 6), some (.int m), some (.int t), some (.int (mustB y &&& (t ^^^ -1))), some (.int ((nI (sB (rAo y m t) k + sB (rAh y m t) k)) + (0 + 0))), some (.int (nI (shB (rAo y m t) (rAh y m t) k))), some (.int ((nI k) + 1)), some (.int (((thI y (nI k) m) &&& (thI y (nI k) 99)) &&& (mustB y &&& (t ^^^ -1)))), some (.int 0), some (.int 0)] : List (Option Value)) = [some (.ref 6), some (.int m), some (.int t), some (.int (mustB y &&& (t ^^^ -1))), some (.int (nI (sB (rAo y m t) (k + 1) + sB (rAh y m t) (k + 1)))), some (.int (nI (shB (rAo y m t) (rAh y m t) (k + 1)))), some (.int (nI (k + 1))), some (.int (((thI y (nI k) m) &&& (thI y (nI k) 99)) &&& (mustB y &&& (t ^^^ -1)))), some (.int 0), some (.int 0)]
        rw [nI_1, ra_00 fo fh, rs_00 fo fh]
      · have eh : ¬ stV y m t k &&& hostB y = 0 := by unfold rAh at fh; simpa using fh
        refine PW_iload c_H_roomsAhead_18 rfl ?_
        refine PW_iconst (v := 5) c_H_roomsAhead_20 (by decide) ?_
        refine PW_icmp_ge c_H_roomsAhead_21 (fun h0 => absurd h0 (fun q => absurd ((nI_leI (by decide) (by omega)).mp (show nI 5 ≤ nI k from q)) (by omega))) (fun h0 => ?_)
        refine PW_aload_n c_H_roomsAhead_24 rfl ?_
        refine PW_iload c_H_roomsAhead_25 rfl ?_
        refine PW_iload_n c_H_roomsAhead_27 rfl ?_
        refine PW_V0 (d2 := 1) (st := []) [.int (nI k), .int m] c_H_roomsAhead_28 lk_H_roomsAhead_74 (po_6 _ _) rfl rfl rfl (Nat.le_of_ble_eq_true rfl) (by first | decide | omega) (Nat.le_of_ble_eq_true rfl) ?_
        refine sp_H_whoIsIn C (by rw [nI_toInt (by omega)]; omega) hm ?_
        show PW _ _ _ 31 [some (.ref 6), some (.int m), some (.int t), some (.int (mustB y &&& (t ^^^ -1))), some (.int (nI (sB (rAo y m t) k + sB (rAh y m t) k))), some (.int (nI (shB (rAo y m t) (rAh y m t) k))), some (.int (nI k)), l7, l8, l9] [.int (thI y (nI k) m)] (E x y)
        refine PW_aload_n c_H_roomsAhead_31 rfl ?_
        refine PW_get (v := .ref 16) c_H_roomsAhead_32 fl_H_20 (gf_6_2 _ _) ?_
        refine PW_iload c_H_roomsAhead_35 rfl ?_
        refine PW_aald (j := k) c_H_roomsAhead_37 (ar_16 _ _) (t0 := 5) rfl rfl (vp_in_nI hk (by decide)) (nI_clamp (by omega)) ?_
        rw [if_pos hk]
        show PW _ _ _ 38 [some (.ref 6), some (.int m), some (.int t), some (.int (mustB y &&& (t ^^^ -1))), some (.int (nI (sB (rAo y m t) k + sB (rAh y m t) k))), some (.int (nI (shB (rAo y m t) (rAh y m t) k))), some (.int (nI k)), l7, l8, l9] [.ref (17 + k), .int (thI y (nI k) m)] (E x y)
        refine PW_bipush (v := 99) c_H_roomsAhead_38 (by decide) ?_
        refine PW_iald (j := 99) c_H_roomsAhead_40 (fr_present _ _ hk) (vp_in_iff.mpr (by decide)) rfl ?_
        show PW _ _ _ 41 [some (.ref 6), some (.int m), some (.int t), some (.int (mustB y &&& (t ^^^ -1))), some (.int (nI (sB (rAo y m t) k + sB (rAh y m t) k))), some (.int (nI (shB (rAo y m t) (rAh y m t) k))), some (.int (nI k)), l7, l8, l9] [.int ((x.2.1 (17 + k)) 99), .int (thI y (nI k) m)] (E x y)
        rw [hpr]
        show PW _ _ _ 41 [some (.ref 6), some (.int m), some (.int t), some (.int (mustB y &&& (t ^^^ -1))), some (.int (nI (sB (rAo y m t) k + sB (rAh y m t) k))), some (.int (nI (shB (rAo y m t) (rAh y m t) k))), some (.int (nI k)), l7, l8, l9] [.int (thI y (nI k) 99), .int (thI y (nI k) m)] (E x y)
        refine PW_iand c_H_roomsAhead_41 ?_
        refine PW_iload_n c_H_roomsAhead_42 rfl ?_
        refine PW_iand c_H_roomsAhead_43 ?_
        refine PW_istore (i := 7) (L2 := [some (.ref 6), some (.int m), some (.int t), some (.int (mustB y &&& (t ^^^ -1))), some (.int (nI (sB (rAo y m t) k + sB (rAh y m t) k))), some (.int (nI (shB (rAo y m t) (rAh y m t) k))), some (.int (nI k)), some (.int (((thI y (nI k) m) &&& (thI y (nI k) 99)) &&& (mustB y &&& (t ^^^ -1)))), l8, l9]) c_H_roomsAhead_44 (Nat.le_of_ble_eq_true rfl) rfl rfl ?_
        refine PW_iload c_H_roomsAhead_46 rfl ?_
        refine PW_aload_n c_H_roomsAhead_48 rfl ?_
        refine PW_get (v := .int (x.1 53)) c_H_roomsAhead_49 fl_H_52 (gf_6_5 _ _) ?_
        rw [C.x53]
        show PW _ _ _ 52 [some (.ref 6), some (.int m), some (.int t), some (.int (mustB y &&& (t ^^^ -1))), some (.int (nI (sB (rAo y m t) k + sB (rAh y m t) k))), some (.int (nI (shB (rAo y m t) (rAh y m t) k))), some (.int (nI k)), some (.int (((thI y (nI k) m) &&& (thI y (nI k) 99)) &&& (mustB y &&& (t ^^^ -1)))), l8, l9] [.int (hostB y), .int (((thI y (nI k) m) &&& (thI y (nI k) 99)) &&& (mustB y &&& (t ^^^ -1)))] (E x y)
        refine PW_iconst (v := -1) c_H_roomsAhead_52 (by decide) ?_
        refine PW_ixor c_H_roomsAhead_53 ?_
        refine PW_iand c_H_roomsAhead_54 ?_
        refine PW_if_eq c_H_roomsAhead_55 (fun h1 => ?_) (fun h1 => absurd eo h1)
        refine PW_iconst (v := 0) c_H_roomsAhead_62 (by decide) ?_
        refine PW_istore (i := 8) (L2 := [some (.ref 6), some (.int m), some (.int t), some (.int (mustB y &&& (t ^^^ -1))), some (.int (nI (sB (rAo y m t) k + sB (rAh y m t) k))), some (.int (nI (shB (rAo y m t) (rAh y m t) k))), some (.int (nI k)), some (.int (((thI y (nI k) m) &&& (thI y (nI k) 99)) &&& (mustB y &&& (t ^^^ -1)))), some (.int 0), l9]) c_H_roomsAhead_63 (Nat.le_of_ble_eq_true rfl) rfl rfl ?_
        refine PW_iload c_H_roomsAhead_65 rfl ?_
        refine PW_aload_n c_H_roomsAhead_67 rfl ?_
        refine PW_get (v := .int (x.1 53)) c_H_roomsAhead_68 fl_H_52 (gf_6_5 _ _) ?_
        rw [C.x53]
        show PW _ _ _ 71 [some (.ref 6), some (.int m), some (.int t), some (.int (mustB y &&& (t ^^^ -1))), some (.int (nI (sB (rAo y m t) k + sB (rAh y m t) k))), some (.int (nI (shB (rAo y m t) (rAh y m t) k))), some (.int (nI k)), some (.int (((thI y (nI k) m) &&& (thI y (nI k) 99)) &&& (mustB y &&& (t ^^^ -1)))), some (.int 0), l9] [.int (hostB y), .int (((thI y (nI k) m) &&& (thI y (nI k) 99)) &&& (mustB y &&& (t ^^^ -1)))] (E x y)
        refine PW_iand c_H_roomsAhead_71 ?_
        refine PW_if_eq c_H_roomsAhead_72 (fun h2 => absurd h2 eh) (fun h2 => ?_)
        refine PW_iconst (v := 1) c_H_roomsAhead_75 (by decide) ?_
        refine PW_goto c_H_roomsAhead_76 ?_
        refine PW_istore (i := 9) (L2 := [some (.ref 6), some (.int m), some (.int t), some (.int (mustB y &&& (t ^^^ -1))), some (.int (nI (sB (rAo y m t) k + sB (rAh y m t) k))), some (.int (nI (shB (rAo y m t) (rAh y m t) k))), some (.int (nI k)), some (.int (((thI y (nI k) m) &&& (thI y (nI k) 99)) &&& (mustB y &&& (t ^^^ -1)))), some (.int 0), some (.int 1)]) c_H_roomsAhead_80 (Nat.le_of_ble_eq_true rfl) rfl rfl ?_
        refine PW_iload c_H_roomsAhead_82 rfl ?_
        refine PW_iload c_H_roomsAhead_84 rfl ?_
        refine PW_if_eq c_H_roomsAhead_86 (fun _ => ?_) (fun h3 => absurd (by decide) h3)
        refine PW_iconst (v := 0) c_H_roomsAhead_93 (by decide) ?_
        refine PW_iload c_H_roomsAhead_94 rfl ?_
        refine PW_if_eq c_H_roomsAhead_96 (fun h4 => absurd h4 (by decide)) (fun _ => ?_)
        refine PW_iconst (v := 1) c_H_roomsAhead_99 (by decide) ?_
        refine PW_goto c_H_roomsAhead_100 ?_
        refine PW_iadd c_H_roomsAhead_104 ?_
        refine PW_iadd c_H_roomsAhead_105 ?_
        refine PW_istore (i := 4) (L2 := [some (.ref 6), some (.int m), some (.int t), some (.int (mustB y &&& (t ^^^ -1))), some (.int ((nI (sB (rAo y m t) k + sB (rAh y m t) k)) + (0 + 1))), some (.int (nI (shB (rAo y m t) (rAh y m t) k))), some (.int (nI k)), some (.int (((thI y (nI k) m) &&& (thI y (nI k) 99)) &&& (mustB y &&& (t ^^^ -1)))), some (.int 0), some (.int 1)]) c_H_roomsAhead_106 (Nat.le_of_ble_eq_true rfl) rfl rfl ?_
        refine PW_iload c_H_roomsAhead_108 rfl ?_
        refine PW_if_eq c_H_roomsAhead_110 (fun _ => ?_) (fun h5 => absurd (by decide) h5)
        refine PW_iload c_H_roomsAhead_122 rfl ?_
        refine PW_istore (i := 5) (L2 := [some (.ref 6), some (.int m), some (.int t), some (.int (mustB y &&& (t ^^^ -1))), some (.int ((nI (sB (rAo y m t) k + sB (rAh y m t) k)) + (0 + 1))), some (.int (nI (shB (rAo y m t) (rAh y m t) k))), some (.int (nI k)), some (.int (((thI y (nI k) m) &&& (thI y (nI k) 99)) &&& (mustB y &&& (t ^^^ -1)))), some (.int 0), some (.int 1)]) c_H_roomsAhead_124 (Nat.le_of_ble_eq_true rfl) rfl rfl ?_
        refine PW_iinc (i := 6) (v := (nI k) + 1) (L2 := [some (.ref 6), some (.int m), some (.int t), some (.int (mustB y &&& (t ^^^ -1))), some (.int ((nI (sB (rAo y m t) k + sB (rAh y m t) k)) + (0 + 1))), some (.int (nI (shB (rAo y m t) (rAh y m t) k))), some (.int ((nI k) + 1)), some (.int (((thI y (nI k) m) &&& (thI y (nI k) 99)) &&& (mustB y &&& (t ^^^ -1)))), some (.int 0), some (.int 1)]) c_H_roomsAhead_126 rfl (iinc_v (by decide)) (Nat.le_of_ble_eq_true rfl) rfl rfl ?_
        refine PW_goto c_H_roomsAhead_129 ?_
        refine PW.eqL ?_ rfl rfl (ih (k + 1) (l7 := some (.int (((thI y (nI k) m) &&& (thI y (nI k) 99)) &&& (mustB y &&& (t ^^^ -1))))) (l8 := some (.int 0)) (l9 := some (.int 1)) (by omega))
        show ([some (.ref 6), some (.int m), some (.int t), some (.int (mustB y &&& (t ^^^ -1))), some (.int ((nI (sB (rAo y m t) k + sB (rAh y m t) k)) + (0 + 1))), some (.int (nI (shB (rAo y m t) (rAh y m t) k))), some (.int ((nI k) + 1)), some (.int (((thI y (nI k) m) &&& (thI y (nI k) 99)) &&& (mustB y &&& (t ^^^ -1)))), some (.int 0), some (.int 1)] : List (Option Value)) = [some (.ref 6), some (.int m), some (.int t), some (.int (mustB y &&& (t ^^^ -1))), some (.int (nI (sB (rAo y m t) (k + 1) + sB (rAh y m t) (k + 1)))), some (.int (nI (shB (rAo y m t) (rAh y m t) (k + 1)))), some (.int (nI (k + 1))), some (.int (((thI y (nI k) m) &&& (thI y (nI k) 99)) &&& (mustB y &&& (t ^^^ -1)))), some (.int 0), some (.int 1)]
        rw [nI_1, ra_01 fo fh, rs_01 fo fh]
    · have eo : ¬ stV y m t k &&& (hostB y ^^^ -1) = 0 := by unfold rAo at fo; simpa using fo
      cases fh : rAh y m t k
      · have eh : stV y m t k &&& hostB y = 0 := by unfold rAh at fh; simpa using fh
        refine PW_iload c_H_roomsAhead_18 rfl ?_
        refine PW_iconst (v := 5) c_H_roomsAhead_20 (by decide) ?_
        refine PW_icmp_ge c_H_roomsAhead_21 (fun h0 => absurd h0 (fun q => absurd ((nI_leI (by decide) (by omega)).mp (show nI 5 ≤ nI k from q)) (by omega))) (fun h0 => ?_)
        refine PW_aload_n c_H_roomsAhead_24 rfl ?_
        refine PW_iload c_H_roomsAhead_25 rfl ?_
        refine PW_iload_n c_H_roomsAhead_27 rfl ?_
        refine PW_V0 (d2 := 1) (st := []) [.int (nI k), .int m] c_H_roomsAhead_28 lk_H_roomsAhead_74 (po_6 _ _) rfl rfl rfl (Nat.le_of_ble_eq_true rfl) (by first | decide | omega) (Nat.le_of_ble_eq_true rfl) ?_
        refine sp_H_whoIsIn C (by rw [nI_toInt (by omega)]; omega) hm ?_
        show PW _ _ _ 31 [some (.ref 6), some (.int m), some (.int t), some (.int (mustB y &&& (t ^^^ -1))), some (.int (nI (sB (rAo y m t) k + sB (rAh y m t) k))), some (.int (nI (shB (rAo y m t) (rAh y m t) k))), some (.int (nI k)), l7, l8, l9] [.int (thI y (nI k) m)] (E x y)
        refine PW_aload_n c_H_roomsAhead_31 rfl ?_
        refine PW_get (v := .ref 16) c_H_roomsAhead_32 fl_H_20 (gf_6_2 _ _) ?_
        refine PW_iload c_H_roomsAhead_35 rfl ?_
        refine PW_aald (j := k) c_H_roomsAhead_37 (ar_16 _ _) (t0 := 5) rfl rfl (vp_in_nI hk (by decide)) (nI_clamp (by omega)) ?_
        rw [if_pos hk]
        show PW _ _ _ 38 [some (.ref 6), some (.int m), some (.int t), some (.int (mustB y &&& (t ^^^ -1))), some (.int (nI (sB (rAo y m t) k + sB (rAh y m t) k))), some (.int (nI (shB (rAo y m t) (rAh y m t) k))), some (.int (nI k)), l7, l8, l9] [.ref (17 + k), .int (thI y (nI k) m)] (E x y)
        refine PW_bipush (v := 99) c_H_roomsAhead_38 (by decide) ?_
        refine PW_iald (j := 99) c_H_roomsAhead_40 (fr_present _ _ hk) (vp_in_iff.mpr (by decide)) rfl ?_
        show PW _ _ _ 41 [some (.ref 6), some (.int m), some (.int t), some (.int (mustB y &&& (t ^^^ -1))), some (.int (nI (sB (rAo y m t) k + sB (rAh y m t) k))), some (.int (nI (shB (rAo y m t) (rAh y m t) k))), some (.int (nI k)), l7, l8, l9] [.int ((x.2.1 (17 + k)) 99), .int (thI y (nI k) m)] (E x y)
        rw [hpr]
        show PW _ _ _ 41 [some (.ref 6), some (.int m), some (.int t), some (.int (mustB y &&& (t ^^^ -1))), some (.int (nI (sB (rAo y m t) k + sB (rAh y m t) k))), some (.int (nI (shB (rAo y m t) (rAh y m t) k))), some (.int (nI k)), l7, l8, l9] [.int (thI y (nI k) 99), .int (thI y (nI k) m)] (E x y)
        refine PW_iand c_H_roomsAhead_41 ?_
        refine PW_iload_n c_H_roomsAhead_42 rfl ?_
        refine PW_iand c_H_roomsAhead_43 ?_
        refine PW_istore (i := 7) (L2 := [some (.ref 6), some (.int m), some (.int t), some (.int (mustB y &&& (t ^^^ -1))), some (.int (nI (sB (rAo y m t) k + sB (rAh y m t) k))), some (.int (nI (shB (rAo y m t) (rAh y m t) k))), some (.int (nI k)), some (.int (((thI y (nI k) m) &&& (thI y (nI k) 99)) &&& (mustB y &&& (t ^^^ -1)))), l8, l9]) c_H_roomsAhead_44 (Nat.le_of_ble_eq_true rfl) rfl rfl ?_
        refine PW_iload c_H_roomsAhead_46 rfl ?_
        refine PW_aload_n c_H_roomsAhead_48 rfl ?_
        refine PW_get (v := .int (x.1 53)) c_H_roomsAhead_49 fl_H_52 (gf_6_5 _ _) ?_
        rw [C.x53]
        show PW _ _ _ 52 [some (.ref 6), some (.int m), some (.int t), some (.int (mustB y &&& (t ^^^ -1))), some (.int (nI (sB (rAo y m t) k + sB (rAh y m t) k))), some (.int (nI (shB (rAo y m t) (rAh y m t) k))), some (.int (nI k)), some (.int (((thI y (nI k) m) &&& (thI y (nI k) 99)) &&& (mustB y &&& (t ^^^ -1)))), l8, l9] [.int (hostB y), .int (((thI y (nI k) m) &&& (thI y (nI k) 99)) &&& (mustB y &&& (t ^^^ -1)))] (E x y)
        refine PW_iconst (v := -1) c_H_roomsAhead_52 (by decide) ?_
        refine PW_ixor c_H_roomsAhead_53 ?_
        refine PW_iand c_H_roomsAhead_54 ?_
        refine PW_if_eq c_H_roomsAhead_55 (fun h1 => absurd h1 eo) (fun h1 => ?_)
        refine PW_iconst (v := 1) c_H_roomsAhead_58 (by decide) ?_
        refine PW_goto c_H_roomsAhead_59 ?_
        refine PW_istore (i := 8) (L2 := [some (.ref 6), some (.int m), some (.int t), some (.int (mustB y &&& (t ^^^ -1))), some (.int (nI (sB (rAo y m t) k + sB (rAh y m t) k))), some (.int (nI (shB (rAo y m t) (rAh y m t) k))), some (.int (nI k)), some (.int (((thI y (nI k) m) &&& (thI y (nI k) 99)) &&& (mustB y &&& (t ^^^ -1)))), some (.int 1), l9]) c_H_roomsAhead_63 (Nat.le_of_ble_eq_true rfl) rfl rfl ?_
        refine PW_iload c_H_roomsAhead_65 rfl ?_
        refine PW_aload_n c_H_roomsAhead_67 rfl ?_
        refine PW_get (v := .int (x.1 53)) c_H_roomsAhead_68 fl_H_52 (gf_6_5 _ _) ?_
        rw [C.x53]
        show PW _ _ _ 71 [some (.ref 6), some (.int m), some (.int t), some (.int (mustB y &&& (t ^^^ -1))), some (.int (nI (sB (rAo y m t) k + sB (rAh y m t) k))), some (.int (nI (shB (rAo y m t) (rAh y m t) k))), some (.int (nI k)), some (.int (((thI y (nI k) m) &&& (thI y (nI k) 99)) &&& (mustB y &&& (t ^^^ -1)))), some (.int 1), l9] [.int (hostB y), .int (((thI y (nI k) m) &&& (thI y (nI k) 99)) &&& (mustB y &&& (t ^^^ -1)))] (E x y)
        refine PW_iand c_H_roomsAhead_71 ?_
        refine PW_if_eq c_H_roomsAhead_72 (fun h2 => ?_) (fun h2 => absurd eh h2)
        refine PW_iconst (v := 0) c_H_roomsAhead_79 (by decide) ?_
        refine PW_istore (i := 9) (L2 := [some (.ref 6), some (.int m), some (.int t), some (.int (mustB y &&& (t ^^^ -1))), some (.int (nI (sB (rAo y m t) k + sB (rAh y m t) k))), some (.int (nI (shB (rAo y m t) (rAh y m t) k))), some (.int (nI k)), some (.int (((thI y (nI k) m) &&& (thI y (nI k) 99)) &&& (mustB y &&& (t ^^^ -1)))), some (.int 1), some (.int 0)]) c_H_roomsAhead_80 (Nat.le_of_ble_eq_true rfl) rfl rfl ?_
        refine PW_iload c_H_roomsAhead_82 rfl ?_
        refine PW_iload c_H_roomsAhead_84 rfl ?_
        refine PW_if_eq c_H_roomsAhead_86 (fun h3 => absurd h3 (by decide)) (fun _ => ?_)
        refine PW_iconst (v := 1) c_H_roomsAhead_89 (by decide) ?_
        refine PW_goto c_H_roomsAhead_90 ?_
        refine PW_iload c_H_roomsAhead_94 rfl ?_
        refine PW_if_eq c_H_roomsAhead_96 (fun _ => ?_) (fun h4 => absurd (by decide) h4)
        refine PW_iconst (v := 0) c_H_roomsAhead_103 (by decide) ?_
        refine PW_iadd c_H_roomsAhead_104 ?_
        refine PW_iadd c_H_roomsAhead_105 ?_
        refine PW_istore (i := 4) (L2 := [some (.ref 6), some (.int m), some (.int t), some (.int (mustB y &&& (t ^^^ -1))), some (.int ((nI (sB (rAo y m t) k + sB (rAh y m t) k)) + (1 + 0))), some (.int (nI (shB (rAo y m t) (rAh y m t) k))), some (.int (nI k)), some (.int (((thI y (nI k) m) &&& (thI y (nI k) 99)) &&& (mustB y &&& (t ^^^ -1)))), some (.int 1), some (.int 0)]) c_H_roomsAhead_106 (Nat.le_of_ble_eq_true rfl) rfl rfl ?_
        refine PW_iload c_H_roomsAhead_108 rfl ?_
        refine PW_if_eq c_H_roomsAhead_110 (fun h5 => absurd h5 (by decide)) (fun _ => ?_)
        refine PW_iload c_H_roomsAhead_113 rfl ?_
        refine PW_if_eq c_H_roomsAhead_115 (fun _ => ?_) (fun h6 => absurd (by decide) h6)
        refine PW_iload c_H_roomsAhead_122 rfl ?_
        refine PW_istore (i := 5) (L2 := [some (.ref 6), some (.int m), some (.int t), some (.int (mustB y &&& (t ^^^ -1))), some (.int ((nI (sB (rAo y m t) k + sB (rAh y m t) k)) + (1 + 0))), some (.int (nI (shB (rAo y m t) (rAh y m t) k))), some (.int (nI k)), some (.int (((thI y (nI k) m) &&& (thI y (nI k) 99)) &&& (mustB y &&& (t ^^^ -1)))), some (.int 1), some (.int 0)]) c_H_roomsAhead_124 (Nat.le_of_ble_eq_true rfl) rfl rfl ?_
        refine PW_iinc (i := 6) (v := (nI k) + 1) (L2 := [some (.ref 6), some (.int m), some (.int t), some (.int (mustB y &&& (t ^^^ -1))), some (.int ((nI (sB (rAo y m t) k + sB (rAh y m t) k)) + (1 + 0))), some (.int (nI (shB (rAo y m t) (rAh y m t) k))), some (.int ((nI k) + 1)), some (.int (((thI y (nI k) m) &&& (thI y (nI k) 99)) &&& (mustB y &&& (t ^^^ -1)))), some (.int 1), some (.int 0)]) c_H_roomsAhead_126 rfl (iinc_v (by decide)) (Nat.le_of_ble_eq_true rfl) rfl rfl ?_
        refine PW_goto c_H_roomsAhead_129 ?_
        refine PW.eqL ?_ rfl rfl (ih (k + 1) (l7 := some (.int (((thI y (nI k) m) &&& (thI y (nI k) 99)) &&& (mustB y &&& (t ^^^ -1))))) (l8 := some (.int 1)) (l9 := some (.int 0)) (by omega))
        show ([some (.ref 6), some (.int m), some (.int t), some (.int (mustB y &&& (t ^^^ -1))), some (.int ((nI (sB (rAo y m t) k + sB (rAh y m t) k)) + (1 + 0))), some (.int (nI (shB (rAo y m t) (rAh y m t) k))), some (.int ((nI k) + 1)), some (.int (((thI y (nI k) m) &&& (thI y (nI k) 99)) &&& (mustB y &&& (t ^^^ -1)))), some (.int 1), some (.int 0)] : List (Option Value)) = [some (.ref 6), some (.int m), some (.int t), some (.int (mustB y &&& (t ^^^ -1))), some (.int (nI (sB (rAo y m t) (k + 1) + sB (rAh y m t) (k + 1)))), some (.int (nI (shB (rAo y m t) (rAh y m t) (k + 1)))), some (.int (nI (k + 1))), some (.int (((thI y (nI k) m) &&& (thI y (nI k) 99)) &&& (mustB y &&& (t ^^^ -1)))), some (.int 1), some (.int 0)]
        rw [nI_1, ra_10 fo fh, rs_10 fo fh]
      · have eh : ¬ stV y m t k &&& hostB y = 0 := by unfold rAh at fh; simpa using fh
        refine PW_iload c_H_roomsAhead_18 rfl ?_
        refine PW_iconst (v := 5) c_H_roomsAhead_20 (by decide) ?_
        refine PW_icmp_ge c_H_roomsAhead_21 (fun h0 => absurd h0 (fun q => absurd ((nI_leI (by decide) (by omega)).mp (show nI 5 ≤ nI k from q)) (by omega))) (fun h0 => ?_)
        refine PW_aload_n c_H_roomsAhead_24 rfl ?_
        refine PW_iload c_H_roomsAhead_25 rfl ?_
        refine PW_iload_n c_H_roomsAhead_27 rfl ?_
        refine PW_V0 (d2 := 1) (st := []) [.int (nI k), .int m] c_H_roomsAhead_28 lk_H_roomsAhead_74 (po_6 _ _) rfl rfl rfl (Nat.le_of_ble_eq_true rfl) (by first | decide | omega) (Nat.le_of_ble_eq_true rfl) ?_
        refine sp_H_whoIsIn C (by rw [nI_toInt (by omega)]; omega) hm ?_
        show PW _ _ _ 31 [some (.ref 6), some (.int m), some (.int t), some (.int (mustB y &&& (t ^^^ -1))), some (.int (nI (sB (rAo y m t) k + sB (rAh y m t) k))), some (.int (nI (shB (rAo y m t) (rAh y m t) k))), some (.int (nI k)), l7, l8, l9] [.int (thI y (nI k) m)] (E x y)
        refine PW_aload_n c_H_roomsAhead_31 rfl ?_
        refine PW_get (v := .ref 16) c_H_roomsAhead_32 fl_H_20 (gf_6_2 _ _) ?_
        refine PW_iload c_H_roomsAhead_35 rfl ?_
        refine PW_aald (j := k) c_H_roomsAhead_37 (ar_16 _ _) (t0 := 5) rfl rfl (vp_in_nI hk (by decide)) (nI_clamp (by omega)) ?_
        rw [if_pos hk]
        show PW _ _ _ 38 [some (.ref 6), some (.int m), some (.int t), some (.int (mustB y &&& (t ^^^ -1))), some (.int (nI (sB (rAo y m t) k + sB (rAh y m t) k))), some (.int (nI (shB (rAo y m t) (rAh y m t) k))), some (.int (nI k)), l7, l8, l9] [.ref (17 + k), .int (thI y (nI k) m)] (E x y)
        refine PW_bipush (v := 99) c_H_roomsAhead_38 (by decide) ?_
        refine PW_iald (j := 99) c_H_roomsAhead_40 (fr_present _ _ hk) (vp_in_iff.mpr (by decide)) rfl ?_
        show PW _ _ _ 41 [some (.ref 6), some (.int m), some (.int t), some (.int (mustB y &&& (t ^^^ -1))), some (.int (nI (sB (rAo y m t) k + sB (rAh y m t) k))), some (.int (nI (shB (rAo y m t) (rAh y m t) k))), some (.int (nI k)), l7, l8, l9] [.int ((x.2.1 (17 + k)) 99), .int (thI y (nI k) m)] (E x y)
        rw [hpr]
        show PW _ _ _ 41 [some (.ref 6), some (.int m), some (.int t), some (.int (mustB y &&& (t ^^^ -1))), some (.int (nI (sB (rAo y m t) k + sB (rAh y m t) k))), some (.int (nI (shB (rAo y m t) (rAh y m t) k))), some (.int (nI k)), l7, l8, l9] [.int (thI y (nI k) 99), .int (thI y (nI k) m)] (E x y)
        refine PW_iand c_H_roomsAhead_41 ?_
        refine PW_iload_n c_H_roomsAhead_42 rfl ?_
        refine PW_iand c_H_roomsAhead_43 ?_
        refine PW_istore (i := 7) (L2 := [some (.ref 6), some (.int m), some (.int t), some (.int (mustB y &&& (t ^^^ -1))), some (.int (nI (sB (rAo y m t) k + sB (rAh y m t) k))), some (.int (nI (shB (rAo y m t) (rAh y m t) k))), some (.int (nI k)), some (.int (((thI y (nI k) m) &&& (thI y (nI k) 99)) &&& (mustB y &&& (t ^^^ -1)))), l8, l9]) c_H_roomsAhead_44 (Nat.le_of_ble_eq_true rfl) rfl rfl ?_
        refine PW_iload c_H_roomsAhead_46 rfl ?_
        refine PW_aload_n c_H_roomsAhead_48 rfl ?_
        refine PW_get (v := .int (x.1 53)) c_H_roomsAhead_49 fl_H_52 (gf_6_5 _ _) ?_
        rw [C.x53]
        show PW _ _ _ 52 [some (.ref 6), some (.int m), some (.int t), some (.int (mustB y &&& (t ^^^ -1))), some (.int (nI (sB (rAo y m t) k + sB (rAh y m t) k))), some (.int (nI (shB (rAo y m t) (rAh y m t) k))), some (.int (nI k)), some (.int (((thI y (nI k) m) &&& (thI y (nI k) 99)) &&& (mustB y &&& (t ^^^ -1)))), l8, l9] [.int (hostB y), .int (((thI y (nI k) m) &&& (thI y (nI k) 99)) &&& (mustB y &&& (t ^^^ -1)))] (E x y)
        refine PW_iconst (v := -1) c_H_roomsAhead_52 (by decide) ?_
        refine PW_ixor c_H_roomsAhead_53 ?_
        refine PW_iand c_H_roomsAhead_54 ?_
        refine PW_if_eq c_H_roomsAhead_55 (fun h1 => absurd h1 eo) (fun h1 => ?_)
        refine PW_iconst (v := 1) c_H_roomsAhead_58 (by decide) ?_
        refine PW_goto c_H_roomsAhead_59 ?_
        refine PW_istore (i := 8) (L2 := [some (.ref 6), some (.int m), some (.int t), some (.int (mustB y &&& (t ^^^ -1))), some (.int (nI (sB (rAo y m t) k + sB (rAh y m t) k))), some (.int (nI (shB (rAo y m t) (rAh y m t) k))), some (.int (nI k)), some (.int (((thI y (nI k) m) &&& (thI y (nI k) 99)) &&& (mustB y &&& (t ^^^ -1)))), some (.int 1), l9]) c_H_roomsAhead_63 (Nat.le_of_ble_eq_true rfl) rfl rfl ?_
        refine PW_iload c_H_roomsAhead_65 rfl ?_
        refine PW_aload_n c_H_roomsAhead_67 rfl ?_
        refine PW_get (v := .int (x.1 53)) c_H_roomsAhead_68 fl_H_52 (gf_6_5 _ _) ?_
        rw [C.x53]
        show PW _ _ _ 71 [some (.ref 6), some (.int m), some (.int t), some (.int (mustB y &&& (t ^^^ -1))), some (.int (nI (sB (rAo y m t) k + sB (rAh y m t) k))), some (.int (nI (shB (rAo y m t) (rAh y m t) k))), some (.int (nI k)), some (.int (((thI y (nI k) m) &&& (thI y (nI k) 99)) &&& (mustB y &&& (t ^^^ -1)))), some (.int 1), l9] [.int (hostB y), .int (((thI y (nI k) m) &&& (thI y (nI k) 99)) &&& (mustB y &&& (t ^^^ -1)))] (E x y)
        refine PW_iand c_H_roomsAhead_71 ?_
        refine PW_if_eq c_H_roomsAhead_72 (fun h2 => absurd h2 eh) (fun h2 => ?_)
        refine PW_iconst (v := 1) c_H_roomsAhead_75 (by decide) ?_
        refine PW_goto c_H_roomsAhead_76 ?_
        refine PW_istore (i := 9) (L2 := [some (.ref 6), some (.int m), some (.int t), some (.int (mustB y &&& (t ^^^ -1))), some (.int (nI (sB (rAo y m t) k + sB (rAh y m t) k))), some (.int (nI (shB (rAo y m t) (rAh y m t) k))), some (.int (nI k)), some (.int (((thI y (nI k) m) &&& (thI y (nI k) 99)) &&& (mustB y &&& (t ^^^ -1)))), some (.int 1), some (.int 1)]) c_H_roomsAhead_80 (Nat.le_of_ble_eq_true rfl) rfl rfl ?_
        refine PW_iload c_H_roomsAhead_82 rfl ?_
        refine PW_iload c_H_roomsAhead_84 rfl ?_
        refine PW_if_eq c_H_roomsAhead_86 (fun h3 => absurd h3 (by decide)) (fun _ => ?_)
        refine PW_iconst (v := 1) c_H_roomsAhead_89 (by decide) ?_
        refine PW_goto c_H_roomsAhead_90 ?_
        refine PW_iload c_H_roomsAhead_94 rfl ?_
        refine PW_if_eq c_H_roomsAhead_96 (fun h4 => absurd h4 (by decide)) (fun _ => ?_)
        refine PW_iconst (v := 1) c_H_roomsAhead_99 (by decide) ?_
        refine PW_goto c_H_roomsAhead_100 ?_
        refine PW_iadd c_H_roomsAhead_104 ?_
        refine PW_iadd c_H_roomsAhead_105 ?_
        refine PW_istore (i := 4) (L2 := [some (.ref 6), some (.int m), some (.int t), some (.int (mustB y &&& (t ^^^ -1))), some (.int ((nI (sB (rAo y m t) k + sB (rAh y m t) k)) + (1 + 1))), some (.int (nI (shB (rAo y m t) (rAh y m t) k))), some (.int (nI k)), some (.int (((thI y (nI k) m) &&& (thI y (nI k) 99)) &&& (mustB y &&& (t ^^^ -1)))), some (.int 1), some (.int 1)]) c_H_roomsAhead_106 (Nat.le_of_ble_eq_true rfl) rfl rfl ?_
        refine PW_iload c_H_roomsAhead_108 rfl ?_
        refine PW_if_eq c_H_roomsAhead_110 (fun h5 => absurd h5 (by decide)) (fun _ => ?_)
        refine PW_iload c_H_roomsAhead_113 rfl ?_
        refine PW_if_eq c_H_roomsAhead_115 (fun h6 => absurd h6 (by decide)) (fun _ => ?_)
        refine PW_iconst (v := 1) c_H_roomsAhead_118 (by decide) ?_
        refine PW_goto c_H_roomsAhead_119 ?_
        refine PW_istore (i := 5) (L2 := [some (.ref 6), some (.int m), some (.int t), some (.int (mustB y &&& (t ^^^ -1))), some (.int ((nI (sB (rAo y m t) k + sB (rAh y m t) k)) + (1 + 1))), some (.int 1), some (.int (nI k)), some (.int (((thI y (nI k) m) &&& (thI y (nI k) 99)) &&& (mustB y &&& (t ^^^ -1)))), some (.int 1), some (.int 1)]) c_H_roomsAhead_124 (Nat.le_of_ble_eq_true rfl) rfl rfl ?_
        refine PW_iinc (i := 6) (v := (nI k) + 1) (L2 := [some (.ref 6), some (.int m), some (.int t), some (.int (mustB y &&& (t ^^^ -1))), some (.int ((nI (sB (rAo y m t) k + sB (rAh y m t) k)) + (1 + 1))), some (.int 1), some (.int ((nI k) + 1)), some (.int (((thI y (nI k) m) &&& (thI y (nI k) 99)) &&& (mustB y &&& (t ^^^ -1)))), some (.int 1), some (.int 1)]) c_H_roomsAhead_126 rfl (iinc_v (by decide)) (Nat.le_of_ble_eq_true rfl) rfl rfl ?_
        refine PW_goto c_H_roomsAhead_129 ?_
        refine PW.eqL ?_ rfl rfl (ih (k + 1) (l7 := some (.int (((thI y (nI k) m) &&& (thI y (nI k) 99)) &&& (mustB y &&& (t ^^^ -1))))) (l8 := some (.int 1)) (l9 := some (.int 1)) (by omega))
        show ([some (.ref 6), some (.int m), some (.int t), some (.int (mustB y &&& (t ^^^ -1))), some (.int ((nI (sB (rAo y m t) k + sB (rAh y m t) k)) + (1 + 1))), some (.int 1), some (.int ((nI k) + 1)), some (.int (((thI y (nI k) m) &&& (thI y (nI k) 99)) &&& (mustB y &&& (t ^^^ -1)))), some (.int 1), some (.int 1)] : List (Option Value)) = [some (.ref 6), some (.int m), some (.int t), some (.int (mustB y &&& (t ^^^ -1))), some (.int (nI (sB (rAo y m t) (k + 1) + sB (rAh y m t) (k + 1)))), some (.int (nI (shB (rAo y m t) (rAh y m t) (k + 1)))), some (.int (nI (k + 1))), some (.int (((thI y (nI k) m) &&& (thI y (nI k) 99)) &&& (mustB y &&& (t ^^^ -1)))), some (.int 1), some (.int 1)]
        rw [nI_1, ra_11 fo fh, rs_11 fo fh]
theorem sp_H_ra {z : ZS} {post : Option Value → List PE → Prop} {x y : XS} {m t : Int32} (C : CPg x y) (hm : 0 ≤ m.toInt) (h : post (some (.int (nI (roA (rAo y m t) (rAh y m t))))) (E x y)) : PW (2, 0, 0, z) m_H_roomsAhead post 0 [some (.ref 6), some (.int m), some (.int t), none, none, none, none, none, none, none] [] (E x y) := by
  refine PW_aload_n c_H_roomsAhead_0 rfl ?_
  refine PW_get (v := .int (x.1 52)) c_H_roomsAhead_1 fl_H_45 (gf_6_4 _ _) ?_
  rw [C.x52]
  show PW _ _ _ 4 [some (.ref 6), some (.int m), some (.int t), none, none, none, none, none, none, none] [.int (mustB y)] (E x y)
  refine PW_iload_n c_H_roomsAhead_4 rfl ?_
  refine PW_iconst (v := -1) c_H_roomsAhead_5 (by decide) ?_
  refine PW_ixor c_H_roomsAhead_6 ?_
  refine PW_iand c_H_roomsAhead_7 ?_
  refine PW_istore_n (i := 3) (L2 := [some (.ref 6), some (.int m), some (.int t), some (.int ((mustB y) &&& (t ^^^ (-1)))), none, none, none, none, none, none]) c_H_roomsAhead_8 rfl (Nat.le_of_ble_eq_true rfl) rfl rfl ?_
  refine PW_iconst (v := 0) c_H_roomsAhead_9 (by decide) ?_
  refine PW_istore (i := 4) (L2 := [some (.ref 6), some (.int m), some (.int t), some (.int ((mustB y) &&& (t ^^^ (-1)))), some (.int 0), none, none, none, none, none]) c_H_roomsAhead_10 (Nat.le_of_ble_eq_true rfl) rfl rfl ?_
  refine PW_iconst (v := 0) c_H_roomsAhead_12 (by decide) ?_
  refine PW_istore (i := 5) (L2 := [some (.ref 6), some (.int m), some (.int t), some (.int ((mustB y) &&& (t ^^^ (-1)))), some (.int 0), some (.int 0), none, none, none, none]) c_H_roomsAhead_13 (Nat.le_of_ble_eq_true rfl) rfl rfl ?_
  refine PW_iconst (v := 0) c_H_roomsAhead_15 (by decide) ?_
  refine PW_istore (i := 6) (L2 := [some (.ref 6), some (.int m), some (.int t), some (.int ((mustB y) &&& (t ^^^ (-1)))), some (.int 0), some (.int 0), some (.int 0), none, none, none]) c_H_roomsAhead_16 (Nat.le_of_ble_eq_true rfl) rfl rfl ?_
  exact lp_H_ra C hm h 5 0 rfl
