/-! goodbyes by draws -/
def dwR (z : Int32) : Int32 := (z.toUInt32 >>> ((8 : Int32).toUInt32 &&& Int32.toUInt32 31)).toInt32 - (z.toUInt32 >>> ((8 : Int32).toUInt32 &&& Int32.toUInt32 31)).toInt32 / 5 * 5
def drI (T : Option Txt) (y : XS) (f : Int32 → Int32) : Nat → Int32 → Nat × Int32 × Int32 → Int32 × Nat × Int32 × Int32
  | 0, z, s => (z, s)
  | j + 1, z, s => drI T y f j (f z) (stp T y (dwR (f z)).toNatClampNeg s)
def drO (T : Option Txt) (y : XS) (f : Int32 → Int32) (s0 : Nat × Int32 × Int32) : Nat → Int32 → Int32 → Int32 → Int32 × Int32
  | 0, _, h, d => (h, d)
  | j + 1, z, h, d => drO T y f s0 j (drI T y f 4 z s0).1 (h + ((drI T y f 4 z s0).2.2.1 + wayN y (drI T y f 4 z s0).2.1 0)) (if mustB y &&& ((drI T y f 4 z s0).2.2.2 ^^^ -1) = 0 then d + 1 else d)
theorem dwR_5 (z : Int32) : 0 ≤ dwR z ∧ dwR z ≤ 4 := by
  have hb : (z.toUInt32 >>> ((8 : Int32).toUInt32 &&& Int32.toUInt32 31)).toInt32.toBitVec = z.toBitVec >>> 8 := by
    show (z.toUInt32 >>> ((8 : Int32).toUInt32 &&& Int32.toUInt32 31)).toBitVec = _
    rw [UInt32.toBitVec_shiftRight, BitVec.ushiftRight_eq', show ((((8 : Int32).toUInt32 &&& Int32.toUInt32 31)).toBitVec % 32).toNat = 8 by decide]
    rfl
  have hn : (z.toBitVec >>> 8).toNat < 16777216 := by
    rw [BitVec.toNat_ushiftRight, Nat.shiftRight_eq_div_pow]
    have := z.toBitVec.isLt
    omega
  have e : (z.toUInt32 >>> ((8 : Int32).toUInt32 &&& Int32.toUInt32 31)).toInt32 = nI (z.toBitVec >>> 8).toNat := by
    refine Int32.toBitVec_inj.mp ?_
    rw [hb, nI_bv]
    exact (BitVec.eq_of_toNat_eq (by rw [BitVec.toNat_ofNat]; exact (Nat.mod_eq_of_lt (by omega)).symm))
  unfold dwR
  rw [e]
  generalize (z.toBitVec >>> 8).toNat = q at hn
  have h4 : (nI q / 5).toInt = ((q / 5 : Nat) : Int) := by
    rw [Int32.toInt_div, nI_toInt (by omega), show (5 : Int32).toInt = ((5 : Nat) : Int) from by decide, ← Int.ofNat_tdiv]
    exact bmod_in (by omega) (by omega)
  have h5 : nI q / 5 = nI (q / 5) := nI_of_ti h4 (by omega)
  have h6 : (nI (q / 5 * 5)).toInt = ((q / 5 * 5 : Nat) : Int) := nI_toInt (by omega)
  have h7 : (nI q).toInt = q := nI_toInt (by omega)
  rw [h5, show (5 : Int32) = nI 5 from rfl, pk_mul, Int32.le_iff_toInt_le, Int32.le_iff_toInt_le, ti_sub (by omega) (by omega), h6, h7, show (0 : Int32).toInt = 0 by decide, show (4 : Int32).toInt = 4 by decide]
  omega
theorem d10000 {v : Int32} (h : 0 ≤ v.toInt) : v / 10000 = v / 100 / 100 := by
  obtain ⟨q, q1, rfl, q3, q4⟩ := nI_ex h
  have h1 : (nI q / 100).toInt = ((q / 100 : Nat) : Int) := by
    rw [Int32.toInt_div, q3, show (100 : Int32).toInt = ((100 : Nat) : Int) from by decide, ← Int.ofNat_tdiv]
    exact bmod_in (by omega) (by omega)
  refine Int32.toInt_inj.mp ?_
  rw [Int32.toInt_div, Int32.toInt_div, h1, q3, show (10000 : Int32).toInt = ((10000 : Nat) : Int) from by decide, show (100 : Int32).toInt = ((100 : Nat) : Int) from by decide, ← Int.ofNat_tdiv, ← Int.ofNat_tdiv, show q / 10000 = q / 100 / 100 by omega]
set_option maxHeartbeats 1000000 in
theorem lp_G_dr {T : Option Txt} {f : Int32 → Int32} {x y : XS} {a1 a2 a3 hh dd : Int32} {R i : Nat} (hf : ∀ z : Int32, z * 1103515245 + 12345 = f z) (C : CPg x y) (hT : lawIs T x y) : ∀ (j k : Nat) (z0 : Int32) (X : XS) (a : Nat) (m t : Int32), k + j = 4 → xS x X → lvS 31 X a m t → a < 5 → 0 ≤ m.toInt ∧ m.toInt ≤ ((100 + 66 * k : Nat) : Int) → ∃ X' : XS, xS x X' ∧ lvS 31 X' (drI T y f j z0 (a, m, t)).2.1 (drI T y f j z0 (a, m, t)).2.2.1 (drI T y f j z0 (a, m, t)).2.2.2 ∧ (drI T y f j z0 (a, m, t)).2.1 < 5 ∧ ∀ {z : ZS} {post : Option Value → List PE → Prop}, PW (5, 0, 0, z) m_G_drawn post 134 [some (.ref 5), some (.int a1), some (.int a2), some (.int a3), some (.int (nI R)), some (.int ((drI T y f j z0 (a, m, t)).1)), some (.int hh), some (.int dd), some (.int (nI i)), some (.int (nI 4))] [] (E X' y) → PW (5, 0, 0, z) m_G_drawn post 87 [some (.ref 5), some (.int a1), some (.int a2), some (.int a3), some (.int (nI R)), some (.int z0), some (.int hh), some (.int dd), some (.int (nI i)), some (.int (nI k))] [] (E X y) := by
  intro j
  induction j with
  | zero =>
    intro k z0 X a m t hk hX hs ha hm
    refine ⟨X, hX, hs, ha, fun {z post} h => ?_⟩
    refine PW_iload c_G_drawn_87 rfl ?_
    refine PW_iconst (v := 4) c_G_drawn_89 (by decide) ?_
    refine PW_icmp_ge c_G_drawn_90 (fun h0 => ?_) (fun h0 => absurd (by rw [show k = 4 by omega]; decide : (4 : Int32) ≤ nI k) h0)
    rw [show k = 4 by omega]
    exact h
  | succ j ih =>
    intro k z0 X a m t hk hX hs ha hm
    have hgk := rm_nI (dwR_5 (f z0))
    obtain ⟨X1, s1, hX1, H1⟩ := G_step (T := T) (b := (dwR (f z0)).toNatClampNeg) C hT hX hs ha hgk.2 hm (by omega)
    have hb1 := stp_b (T := T) (t := t) C ha hgk.2 hm (by omega)
    obtain ⟨X2, hX2, s2, ha2, H2⟩ := ih (k + 1) (f z0) X1 _ _ _ (by omega) hX1 s1 hgk.2 (by omega)
    refine ⟨X2, hX2, s2, ha2, fun {z post} h => ?_⟩
    refine PW_iload c_G_drawn_87 rfl ?_
    refine PW_iconst (v := 4) c_G_drawn_89 (by decide) ?_
    refine PW_icmp_ge c_G_drawn_90 (fun h0 => absurd h0 (fun q => absurd ((nI_leI (by decide) (by omega)).mp (show nI 4 ≤ nI k from q)) (by omega))) (fun h0 => ?_)
    refine PW_iload c_G_drawn_93 rfl ?_
    refine PW_ldcw c_G_drawn_95 kk_G_257 ?_
    refine PW_imul c_G_drawn_98 ?_
    refine PW_sipush (v := 12345) c_G_drawn_99 (by decide) ?_
    refine PW_iadd c_G_drawn_102 ?_
    rw [hf]
    show PW _ _ _ 103 [some (.ref 5), some (.int a1), some (.int a2), some (.int a3), some (.int (nI R)), some (.int z0), some (.int hh), some (.int dd), some (.int (nI i)), some (.int (nI k))] [.int (f z0)] (E X y)
    refine PW_istore (i := 5) (L2 := [some (.ref 5), some (.int a1), some (.int a2), some (.int a3), some (.int (nI R)), some (.int (f z0)), some (.int hh), some (.int dd), some (.int (nI i)), some (.int (nI k))]) c_G_drawn_103 (Nat.le_of_ble_eq_true rfl) rfl rfl ?_
    refine PW_aload_n c_G_drawn_105 rfl ?_
    refine PW_get (v := .ref 31) c_G_drawn_106 fl_G_35 (gf_5_3 _ _) ?_
    refine PW_iload c_G_drawn_109 rfl ?_
    refine PW_bipush (v := 8) c_G_drawn_111 (by decide) ?_
    refine PW_iushr c_G_drawn_113 ?_
    refine PW_iconst (v := 5) c_G_drawn_114 (by decide) ?_
    refine PW_irem c_G_drawn_115 (by decide) ?_
    show PW _ _ _ 116 [some (.ref 5), some (.int a1), some (.int a2), some (.int a3), some (.int (nI R)), some (.int (f z0)), some (.int hh), some (.int dd), some (.int (nI i)), some (.int (nI k))] [.int (dwR (f z0)), .ref 31] (E X y)
    rw [hgk.1]
    show PW _ _ _ 116 [some (.ref 5), some (.int a1), some (.int a2), some (.int a3), some (.int (nI R)), some (.int (f z0)), some (.int hh), some (.int dd), some (.int (nI i)), some (.int (nI k))] [.int (nI (dwR (f z0)).toNatClampNeg), .ref 31] (E X y)
    refine PW_V0 (d2 := 3) (st := []) [.int (nI (dwR (f z0)).toNatClampNeg)] c_G_drawn_116 lk_G_drawn_173 (po_31 _ _) rfl rfl rfl (Nat.le_of_ble_eq_true rfl) (by first | decide | omega) (Nat.le_of_ble_eq_true rfl) ?_
    refine sp_V_walkTo (o := 31) (Or.inl rfl) (CPg_S C hX (yS_0 y)) hs ha hgk.2 ?_
    show PW _ _ _ 119 [some (.ref 5), some (.int a1), some (.int a2), some (.int a3), some (.int (nI R)), some (.int (f z0)), some (.int hh), some (.int dd), some (.int (nI i)), some (.int (nI k))] [] (E (sI (sI X (31 * 8 + 3) (m + wayN y a (dwR (f z0)).toNatClampNeg)) (31 * 8 + 2) (nI (dwR (f z0)).toNatClampNeg)) y)
    refine PW_aload_n c_G_drawn_119 rfl ?_
    refine PW_get (v := .ref 31) c_G_drawn_120 fl_G_35 (gf_5_3 _ _) ?_
    refine PW_iconst (v := 0) c_G_drawn_123 (by decide) ?_
    refine PW_V0 (d2 := 4) (st := []) [.int 0] c_G_drawn_124 lk_G_drawn_177 (po_31 _ _) rfl rfl rfl (Nat.le_of_ble_eq_true rfl) (by first | decide | omega) (Nat.le_of_ble_eq_true rfl) ?_
    refine H1 ?_
    show PW _ _ _ 127 [some (.ref 5), some (.int a1), some (.int a2), some (.int a3), some (.int (nI R)), some (.int (f z0)), some (.int hh), some (.int dd), some (.int (nI i)), some (.int (nI k))] [.int (telF y (nI (dwR (f z0)).toNatClampNeg) (m + wayN y a (dwR (f z0)).toNatClampNeg) t)] (E X1 y)
    refine PW_pop c_G_drawn_127 rfl ?_
    refine PW_iinc (i := 9) (v := (nI k) + 1) (L2 := [some (.ref 5), some (.int a1), some (.int a2), some (.int a3), some (.int (nI R)), some (.int (f z0)), some (.int hh), some (.int dd), some (.int (nI i)), some (.int ((nI k) + 1))]) c_G_drawn_128 rfl (iinc_v (by decide)) (Nat.le_of_ble_eq_true rfl) rfl rfl ?_
    refine PW_goto c_G_drawn_131 ?_
    refine PW.eqL ?_ rfl rfl (H2 h)
    show ([some (.ref 5), some (.int a1), some (.int a2), some (.int a3), some (.int (nI R)), some (.int (f z0)), some (.int hh), some (.int dd), some (.int (nI i)), some (.int ((nI k) + 1))] : List (Option Value)) = [some (.ref 5), some (.int a1), some (.int a2), some (.int a3), some (.int (nI R)), some (.int (f z0)), some (.int hh), some (.int dd), some (.int (nI i)), some (.int (nI (k + 1)))]
    rw [nI_1]
set_option maxHeartbeats 1000000 in
theorem lp_G_drawn {T : Option Txt} {f : Int32 → Int32} {x y : XS} {a1 a2 a3 : Int32} {R a mm : Nat} (hf : ∀ z : Int32, z * 1103515245 + 12345 = f z) (C : CPg x y) (hT : lawIs T x y) (ha : a < 5) (hmm : mm < 100) (hR : R ≤ 30) (ee : a2 / 10000 = nI a) (em : a2 / 100 - a2 / 100 / 100 * 100 = nI mm) : ∀ (j i : Nat) (z0 hh dd : Int32) (X : XS), i + j = R → xS x X → ∃ (X' : XS) (zz : Int32), xS x X' ∧ ∀ {z : ZS} {post : Option Value → List PE → Prop} {l9 : Option Value}, (∀ l9' : Option Value, PW (5, 0, 0, z) m_G_drawn post 179 [some (.ref 5), some (.int a1), some (.int a2), some (.int a3), some (.int (nI R)), some (.int zz), some (.int ((drO T y f (a, nI mm, 0) j z0 hh dd).1)), some (.int ((drO T y f (a, nI mm, 0) j z0 hh dd).2)), some (.int (nI R)), l9'] [] (E X' y)) → PW (5, 0, 0, z) m_G_drawn post 58 [some (.ref 5), some (.int a1), some (.int a2), some (.int a3), some (.int (nI R)), some (.int z0), some (.int hh), some (.int dd), some (.int (nI i)), l9] [] (E X y) := by
  intro j
  induction j with
  | zero =>
    intro i z0 hh dd X hi hX
    refine ⟨X, z0, hX, fun {z post l9} h => ?_⟩
    rw [drO] at h
    refine PW_iload c_G_drawn_58 rfl ?_
    refine PW_iload c_G_drawn_60 rfl ?_
    refine PW_icmp_ge c_G_drawn_62 (fun h0 => ?_) (fun h0 => absurd ((nI_leI (by omega) (by omega)).mpr (by omega)) h0)
    rw [show i = R by omega]
    exact h _
  | succ j ih =>
    intro i z0 hh dd X hi hX
    obtain ⟨sb, fb⟩ := lvS_begin (X := X) (o := 31) (a := a) (m := nI mm) (t := 0)
    obtain ⟨XX, hXX, sX, aX, H1⟩ := lp_G_dr (T := T) (a1 := a1) (a2 := a2) (a3 := a3) (hh := hh) (dd := dd) (R := R) (i := i) hf C hT 4 0 z0 _ a (nI mm) 0 (Nat.zero_add _) (xS_t hX (xS_frV fb (Or.inl rfl))) sb ha (by rw [nI_toInt (by omega)]; omega)
    have CX := CPg_S C hXX (yS_0 y)
    obtain ⟨X2, zz, hX2, H2⟩ := ih (i + 1) (drI T y f 4 z0 (a, nI mm, 0)).1 (hh + ((drI T y f 4 z0 (a, nI mm, 0)).2.2.1 + wayN y (drI T y f 4 z0 (a, nI mm, 0)).2.1 0)) (if mustB y &&& ((drI T y f 4 z0 (a, nI mm, 0)).2.2.2 ^^^ -1) = 0 then dd + 1 else dd) XX (by omega) hXX
    refine ⟨X2, zz, hX2, fun {z post l9} h => ?_⟩
    rw [drO] at h
    refine PW_iload c_G_drawn_58 rfl ?_
    refine PW_iload c_G_drawn_60 rfl ?_
    refine PW_icmp_ge c_G_drawn_62 (fun h0 => absurd h0 (fun q => absurd ((nI_leI (by omega) (by omega)).mp q) (by omega))) (fun h0 => ?_)
    refine PW_aload_n c_G_drawn_65 rfl ?_
    refine PW_get (v := .ref 31) c_G_drawn_66 fl_G_35 (gf_5_3 _ _) ?_
    refine PW_iload_n c_G_drawn_69 rfl ?_
    refine PW_sipush (v := 10000) c_G_drawn_70 (by decide) ?_
    refine PW_idiv c_G_drawn_73 (by decide) ?_
    refine PW_iload_n c_G_drawn_74 rfl ?_
    refine PW_bipush (v := 100) c_G_drawn_75 (by decide) ?_
    refine PW_idiv c_G_drawn_77 (by decide) ?_
    refine PW_bipush (v := 100) c_G_drawn_78 (by decide) ?_
    refine PW_irem c_G_drawn_80 (by decide) ?_
    refine PW_V0 (d2 := 1) (st := []) [.int (a2 / 10000), .int ((a2 / 100) - (a2 / 100) / 100 * 100)] c_G_drawn_81 lk_G_drawn_166 (po_31 _ _) rfl rfl rfl (Nat.le_of_ble_eq_true rfl) (by first | decide | omega) (Nat.le_of_ble_eq_true rfl) ?_
    show PW _ _ _ 0 [some (.ref 31), some (.int (a2 / 10000)), some (.int ((a2 / 100) - (a2 / 100) / 100 * 100))] [] (E X y)
    refine PW_aload_n c_V_begin_0 rfl ?_
    refine PW_iload_n c_V_begin_1 rfl ?_
    refine PW_iload_n c_V_begin_2 rfl ?_
    refine PW_iconst (v := 0) c_V_begin_3 (by decide) ?_
    refine PW_V0 (d2 := 0) (st := []) [.int (a2 / 10000), .int ((a2 / 100) - (a2 / 100) / 100 * 100), .int 0] c_V_begin_4 lk_V_begin_19 (po_31 _ _) rfl rfl rfl (Nat.le_of_ble_eq_true rfl) (by first | decide | omega) (Nat.le_of_ble_eq_true rfl) ?_
    show PW _ _ _ 0 [some (.ref 31), some (.int (a2 / 10000)), some (.int ((a2 / 100) - (a2 / 100) / 100 * 100)), some (.int 0)] [] (E X y)
    refine PW_aload_n c_V_stand_0 rfl ?_
    refine PW_iload_n c_V_stand_1 rfl ?_
    refine PW_put (w2 := E (sI X 250 (a2 / 10000)) y) c_V_stand_2 fp_V_stand_23 rfl (pf_31_2 _ _ _) ?_
    refine PW_aload_n c_V_stand_5 rfl ?_
    refine PW_iload_n c_V_stand_6 rfl ?_
    refine PW_put (w2 := E (sI (sI X 250 (a2 / 10000)) 251 ((a2 / 100) - (a2 / 100) / 100 * 100)) y) c_V_stand_7 fp_V_stand_27 rfl (pf_31_3 _ _ _) ?_
    refine PW_aload_n c_V_stand_10 rfl ?_
    refine PW_iload_n c_V_stand_11 rfl ?_
    refine PW_put (w2 := E (sI (sI (sI X 250 (a2 / 10000)) 251 ((a2 / 100) - (a2 / 100) / 100 * 100)) 252 0) y) c_V_stand_12 fp_V_stand_30 rfl (pf_31_4 _ _ _) ?_
    refine PW_vreturn c_V_stand_15 rfl ?_
    show PW _ _ _ 7 [some (.ref 31), some (.int (a2 / 10000)), some (.int ((a2 / 100) - (a2 / 100) / 100 * 100))] [] (E (sI (sI (sI X 250 (a2 / 10000)) 251 ((a2 / 100) - (a2 / 100) / 100 * 100)) 252 0) y)
    refine PW_vreturn c_V_begin_7 rfl ?_
    show PW _ _ _ 84 [some (.ref 5), some (.int a1), some (.int a2), some (.int a3), some (.int (nI R)), some (.int z0), some (.int hh), some (.int dd), some (.int (nI i)), l9] [] (E (sI (sI (sI X 250 (a2 / 10000)) 251 ((a2 / 100) - (a2 / 100) / 100 * 100)) 252 0) y)
    refine PW_iconst (v := 0) c_G_drawn_84 (by decide) ?_
    refine PW_istore (i := 9) (L2 := [some (.ref 5), some (.int a1), some (.int a2), some (.int a3), some (.int (nI R)), some (.int z0), some (.int hh), some (.int dd), some (.int (nI i)), some (.int 0)]) c_G_drawn_85 (Nat.le_of_ble_eq_true rfl) rfl rfl ?_
    refine PW.eqL ?_ rfl ?_ (H1 ?_)
    · rfl
    · rw [em, ee]
    · show PW _ _ _ 134 [some (.ref 5), some (.int a1), some (.int a2), some (.int a3), some (.int (nI R)), some (.int ((drI T y f 4 z0 (a, nI mm, 0)).1)), some (.int hh), some (.int dd), some (.int (nI i)), some (.int (nI 4))] [] (E XX y)
      by_cases hm0 : mustB y &&& ((drI T y f 4 z0 (a, nI mm, 0)).2.2.2 ^^^ -1) = 0
      · skip
        refine PW_iload c_G_drawn_134 rfl ?_
        refine PW_aload_n c_G_drawn_136 rfl ?_
        refine PW_get (v := .ref 31) c_G_drawn_137 fl_G_35 (gf_5_3 _ _) ?_
        refine PW_V0 (d2 := 3) (st := [.int hh]) [] c_G_drawn_140 lk_G_drawn_183 (po_31 _ _) rfl rfl rfl (Nat.le_of_ble_eq_true rfl) (by first | decide | omega) (Nat.le_of_ble_eq_true rfl) ?_
        refine sp_V_home (o := 31) (Or.inl rfl) CX sX aX ?_
        show PW _ _ _ 143 [some (.ref 5), some (.int a1), some (.int a2), some (.int a3), some (.int (nI R)), some (.int ((drI T y f 4 z0 (a, nI mm, 0)).1)), some (.int hh), some (.int dd), some (.int (nI i)), some (.int (nI 4))] [.int ((drI T y f 4 z0 (a, nI mm, 0)).2.2.1 + wayN y (drI T y f 4 z0 (a, nI mm, 0)).2.1 0), .int hh] (E XX y)
        refine PW_iadd c_G_drawn_143 ?_
        refine PW_istore (i := 6) (L2 := [some (.ref 5), some (.int a1), some (.int a2), some (.int a3), some (.int (nI R)), some (.int ((drI T y f 4 z0 (a, nI mm, 0)).1)), some (.int (hh + ((drI T y f 4 z0 (a, nI mm, 0)).2.2.1 + wayN y (drI T y f 4 z0 (a, nI mm, 0)).2.1 0))), some (.int dd), some (.int (nI i)), some (.int (nI 4))]) c_G_drawn_144 (Nat.le_of_ble_eq_true rfl) rfl rfl ?_
        refine PW_iload c_G_drawn_146 rfl ?_
        refine PW_aload_n c_G_drawn_148 rfl ?_
        refine PW_get (v := .ref 6) c_G_drawn_149 fl_G_13 (gf_5_0 _ _) ?_
        refine PW_aload_n c_G_drawn_152 rfl ?_
        refine PW_get (v := .ref 31) c_G_drawn_153 fl_G_35 (gf_5_3 _ _) ?_
        refine PW_V0 (d2 := 0) (st := [.ref 6, .int dd]) [] c_G_drawn_156 lk_G_drawn_186 (po_31 _ _) rfl rfl rfl (Nat.le_of_ble_eq_true rfl) (by first | decide | omega) (Nat.le_of_ble_eq_true rfl) ?_
        show PW _ _ _ 0 [some (.ref 31)] [] (E XX y)
        refine PW_aload_n c_V_told_0 rfl ?_
        refine PW_get (v := .int (XX.1 252)) c_V_told_1 fl_V_30 (gf_31_4 _ _) ?_
        refine PW_ireturn (ty := .int) c_V_told_4 rfl rfl ?_
        show PW _ _ _ 159 [some (.ref 5), some (.int a1), some (.int a2), some (.int a3), some (.int (nI R)), some (.int ((drI T y f 4 z0 (a, nI mm, 0)).1)), some (.int (hh + ((drI T y f 4 z0 (a, nI mm, 0)).2.2.1 + wayN y (drI T y f 4 z0 (a, nI mm, 0)).2.1 0))), some (.int dd), some (.int (nI i)), some (.int (nI 4))] [.int (XX.1 252), .ref 6, .int dd] (E XX y)
        refine PW_V0 (d2 := 0) (st := [.int dd]) [.int (XX.1 252)] c_G_drawn_159 lk_G_drawn_189 (po_6 _ _) rfl rfl rfl (Nat.le_of_ble_eq_true rfl) (by first | decide | omega) (Nat.le_of_ble_eq_true rfl) ?_
        show PW _ _ _ 0 [some (.ref 6), some (.int (XX.1 252))] [] (E XX y)
        refine PW_aload_n c_H_missed_0 rfl ?_
        refine PW_get (v := .int (XX.1 52)) c_H_missed_1 fl_H_45 (gf_6_4 _ _) ?_
        refine PW_iload_n c_H_missed_4 rfl ?_
        refine PW_iconst (v := -1) c_H_missed_5 (by decide) ?_
        refine PW_ixor c_H_missed_6 ?_
        refine PW_iand c_H_missed_7 ?_
        refine PW_ireturn (ty := .int) c_H_missed_8 rfl rfl ?_
        show PW _ _ _ 162 [some (.ref 5), some (.int a1), some (.int a2), some (.int a3), some (.int (nI R)), some (.int ((drI T y f 4 z0 (a, nI mm, 0)).1)), some (.int (hh + ((drI T y f 4 z0 (a, nI mm, 0)).2.2.1 + wayN y (drI T y f 4 z0 (a, nI mm, 0)).2.1 0))), some (.int dd), some (.int (nI i)), some (.int (nI 4))] [.int ((XX.1 52) &&& ((XX.1 252) ^^^ (-1))), .int dd] (E XX y)
        refine PW_if_ne c_G_drawn_162 (fun h0 => absurd h0 (not_not_intro (by rw [show XX.1 52 &&& (XX.1 252 ^^^ -1) = mustB y &&& ((drI T y f 4 z0 (a, nI mm, 0)).2.2.2 ^^^ -1) by rw [CX.x52, show XX.1 252 = (drI T y f 4 z0 (a, nI mm, 0)).2.2.2 from sX.2.2]]; exact hm0))) (fun h0 => ?_)
        refine PW_iconst (v := 1) c_G_drawn_165 (by decide) ?_
        refine PW_goto c_G_drawn_166 ?_
        refine PW_iadd c_G_drawn_170 ?_
        refine PW_istore (i := 7) (L2 := [some (.ref 5), some (.int a1), some (.int a2), some (.int a3), some (.int (nI R)), some (.int ((drI T y f 4 z0 (a, nI mm, 0)).1)), some (.int (hh + ((drI T y f 4 z0 (a, nI mm, 0)).2.2.1 + wayN y (drI T y f 4 z0 (a, nI mm, 0)).2.1 0))), some (.int (dd + 1)), some (.int (nI i)), some (.int (nI 4))]) c_G_drawn_171 (Nat.le_of_ble_eq_true rfl) rfl rfl ?_
        refine PW_iinc (i := 8) (v := (nI i) + 1) (L2 := [some (.ref 5), some (.int a1), some (.int a2), some (.int a3), some (.int (nI R)), some (.int ((drI T y f 4 z0 (a, nI mm, 0)).1)), some (.int (hh + ((drI T y f 4 z0 (a, nI mm, 0)).2.2.1 + wayN y (drI T y f 4 z0 (a, nI mm, 0)).2.1 0))), some (.int (dd + 1)), some (.int ((nI i) + 1)), some (.int (nI 4))]) c_G_drawn_173 rfl (iinc_v (by decide)) (Nat.le_of_ble_eq_true rfl) rfl rfl ?_
        refine PW_goto c_G_drawn_176 ?_
        refine PW.eqL ?_ rfl rfl (H2 (l9 := some (.int (nI 4))) h)
        show ([some (.ref 5), some (.int a1), some (.int a2), some (.int a3), some (.int (nI R)), some (.int ((drI T y f 4 z0 (a, nI mm, 0)).1)), some (.int (hh + ((drI T y f 4 z0 (a, nI mm, 0)).2.2.1 + wayN y (drI T y f 4 z0 (a, nI mm, 0)).2.1 0))), some (.int (dd + 1)), some (.int ((nI i) + 1)), some (.int (nI 4))] : List (Option Value)) = _
        rw [nI_1, if_pos hm0]
      · skip
        refine PW_iload c_G_drawn_134 rfl ?_
        refine PW_aload_n c_G_drawn_136 rfl ?_
        refine PW_get (v := .ref 31) c_G_drawn_137 fl_G_35 (gf_5_3 _ _) ?_
        refine PW_V0 (d2 := 3) (st := [.int hh]) [] c_G_drawn_140 lk_G_drawn_183 (po_31 _ _) rfl rfl rfl (Nat.le_of_ble_eq_true rfl) (by first | decide | omega) (Nat.le_of_ble_eq_true rfl) ?_
        refine sp_V_home (o := 31) (Or.inl rfl) CX sX aX ?_
        show PW _ _ _ 143 [some (.ref 5), some (.int a1), some (.int a2), some (.int a3), some (.int (nI R)), some (.int ((drI T y f 4 z0 (a, nI mm, 0)).1)), some (.int hh), some (.int dd), some (.int (nI i)), some (.int (nI 4))] [.int ((drI T y f 4 z0 (a, nI mm, 0)).2.2.1 + wayN y (drI T y f 4 z0 (a, nI mm, 0)).2.1 0), .int hh] (E XX y)
        refine PW_iadd c_G_drawn_143 ?_
        refine PW_istore (i := 6) (L2 := [some (.ref 5), some (.int a1), some (.int a2), some (.int a3), some (.int (nI R)), some (.int ((drI T y f 4 z0 (a, nI mm, 0)).1)), some (.int (hh + ((drI T y f 4 z0 (a, nI mm, 0)).2.2.1 + wayN y (drI T y f 4 z0 (a, nI mm, 0)).2.1 0))), some (.int dd), some (.int (nI i)), some (.int (nI 4))]) c_G_drawn_144 (Nat.le_of_ble_eq_true rfl) rfl rfl ?_
        refine PW_iload c_G_drawn_146 rfl ?_
        refine PW_aload_n c_G_drawn_148 rfl ?_
        refine PW_get (v := .ref 6) c_G_drawn_149 fl_G_13 (gf_5_0 _ _) ?_
        refine PW_aload_n c_G_drawn_152 rfl ?_
        refine PW_get (v := .ref 31) c_G_drawn_153 fl_G_35 (gf_5_3 _ _) ?_
        refine PW_V0 (d2 := 0) (st := [.ref 6, .int dd]) [] c_G_drawn_156 lk_G_drawn_186 (po_31 _ _) rfl rfl rfl (Nat.le_of_ble_eq_true rfl) (by first | decide | omega) (Nat.le_of_ble_eq_true rfl) ?_
        show PW _ _ _ 0 [some (.ref 31)] [] (E XX y)
        refine PW_aload_n c_V_told_0 rfl ?_
        refine PW_get (v := .int (XX.1 252)) c_V_told_1 fl_V_30 (gf_31_4 _ _) ?_
        refine PW_ireturn (ty := .int) c_V_told_4 rfl rfl ?_
        show PW _ _ _ 159 [some (.ref 5), some (.int a1), some (.int a2), some (.int a3), some (.int (nI R)), some (.int ((drI T y f 4 z0 (a, nI mm, 0)).1)), some (.int (hh + ((drI T y f 4 z0 (a, nI mm, 0)).2.2.1 + wayN y (drI T y f 4 z0 (a, nI mm, 0)).2.1 0))), some (.int dd), some (.int (nI i)), some (.int (nI 4))] [.int (XX.1 252), .ref 6, .int dd] (E XX y)
        refine PW_V0 (d2 := 0) (st := [.int dd]) [.int (XX.1 252)] c_G_drawn_159 lk_G_drawn_189 (po_6 _ _) rfl rfl rfl (Nat.le_of_ble_eq_true rfl) (by first | decide | omega) (Nat.le_of_ble_eq_true rfl) ?_
        show PW _ _ _ 0 [some (.ref 6), some (.int (XX.1 252))] [] (E XX y)
        refine PW_aload_n c_H_missed_0 rfl ?_
        refine PW_get (v := .int (XX.1 52)) c_H_missed_1 fl_H_45 (gf_6_4 _ _) ?_
        refine PW_iload_n c_H_missed_4 rfl ?_
        refine PW_iconst (v := -1) c_H_missed_5 (by decide) ?_
        refine PW_ixor c_H_missed_6 ?_
        refine PW_iand c_H_missed_7 ?_
        refine PW_ireturn (ty := .int) c_H_missed_8 rfl rfl ?_
        show PW _ _ _ 162 [some (.ref 5), some (.int a1), some (.int a2), some (.int a3), some (.int (nI R)), some (.int ((drI T y f 4 z0 (a, nI mm, 0)).1)), some (.int (hh + ((drI T y f 4 z0 (a, nI mm, 0)).2.2.1 + wayN y (drI T y f 4 z0 (a, nI mm, 0)).2.1 0))), some (.int dd), some (.int (nI i)), some (.int (nI 4))] [.int ((XX.1 52) &&& ((XX.1 252) ^^^ (-1))), .int dd] (E XX y)
        refine PW_if_ne c_G_drawn_162 (fun h0 => ?_) (fun h0 => absurd h0 (by rw [show XX.1 52 &&& (XX.1 252 ^^^ -1) = mustB y &&& ((drI T y f 4 z0 (a, nI mm, 0)).2.2.2 ^^^ -1) by rw [CX.x52, show XX.1 252 = (drI T y f 4 z0 (a, nI mm, 0)).2.2.2 from sX.2.2]]; exact hm0))
        refine PW_iconst (v := 0) c_G_drawn_169 (by decide) ?_
        refine PW_iadd c_G_drawn_170 ?_
        refine PW_istore (i := 7) (L2 := [some (.ref 5), some (.int a1), some (.int a2), some (.int a3), some (.int (nI R)), some (.int ((drI T y f 4 z0 (a, nI mm, 0)).1)), some (.int (hh + ((drI T y f 4 z0 (a, nI mm, 0)).2.2.1 + wayN y (drI T y f 4 z0 (a, nI mm, 0)).2.1 0))), some (.int (dd + 0)), some (.int (nI i)), some (.int (nI 4))]) c_G_drawn_171 (Nat.le_of_ble_eq_true rfl) rfl rfl ?_
        refine PW_iinc (i := 8) (v := (nI i) + 1) (L2 := [some (.ref 5), some (.int a1), some (.int a2), some (.int a3), some (.int (nI R)), some (.int ((drI T y f 4 z0 (a, nI mm, 0)).1)), some (.int (hh + ((drI T y f 4 z0 (a, nI mm, 0)).2.2.1 + wayN y (drI T y f 4 z0 (a, nI mm, 0)).2.1 0))), some (.int (dd + 0)), some (.int ((nI i) + 1)), some (.int (nI 4))]) c_G_drawn_173 rfl (iinc_v (by decide)) (Nat.le_of_ble_eq_true rfl) rfl rfl ?_
        refine PW_goto c_G_drawn_176 ?_
        refine PW.eqL ?_ rfl rfl (H2 (l9 := some (.int (nI 4))) h)
        show ([some (.ref 5), some (.int a1), some (.int a2), some (.int a3), some (.int (nI R)), some (.int ((drI T y f 4 z0 (a, nI mm, 0)).1)), some (.int (hh + ((drI T y f 4 z0 (a, nI mm, 0)).2.2.1 + wayN y (drI T y f 4 z0 (a, nI mm, 0)).2.1 0))), some (.int (dd + 0)), some (.int ((nI i) + 1)), some (.int (nI 4))] : List (Option Value)) = _
        rw [nI_1, if_neg hm0, Int32.add_zero]
set_option maxHeartbeats 1000000 in
theorem lp_M_dr {T : Option Txt} {f : Int32 → Int32} {x x0 y : XS} {a1 a2 a3 hh dd : Int32} {i : Nat} (hf : ∀ z : Int32, z * 1103515245 + 12345 = f z) (C : CPg x0 y) (hT : lawIs T x0 y) : ∀ (j k : Nat) (z0 : Int32) (Y : XS) (a : Nat) (m t : Int32), k + j = 4 → yS y Y → roS Y a m t → a < 5 → ∃ Y' : XS, yS y Y' ∧ roS Y' (drI T y f j z0 (a, m, t)).2.1 (drI T y f j z0 (a, m, t)).2.2.1 (drI T y f j z0 (a, m, t)).2.2.2 ∧ ∀ {z : ZS} {post : Option Value → List PE → Prop}, PW (5, 0, 0, z) m_M_drawn post 113 [some (.ref 70), some (.int a1), some (.int a2), some (.int a3), some (.int ((drI T y f j z0 (a, m, t)).1)), some (.int hh), some (.int dd), some (.int (nI i)), some (.int (nI 4))] [] (E x Y') → PW (5, 0, 0, z) m_M_drawn post 78 [some (.ref 70), some (.int a1), some (.int a2), some (.int a3), some (.int z0), some (.int hh), some (.int dd), some (.int (nI i)), some (.int (nI k))] [] (E x Y) := by
  intro j
  induction j with
  | zero =>
    intro k z0 Y a m t hk hY hs ha
    refine ⟨Y, hY, hs, fun {z post} h => ?_⟩
    refine PW_iload c_M_drawn_78 rfl ?_
    refine PW_iconst (v := 4) c_M_drawn_80 (by decide) ?_
    refine PW_icmp_ge c_M_drawn_81 (fun h0 => ?_) (fun h0 => absurd (by rw [show k = 4 by omega]; decide : (4 : Int32) ≤ nI k) h0)
    rw [show k = 4 by omega]
    exact h
  | succ j ih =>
    intro k z0 Y a m t hk hY hs ha
    have hgk := rm_nI (dwR_5 (f z0))
    have hW : WG Y := (CPg_S C (xS_0 x0) hY).1
    obtain ⟨Y1, s1, f1, H1⟩ := sp_M_goTo (T := T) (x := x) (x0 := x0) hW (law_S hT (xS_0 x0) hY) hs ha hgk.2
    have s1 : roS Y1 (dwR (f z0)).toNatClampNeg (stp T Y (dwR (f z0)).toNatClampNeg (a, m, t)).2.1 (stp T Y (dwR (f z0)).toNatClampNeg (a, m, t)).2.2 := s1
    rw [stp_gE (gE_S hY)] at s1
    have hY1 := yS_t hY (yS_frG f1)
    obtain ⟨Y2, hY2, s2, H2⟩ := ih (k + 1) (f z0) Y1 _ _ _ (by omega) hY1 s1 hgk.2
    refine ⟨Y2, hY2, s2, fun {z post} h => ?_⟩
    refine PW_iload c_M_drawn_78 rfl ?_
    refine PW_iconst (v := 4) c_M_drawn_80 (by decide) ?_
    refine PW_icmp_ge c_M_drawn_81 (fun h0 => absurd h0 (fun q => absurd ((nI_leI (by decide) (by omega)).mp (show nI 4 ≤ nI k from q)) (by omega))) (fun h0 => ?_)
    refine PW_iload c_M_drawn_84 rfl ?_
    refine PW_ldcw c_M_drawn_86 kk_M_351 ?_
    refine PW_imul c_M_drawn_89 ?_
    refine PW_sipush (v := 12345) c_M_drawn_90 (by decide) ?_
    refine PW_iadd c_M_drawn_93 ?_
    rw [hf]
    show PW _ _ _ 94 [some (.ref 70), some (.int a1), some (.int a2), some (.int a3), some (.int z0), some (.int hh), some (.int dd), some (.int (nI i)), some (.int (nI k))] [.int (f z0)] (E x Y)
    refine PW_istore (i := 4) (L2 := [some (.ref 70), some (.int a1), some (.int a2), some (.int a3), some (.int (f z0)), some (.int hh), some (.int dd), some (.int (nI i)), some (.int (nI k))]) c_M_drawn_94 (Nat.le_of_ble_eq_true rfl) rfl rfl ?_
    refine PW_aload_n c_M_drawn_96 rfl ?_
    refine PW_iload c_M_drawn_97 rfl ?_
    refine PW_bipush (v := 8) c_M_drawn_99 (by decide) ?_
    refine PW_iushr c_M_drawn_101 ?_
    refine PW_iconst (v := 5) c_M_drawn_102 (by decide) ?_
    refine PW_irem c_M_drawn_103 (by decide) ?_
    show PW _ _ _ 104 [some (.ref 70), some (.int a1), some (.int a2), some (.int a3), some (.int (f z0)), some (.int hh), some (.int dd), some (.int (nI i)), some (.int (nI k))] [.int (dwR (f z0)), .ref 70] (E x Y)
    rw [hgk.1]
    show PW _ _ _ 104 [some (.ref 70), some (.int a1), some (.int a2), some (.int a3), some (.int (f z0)), some (.int hh), some (.int dd), some (.int (nI i)), some (.int (nI k))] [.int (nI (dwR (f z0)).toNatClampNeg), .ref 70] (E x Y)
    refine PW_V0 (d2 := 4) (st := []) [.int (nI (dwR (f z0)).toNatClampNeg)] c_M_drawn_104 lk_M_drawn_295 (po_70 _ _) rfl rfl rfl (Nat.le_of_ble_eq_true rfl) (by first | decide | omega) (Nat.le_of_ble_eq_true rfl) ?_
    refine H1 ?_
    show PW _ _ _ 107 [some (.ref 70), some (.int a1), some (.int a2), some (.int a3), some (.int (f z0)), some (.int hh), some (.int dd), some (.int (nI i)), some (.int (nI k))] [] (E x Y1)
    refine PW_iinc (i := 8) (v := (nI k) + 1) (L2 := [some (.ref 70), some (.int a1), some (.int a2), some (.int a3), some (.int (f z0)), some (.int hh), some (.int dd), some (.int (nI i)), some (.int ((nI k) + 1))]) c_M_drawn_107 rfl (iinc_v (by decide)) (Nat.le_of_ble_eq_true rfl) rfl rfl ?_
    refine PW_goto c_M_drawn_110 ?_
    refine PW.eqL ?_ rfl rfl (H2 h)
    show ([some (.ref 70), some (.int a1), some (.int a2), some (.int a3), some (.int (f z0)), some (.int hh), some (.int dd), some (.int (nI i)), some (.int ((nI k) + 1))] : List (Option Value)) = [some (.ref 70), some (.int a1), some (.int a2), some (.int a3), some (.int (f z0)), some (.int hh), some (.int dd), some (.int (nI i)), some (.int (nI (k + 1)))]
    rw [nI_1]
set_option maxHeartbeats 1000000 in
theorem lp_M_drawn {T : Option Txt} {f : Int32 → Int32} {x x0 y : XS} {a1 a2 a3 : Int32} {R a mm : Nat} (hf : ∀ z : Int32, z * 1103515245 + 12345 = f z) (C : CPg x0 y) (hT : lawIs T x0 y) (ha : a < 5) (hmm : mm < 100) (hR : R ≤ 30) (ee : a2 / 10000 = nI a) (em : a2 / 100 - a2 / 100 / 100 * 100 = nI mm) (eR : a2 - a2 / 100 * 100 = nI R) (aX0 : ∀ z0, (drI T y f 4 z0 (a, nI mm, 0)).2.1 < 5) : ∀ (j i : Nat) (z0 hh dd : Int32) (Y : XS), i + j = R → yS y Y → ∃ (Y' : XS) (zz : Int32), yS y Y' ∧ ∀ {z : ZS} {post : Option Value → List PE → Prop} {l8 : Option Value}, (∀ l8' : Option Value, PW (5, 0, 0, z) m_M_drawn post 138 [some (.ref 70), some (.int a1), some (.int a2), some (.int a3), some (.int zz), some (.int ((drO T y f (a, nI mm, 0) j z0 hh dd).1)), some (.int ((drO T y f (a, nI mm, 0) j z0 hh dd).2)), some (.int (nI R)), l8'] [] (E x Y')) → PW (5, 0, 0, z) m_M_drawn post 50 [some (.ref 70), some (.int a1), some (.int a2), some (.int a3), some (.int z0), some (.int hh), some (.int dd), some (.int (nI i)), l8] [] (E x Y) := by
  intro j
  induction j with
  | zero =>
    intro i z0 hh dd Y hi hY
    refine ⟨Y, z0, hY, fun {z post l8} h => ?_⟩
    rw [drO] at h
    refine PW_iload c_M_drawn_50 rfl ?_
    refine PW_iload_n c_M_drawn_52 rfl ?_
    refine PW_bipush (v := 100) c_M_drawn_53 (by decide) ?_
    refine PW_irem c_M_drawn_55 (by decide) ?_
    refine PW_icmp_ge c_M_drawn_56 (fun h0 => ?_) (fun h0 => absurd (by rw [eR]; exact (nI_leI (by omega) (by omega)).mpr (by omega)) h0)
    rw [show i = R by omega]
    exact h _
  | succ j ih =>
    intro i z0 hh dd Y hi hY
    have aX := aX0 z0
    obtain ⟨YY, hYY, sY, H1⟩ := lp_M_dr (T := T) (x := x) (x0 := x0) (a1 := a1) (a2 := a2) (a3 := a3) (hh := hh) (dd := dd) (i := i) hf C hT 4 0 z0 (sI (sI (sI Y 590 (nI a)) 591 (nI mm)) 592 0) a (nI mm) 0 (Nat.zero_add _) (yS_t hY (yS_frG (Y' := sI (sI (sI Y 590 (nI a)) 591 (nI mm)) 592 0) ⟨fun n h2 h3 h4 => by rw [sI_n h4, sI_n h3, sI_n h2], fun _ _ _ => rfl, rfl⟩)) ⟨rfl, rfl, rfl⟩ ha
    have hWY : WG YY := (CPg_S C (xS_0 x0) hYY).1
    obtain ⟨g1, g2, g3, g4, g5, g6, g7⟩ := gE_fun (gE_S hYY)
    obtain ⟨Y2, zz, hY2, H2⟩ := ih (i + 1) (drI T y f 4 z0 (a, nI mm, 0)).1 (hh + ((drI T y f 4 z0 (a, nI mm, 0)).2.2.1 + wayN y (drI T y f 4 z0 (a, nI mm, 0)).2.1 0)) (if mustB y &&& ((drI T y f 4 z0 (a, nI mm, 0)).2.2.2 ^^^ -1) = 0 then dd + 1 else dd) YY (by omega) hYY
    refine ⟨Y2, zz, hY2, fun {z post l8} h => ?_⟩
    rw [drO] at h
    refine PW_iload c_M_drawn_50 rfl ?_
    refine PW_iload_n c_M_drawn_52 rfl ?_
    refine PW_bipush (v := 100) c_M_drawn_53 (by decide) ?_
    refine PW_irem c_M_drawn_55 (by decide) ?_
    refine PW_icmp_ge c_M_drawn_56 (fun h0 => absurd h0 (by rw [eR]; exact fun q => absurd ((nI_leI (by omega) (by omega)).mp q) (by omega))) (fun h0 => ?_)
    refine PW_aload_n c_M_drawn_59 rfl ?_
    refine PW_iload_n c_M_drawn_60 rfl ?_
    refine PW_sipush (v := 10000) c_M_drawn_61 (by decide) ?_
    refine PW_idiv c_M_drawn_64 (by decide) ?_
    refine PW_iload_n c_M_drawn_65 rfl ?_
    refine PW_bipush (v := 100) c_M_drawn_66 (by decide) ?_
    refine PW_idiv c_M_drawn_68 (by decide) ?_
    refine PW_bipush (v := 100) c_M_drawn_69 (by decide) ?_
    refine PW_irem c_M_drawn_71 (by decide) ?_
    refine PW_V0 (d2 := 0) (st := []) [.int (a2 / 10000), .int ((a2 / 100) - (a2 / 100) / 100 * 100)] c_M_drawn_72 lk_M_drawn_289 (po_70 _ _) rfl rfl rfl (Nat.le_of_ble_eq_true rfl) (by first | decide | omega) (Nat.le_of_ble_eq_true rfl) ?_
    show PW _ _ _ 0 [some (.ref 70), some (.int (a2 / 10000)), some (.int ((a2 / 100) - (a2 / 100) / 100 * 100))] [] (E x Y)
    refine PW_aload_n c_M_begin_0 rfl ?_
    refine PW_iload_n c_M_begin_1 rfl ?_
    refine PW_put (w2 := E x (sI Y 590 (a2 / 10000))) c_M_begin_2 fp_M_begin_265 rfl (pf_70_30 _ _ _) ?_
    refine PW_aload_n c_M_begin_5 rfl ?_
    refine PW_iload_n c_M_begin_6 rfl ?_
    refine PW_put (w2 := E x (sI (sI Y 590 (a2 / 10000)) 591 ((a2 / 100) - (a2 / 100) / 100 * 100))) c_M_begin_7 fp_M_begin_268 rfl (pf_70_31 _ _ _) ?_
    refine PW_aload_n c_M_begin_10 rfl ?_
    refine PW_iconst (v := 0) c_M_begin_11 (by decide) ?_
    refine PW_put (w2 := E x (sI (sI (sI Y 590 (a2 / 10000)) 591 ((a2 / 100) - (a2 / 100) / 100 * 100)) 592 0)) c_M_begin_12 fp_M_begin_271 rfl (pf_70_32 _ _ _) ?_
    refine PW_vreturn c_M_begin_15 rfl ?_
    show PW _ _ _ 75 [some (.ref 70), some (.int a1), some (.int a2), some (.int a3), some (.int z0), some (.int hh), some (.int dd), some (.int (nI i)), l8] [] (E x (sI (sI (sI Y 590 (a2 / 10000)) 591 ((a2 / 100) - (a2 / 100) / 100 * 100)) 592 0))
    refine PW_iconst (v := 0) c_M_drawn_75 (by decide) ?_
    refine PW_istore (i := 8) (L2 := [some (.ref 70), some (.int a1), some (.int a2), some (.int a3), some (.int z0), some (.int hh), some (.int dd), some (.int (nI i)), some (.int 0)]) c_M_drawn_76 (Nat.le_of_ble_eq_true rfl) rfl rfl ?_
    refine PW.eqL ?_ rfl ?_ (H1 ?_)
    · rfl
    · rw [em, ee]
    · show PW _ _ _ 113 [some (.ref 70), some (.int a1), some (.int a2), some (.int a3), some (.int ((drI T y f 4 z0 (a, nI mm, 0)).1)), some (.int hh), some (.int dd), some (.int (nI i)), some (.int (nI 4))] [] (E x YY)
      by_cases hm0 : mustB y &&& ((drI T y f 4 z0 (a, nI mm, 0)).2.2.2 ^^^ -1) = 0
      · skip
        refine PW_iload c_M_drawn_113 rfl ?_
        refine PW_aload_n c_M_drawn_115 rfl ?_
        refine PW_V0 (d2 := 1) (st := [.int hh]) [] c_M_drawn_116 lk_M_drawn_299 (po_70 _ _) rfl rfl rfl (Nat.le_of_ble_eq_true rfl) (by first | decide | omega) (Nat.le_of_ble_eq_true rfl) ?_
        refine sp_M_home sY aX ?_
        show PW _ _ _ 119 [some (.ref 70), some (.int a1), some (.int a2), some (.int a3), some (.int ((drI T y f 4 z0 (a, nI mm, 0)).1)), some (.int hh), some (.int dd), some (.int (nI i)), some (.int (nI 4))] [.int ((drI T y f 4 z0 (a, nI mm, 0)).2.2.1 + wayN YY (drI T y f 4 z0 (a, nI mm, 0)).2.1 0), .int hh] (E x YY)
        refine PW_iadd c_M_drawn_119 ?_
        refine PW_istore (i := 5) (L2 := [some (.ref 70), some (.int a1), some (.int a2), some (.int a3), some (.int ((drI T y f 4 z0 (a, nI mm, 0)).1)), some (.int (hh + ((drI T y f 4 z0 (a, nI mm, 0)).2.2.1 + wayN YY (drI T y f 4 z0 (a, nI mm, 0)).2.1 0))), some (.int dd), some (.int (nI i)), some (.int (nI 4))]) c_M_drawn_120 (Nat.le_of_ble_eq_true rfl) rfl rfl ?_
        refine PW_aload_n c_M_drawn_122 rfl ?_
        refine PW_V0 (d2 := 1) (st := []) [] c_M_drawn_123 lk_M_drawn_305 (po_70 _ _) rfl rfl rfl (Nat.le_of_ble_eq_true rfl) (by first | decide | omega) (Nat.le_of_ble_eq_true rfl) ?_
        show PW _ _ _ 0 [some (.ref 70)] [] (E x YY)
        refine PW_aload_n c_M_isDone_0 rfl ?_
        refine PW_V0 (d2 := 0) (st := []) [] c_M_isDone_1 lk_M_isDone_253 (po_70 _ _) rfl rfl rfl (Nat.le_of_ble_eq_true rfl) (by first | decide | omega) (Nat.le_of_ble_eq_true rfl) ?_
        refine sp_M_allMust hWY ?_
        show PW _ _ _ 4 [some (.ref 70)] [.int (mustB YY)] (E x YY)
        refine PW_aload_n c_M_isDone_4 rfl ?_
        refine PW_get (v := .int (YY.1 592)) c_M_isDone_5 fl_M_271 (gf_70_32 _ _) ?_
        refine PW_iconst (v := -1) c_M_isDone_8 (by decide) ?_
        refine PW_ixor c_M_isDone_9 ?_
        refine PW_iand c_M_isDone_10 ?_
        refine PW_if_ne c_M_isDone_11 (fun h0 => absurd h0 (not_not_intro (by rw [show mustB YY &&& (YY.1 592 ^^^ -1) = mustB y &&& ((drI T y f 4 z0 (a, nI mm, 0)).2.2.2 ^^^ -1) by rw [g3, show YY.1 592 = (drI T y f 4 z0 (a, nI mm, 0)).2.2.2 from sY.2.2]]; exact hm0))) (fun h0 => ?_)
        refine PW_iconst (v := 1) c_M_isDone_14 (by decide) ?_
        refine PW_goto c_M_isDone_15 ?_
        refine PW_ireturn (ty := .boolean) c_M_isDone_19 rfl (by decide +kernel) ?_
        show PW _ _ _ 126 [some (.ref 70), some (.int a1), some (.int a2), some (.int a3), some (.int ((drI T y f 4 z0 (a, nI mm, 0)).1)), some (.int (hh + ((drI T y f 4 z0 (a, nI mm, 0)).2.2.1 + wayN YY (drI T y f 4 z0 (a, nI mm, 0)).2.1 0))), some (.int dd), some (.int (nI i)), some (.int (nI 4))] [.int 1] (E x YY)
        refine PW_if_eq c_M_drawn_126 (fun h1 => absurd h1 (by decide)) (fun _ => ?_)
        refine PW_iinc (i := 6) (v := dd + 1) (L2 := [some (.ref 70), some (.int a1), some (.int a2), some (.int a3), some (.int ((drI T y f 4 z0 (a, nI mm, 0)).1)), some (.int (hh + ((drI T y f 4 z0 (a, nI mm, 0)).2.2.1 + wayN YY (drI T y f 4 z0 (a, nI mm, 0)).2.1 0))), some (.int (dd + 1)), some (.int (nI i)), some (.int (nI 4))]) c_M_drawn_129 rfl (iinc_v (by decide)) (Nat.le_of_ble_eq_true rfl) rfl rfl ?_
        refine PW_iinc (i := 7) (v := (nI i) + 1) (L2 := [some (.ref 70), some (.int a1), some (.int a2), some (.int a3), some (.int ((drI T y f 4 z0 (a, nI mm, 0)).1)), some (.int (hh + ((drI T y f 4 z0 (a, nI mm, 0)).2.2.1 + wayN YY (drI T y f 4 z0 (a, nI mm, 0)).2.1 0))), some (.int (dd + 1)), some (.int ((nI i) + 1)), some (.int (nI 4))]) c_M_drawn_132 rfl (iinc_v (by decide)) (Nat.le_of_ble_eq_true rfl) rfl rfl ?_
        refine PW_goto c_M_drawn_135 ?_
        refine PW.eqL ?_ rfl rfl (H2 (l8 := some (.int (nI 4))) h)
        show ([some (.ref 70), some (.int a1), some (.int a2), some (.int a3), some (.int ((drI T y f 4 z0 (a, nI mm, 0)).1)), some (.int (hh + ((drI T y f 4 z0 (a, nI mm, 0)).2.2.1 + wayN YY (drI T y f 4 z0 (a, nI mm, 0)).2.1 0))), some (.int (dd + 1)), some (.int ((nI i) + 1)), some (.int (nI 4))] : List (Option Value)) = _
        rw [nI_1, if_pos hm0, g5]
      · skip
        refine PW_iload c_M_drawn_113 rfl ?_
        refine PW_aload_n c_M_drawn_115 rfl ?_
        refine PW_V0 (d2 := 1) (st := [.int hh]) [] c_M_drawn_116 lk_M_drawn_299 (po_70 _ _) rfl rfl rfl (Nat.le_of_ble_eq_true rfl) (by first | decide | omega) (Nat.le_of_ble_eq_true rfl) ?_
        refine sp_M_home sY aX ?_
        show PW _ _ _ 119 [some (.ref 70), some (.int a1), some (.int a2), some (.int a3), some (.int ((drI T y f 4 z0 (a, nI mm, 0)).1)), some (.int hh), some (.int dd), some (.int (nI i)), some (.int (nI 4))] [.int ((drI T y f 4 z0 (a, nI mm, 0)).2.2.1 + wayN YY (drI T y f 4 z0 (a, nI mm, 0)).2.1 0), .int hh] (E x YY)
        refine PW_iadd c_M_drawn_119 ?_
        refine PW_istore (i := 5) (L2 := [some (.ref 70), some (.int a1), some (.int a2), some (.int a3), some (.int ((drI T y f 4 z0 (a, nI mm, 0)).1)), some (.int (hh + ((drI T y f 4 z0 (a, nI mm, 0)).2.2.1 + wayN YY (drI T y f 4 z0 (a, nI mm, 0)).2.1 0))), some (.int dd), some (.int (nI i)), some (.int (nI 4))]) c_M_drawn_120 (Nat.le_of_ble_eq_true rfl) rfl rfl ?_
        refine PW_aload_n c_M_drawn_122 rfl ?_
        refine PW_V0 (d2 := 1) (st := []) [] c_M_drawn_123 lk_M_drawn_305 (po_70 _ _) rfl rfl rfl (Nat.le_of_ble_eq_true rfl) (by first | decide | omega) (Nat.le_of_ble_eq_true rfl) ?_
        show PW _ _ _ 0 [some (.ref 70)] [] (E x YY)
        refine PW_aload_n c_M_isDone_0 rfl ?_
        refine PW_V0 (d2 := 0) (st := []) [] c_M_isDone_1 lk_M_isDone_253 (po_70 _ _) rfl rfl rfl (Nat.le_of_ble_eq_true rfl) (by first | decide | omega) (Nat.le_of_ble_eq_true rfl) ?_
        refine sp_M_allMust hWY ?_
        show PW _ _ _ 4 [some (.ref 70)] [.int (mustB YY)] (E x YY)
        refine PW_aload_n c_M_isDone_4 rfl ?_
        refine PW_get (v := .int (YY.1 592)) c_M_isDone_5 fl_M_271 (gf_70_32 _ _) ?_
        refine PW_iconst (v := -1) c_M_isDone_8 (by decide) ?_
        refine PW_ixor c_M_isDone_9 ?_
        refine PW_iand c_M_isDone_10 ?_
        refine PW_if_ne c_M_isDone_11 (fun h0 => ?_) (fun h0 => absurd h0 (by rw [show mustB YY &&& (YY.1 592 ^^^ -1) = mustB y &&& ((drI T y f 4 z0 (a, nI mm, 0)).2.2.2 ^^^ -1) by rw [g3, show YY.1 592 = (drI T y f 4 z0 (a, nI mm, 0)).2.2.2 from sY.2.2]]; exact hm0))
        refine PW_iconst (v := 0) c_M_isDone_18 (by decide) ?_
        refine PW_ireturn (ty := .boolean) c_M_isDone_19 rfl (by decide +kernel) ?_
        show PW _ _ _ 126 [some (.ref 70), some (.int a1), some (.int a2), some (.int a3), some (.int ((drI T y f 4 z0 (a, nI mm, 0)).1)), some (.int (hh + ((drI T y f 4 z0 (a, nI mm, 0)).2.2.1 + wayN YY (drI T y f 4 z0 (a, nI mm, 0)).2.1 0))), some (.int dd), some (.int (nI i)), some (.int (nI 4))] [.int 0] (E x YY)
        refine PW_if_eq c_M_drawn_126 (fun _ => ?_) (fun h1 => absurd (by decide) h1)
        refine PW_iinc (i := 7) (v := (nI i) + 1) (L2 := [some (.ref 70), some (.int a1), some (.int a2), some (.int a3), some (.int ((drI T y f 4 z0 (a, nI mm, 0)).1)), some (.int (hh + ((drI T y f 4 z0 (a, nI mm, 0)).2.2.1 + wayN YY (drI T y f 4 z0 (a, nI mm, 0)).2.1 0))), some (.int dd), some (.int ((nI i) + 1)), some (.int (nI 4))]) c_M_drawn_132 rfl (iinc_v (by decide)) (Nat.le_of_ble_eq_true rfl) rfl rfl ?_
        refine PW_goto c_M_drawn_135 ?_
        refine PW.eqL ?_ rfl rfl (H2 (l8 := some (.int (nI 4))) h)
        show ([some (.ref 70), some (.int a1), some (.int a2), some (.int a3), some (.int ((drI T y f 4 z0 (a, nI mm, 0)).1)), some (.int (hh + ((drI T y f 4 z0 (a, nI mm, 0)).2.2.1 + wayN YY (drI T y f 4 z0 (a, nI mm, 0)).2.1 0))), some (.int dd), some (.int ((nI i) + 1)), some (.int (nI 4))] : List (Option Value)) = _
        rw [nI_1, if_neg hm0, g5]
theorem drI_5 {T : Option Txt} {y : XS} {f : Int32 → Int32} : ∀ (j : Nat) (z0 : Int32) (s : Nat × Int32 × Int32), s.1 < 5 → (drI T y f j z0 s).2.1 < 5
  | 0, _, _, h => h
  | j + 1, z0, s, h => by
    rw [drI]
    exact drI_5 j _ _ (rm_nI (dwR_5 (f z0))).2
