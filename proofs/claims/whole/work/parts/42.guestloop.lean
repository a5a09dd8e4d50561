set_option maxHeartbeats 4000000 in
theorem gs_all {x y : XS} {a1 a2 : Int32} {sj n N : Nat} (hsj : sj < 6) (hb : x.1 ((58 + 2 * sj) * 8 + 1) = 2 ∧ x.1 ((58 + 2 * sj) * 8 + 3) = 0) (hz : x.1 ((58 + 2 * sj) * 8 + 4) = nI n) (hyz : y.2.1 105 sj = nI n) (hn : n ≤ 60) (hN : N ≤ 10) (hR : ∀ i, i < n → (x.2.2 (59 + 2 * sj) i).toInt32 = plF y sj i) : ∀ (j k : Nat) (X Y : XS), k + j = N → (0 < k → 0 ≤ a2.toInt) → CPg X Y → frX x X → frY y Y → ∃ (r : Int32) (X' Y' : XS), CPg X' Y' ∧ frX x X' ∧ frY y Y' ∧ nG Y ≤ nG Y' ∧ (∀ {z : ZS} {post : Option Value → List PE → Prop} {y0 : XS} {l7 : Option Value}, post (some (.int r)) (E X' y0) → PW (6, 0, 0, z) m_G_guests post 44 [some (.ref 5), some (.int a1), some (.int a2), some (.int (nI N)), some (.ref (58 + 2 * sj)), some (.int (nI k)), some (.int (nI k)), l7] [] (E X y0)) ∧ (∀ {z : ZS} {post : Option Value → List PE → Prop} {x0 : XS} {l5 l6 l7 : Option Value}, post (some (.int r)) (E x0 Y') → PW (2, 0, 0, z) m_M_guests post 58 [some (.ref 70), some (.int (nI sj)), some (.int a2), some (.int (nI N)), some (.int (nI k)), l5, l6, l7] [] (E x0 Y)) := by
  intro j
  induction j with
  | zero =>
    intro k X Y hk hk0 hC hfx hfy
    refine ⟨nI k, X, Y, hC, hfx, hfy, Nat.le_refl _, fun {z post y0 l7} h => ?_, fun {z post x0 l5 l6 l7} h => ?_⟩
    · skip
      refine PW_iload c_G_guests_44 rfl ?_
      refine PW_iload_n c_G_guests_46 rfl ?_
      refine PW_icmp_ge c_G_guests_47 (fun h0 => ?_) (fun h0 => absurd ((nI_leI (by omega) (by omega)).mpr (by omega)) h0)
      refine PW_iload c_G_guests_96 rfl ?_
      refine PW_ireturn (ty := .int) c_G_guests_98 rfl rfl ?_
      exact h
    · skip
      refine PW_iload c_M_guests_58 rfl ?_
      refine PW_iload_n c_M_guests_60 rfl ?_
      refine PW_icmp_ge c_M_guests_61 (fun h0 => ?_) (fun h0 => absurd ((nI_leI (by omega) (by omega)).mpr (by omega)) h0)
      refine PW_iload_n c_M_guests_213 rfl ?_
      refine PW_ireturn (ty := .int) c_M_guests_214 rfl rfl ?_
      rw [show N = k by omega]
      exact h
  | succ j ih =>
    intro k X Y hk hk0 hC hfx hfy
    have hXb : X.1 ((58 + 2 * sj) * 8 + 1) = 2 ∧ X.1 ((58 + 2 * sj) * 8 + 3) = 0 := by rw [hfx.1 _ (by omega), hfx.1 _ (by omega)]; exact hb
    have hXz : X.1 ((58 + 2 * sj) * 8 + 4) = nI n := by rw [hfx.1 _ (by omega)]; exact hz
    have hYz : Y.2.1 105 sj = nI n := by rw [hfy.2.1 105 (by omega)]; exact hyz
    have hXR : ∀ i, i < n → (X.2.2 (59 + 2 * sj) i).toInt32 = plF Y sj i := fun i hi => by unfold plF; rw [hfx.2.2, hfy.2.2]; exact hR i hi
    have hG10 := hC.1.2
    by_cases hc1 : a2.toInt < 0
    · have hk00 : k = 0 := by rcases Nat.eq_zero_or_pos k with q | q; exact q; exact absurd (hk0 q) (by omega)
      refine ⟨nI k, X, Y, hC, hfx, hfy, Nat.le_refl _, fun {z post y0 l7} h => ?_, fun {z post x0 l5 l6 l7} h => ?_⟩
      · skip
        refine PW_iload c_G_guests_44 rfl ?_
        refine PW_iload_n c_G_guests_46 rfl ?_
        refine PW_icmp_ge c_G_guests_47 (fun h0 => absurd h0 (fun q => absurd ((nI_leI (by omega) (by omega)).mp q) (by omega))) (fun h0 => ?_)
        refine PW_iload_n c_G_guests_50 rfl ?_
        refine PW_if_lt c_G_guests_51 (fun h1 => ?_) (fun h1 => absurd (by rw [Int32.lt_iff_toInt_lt, tiA.1]; omega) h1)
        refine PW_bipush (v := 60) c_G_guests_60 (by decide) ?_
        refine PW_goto c_G_guests_62 ?_
        refine PW_istore (i := 7) (L2 := [some (.ref 5), some (.int a1), some (.int a2), some (.int (nI N)), some (.ref (58 + 2 * sj)), some (.int (nI k)), some (.int (nI k)), some (.int 60)]) c_G_guests_71 (Nat.le_of_ble_eq_true rfl) rfl rfl ?_
        refine PW_aload_n c_G_guests_73 rfl ?_
        refine PW_aload c_G_guests_74 rfl ?_
        refine PW_iload c_G_guests_76 rfl ?_
        refine PW_V0 (d2 := 5) (st := []) [.ref (58 + 2 * sj), .int 60] c_G_guests_78 lk_G_guests_110 (po_5 _ _) rfl rfl rfl (Nat.le_of_ble_eq_true rfl) (by first | decide | omega) (Nat.le_of_ble_eq_true rfl) ?_
        refine sp_wf0 hsj hXb hXz hn (by rw [show (60 : Int32).toInt = 60 by decide]; omega) ?_
        show PW _ _ _ 81 [some (.ref 5), some (.int a1), some (.int a2), some (.int (nI N)), some (.ref (58 + 2 * sj)), some (.int (nI k)), some (.int (nI k)), some (.int 60)] [.int 0] (E X y0)
        refine PW_if_ne c_G_guests_81 (fun h2 => absurd (by decide) h2) (fun _ => ?_)
        refine PW_goto c_G_guests_84 ?_
        refine PW_iload c_G_guests_96 rfl ?_
        refine PW_ireturn (ty := .int) c_G_guests_98 rfl rfl ?_
        exact h
      · skip
        refine PW_iload c_M_guests_58 rfl ?_
        refine PW_iload_n c_M_guests_60 rfl ?_
        refine PW_icmp_ge c_M_guests_61 (fun h0 => absurd h0 (fun q => absurd ((nI_leI (by omega) (by omega)).mp q) (by omega))) (fun h0 => ?_)
        refine PW_iload_n c_M_guests_64 rfl ?_
        refine PW_i2l c_M_guests_65 ?_
        refine PW_iconst (v := 3) c_M_guests_66 (by decide) ?_
        refine PW_iload c_M_guests_67 rfl ?_
        refine PW_imul c_M_guests_69 ?_
        refine PW_i2l c_M_guests_70 ?_
        refine PW_ladd c_M_guests_71 ?_
        refine PW_lstore (i := 5) (L2 := [some (.ref 70), some (.int (nI sj)), some (.int a2), some (.int (nI N)), some (.int (nI k)), some (.long (a2.toInt64 + ((3 * (nI k)).toInt64))), none, l7]) c_M_guests_72 (Nat.le_of_ble_eq_true rfl) rfl rfl ?_
        refine PW_lload c_M_guests_74 rfl ?_
        refine PW_lconst (v := 0) c_M_guests_76 (by decide) ?_
        refine PW_lcmp c_M_guests_77 ?_
        refine PW_if_lt c_M_guests_78 (fun h1 => ?_) (fun h1 => absurd (by rw [lg_lt, (at_ti (by omega)).1, show (0 : Int64).toInt = 0 by decide]; omega) h1)
        refine PW_iload c_M_guests_107 rfl ?_
        refine PW_ireturn (ty := .int) c_M_guests_109 rfl rfl ?_
        exact h
    · by_cases hc2 : 60 < a2.toInt
      · skip
        refine ⟨nI k, X, Y, hC, hfx, hfy, Nat.le_refl _, fun {z post y0 l7} h => ?_, fun {z post x0 l5 l6 l7} h => ?_⟩
        · skip
          refine PW_iload c_G_guests_44 rfl ?_
          refine PW_iload_n c_G_guests_46 rfl ?_
          refine PW_icmp_ge c_G_guests_47 (fun h0 => absurd h0 (fun q => absurd ((nI_leI (by omega) (by omega)).mp q) (by omega))) (fun h0 => ?_)
          refine PW_iload_n c_G_guests_50 rfl ?_
          refine PW_if_lt c_G_guests_51 (fun h1 => absurd h1 (by rw [Int32.lt_iff_toInt_lt, tiA.1]; omega)) (fun h1 => ?_)
          refine PW_iload_n c_G_guests_54 rfl ?_
          refine PW_bipush (v := 60) c_G_guests_55 (by decide) ?_
          refine PW_icmp_le c_G_guests_57 (fun h2 => absurd h2 (by rw [Int32.le_iff_toInt_le, show (60 : Int32).toInt = 60 by decide]; omega)) (fun h2 => ?_)
          refine PW_bipush (v := 60) c_G_guests_60 (by decide) ?_
          refine PW_goto c_G_guests_62 ?_
          refine PW_istore (i := 7) (L2 := [some (.ref 5), some (.int a1), some (.int a2), some (.int (nI N)), some (.ref (58 + 2 * sj)), some (.int (nI k)), some (.int (nI k)), some (.int 60)]) c_G_guests_71 (Nat.le_of_ble_eq_true rfl) rfl rfl ?_
          refine PW_aload_n c_G_guests_73 rfl ?_
          refine PW_aload c_G_guests_74 rfl ?_
          refine PW_iload c_G_guests_76 rfl ?_
          refine PW_V0 (d2 := 5) (st := []) [.ref (58 + 2 * sj), .int 60] c_G_guests_78 lk_G_guests_110 (po_5 _ _) rfl rfl rfl (Nat.le_of_ble_eq_true rfl) (by first | decide | omega) (Nat.le_of_ble_eq_true rfl) ?_
          refine sp_wf0 hsj hXb hXz hn (by rw [show (60 : Int32).toInt = 60 by decide]; omega) ?_
          show PW _ _ _ 81 [some (.ref 5), some (.int a1), some (.int a2), some (.int (nI N)), some (.ref (58 + 2 * sj)), some (.int (nI k)), some (.int (nI k)), some (.int 60)] [.int 0] (E X y0)
          refine PW_if_ne c_G_guests_81 (fun h3 => absurd (by decide) h3) (fun _ => ?_)
          refine PW_goto c_G_guests_84 ?_
          refine PW_iload c_G_guests_96 rfl ?_
          refine PW_ireturn (ty := .int) c_G_guests_98 rfl rfl ?_
          exact h
        · skip
          refine PW_iload c_M_guests_58 rfl ?_
          refine PW_iload_n c_M_guests_60 rfl ?_
          refine PW_icmp_ge c_M_guests_61 (fun h0 => absurd h0 (fun q => absurd ((nI_leI (by omega) (by omega)).mp q) (by omega))) (fun h0 => ?_)
          refine PW_iload_n c_M_guests_64 rfl ?_
          refine PW_i2l c_M_guests_65 ?_
          refine PW_iconst (v := 3) c_M_guests_66 (by decide) ?_
          refine PW_iload c_M_guests_67 rfl ?_
          refine PW_imul c_M_guests_69 ?_
          refine PW_i2l c_M_guests_70 ?_
          refine PW_ladd c_M_guests_71 ?_
          refine PW_lstore (i := 5) (L2 := [some (.ref 70), some (.int (nI sj)), some (.int a2), some (.int (nI N)), some (.int (nI k)), some (.long (a2.toInt64 + ((3 * (nI k)).toInt64))), none, l7]) c_M_guests_72 (Nat.le_of_ble_eq_true rfl) rfl rfl ?_
          refine PW_lload c_M_guests_74 rfl ?_
          refine PW_lconst (v := 0) c_M_guests_76 (by decide) ?_
          refine PW_lcmp c_M_guests_77 ?_
          refine PW_if_lt c_M_guests_78 (fun h1 => absurd h1 (fun z => by rw [lg_lt, (at_ti (by omega)).1, show (0 : Int64).toInt = 0 by decide] at z; omega)) (fun h1 => ?_)
          refine PW_lload c_M_guests_81 rfl ?_
          refine PW_ldc2 c_M_guests_83 kk_M_146 ?_
          refine PW_ladd c_M_guests_86 ?_
          refine PW_aload_n c_M_guests_87 rfl ?_
          refine PW_get (v := .ref 105) c_M_guests_88 fl_M_114 (gf_70_54 _ _) ?_
          refine PW_iload_n c_M_guests_91 rfl ?_
          refine PW_iald (j := sj) c_M_guests_92 (ar_105 _ _) (vp_in_nI hsj (by decide)) (nI_clamp (by omega)) ?_
          show PW _ _ _ 93 [some (.ref 70), some (.int (nI sj)), some (.int a2), some (.int (nI N)), some (.int (nI k)), some (.long (a2.toInt64 + ((3 * (nI k)).toInt64))), none, l7] [.int ((Y.2.1 105) sj), .long ((a2.toInt64 + ((3 * (nI k)).toInt64)) + 2)] (E x0 Y)
          refine PW_i2l c_M_guests_93 ?_
          refine PW_lcmp c_M_guests_94 ?_
          refine PW_if_ge c_M_guests_95 (fun h2 => ?_) (fun h2 => absurd (by rw [lg_ge, (at_ti (by omega)).2, hYz, Int32.toInt_toInt64, nI_toInt (by omega)]; omega) h2)
          refine PW_iload c_M_guests_107 rfl ?_
          refine PW_ireturn (ty := .int) c_M_guests_109 rfl rfl ?_
          exact h
      · have hst : (a2 + 3 * nI k).toInt = a2.toInt + 3 * k := by rw [show (3 : Int32) = nI 3 from rfl, pk_mul, ti_add (by rw [nI_toInt (by omega)]; omega) (by rw [nI_toInt (by omega)]; omega), nI_toInt (by omega)]; omega
        by_cases hv : a2.toInt + 3 * k + 3 ≤ n
        · obtain ⟨q, hq0⟩ : ∃ q : Nat, a2.toInt + 3 * k = q := ⟨(a2.toInt + 3 * k).toNat, by omega⟩
          have hqe : a2 + 3 * nI k = nI q := nI_of_ti (by rw [hst]; exact hq0) (by omega)
          have hq3 : q + 3 ≤ n := by omega
          by_cases hgd : (0 ≤ (plF Y sj q) ∧ (plF Y sj q) ≤ 4) ∧ (0 ≤ (plF Y sj (q + 1)) ∧ (plF Y sj (q + 1)) ≤ 4) ∧ fitP 3 (plF Y sj (q + 2))
          · by_cases h10 : nG Y = 10
            · skip
              refine ⟨nI k, X, Y, hC, hfx, hfy, Nat.le_refl _, fun {z post y0 l7} h => ?_, fun {z post x0 l5 l6 l7} h => ?_⟩
              · skip
                refine PW_iload c_G_guests_44 rfl ?_
                refine PW_iload_n c_G_guests_46 rfl ?_
                refine PW_icmp_ge c_G_guests_47 (fun h0 => absurd h0 (fun q => absurd ((nI_leI (by omega) (by omega)).mp q) (by omega))) (fun h0 => ?_)
                refine PW_iload_n c_G_guests_50 rfl ?_
                refine PW_if_lt c_G_guests_51 (fun h1 => absurd h1 (by rw [Int32.lt_iff_toInt_lt, tiA.1]; omega)) (fun h1 => ?_)
                refine PW_iload_n c_G_guests_54 rfl ?_
                refine PW_bipush (v := 60) c_G_guests_55 (by decide) ?_
                refine PW_icmp_le c_G_guests_57 (fun h2 => ?_) (fun h2 => absurd (by rw [Int32.le_iff_toInt_le, show (60 : Int32).toInt = 60 by decide]; omega) h2)
                refine PW_iload_n c_G_guests_65 rfl ?_
                refine PW_iconst (v := 3) c_G_guests_66 (by decide) ?_
                refine PW_iload c_G_guests_67 rfl ?_
                refine PW_imul c_G_guests_69 ?_
                refine PW_iadd c_G_guests_70 ?_
                rw [hqe]
                show PW _ _ _ 71 [some (.ref 5), some (.int a1), some (.int a2), some (.int (nI N)), some (.ref (58 + 2 * sj)), some (.int (nI k)), some (.int (nI k)), l7] [.int (nI q)] (E X y0)
                refine PW_istore (i := 7) (L2 := [some (.ref 5), some (.int a1), some (.int a2), some (.int (nI N)), some (.ref (58 + 2 * sj)), some (.int (nI k)), some (.int (nI k)), some (.int (nI q))]) c_G_guests_71 (Nat.le_of_ble_eq_true rfl) rfl rfl ?_
                refine PW_aload_n c_G_guests_73 rfl ?_
                refine PW_aload c_G_guests_74 rfl ?_
                refine PW_iload c_G_guests_76 rfl ?_
                refine PW_V0 (d2 := 5) (st := []) [.ref (58 + 2 * sj), .int (nI q)] c_G_guests_78 lk_G_guests_110 (po_5 _ _) rfl rfl rfl (Nat.le_of_ble_eq_true rfl) (by first | decide | omega) (Nat.le_of_ble_eq_true rfl) ?_
                refine sp_wf2 (y0 := Y) hsj hXb hXz hn hXR hq3 hgd (by rw [hC.x51, hC.1.1, h10]) ?_
                show PW _ _ _ 81 [some (.ref 5), some (.int a1), some (.int a2), some (.int (nI N)), some (.ref (58 + 2 * sj)), some (.int (nI k)), some (.int (nI k)), some (.int (nI q))] [.int 0] (E X y0)
                refine PW_if_ne c_G_guests_81 (fun h3 => absurd (by decide) h3) (fun _ => ?_)
                refine PW_goto c_G_guests_84 ?_
                refine PW_iload c_G_guests_96 rfl ?_
                refine PW_ireturn (ty := .int) c_G_guests_98 rfl rfl ?_
                exact h
              · skip
                refine PW_iload c_M_guests_58 rfl ?_
                refine PW_iload_n c_M_guests_60 rfl ?_
                refine PW_icmp_ge c_M_guests_61 (fun h0 => absurd h0 (fun q => absurd ((nI_leI (by omega) (by omega)).mp q) (by omega))) (fun h0 => ?_)
                refine PW_iload_n c_M_guests_64 rfl ?_
                refine PW_i2l c_M_guests_65 ?_
                refine PW_iconst (v := 3) c_M_guests_66 (by decide) ?_
                refine PW_iload c_M_guests_67 rfl ?_
                refine PW_imul c_M_guests_69 ?_
                refine PW_i2l c_M_guests_70 ?_
                refine PW_ladd c_M_guests_71 ?_
                refine PW_lstore (i := 5) (L2 := [some (.ref 70), some (.int (nI sj)), some (.int a2), some (.int (nI N)), some (.int (nI k)), some (.long (a2.toInt64 + ((3 * (nI k)).toInt64))), none, l7]) c_M_guests_72 (Nat.le_of_ble_eq_true rfl) rfl rfl ?_
                refine PW_lload c_M_guests_74 rfl ?_
                refine PW_lconst (v := 0) c_M_guests_76 (by decide) ?_
                refine PW_lcmp c_M_guests_77 ?_
                refine PW_if_lt c_M_guests_78 (fun h1 => absurd h1 (fun z => by rw [lg_lt, (at_ti (by omega)).1, show (0 : Int64).toInt = 0 by decide] at z; omega)) (fun h1 => ?_)
                refine PW_lload c_M_guests_81 rfl ?_
                refine PW_ldc2 c_M_guests_83 kk_M_146 ?_
                refine PW_ladd c_M_guests_86 ?_
                refine PW_aload_n c_M_guests_87 rfl ?_
                refine PW_get (v := .ref 105) c_M_guests_88 fl_M_114 (gf_70_54 _ _) ?_
                refine PW_iload_n c_M_guests_91 rfl ?_
                refine PW_iald (j := sj) c_M_guests_92 (ar_105 _ _) (vp_in_nI hsj (by decide)) (nI_clamp (by omega)) ?_
                show PW _ _ _ 93 [some (.ref 70), some (.int (nI sj)), some (.int a2), some (.int (nI N)), some (.int (nI k)), some (.long (a2.toInt64 + ((3 * (nI k)).toInt64))), none, l7] [.int ((Y.2.1 105) sj), .long ((a2.toInt64 + ((3 * (nI k)).toInt64)) + 2)] (E x0 Y)
                refine PW_i2l c_M_guests_93 ?_
                refine PW_lcmp c_M_guests_94 ?_
                refine PW_if_ge c_M_guests_95 (fun h2 => absurd h2 (fun z => by rw [lg_ge, (at_ti (by omega)).2, hYz, Int32.toInt_toInt64, nI_toInt (by omega)] at z; omega)) (fun h2 => ?_)
                refine PW_aload_n c_M_guests_98 rfl ?_
                refine PW_get (v := .int (Y.1 561)) c_M_guests_99 fl_M_128 (gf_70_1 _ _) ?_
                refine PW_bipush (v := 10) c_M_guests_102 (by decide) ?_
                refine PW_icmp_ne c_M_guests_104 (fun h3 => absurd h3 (not_not_intro (by rw [hC.1.1, h10]; rfl))) (fun h3 => ?_)
                refine PW_iload c_M_guests_107 rfl ?_
                refine PW_ireturn (ty := .int) c_M_guests_109 rfl rfl ?_
                exact h
            · have hm10 : nG Y < 10 := by omega
              have k3 : 0 ≤ plF Y sj (q + 2) ∧ plF Y sj (q + 2) ≤ 9 := by have q := hgd.2.2; simp only [Int32.le_iff_toInt_le, tiA]; exact q
              obtain ⟨e1, e2⟩ := CPg_new (a := plF Y sj q) (b := plF Y sj (q + 1)) (c := 50) (t := plF Y sj (q + 2)) hC hm10 (by have q := hgd.1; simp only [Int32.le_iff_toInt_le, tiA] at q; exact q) (by have q := hgd.2.1; simp only [Int32.le_iff_toInt_le, tiA] at q; exact q) (by decide : (0 : Int) ≤ (50 : Int32).toInt ∧ (50 : Int32).toInt ≤ 99) hgd.2.2
              obtain ⟨r, X', Y', i1, i2, i3, i4, H1, H2⟩ := ih (k + 1) _ _ (by omega) (fun _ => by omega) e2 (frX_t hfx frX_wc) (frY_t hfy frY_ag)
              refine ⟨r, X', Y', i1, i2, i3, by omega, fun {z post y0 l7} h => ?_, fun {z post x0 l5 l6 l7} h => ?_⟩
              · skip
                refine PW_iload c_G_guests_44 rfl ?_
                refine PW_iload_n c_G_guests_46 rfl ?_
                refine PW_icmp_ge c_G_guests_47 (fun h0 => absurd h0 (fun q => absurd ((nI_leI (by omega) (by omega)).mp q) (by omega))) (fun h0 => ?_)
                refine PW_iload_n c_G_guests_50 rfl ?_
                refine PW_if_lt c_G_guests_51 (fun h1 => absurd h1 (by rw [Int32.lt_iff_toInt_lt, tiA.1]; omega)) (fun h1 => ?_)
                refine PW_iload_n c_G_guests_54 rfl ?_
                refine PW_bipush (v := 60) c_G_guests_55 (by decide) ?_
                refine PW_icmp_le c_G_guests_57 (fun h2 => ?_) (fun h2 => absurd (by rw [Int32.le_iff_toInt_le, show (60 : Int32).toInt = 60 by decide]; omega) h2)
                refine PW_iload_n c_G_guests_65 rfl ?_
                refine PW_iconst (v := 3) c_G_guests_66 (by decide) ?_
                refine PW_iload c_G_guests_67 rfl ?_
                refine PW_imul c_G_guests_69 ?_
                refine PW_iadd c_G_guests_70 ?_
                rw [hqe]
                show PW _ _ _ 71 [some (.ref 5), some (.int a1), some (.int a2), some (.int (nI N)), some (.ref (58 + 2 * sj)), some (.int (nI k)), some (.int (nI k)), l7] [.int (nI q)] (E X y0)
                refine PW_istore (i := 7) (L2 := [some (.ref 5), some (.int a1), some (.int a2), some (.int (nI N)), some (.ref (58 + 2 * sj)), some (.int (nI k)), some (.int (nI k)), some (.int (nI q))]) c_G_guests_71 (Nat.le_of_ble_eq_true rfl) rfl rfl ?_
                refine PW_aload_n c_G_guests_73 rfl ?_
                refine PW_aload c_G_guests_74 rfl ?_
                refine PW_iload c_G_guests_76 rfl ?_
                refine PW_V0 (d2 := 5) (st := []) [.ref (58 + 2 * sj), .int (nI q)] c_G_guests_78 lk_G_guests_110 (po_5 _ _) rfl rfl rfl (Nat.le_of_ble_eq_true rfl) (by first | decide | omega) (Nat.le_of_ble_eq_true rfl) ?_
                refine sp_wf3 (y0 := Y) hsj hXb hXz hn hXR hq3 hgd (hC.x51.trans hC.1.1) hm10 ?_
                show PW _ _ _ 81 [some (.ref 5), some (.int a1), some (.int a2), some (.int (nI N)), some (.ref (58 + 2 * sj)), some (.int (nI k)), some (.int (nI k)), some (.int (nI q))] [.int 1] (E (wcX X (nG Y) (plF Y sj q) (plF Y sj (q + 1)) 50 (plF Y sj (q + 2))) y0)
                refine PW_if_ne c_G_guests_81 (fun _ => ?_) (fun h3 => absurd h3 (by decide))
                refine PW_iinc (i := 5) (v := (nI k) + 1) (L2 := [some (.ref 5), some (.int a1), some (.int a2), some (.int (nI N)), some (.ref (58 + 2 * sj)), some (.int ((nI k) + 1)), some (.int (nI k)), some (.int (nI q))]) c_G_guests_87 rfl (iinc_v (by decide)) (Nat.le_of_ble_eq_true rfl) rfl rfl ?_
                refine PW_iinc (i := 6) (v := (nI k) + 1) (L2 := [some (.ref 5), some (.int a1), some (.int a2), some (.int (nI N)), some (.ref (58 + 2 * sj)), some (.int ((nI k) + 1)), some (.int ((nI k) + 1)), some (.int (nI q))]) c_G_guests_90 rfl (iinc_v (by decide)) (Nat.le_of_ble_eq_true rfl) rfl rfl ?_
                refine PW_goto c_G_guests_93 ?_
                refine PW.eqL ?_ rfl rfl (H1 (l7 := some (.int (nI q))) h)
                show ([some (.ref 5), some (.int a1), some (.int a2), some (.int (nI N)), some (.ref (58 + 2 * sj)), some (.int ((nI k) + 1)), some (.int ((nI k) + 1)), some (.int (nI q))] : List (Option Value)) = _
                rw [nI_1]
              · skip
                refine PW_iload c_M_guests_58 rfl ?_
                refine PW_iload_n c_M_guests_60 rfl ?_
                refine PW_icmp_ge c_M_guests_61 (fun h0 => absurd h0 (fun q => absurd ((nI_leI (by omega) (by omega)).mp q) (by omega))) (fun h0 => ?_)
                refine PW_iload_n c_M_guests_64 rfl ?_
                refine PW_i2l c_M_guests_65 ?_
                refine PW_iconst (v := 3) c_M_guests_66 (by decide) ?_
                refine PW_iload c_M_guests_67 rfl ?_
                refine PW_imul c_M_guests_69 ?_
                refine PW_i2l c_M_guests_70 ?_
                refine PW_ladd c_M_guests_71 ?_
                refine PW_lstore (i := 5) (L2 := [some (.ref 70), some (.int (nI sj)), some (.int a2), some (.int (nI N)), some (.int (nI k)), some (.long (a2.toInt64 + ((3 * (nI k)).toInt64))), none, l7]) c_M_guests_72 (Nat.le_of_ble_eq_true rfl) rfl rfl ?_
                refine PW_lload c_M_guests_74 rfl ?_
                refine PW_lconst (v := 0) c_M_guests_76 (by decide) ?_
                refine PW_lcmp c_M_guests_77 ?_
                refine PW_if_lt c_M_guests_78 (fun h1 => absurd h1 (fun z => by rw [lg_lt, (at_ti (by omega)).1, show (0 : Int64).toInt = 0 by decide] at z; omega)) (fun h1 => ?_)
                refine PW_lload c_M_guests_81 rfl ?_
                refine PW_ldc2 c_M_guests_83 kk_M_146 ?_
                refine PW_ladd c_M_guests_86 ?_
                refine PW_aload_n c_M_guests_87 rfl ?_
                refine PW_get (v := .ref 105) c_M_guests_88 fl_M_114 (gf_70_54 _ _) ?_
                refine PW_iload_n c_M_guests_91 rfl ?_
                refine PW_iald (j := sj) c_M_guests_92 (ar_105 _ _) (vp_in_nI hsj (by decide)) (nI_clamp (by omega)) ?_
                show PW _ _ _ 93 [some (.ref 70), some (.int (nI sj)), some (.int a2), some (.int (nI N)), some (.int (nI k)), some (.long (a2.toInt64 + ((3 * (nI k)).toInt64))), none, l7] [.int ((Y.2.1 105) sj), .long ((a2.toInt64 + ((3 * (nI k)).toInt64)) + 2)] (E x0 Y)
                refine PW_i2l c_M_guests_93 ?_
                refine PW_lcmp c_M_guests_94 ?_
                refine PW_if_ge c_M_guests_95 (fun h2 => absurd h2 (fun z => by rw [lg_ge, (at_ti (by omega)).2, hYz, Int32.toInt_toInt64, nI_toInt (by omega)] at z; omega)) (fun h2 => ?_)
                refine PW_aload_n c_M_guests_98 rfl ?_
                refine PW_get (v := .int (Y.1 561)) c_M_guests_99 fl_M_128 (gf_70_1 _ _) ?_
                refine PW_bipush (v := 10) c_M_guests_102 (by decide) ?_
                refine PW_icmp_ne c_M_guests_104 (fun h3 => ?_) (fun h3 => absurd h3 (by rw [hC.1.1]; exact fun q => h10 ((nI_eq (by omega) (by decide)).mp (show nI (nG Y) = nI 10 from q))))
                refine PW_bipush (v := 60) c_M_guests_110 (by decide) ?_
                refine PW_iload_n c_M_guests_112 rfl ?_
                refine PW_imul c_M_guests_113 ?_
                refine PW_lload c_M_guests_114 rfl ?_
                refine PW_l2i c_M_guests_116 ?_
                refine PW_iadd c_M_guests_117 ?_
                refine PW_istore (i := 7) (L2 := [some (.ref 70), some (.int (nI sj)), some (.int a2), some (.int (nI N)), some (.int (nI k)), some (.long (a2.toInt64 + ((3 * (nI k)).toInt64))), none, some (.int ((60 * (nI sj)) + ((a2.toInt64 + ((3 * (nI k)).toInt64)).toInt32)))]) c_M_guests_118 (Nat.le_of_ble_eq_true rfl) rfl rfl ?_
                refine PW_aload_n c_M_guests_120 rfl ?_
                refine PW_get (v := .ref 106) c_M_guests_121 fl_M_117 (gf_70_55 _ _) ?_
                refine PW_iload c_M_guests_124 rfl ?_
                refine PW_lald (j := 60 * sj + q) c_M_guests_126 (ar_106 _ _) (by rw [at_32 (by omega) hq0 (by omega), show (60 : Int32) = nI 60 from rfl, pk_mul, nI_add]; exact vp_in_nI (by omega) (by decide)) (by rw [at_32 (by omega) hq0 (by omega), show (60 : Int32) = nI 60 from rfl, pk_mul, nI_add]; exact nI_clamp (by omega)) ?_
                show PW _ _ _ 127 [some (.ref 70), some (.int (nI sj)), some (.int a2), some (.int (nI N)), some (.int (nI k)), some (.long (a2.toInt64 + ((3 * (nI k)).toInt64))), none, some (.int ((60 * (nI sj)) + ((a2.toInt64 + ((3 * (nI k)).toInt64)).toInt32)))] [.long ((Y.2.2 106) (60 * sj + q))] (E x0 Y)
                refine PW_l2i c_M_guests_127 ?_
                refine PW_S0 (d2 := 1) (st := []) [.int (((Y.2.2 106) (60 * sj + q)).toInt32)] c_M_guests_128 lk_M_guests_135 rfl rfl rfl (Nat.le_of_ble_eq_true rfl) (by first | decide | omega) (Nat.le_of_ble_eq_true rfl) ?_
                refine sp_M_isRoom  ?_
                show PW _ _ _ 131 [some (.ref 70), some (.int (nI sj)), some (.int a2), some (.int (nI N)), some (.int (nI k)), some (.long (a2.toInt64 + ((3 * (nI k)).toInt64))), none, some (.int ((60 * (nI sj)) + ((a2.toInt64 + ((3 * (nI k)).toInt64)).toInt32)))] [.int (b2i (0 ≤ (((Y.2.2 106) (60 * sj + q)).toInt32) ∧ (((Y.2.2 106) (60 * sj + q)).toInt32) ≤ 4))] (E x0 Y)
                refine PW_if_eq c_M_guests_131 (fun h4 => absurd hgd.1 (b2i_0.mp h4)) (fun _ => ?_)
                refine PW_aload_n c_M_guests_134 rfl ?_
                refine PW_get (v := .ref 106) c_M_guests_135 fl_M_117 (gf_70_55 _ _) ?_
                refine PW_iload c_M_guests_138 rfl ?_
                refine PW_iconst (v := 1) c_M_guests_140 (by decide) ?_
                refine PW_iadd c_M_guests_141 ?_
                refine PW_lald (j := 60 * sj + (q + 1)) c_M_guests_142 (ar_106 _ _) (by rw [at_32 (by omega) hq0 (by omega), show (60 : Int32) = nI 60 from rfl, pk_mul, nI_add, show (1 : Int32) = nI 1 from rfl, nI_add, Nat.add_assoc]; exact vp_in_nI (by omega) (by decide)) (by rw [at_32 (by omega) hq0 (by omega), show (60 : Int32) = nI 60 from rfl, pk_mul, nI_add, show (1 : Int32) = nI 1 from rfl, nI_add, Nat.add_assoc]; exact nI_clamp (by omega)) ?_
                show PW _ _ _ 143 [some (.ref 70), some (.int (nI sj)), some (.int a2), some (.int (nI N)), some (.int (nI k)), some (.long (a2.toInt64 + ((3 * (nI k)).toInt64))), none, some (.int ((60 * (nI sj)) + ((a2.toInt64 + ((3 * (nI k)).toInt64)).toInt32)))] [.long ((Y.2.2 106) (60 * sj + (q + 1)))] (E x0 Y)
                refine PW_l2i c_M_guests_143 ?_
                refine PW_S0 (d2 := 1) (st := []) [.int (((Y.2.2 106) (60 * sj + (q + 1))).toInt32)] c_M_guests_144 lk_M_guests_135 rfl rfl rfl (Nat.le_of_ble_eq_true rfl) (by first | decide | omega) (Nat.le_of_ble_eq_true rfl) ?_
                refine sp_M_isRoom  ?_
                show PW _ _ _ 147 [some (.ref 70), some (.int (nI sj)), some (.int a2), some (.int (nI N)), some (.int (nI k)), some (.long (a2.toInt64 + ((3 * (nI k)).toInt64))), none, some (.int ((60 * (nI sj)) + ((a2.toInt64 + ((3 * (nI k)).toInt64)).toInt32)))] [.int (b2i (0 ≤ (((Y.2.2 106) (60 * sj + (q + 1))).toInt32) ∧ (((Y.2.2 106) (60 * sj + (q + 1))).toInt32) ≤ 4))] (E x0 Y)
                refine PW_if_eq c_M_guests_147 (fun h5 => absurd hgd.2.1 (b2i_0.mp h5)) (fun _ => ?_)
                refine PW_aload_n c_M_guests_150 rfl ?_
                refine PW_get (v := .ref 106) c_M_guests_151 fl_M_117 (gf_70_55 _ _) ?_
                refine PW_iload c_M_guests_154 rfl ?_
                refine PW_iconst (v := 2) c_M_guests_156 (by decide) ?_
                refine PW_iadd c_M_guests_157 ?_
                refine PW_lald (j := 60 * sj + (q + 2)) c_M_guests_158 (ar_106 _ _) (by rw [at_32 (by omega) hq0 (by omega), show (60 : Int32) = nI 60 from rfl, pk_mul, nI_add, show (2 : Int32) = nI 2 from rfl, nI_add, Nat.add_assoc]; exact vp_in_nI (by omega) (by decide)) (by rw [at_32 (by omega) hq0 (by omega), show (60 : Int32) = nI 60 from rfl, pk_mul, nI_add, show (2 : Int32) = nI 2 from rfl, nI_add, Nat.add_assoc]; exact nI_clamp (by omega)) ?_
                show PW _ _ _ 159 [some (.ref 70), some (.int (nI sj)), some (.int a2), some (.int (nI N)), some (.int (nI k)), some (.long (a2.toInt64 + ((3 * (nI k)).toInt64))), none, some (.int ((60 * (nI sj)) + ((a2.toInt64 + ((3 * (nI k)).toInt64)).toInt32)))] [.long ((Y.2.2 106) (60 * sj + (q + 2)))] (E x0 Y)
                refine PW_l2i c_M_guests_159 ?_
                refine PW_iconst (v := 0) c_M_guests_160 (by decide) ?_
                refine PW_bipush (v := 9) c_M_guests_161 (by decide) ?_
                refine PW_S0 (d2 := 0) (st := []) [.int (((Y.2.2 106) (60 * sj + (q + 2))).toInt32), .int 0, .int 9] c_M_guests_163 lk_M_guests_131 rfl rfl rfl (Nat.le_of_ble_eq_true rfl) (by first | decide | omega) (Nat.le_of_ble_eq_true rfl) ?_
                refine sp_M_within  ?_
                show PW _ _ _ 166 [some (.ref 70), some (.int (nI sj)), some (.int a2), some (.int (nI N)), some (.int (nI k)), some (.long (a2.toInt64 + ((3 * (nI k)).toInt64))), none, some (.int ((60 * (nI sj)) + ((a2.toInt64 + ((3 * (nI k)).toInt64)).toInt32)))] [.int (b2i ((0 : Int32) ≤ (((Y.2.2 106) (60 * sj + (q + 2))).toInt32) ∧ (((Y.2.2 106) (60 * sj + (q + 2))).toInt32) ≤ (9 : Int32)))] (E x0 Y)
                refine PW_if_ne c_M_guests_166 (fun _ => ?_) (fun h6 => absurd k3 (b2i_0.mp h6))
                refine PW_aload_n c_M_guests_172 rfl ?_
                refine PW_aload_n c_M_guests_173 rfl ?_
                refine PW_get (v := .ref 106) c_M_guests_174 fl_M_117 (gf_70_55 _ _) ?_
                refine PW_iload c_M_guests_177 rfl ?_
                refine PW_lald (j := 60 * sj + q) c_M_guests_179 (ar_106 _ _) (by rw [at_32 (by omega) hq0 (by omega), show (60 : Int32) = nI 60 from rfl, pk_mul, nI_add]; exact vp_in_nI (by omega) (by decide)) (by rw [at_32 (by omega) hq0 (by omega), show (60 : Int32) = nI 60 from rfl, pk_mul, nI_add]; exact nI_clamp (by omega)) ?_
                show PW _ _ _ 180 [some (.ref 70), some (.int (nI sj)), some (.int a2), some (.int (nI N)), some (.int (nI k)), some (.long (a2.toInt64 + ((3 * (nI k)).toInt64))), none, some (.int ((60 * (nI sj)) + ((a2.toInt64 + ((3 * (nI k)).toInt64)).toInt32)))] [.long ((Y.2.2 106) (60 * sj + q)), .ref 70] (E x0 Y)
                refine PW_l2i c_M_guests_180 ?_
                refine PW_aload_n c_M_guests_181 rfl ?_
                refine PW_get (v := .ref 106) c_M_guests_182 fl_M_117 (gf_70_55 _ _) ?_
                refine PW_iload c_M_guests_185 rfl ?_
                refine PW_iconst (v := 1) c_M_guests_187 (by decide) ?_
                refine PW_iadd c_M_guests_188 ?_
                refine PW_lald (j := 60 * sj + (q + 1)) c_M_guests_189 (ar_106 _ _) (by rw [at_32 (by omega) hq0 (by omega), show (60 : Int32) = nI 60 from rfl, pk_mul, nI_add, show (1 : Int32) = nI 1 from rfl, nI_add, Nat.add_assoc]; exact vp_in_nI (by omega) (by decide)) (by rw [at_32 (by omega) hq0 (by omega), show (60 : Int32) = nI 60 from rfl, pk_mul, nI_add, show (1 : Int32) = nI 1 from rfl, nI_add, Nat.add_assoc]; exact nI_clamp (by omega)) ?_
                show PW _ _ _ 190 [some (.ref 70), some (.int (nI sj)), some (.int a2), some (.int (nI N)), some (.int (nI k)), some (.long (a2.toInt64 + ((3 * (nI k)).toInt64))), none, some (.int ((60 * (nI sj)) + ((a2.toInt64 + ((3 * (nI k)).toInt64)).toInt32)))] [.long ((Y.2.2 106) (60 * sj + (q + 1))), .int (((Y.2.2 106) (60 * sj + q)).toInt32), .ref 70] (E x0 Y)
                refine PW_l2i c_M_guests_190 ?_
                refine PW_bipush (v := 50) c_M_guests_191 (by decide) ?_
                refine PW_aload_n c_M_guests_193 rfl ?_
                refine PW_get (v := .ref 106) c_M_guests_194 fl_M_117 (gf_70_55 _ _) ?_
                refine PW_iload c_M_guests_197 rfl ?_
                refine PW_iconst (v := 2) c_M_guests_199 (by decide) ?_
                refine PW_iadd c_M_guests_200 ?_
                refine PW_lald (j := 60 * sj + (q + 2)) c_M_guests_201 (ar_106 _ _) (by rw [at_32 (by omega) hq0 (by omega), show (60 : Int32) = nI 60 from rfl, pk_mul, nI_add, show (2 : Int32) = nI 2 from rfl, nI_add, Nat.add_assoc]; exact vp_in_nI (by omega) (by decide)) (by rw [at_32 (by omega) hq0 (by omega), show (60 : Int32) = nI 60 from rfl, pk_mul, nI_add, show (2 : Int32) = nI 2 from rfl, nI_add, Nat.add_assoc]; exact nI_clamp (by omega)) ?_
                show PW _ _ _ 202 [some (.ref 70), some (.int (nI sj)), some (.int a2), some (.int (nI N)), some (.int (nI k)), some (.long (a2.toInt64 + ((3 * (nI k)).toInt64))), none, some (.int ((60 * (nI sj)) + ((a2.toInt64 + ((3 * (nI k)).toInt64)).toInt32)))] [.long ((Y.2.2 106) (60 * sj + (q + 2))), .int 50, .int (((Y.2.2 106) (60 * sj + (q + 1))).toInt32), .int (((Y.2.2 106) (60 * sj + q)).toInt32), .ref 70] (E x0 Y)
                refine PW_l2i c_M_guests_202 ?_
                refine PW_V0 (d2 := 0) (st := []) [.int (((Y.2.2 106) (60 * sj + q)).toInt32), .int (((Y.2.2 106) (60 * sj + (q + 1))).toInt32), .int 50, .int (((Y.2.2 106) (60 * sj + (q + 2))).toInt32)] c_M_guests_203 lk_M_guests_139 (po_70 _ _) rfl rfl rfl (Nat.le_of_ble_eq_true rfl) (by first | decide | omega) (Nat.le_of_ble_eq_true rfl) ?_
                refine sp_M_addGuest hC.1.1 hm10 ?_
                show PW _ _ _ 206 [some (.ref 70), some (.int (nI sj)), some (.int a2), some (.int (nI N)), some (.int (nI k)), some (.long (a2.toInt64 + ((3 * (nI k)).toInt64))), none, some (.int ((60 * (nI sj)) + ((a2.toInt64 + ((3 * (nI k)).toInt64)).toInt32)))] [.int (nI (nG Y))] (E x0 (agY Y (nG Y) (plF Y sj q) (plF Y sj (q + 1)) 50 (plF Y sj (q + 2))))
                refine PW_pop c_M_guests_206 rfl ?_
                refine PW_iinc (i := 4) (v := (nI k) + 1) (L2 := [some (.ref 70), some (.int (nI sj)), some (.int a2), some (.int (nI N)), some (.int ((nI k) + 1)), some (.long (a2.toInt64 + ((3 * (nI k)).toInt64))), none, some (.int ((60 * (nI sj)) + ((a2.toInt64 + ((3 * (nI k)).toInt64)).toInt32)))]) c_M_guests_207 rfl (iinc_v (by decide)) (Nat.le_of_ble_eq_true rfl) rfl rfl ?_
                refine PW_goto c_M_guests_210 ?_
                refine PW.eqL ?_ rfl rfl (H2 (l5 := some (.long (a2.toInt64 + ((3 * (nI k)).toInt64)))) (l6 := none) (l7 := some (.int ((60 * (nI sj)) + ((a2.toInt64 + ((3 * (nI k)).toInt64)).toInt32)))) h)
                show ([some (.ref 70), some (.int (nI sj)), some (.int a2), some (.int (nI N)), some (.int ((nI k) + 1)), some (.long (a2.toInt64 + ((3 * (nI k)).toInt64))), none, some (.int ((60 * (nI sj)) + ((a2.toInt64 + ((3 * (nI k)).toInt64)).toInt32)))] : List (Option Value)) = _
                rw [nI_1]
          · by_cases h10 : nG Y = 10
            · skip
              refine ⟨nI k, X, Y, hC, hfx, hfy, Nat.le_refl _, fun {z post y0 l7} h => ?_, fun {z post x0 l5 l6 l7} h => ?_⟩
              · skip
                refine PW_iload c_G_guests_44 rfl ?_
                refine PW_iload_n c_G_guests_46 rfl ?_
                refine PW_icmp_ge c_G_guests_47 (fun h0 => absurd h0 (fun q => absurd ((nI_leI (by omega) (by omega)).mp q) (by omega))) (fun h0 => ?_)
                refine PW_iload_n c_G_guests_50 rfl ?_
                refine PW_if_lt c_G_guests_51 (fun h1 => absurd h1 (by rw [Int32.lt_iff_toInt_lt, tiA.1]; omega)) (fun h1 => ?_)
                refine PW_iload_n c_G_guests_54 rfl ?_
                refine PW_bipush (v := 60) c_G_guests_55 (by decide) ?_
                refine PW_icmp_le c_G_guests_57 (fun h2 => ?_) (fun h2 => absurd (by rw [Int32.le_iff_toInt_le, show (60 : Int32).toInt = 60 by decide]; omega) h2)
                refine PW_iload_n c_G_guests_65 rfl ?_
                refine PW_iconst (v := 3) c_G_guests_66 (by decide) ?_
                refine PW_iload c_G_guests_67 rfl ?_
                refine PW_imul c_G_guests_69 ?_
                refine PW_iadd c_G_guests_70 ?_
                rw [hqe]
                show PW _ _ _ 71 [some (.ref 5), some (.int a1), some (.int a2), some (.int (nI N)), some (.ref (58 + 2 * sj)), some (.int (nI k)), some (.int (nI k)), l7] [.int (nI q)] (E X y0)
                refine PW_istore (i := 7) (L2 := [some (.ref 5), some (.int a1), some (.int a2), some (.int (nI N)), some (.ref (58 + 2 * sj)), some (.int (nI k)), some (.int (nI k)), some (.int (nI q))]) c_G_guests_71 (Nat.le_of_ble_eq_true rfl) rfl rfl ?_
                refine PW_aload_n c_G_guests_73 rfl ?_
                refine PW_aload c_G_guests_74 rfl ?_
                refine PW_iload c_G_guests_76 rfl ?_
                refine PW_V0 (d2 := 5) (st := []) [.ref (58 + 2 * sj), .int (nI q)] c_G_guests_78 lk_G_guests_110 (po_5 _ _) rfl rfl rfl (Nat.le_of_ble_eq_true rfl) (by first | decide | omega) (Nat.le_of_ble_eq_true rfl) ?_
                refine sp_wf1 (y0 := Y) hsj hXb hXz hn hXR hq3 hgd ?_
                show PW _ _ _ 81 [some (.ref 5), some (.int a1), some (.int a2), some (.int (nI N)), some (.ref (58 + 2 * sj)), some (.int (nI k)), some (.int (nI k)), some (.int (nI q))] [.int 0] (E X y0)
                refine PW_if_ne c_G_guests_81 (fun h3 => absurd (by decide) h3) (fun _ => ?_)
                refine PW_goto c_G_guests_84 ?_
                refine PW_iload c_G_guests_96 rfl ?_
                refine PW_ireturn (ty := .int) c_G_guests_98 rfl rfl ?_
                exact h
              · skip
                refine PW_iload c_M_guests_58 rfl ?_
                refine PW_iload_n c_M_guests_60 rfl ?_
                refine PW_icmp_ge c_M_guests_61 (fun h0 => absurd h0 (fun q => absurd ((nI_leI (by omega) (by omega)).mp q) (by omega))) (fun h0 => ?_)
                refine PW_iload_n c_M_guests_64 rfl ?_
                refine PW_i2l c_M_guests_65 ?_
                refine PW_iconst (v := 3) c_M_guests_66 (by decide) ?_
                refine PW_iload c_M_guests_67 rfl ?_
                refine PW_imul c_M_guests_69 ?_
                refine PW_i2l c_M_guests_70 ?_
                refine PW_ladd c_M_guests_71 ?_
                refine PW_lstore (i := 5) (L2 := [some (.ref 70), some (.int (nI sj)), some (.int a2), some (.int (nI N)), some (.int (nI k)), some (.long (a2.toInt64 + ((3 * (nI k)).toInt64))), none, l7]) c_M_guests_72 (Nat.le_of_ble_eq_true rfl) rfl rfl ?_
                refine PW_lload c_M_guests_74 rfl ?_
                refine PW_lconst (v := 0) c_M_guests_76 (by decide) ?_
                refine PW_lcmp c_M_guests_77 ?_
                refine PW_if_lt c_M_guests_78 (fun h1 => absurd h1 (fun z => by rw [lg_lt, (at_ti (by omega)).1, show (0 : Int64).toInt = 0 by decide] at z; omega)) (fun h1 => ?_)
                refine PW_lload c_M_guests_81 rfl ?_
                refine PW_ldc2 c_M_guests_83 kk_M_146 ?_
                refine PW_ladd c_M_guests_86 ?_
                refine PW_aload_n c_M_guests_87 rfl ?_
                refine PW_get (v := .ref 105) c_M_guests_88 fl_M_114 (gf_70_54 _ _) ?_
                refine PW_iload_n c_M_guests_91 rfl ?_
                refine PW_iald (j := sj) c_M_guests_92 (ar_105 _ _) (vp_in_nI hsj (by decide)) (nI_clamp (by omega)) ?_
                show PW _ _ _ 93 [some (.ref 70), some (.int (nI sj)), some (.int a2), some (.int (nI N)), some (.int (nI k)), some (.long (a2.toInt64 + ((3 * (nI k)).toInt64))), none, l7] [.int ((Y.2.1 105) sj), .long ((a2.toInt64 + ((3 * (nI k)).toInt64)) + 2)] (E x0 Y)
                refine PW_i2l c_M_guests_93 ?_
                refine PW_lcmp c_M_guests_94 ?_
                refine PW_if_ge c_M_guests_95 (fun h2 => absurd h2 (fun z => by rw [lg_ge, (at_ti (by omega)).2, hYz, Int32.toInt_toInt64, nI_toInt (by omega)] at z; omega)) (fun h2 => ?_)
                refine PW_aload_n c_M_guests_98 rfl ?_
                refine PW_get (v := .int (Y.1 561)) c_M_guests_99 fl_M_128 (gf_70_1 _ _) ?_
                refine PW_bipush (v := 10) c_M_guests_102 (by decide) ?_
                refine PW_icmp_ne c_M_guests_104 (fun h3 => absurd h3 (not_not_intro (by rw [hC.1.1, h10]; rfl))) (fun h3 => ?_)
                refine PW_iload c_M_guests_107 rfl ?_
                refine PW_ireturn (ty := .int) c_M_guests_109 rfl rfl ?_
                exact h
            · by_cases k1 : 0 ≤ (plF Y sj q) ∧ (plF Y sj q) ≤ 4
              · by_cases k2 : 0 ≤ (plF Y sj (q + 1)) ∧ (plF Y sj (q + 1)) ≤ 4
                · have k3 : ¬ (0 ≤ plF Y sj (q + 2) ∧ plF Y sj (q + 2) ≤ 9) := fun q => hgd ⟨k1, k2, by simp only [Int32.le_iff_toInt_le, tiA] at q; exact q⟩
                  refine ⟨nI k, X, Y, hC, hfx, hfy, Nat.le_refl _, fun {z post y0 l7} h => ?_, fun {z post x0 l5 l6 l7} h => ?_⟩
                  · skip
                    refine PW_iload c_G_guests_44 rfl ?_
                    refine PW_iload_n c_G_guests_46 rfl ?_
                    refine PW_icmp_ge c_G_guests_47 (fun h0 => absurd h0 (fun q => absurd ((nI_leI (by omega) (by omega)).mp q) (by omega))) (fun h0 => ?_)
                    refine PW_iload_n c_G_guests_50 rfl ?_
                    refine PW_if_lt c_G_guests_51 (fun h1 => absurd h1 (by rw [Int32.lt_iff_toInt_lt, tiA.1]; omega)) (fun h1 => ?_)
                    refine PW_iload_n c_G_guests_54 rfl ?_
                    refine PW_bipush (v := 60) c_G_guests_55 (by decide) ?_
                    refine PW_icmp_le c_G_guests_57 (fun h2 => ?_) (fun h2 => absurd (by rw [Int32.le_iff_toInt_le, show (60 : Int32).toInt = 60 by decide]; omega) h2)
                    refine PW_iload_n c_G_guests_65 rfl ?_
                    refine PW_iconst (v := 3) c_G_guests_66 (by decide) ?_
                    refine PW_iload c_G_guests_67 rfl ?_
                    refine PW_imul c_G_guests_69 ?_
                    refine PW_iadd c_G_guests_70 ?_
                    rw [hqe]
                    show PW _ _ _ 71 [some (.ref 5), some (.int a1), some (.int a2), some (.int (nI N)), some (.ref (58 + 2 * sj)), some (.int (nI k)), some (.int (nI k)), l7] [.int (nI q)] (E X y0)
                    refine PW_istore (i := 7) (L2 := [some (.ref 5), some (.int a1), some (.int a2), some (.int (nI N)), some (.ref (58 + 2 * sj)), some (.int (nI k)), some (.int (nI k)), some (.int (nI q))]) c_G_guests_71 (Nat.le_of_ble_eq_true rfl) rfl rfl ?_
                    refine PW_aload_n c_G_guests_73 rfl ?_
                    refine PW_aload c_G_guests_74 rfl ?_
                    refine PW_iload c_G_guests_76 rfl ?_
                    refine PW_V0 (d2 := 5) (st := []) [.ref (58 + 2 * sj), .int (nI q)] c_G_guests_78 lk_G_guests_110 (po_5 _ _) rfl rfl rfl (Nat.le_of_ble_eq_true rfl) (by first | decide | omega) (Nat.le_of_ble_eq_true rfl) ?_
                    refine sp_wf1 (y0 := Y) hsj hXb hXz hn hXR hq3 hgd ?_
                    show PW _ _ _ 81 [some (.ref 5), some (.int a1), some (.int a2), some (.int (nI N)), some (.ref (58 + 2 * sj)), some (.int (nI k)), some (.int (nI k)), some (.int (nI q))] [.int 0] (E X y0)
                    refine PW_if_ne c_G_guests_81 (fun h3 => absurd (by decide) h3) (fun _ => ?_)
                    refine PW_goto c_G_guests_84 ?_
                    refine PW_iload c_G_guests_96 rfl ?_
                    refine PW_ireturn (ty := .int) c_G_guests_98 rfl rfl ?_
                    exact h
                  · skip
                    refine PW_iload c_M_guests_58 rfl ?_
                    refine PW_iload_n c_M_guests_60 rfl ?_
                    refine PW_icmp_ge c_M_guests_61 (fun h0 => absurd h0 (fun q => absurd ((nI_leI (by omega) (by omega)).mp q) (by omega))) (fun h0 => ?_)
                    refine PW_iload_n c_M_guests_64 rfl ?_
                    refine PW_i2l c_M_guests_65 ?_
                    refine PW_iconst (v := 3) c_M_guests_66 (by decide) ?_
                    refine PW_iload c_M_guests_67 rfl ?_
                    refine PW_imul c_M_guests_69 ?_
                    refine PW_i2l c_M_guests_70 ?_
                    refine PW_ladd c_M_guests_71 ?_
                    refine PW_lstore (i := 5) (L2 := [some (.ref 70), some (.int (nI sj)), some (.int a2), some (.int (nI N)), some (.int (nI k)), some (.long (a2.toInt64 + ((3 * (nI k)).toInt64))), none, l7]) c_M_guests_72 (Nat.le_of_ble_eq_true rfl) rfl rfl ?_
                    refine PW_lload c_M_guests_74 rfl ?_
                    refine PW_lconst (v := 0) c_M_guests_76 (by decide) ?_
                    refine PW_lcmp c_M_guests_77 ?_
                    refine PW_if_lt c_M_guests_78 (fun h1 => absurd h1 (fun z => by rw [lg_lt, (at_ti (by omega)).1, show (0 : Int64).toInt = 0 by decide] at z; omega)) (fun h1 => ?_)
                    refine PW_lload c_M_guests_81 rfl ?_
                    refine PW_ldc2 c_M_guests_83 kk_M_146 ?_
                    refine PW_ladd c_M_guests_86 ?_
                    refine PW_aload_n c_M_guests_87 rfl ?_
                    refine PW_get (v := .ref 105) c_M_guests_88 fl_M_114 (gf_70_54 _ _) ?_
                    refine PW_iload_n c_M_guests_91 rfl ?_
                    refine PW_iald (j := sj) c_M_guests_92 (ar_105 _ _) (vp_in_nI hsj (by decide)) (nI_clamp (by omega)) ?_
                    show PW _ _ _ 93 [some (.ref 70), some (.int (nI sj)), some (.int a2), some (.int (nI N)), some (.int (nI k)), some (.long (a2.toInt64 + ((3 * (nI k)).toInt64))), none, l7] [.int ((Y.2.1 105) sj), .long ((a2.toInt64 + ((3 * (nI k)).toInt64)) + 2)] (E x0 Y)
                    refine PW_i2l c_M_guests_93 ?_
                    refine PW_lcmp c_M_guests_94 ?_
                    refine PW_if_ge c_M_guests_95 (fun h2 => absurd h2 (fun z => by rw [lg_ge, (at_ti (by omega)).2, hYz, Int32.toInt_toInt64, nI_toInt (by omega)] at z; omega)) (fun h2 => ?_)
                    refine PW_aload_n c_M_guests_98 rfl ?_
                    refine PW_get (v := .int (Y.1 561)) c_M_guests_99 fl_M_128 (gf_70_1 _ _) ?_
                    refine PW_bipush (v := 10) c_M_guests_102 (by decide) ?_
                    refine PW_icmp_ne c_M_guests_104 (fun h3 => ?_) (fun h3 => absurd h3 (by rw [hC.1.1]; exact fun q => h10 ((nI_eq (by omega) (by decide)).mp (show nI (nG Y) = nI 10 from q))))
                    refine PW_bipush (v := 60) c_M_guests_110 (by decide) ?_
                    refine PW_iload_n c_M_guests_112 rfl ?_
                    refine PW_imul c_M_guests_113 ?_
                    refine PW_lload c_M_guests_114 rfl ?_
                    refine PW_l2i c_M_guests_116 ?_
                    refine PW_iadd c_M_guests_117 ?_
                    refine PW_istore (i := 7) (L2 := [some (.ref 70), some (.int (nI sj)), some (.int a2), some (.int (nI N)), some (.int (nI k)), some (.long (a2.toInt64 + ((3 * (nI k)).toInt64))), none, some (.int ((60 * (nI sj)) + ((a2.toInt64 + ((3 * (nI k)).toInt64)).toInt32)))]) c_M_guests_118 (Nat.le_of_ble_eq_true rfl) rfl rfl ?_
                    refine PW_aload_n c_M_guests_120 rfl ?_
                    refine PW_get (v := .ref 106) c_M_guests_121 fl_M_117 (gf_70_55 _ _) ?_
                    refine PW_iload c_M_guests_124 rfl ?_
                    refine PW_lald (j := 60 * sj + q) c_M_guests_126 (ar_106 _ _) (by rw [at_32 (by omega) hq0 (by omega), show (60 : Int32) = nI 60 from rfl, pk_mul, nI_add]; exact vp_in_nI (by omega) (by decide)) (by rw [at_32 (by omega) hq0 (by omega), show (60 : Int32) = nI 60 from rfl, pk_mul, nI_add]; exact nI_clamp (by omega)) ?_
                    show PW _ _ _ 127 [some (.ref 70), some (.int (nI sj)), some (.int a2), some (.int (nI N)), some (.int (nI k)), some (.long (a2.toInt64 + ((3 * (nI k)).toInt64))), none, some (.int ((60 * (nI sj)) + ((a2.toInt64 + ((3 * (nI k)).toInt64)).toInt32)))] [.long ((Y.2.2 106) (60 * sj + q))] (E x0 Y)
                    refine PW_l2i c_M_guests_127 ?_
                    refine PW_S0 (d2 := 1) (st := []) [.int (((Y.2.2 106) (60 * sj + q)).toInt32)] c_M_guests_128 lk_M_guests_135 rfl rfl rfl (Nat.le_of_ble_eq_true rfl) (by first | decide | omega) (Nat.le_of_ble_eq_true rfl) ?_
                    refine sp_M_isRoom  ?_
                    show PW _ _ _ 131 [some (.ref 70), some (.int (nI sj)), some (.int a2), some (.int (nI N)), some (.int (nI k)), some (.long (a2.toInt64 + ((3 * (nI k)).toInt64))), none, some (.int ((60 * (nI sj)) + ((a2.toInt64 + ((3 * (nI k)).toInt64)).toInt32)))] [.int (b2i (0 ≤ (((Y.2.2 106) (60 * sj + q)).toInt32) ∧ (((Y.2.2 106) (60 * sj + q)).toInt32) ≤ 4))] (E x0 Y)
                    refine PW_if_eq c_M_guests_131 (fun h4 => absurd k1 (b2i_0.mp h4)) (fun _ => ?_)
                    refine PW_aload_n c_M_guests_134 rfl ?_
                    refine PW_get (v := .ref 106) c_M_guests_135 fl_M_117 (gf_70_55 _ _) ?_
                    refine PW_iload c_M_guests_138 rfl ?_
                    refine PW_iconst (v := 1) c_M_guests_140 (by decide) ?_
                    refine PW_iadd c_M_guests_141 ?_
                    refine PW_lald (j := 60 * sj + (q + 1)) c_M_guests_142 (ar_106 _ _) (by rw [at_32 (by omega) hq0 (by omega), show (60 : Int32) = nI 60 from rfl, pk_mul, nI_add, show (1 : Int32) = nI 1 from rfl, nI_add, Nat.add_assoc]; exact vp_in_nI (by omega) (by decide)) (by rw [at_32 (by omega) hq0 (by omega), show (60 : Int32) = nI 60 from rfl, pk_mul, nI_add, show (1 : Int32) = nI 1 from rfl, nI_add, Nat.add_assoc]; exact nI_clamp (by omega)) ?_
                    show PW _ _ _ 143 [some (.ref 70), some (.int (nI sj)), some (.int a2), some (.int (nI N)), some (.int (nI k)), some (.long (a2.toInt64 + ((3 * (nI k)).toInt64))), none, some (.int ((60 * (nI sj)) + ((a2.toInt64 + ((3 * (nI k)).toInt64)).toInt32)))] [.long ((Y.2.2 106) (60 * sj + (q + 1)))] (E x0 Y)
                    refine PW_l2i c_M_guests_143 ?_
                    refine PW_S0 (d2 := 1) (st := []) [.int (((Y.2.2 106) (60 * sj + (q + 1))).toInt32)] c_M_guests_144 lk_M_guests_135 rfl rfl rfl (Nat.le_of_ble_eq_true rfl) (by first | decide | omega) (Nat.le_of_ble_eq_true rfl) ?_
                    refine sp_M_isRoom  ?_
                    show PW _ _ _ 147 [some (.ref 70), some (.int (nI sj)), some (.int a2), some (.int (nI N)), some (.int (nI k)), some (.long (a2.toInt64 + ((3 * (nI k)).toInt64))), none, some (.int ((60 * (nI sj)) + ((a2.toInt64 + ((3 * (nI k)).toInt64)).toInt32)))] [.int (b2i (0 ≤ (((Y.2.2 106) (60 * sj + (q + 1))).toInt32) ∧ (((Y.2.2 106) (60 * sj + (q + 1))).toInt32) ≤ 4))] (E x0 Y)
                    refine PW_if_eq c_M_guests_147 (fun h5 => absurd k2 (b2i_0.mp h5)) (fun _ => ?_)
                    refine PW_aload_n c_M_guests_150 rfl ?_
                    refine PW_get (v := .ref 106) c_M_guests_151 fl_M_117 (gf_70_55 _ _) ?_
                    refine PW_iload c_M_guests_154 rfl ?_
                    refine PW_iconst (v := 2) c_M_guests_156 (by decide) ?_
                    refine PW_iadd c_M_guests_157 ?_
                    refine PW_lald (j := 60 * sj + (q + 2)) c_M_guests_158 (ar_106 _ _) (by rw [at_32 (by omega) hq0 (by omega), show (60 : Int32) = nI 60 from rfl, pk_mul, nI_add, show (2 : Int32) = nI 2 from rfl, nI_add, Nat.add_assoc]; exact vp_in_nI (by omega) (by decide)) (by rw [at_32 (by omega) hq0 (by omega), show (60 : Int32) = nI 60 from rfl, pk_mul, nI_add, show (2 : Int32) = nI 2 from rfl, nI_add, Nat.add_assoc]; exact nI_clamp (by omega)) ?_
                    show PW _ _ _ 159 [some (.ref 70), some (.int (nI sj)), some (.int a2), some (.int (nI N)), some (.int (nI k)), some (.long (a2.toInt64 + ((3 * (nI k)).toInt64))), none, some (.int ((60 * (nI sj)) + ((a2.toInt64 + ((3 * (nI k)).toInt64)).toInt32)))] [.long ((Y.2.2 106) (60 * sj + (q + 2)))] (E x0 Y)
                    refine PW_l2i c_M_guests_159 ?_
                    refine PW_iconst (v := 0) c_M_guests_160 (by decide) ?_
                    refine PW_bipush (v := 9) c_M_guests_161 (by decide) ?_
                    refine PW_S0 (d2 := 0) (st := []) [.int (((Y.2.2 106) (60 * sj + (q + 2))).toInt32), .int 0, .int 9] c_M_guests_163 lk_M_guests_131 rfl rfl rfl (Nat.le_of_ble_eq_true rfl) (by first | decide | omega) (Nat.le_of_ble_eq_true rfl) ?_
                    refine sp_M_within  ?_
                    show PW _ _ _ 166 [some (.ref 70), some (.int (nI sj)), some (.int a2), some (.int (nI N)), some (.int (nI k)), some (.long (a2.toInt64 + ((3 * (nI k)).toInt64))), none, some (.int ((60 * (nI sj)) + ((a2.toInt64 + ((3 * (nI k)).toInt64)).toInt32)))] [.int (b2i ((0 : Int32) ≤ (((Y.2.2 106) (60 * sj + (q + 2))).toInt32) ∧ (((Y.2.2 106) (60 * sj + (q + 2))).toInt32) ≤ (9 : Int32)))] (E x0 Y)
                    refine PW_if_ne c_M_guests_166 (fun h6 => absurd (b2i_n0.mp h6) k3) (fun _ => ?_)
                    refine PW_iload c_M_guests_169 rfl ?_
                    refine PW_ireturn (ty := .int) c_M_guests_171 rfl rfl ?_
                    exact h
                · skip
                  refine ⟨nI k, X, Y, hC, hfx, hfy, Nat.le_refl _, fun {z post y0 l7} h => ?_, fun {z post x0 l5 l6 l7} h => ?_⟩
                  · skip
                    refine PW_iload c_G_guests_44 rfl ?_
                    refine PW_iload_n c_G_guests_46 rfl ?_
                    refine PW_icmp_ge c_G_guests_47 (fun h0 => absurd h0 (fun q => absurd ((nI_leI (by omega) (by omega)).mp q) (by omega))) (fun h0 => ?_)
                    refine PW_iload_n c_G_guests_50 rfl ?_
                    refine PW_if_lt c_G_guests_51 (fun h1 => absurd h1 (by rw [Int32.lt_iff_toInt_lt, tiA.1]; omega)) (fun h1 => ?_)
                    refine PW_iload_n c_G_guests_54 rfl ?_
                    refine PW_bipush (v := 60) c_G_guests_55 (by decide) ?_
                    refine PW_icmp_le c_G_guests_57 (fun h2 => ?_) (fun h2 => absurd (by rw [Int32.le_iff_toInt_le, show (60 : Int32).toInt = 60 by decide]; omega) h2)
                    refine PW_iload_n c_G_guests_65 rfl ?_
                    refine PW_iconst (v := 3) c_G_guests_66 (by decide) ?_
                    refine PW_iload c_G_guests_67 rfl ?_
                    refine PW_imul c_G_guests_69 ?_
                    refine PW_iadd c_G_guests_70 ?_
                    rw [hqe]
                    show PW _ _ _ 71 [some (.ref 5), some (.int a1), some (.int a2), some (.int (nI N)), some (.ref (58 + 2 * sj)), some (.int (nI k)), some (.int (nI k)), l7] [.int (nI q)] (E X y0)
                    refine PW_istore (i := 7) (L2 := [some (.ref 5), some (.int a1), some (.int a2), some (.int (nI N)), some (.ref (58 + 2 * sj)), some (.int (nI k)), some (.int (nI k)), some (.int (nI q))]) c_G_guests_71 (Nat.le_of_ble_eq_true rfl) rfl rfl ?_
                    refine PW_aload_n c_G_guests_73 rfl ?_
                    refine PW_aload c_G_guests_74 rfl ?_
                    refine PW_iload c_G_guests_76 rfl ?_
                    refine PW_V0 (d2 := 5) (st := []) [.ref (58 + 2 * sj), .int (nI q)] c_G_guests_78 lk_G_guests_110 (po_5 _ _) rfl rfl rfl (Nat.le_of_ble_eq_true rfl) (by first | decide | omega) (Nat.le_of_ble_eq_true rfl) ?_
                    refine sp_wf1 (y0 := Y) hsj hXb hXz hn hXR hq3 hgd ?_
                    show PW _ _ _ 81 [some (.ref 5), some (.int a1), some (.int a2), some (.int (nI N)), some (.ref (58 + 2 * sj)), some (.int (nI k)), some (.int (nI k)), some (.int (nI q))] [.int 0] (E X y0)
                    refine PW_if_ne c_G_guests_81 (fun h3 => absurd (by decide) h3) (fun _ => ?_)
                    refine PW_goto c_G_guests_84 ?_
                    refine PW_iload c_G_guests_96 rfl ?_
                    refine PW_ireturn (ty := .int) c_G_guests_98 rfl rfl ?_
                    exact h
                  · skip
                    refine PW_iload c_M_guests_58 rfl ?_
                    refine PW_iload_n c_M_guests_60 rfl ?_
                    refine PW_icmp_ge c_M_guests_61 (fun h0 => absurd h0 (fun q => absurd ((nI_leI (by omega) (by omega)).mp q) (by omega))) (fun h0 => ?_)
                    refine PW_iload_n c_M_guests_64 rfl ?_
                    refine PW_i2l c_M_guests_65 ?_
                    refine PW_iconst (v := 3) c_M_guests_66 (by decide) ?_
                    refine PW_iload c_M_guests_67 rfl ?_
                    refine PW_imul c_M_guests_69 ?_
                    refine PW_i2l c_M_guests_70 ?_
                    refine PW_ladd c_M_guests_71 ?_
                    refine PW_lstore (i := 5) (L2 := [some (.ref 70), some (.int (nI sj)), some (.int a2), some (.int (nI N)), some (.int (nI k)), some (.long (a2.toInt64 + ((3 * (nI k)).toInt64))), none, l7]) c_M_guests_72 (Nat.le_of_ble_eq_true rfl) rfl rfl ?_
                    refine PW_lload c_M_guests_74 rfl ?_
                    refine PW_lconst (v := 0) c_M_guests_76 (by decide) ?_
                    refine PW_lcmp c_M_guests_77 ?_
                    refine PW_if_lt c_M_guests_78 (fun h1 => absurd h1 (fun z => by rw [lg_lt, (at_ti (by omega)).1, show (0 : Int64).toInt = 0 by decide] at z; omega)) (fun h1 => ?_)
                    refine PW_lload c_M_guests_81 rfl ?_
                    refine PW_ldc2 c_M_guests_83 kk_M_146 ?_
                    refine PW_ladd c_M_guests_86 ?_
                    refine PW_aload_n c_M_guests_87 rfl ?_
                    refine PW_get (v := .ref 105) c_M_guests_88 fl_M_114 (gf_70_54 _ _) ?_
                    refine PW_iload_n c_M_guests_91 rfl ?_
                    refine PW_iald (j := sj) c_M_guests_92 (ar_105 _ _) (vp_in_nI hsj (by decide)) (nI_clamp (by omega)) ?_
                    show PW _ _ _ 93 [some (.ref 70), some (.int (nI sj)), some (.int a2), some (.int (nI N)), some (.int (nI k)), some (.long (a2.toInt64 + ((3 * (nI k)).toInt64))), none, l7] [.int ((Y.2.1 105) sj), .long ((a2.toInt64 + ((3 * (nI k)).toInt64)) + 2)] (E x0 Y)
                    refine PW_i2l c_M_guests_93 ?_
                    refine PW_lcmp c_M_guests_94 ?_
                    refine PW_if_ge c_M_guests_95 (fun h2 => absurd h2 (fun z => by rw [lg_ge, (at_ti (by omega)).2, hYz, Int32.toInt_toInt64, nI_toInt (by omega)] at z; omega)) (fun h2 => ?_)
                    refine PW_aload_n c_M_guests_98 rfl ?_
                    refine PW_get (v := .int (Y.1 561)) c_M_guests_99 fl_M_128 (gf_70_1 _ _) ?_
                    refine PW_bipush (v := 10) c_M_guests_102 (by decide) ?_
                    refine PW_icmp_ne c_M_guests_104 (fun h3 => ?_) (fun h3 => absurd h3 (by rw [hC.1.1]; exact fun q => h10 ((nI_eq (by omega) (by decide)).mp (show nI (nG Y) = nI 10 from q))))
                    refine PW_bipush (v := 60) c_M_guests_110 (by decide) ?_
                    refine PW_iload_n c_M_guests_112 rfl ?_
                    refine PW_imul c_M_guests_113 ?_
                    refine PW_lload c_M_guests_114 rfl ?_
                    refine PW_l2i c_M_guests_116 ?_
                    refine PW_iadd c_M_guests_117 ?_
                    refine PW_istore (i := 7) (L2 := [some (.ref 70), some (.int (nI sj)), some (.int a2), some (.int (nI N)), some (.int (nI k)), some (.long (a2.toInt64 + ((3 * (nI k)).toInt64))), none, some (.int ((60 * (nI sj)) + ((a2.toInt64 + ((3 * (nI k)).toInt64)).toInt32)))]) c_M_guests_118 (Nat.le_of_ble_eq_true rfl) rfl rfl ?_
                    refine PW_aload_n c_M_guests_120 rfl ?_
                    refine PW_get (v := .ref 106) c_M_guests_121 fl_M_117 (gf_70_55 _ _) ?_
                    refine PW_iload c_M_guests_124 rfl ?_
                    refine PW_lald (j := 60 * sj + q) c_M_guests_126 (ar_106 _ _) (by rw [at_32 (by omega) hq0 (by omega), show (60 : Int32) = nI 60 from rfl, pk_mul, nI_add]; exact vp_in_nI (by omega) (by decide)) (by rw [at_32 (by omega) hq0 (by omega), show (60 : Int32) = nI 60 from rfl, pk_mul, nI_add]; exact nI_clamp (by omega)) ?_
                    show PW _ _ _ 127 [some (.ref 70), some (.int (nI sj)), some (.int a2), some (.int (nI N)), some (.int (nI k)), some (.long (a2.toInt64 + ((3 * (nI k)).toInt64))), none, some (.int ((60 * (nI sj)) + ((a2.toInt64 + ((3 * (nI k)).toInt64)).toInt32)))] [.long ((Y.2.2 106) (60 * sj + q))] (E x0 Y)
                    refine PW_l2i c_M_guests_127 ?_
                    refine PW_S0 (d2 := 1) (st := []) [.int (((Y.2.2 106) (60 * sj + q)).toInt32)] c_M_guests_128 lk_M_guests_135 rfl rfl rfl (Nat.le_of_ble_eq_true rfl) (by first | decide | omega) (Nat.le_of_ble_eq_true rfl) ?_
                    refine sp_M_isRoom  ?_
                    show PW _ _ _ 131 [some (.ref 70), some (.int (nI sj)), some (.int a2), some (.int (nI N)), some (.int (nI k)), some (.long (a2.toInt64 + ((3 * (nI k)).toInt64))), none, some (.int ((60 * (nI sj)) + ((a2.toInt64 + ((3 * (nI k)).toInt64)).toInt32)))] [.int (b2i (0 ≤ (((Y.2.2 106) (60 * sj + q)).toInt32) ∧ (((Y.2.2 106) (60 * sj + q)).toInt32) ≤ 4))] (E x0 Y)
                    refine PW_if_eq c_M_guests_131 (fun h4 => absurd k1 (b2i_0.mp h4)) (fun _ => ?_)
                    refine PW_aload_n c_M_guests_134 rfl ?_
                    refine PW_get (v := .ref 106) c_M_guests_135 fl_M_117 (gf_70_55 _ _) ?_
                    refine PW_iload c_M_guests_138 rfl ?_
                    refine PW_iconst (v := 1) c_M_guests_140 (by decide) ?_
                    refine PW_iadd c_M_guests_141 ?_
                    refine PW_lald (j := 60 * sj + (q + 1)) c_M_guests_142 (ar_106 _ _) (by rw [at_32 (by omega) hq0 (by omega), show (60 : Int32) = nI 60 from rfl, pk_mul, nI_add, show (1 : Int32) = nI 1 from rfl, nI_add, Nat.add_assoc]; exact vp_in_nI (by omega) (by decide)) (by rw [at_32 (by omega) hq0 (by omega), show (60 : Int32) = nI 60 from rfl, pk_mul, nI_add, show (1 : Int32) = nI 1 from rfl, nI_add, Nat.add_assoc]; exact nI_clamp (by omega)) ?_
                    show PW _ _ _ 143 [some (.ref 70), some (.int (nI sj)), some (.int a2), some (.int (nI N)), some (.int (nI k)), some (.long (a2.toInt64 + ((3 * (nI k)).toInt64))), none, some (.int ((60 * (nI sj)) + ((a2.toInt64 + ((3 * (nI k)).toInt64)).toInt32)))] [.long ((Y.2.2 106) (60 * sj + (q + 1)))] (E x0 Y)
                    refine PW_l2i c_M_guests_143 ?_
                    refine PW_S0 (d2 := 1) (st := []) [.int (((Y.2.2 106) (60 * sj + (q + 1))).toInt32)] c_M_guests_144 lk_M_guests_135 rfl rfl rfl (Nat.le_of_ble_eq_true rfl) (by first | decide | omega) (Nat.le_of_ble_eq_true rfl) ?_
                    refine sp_M_isRoom  ?_
                    show PW _ _ _ 147 [some (.ref 70), some (.int (nI sj)), some (.int a2), some (.int (nI N)), some (.int (nI k)), some (.long (a2.toInt64 + ((3 * (nI k)).toInt64))), none, some (.int ((60 * (nI sj)) + ((a2.toInt64 + ((3 * (nI k)).toInt64)).toInt32)))] [.int (b2i (0 ≤ (((Y.2.2 106) (60 * sj + (q + 1))).toInt32) ∧ (((Y.2.2 106) (60 * sj + (q + 1))).toInt32) ≤ 4))] (E x0 Y)
                    refine PW_if_eq c_M_guests_147 (fun _ => ?_) (fun h5 => absurd (b2i_n0.mp h5) k2)
                    refine PW_iload c_M_guests_169 rfl ?_
                    refine PW_ireturn (ty := .int) c_M_guests_171 rfl rfl ?_
                    exact h
              · skip
                refine ⟨nI k, X, Y, hC, hfx, hfy, Nat.le_refl _, fun {z post y0 l7} h => ?_, fun {z post x0 l5 l6 l7} h => ?_⟩
                · skip
                  refine PW_iload c_G_guests_44 rfl ?_
                  refine PW_iload_n c_G_guests_46 rfl ?_
                  refine PW_icmp_ge c_G_guests_47 (fun h0 => absurd h0 (fun q => absurd ((nI_leI (by omega) (by omega)).mp q) (by omega))) (fun h0 => ?_)
                  refine PW_iload_n c_G_guests_50 rfl ?_
                  refine PW_if_lt c_G_guests_51 (fun h1 => absurd h1 (by rw [Int32.lt_iff_toInt_lt, tiA.1]; omega)) (fun h1 => ?_)
                  refine PW_iload_n c_G_guests_54 rfl ?_
                  refine PW_bipush (v := 60) c_G_guests_55 (by decide) ?_
                  refine PW_icmp_le c_G_guests_57 (fun h2 => ?_) (fun h2 => absurd (by rw [Int32.le_iff_toInt_le, show (60 : Int32).toInt = 60 by decide]; omega) h2)
                  refine PW_iload_n c_G_guests_65 rfl ?_
                  refine PW_iconst (v := 3) c_G_guests_66 (by decide) ?_
                  refine PW_iload c_G_guests_67 rfl ?_
                  refine PW_imul c_G_guests_69 ?_
                  refine PW_iadd c_G_guests_70 ?_
                  rw [hqe]
                  show PW _ _ _ 71 [some (.ref 5), some (.int a1), some (.int a2), some (.int (nI N)), some (.ref (58 + 2 * sj)), some (.int (nI k)), some (.int (nI k)), l7] [.int (nI q)] (E X y0)
                  refine PW_istore (i := 7) (L2 := [some (.ref 5), some (.int a1), some (.int a2), some (.int (nI N)), some (.ref (58 + 2 * sj)), some (.int (nI k)), some (.int (nI k)), some (.int (nI q))]) c_G_guests_71 (Nat.le_of_ble_eq_true rfl) rfl rfl ?_
                  refine PW_aload_n c_G_guests_73 rfl ?_
                  refine PW_aload c_G_guests_74 rfl ?_
                  refine PW_iload c_G_guests_76 rfl ?_
                  refine PW_V0 (d2 := 5) (st := []) [.ref (58 + 2 * sj), .int (nI q)] c_G_guests_78 lk_G_guests_110 (po_5 _ _) rfl rfl rfl (Nat.le_of_ble_eq_true rfl) (by first | decide | omega) (Nat.le_of_ble_eq_true rfl) ?_
                  refine sp_wf1 (y0 := Y) hsj hXb hXz hn hXR hq3 hgd ?_
                  show PW _ _ _ 81 [some (.ref 5), some (.int a1), some (.int a2), some (.int (nI N)), some (.ref (58 + 2 * sj)), some (.int (nI k)), some (.int (nI k)), some (.int (nI q))] [.int 0] (E X y0)
                  refine PW_if_ne c_G_guests_81 (fun h3 => absurd (by decide) h3) (fun _ => ?_)
                  refine PW_goto c_G_guests_84 ?_
                  refine PW_iload c_G_guests_96 rfl ?_
                  refine PW_ireturn (ty := .int) c_G_guests_98 rfl rfl ?_
                  exact h
                · skip
                  refine PW_iload c_M_guests_58 rfl ?_
                  refine PW_iload_n c_M_guests_60 rfl ?_
                  refine PW_icmp_ge c_M_guests_61 (fun h0 => absurd h0 (fun q => absurd ((nI_leI (by omega) (by omega)).mp q) (by omega))) (fun h0 => ?_)
                  refine PW_iload_n c_M_guests_64 rfl ?_
                  refine PW_i2l c_M_guests_65 ?_
                  refine PW_iconst (v := 3) c_M_guests_66 (by decide) ?_
                  refine PW_iload c_M_guests_67 rfl ?_
                  refine PW_imul c_M_guests_69 ?_
                  refine PW_i2l c_M_guests_70 ?_
                  refine PW_ladd c_M_guests_71 ?_
                  refine PW_lstore (i := 5) (L2 := [some (.ref 70), some (.int (nI sj)), some (.int a2), some (.int (nI N)), some (.int (nI k)), some (.long (a2.toInt64 + ((3 * (nI k)).toInt64))), none, l7]) c_M_guests_72 (Nat.le_of_ble_eq_true rfl) rfl rfl ?_
                  refine PW_lload c_M_guests_74 rfl ?_
                  refine PW_lconst (v := 0) c_M_guests_76 (by decide) ?_
                  refine PW_lcmp c_M_guests_77 ?_
                  refine PW_if_lt c_M_guests_78 (fun h1 => absurd h1 (fun z => by rw [lg_lt, (at_ti (by omega)).1, show (0 : Int64).toInt = 0 by decide] at z; omega)) (fun h1 => ?_)
                  refine PW_lload c_M_guests_81 rfl ?_
                  refine PW_ldc2 c_M_guests_83 kk_M_146 ?_
                  refine PW_ladd c_M_guests_86 ?_
                  refine PW_aload_n c_M_guests_87 rfl ?_
                  refine PW_get (v := .ref 105) c_M_guests_88 fl_M_114 (gf_70_54 _ _) ?_
                  refine PW_iload_n c_M_guests_91 rfl ?_
                  refine PW_iald (j := sj) c_M_guests_92 (ar_105 _ _) (vp_in_nI hsj (by decide)) (nI_clamp (by omega)) ?_
                  show PW _ _ _ 93 [some (.ref 70), some (.int (nI sj)), some (.int a2), some (.int (nI N)), some (.int (nI k)), some (.long (a2.toInt64 + ((3 * (nI k)).toInt64))), none, l7] [.int ((Y.2.1 105) sj), .long ((a2.toInt64 + ((3 * (nI k)).toInt64)) + 2)] (E x0 Y)
                  refine PW_i2l c_M_guests_93 ?_
                  refine PW_lcmp c_M_guests_94 ?_
                  refine PW_if_ge c_M_guests_95 (fun h2 => absurd h2 (fun z => by rw [lg_ge, (at_ti (by omega)).2, hYz, Int32.toInt_toInt64, nI_toInt (by omega)] at z; omega)) (fun h2 => ?_)
                  refine PW_aload_n c_M_guests_98 rfl ?_
                  refine PW_get (v := .int (Y.1 561)) c_M_guests_99 fl_M_128 (gf_70_1 _ _) ?_
                  refine PW_bipush (v := 10) c_M_guests_102 (by decide) ?_
                  refine PW_icmp_ne c_M_guests_104 (fun h3 => ?_) (fun h3 => absurd h3 (by rw [hC.1.1]; exact fun q => h10 ((nI_eq (by omega) (by decide)).mp (show nI (nG Y) = nI 10 from q))))
                  refine PW_bipush (v := 60) c_M_guests_110 (by decide) ?_
                  refine PW_iload_n c_M_guests_112 rfl ?_
                  refine PW_imul c_M_guests_113 ?_
                  refine PW_lload c_M_guests_114 rfl ?_
                  refine PW_l2i c_M_guests_116 ?_
                  refine PW_iadd c_M_guests_117 ?_
                  refine PW_istore (i := 7) (L2 := [some (.ref 70), some (.int (nI sj)), some (.int a2), some (.int (nI N)), some (.int (nI k)), some (.long (a2.toInt64 + ((3 * (nI k)).toInt64))), none, some (.int ((60 * (nI sj)) + ((a2.toInt64 + ((3 * (nI k)).toInt64)).toInt32)))]) c_M_guests_118 (Nat.le_of_ble_eq_true rfl) rfl rfl ?_
                  refine PW_aload_n c_M_guests_120 rfl ?_
                  refine PW_get (v := .ref 106) c_M_guests_121 fl_M_117 (gf_70_55 _ _) ?_
                  refine PW_iload c_M_guests_124 rfl ?_
                  refine PW_lald (j := 60 * sj + q) c_M_guests_126 (ar_106 _ _) (by rw [at_32 (by omega) hq0 (by omega), show (60 : Int32) = nI 60 from rfl, pk_mul, nI_add]; exact vp_in_nI (by omega) (by decide)) (by rw [at_32 (by omega) hq0 (by omega), show (60 : Int32) = nI 60 from rfl, pk_mul, nI_add]; exact nI_clamp (by omega)) ?_
                  show PW _ _ _ 127 [some (.ref 70), some (.int (nI sj)), some (.int a2), some (.int (nI N)), some (.int (nI k)), some (.long (a2.toInt64 + ((3 * (nI k)).toInt64))), none, some (.int ((60 * (nI sj)) + ((a2.toInt64 + ((3 * (nI k)).toInt64)).toInt32)))] [.long ((Y.2.2 106) (60 * sj + q))] (E x0 Y)
                  refine PW_l2i c_M_guests_127 ?_
                  refine PW_S0 (d2 := 1) (st := []) [.int (((Y.2.2 106) (60 * sj + q)).toInt32)] c_M_guests_128 lk_M_guests_135 rfl rfl rfl (Nat.le_of_ble_eq_true rfl) (by first | decide | omega) (Nat.le_of_ble_eq_true rfl) ?_
                  refine sp_M_isRoom  ?_
                  show PW _ _ _ 131 [some (.ref 70), some (.int (nI sj)), some (.int a2), some (.int (nI N)), some (.int (nI k)), some (.long (a2.toInt64 + ((3 * (nI k)).toInt64))), none, some (.int ((60 * (nI sj)) + ((a2.toInt64 + ((3 * (nI k)).toInt64)).toInt32)))] [.int (b2i (0 ≤ (((Y.2.2 106) (60 * sj + q)).toInt32) ∧ (((Y.2.2 106) (60 * sj + q)).toInt32) ≤ 4))] (E x0 Y)
                  refine PW_if_eq c_M_guests_131 (fun _ => ?_) (fun h4 => absurd (b2i_n0.mp h4) k1)
                  refine PW_iload c_M_guests_169 rfl ?_
                  refine PW_ireturn (ty := .int) c_M_guests_171 rfl rfl ?_
                  exact h
        · skip
          refine ⟨nI k, X, Y, hC, hfx, hfy, Nat.le_refl _, fun {z post y0 l7} h => ?_, fun {z post x0 l5 l6 l7} h => ?_⟩
          · skip
            refine PW_iload c_G_guests_44 rfl ?_
            refine PW_iload_n c_G_guests_46 rfl ?_
            refine PW_icmp_ge c_G_guests_47 (fun h0 => absurd h0 (fun q => absurd ((nI_leI (by omega) (by omega)).mp q) (by omega))) (fun h0 => ?_)
            refine PW_iload_n c_G_guests_50 rfl ?_
            refine PW_if_lt c_G_guests_51 (fun h1 => absurd h1 (by rw [Int32.lt_iff_toInt_lt, tiA.1]; omega)) (fun h1 => ?_)
            refine PW_iload_n c_G_guests_54 rfl ?_
            refine PW_bipush (v := 60) c_G_guests_55 (by decide) ?_
            refine PW_icmp_le c_G_guests_57 (fun h2 => ?_) (fun h2 => absurd (by rw [Int32.le_iff_toInt_le, show (60 : Int32).toInt = 60 by decide]; omega) h2)
            refine PW_iload_n c_G_guests_65 rfl ?_
            refine PW_iconst (v := 3) c_G_guests_66 (by decide) ?_
            refine PW_iload c_G_guests_67 rfl ?_
            refine PW_imul c_G_guests_69 ?_
            refine PW_iadd c_G_guests_70 ?_
            refine PW_istore (i := 7) (L2 := [some (.ref 5), some (.int a1), some (.int a2), some (.int (nI N)), some (.ref (58 + 2 * sj)), some (.int (nI k)), some (.int (nI k)), some (.int (a2 + (3 * (nI k))))]) c_G_guests_71 (Nat.le_of_ble_eq_true rfl) rfl rfl ?_
            refine PW_aload_n c_G_guests_73 rfl ?_
            refine PW_aload c_G_guests_74 rfl ?_
            refine PW_iload c_G_guests_76 rfl ?_
            refine PW_V0 (d2 := 5) (st := []) [.ref (58 + 2 * sj), .int (a2 + (3 * (nI k)))] c_G_guests_78 lk_G_guests_110 (po_5 _ _) rfl rfl rfl (Nat.le_of_ble_eq_true rfl) (by first | decide | omega) (Nat.le_of_ble_eq_true rfl) ?_
            refine sp_wf0 hsj hXb hXz hn (by rw [hst]; omega) ?_
            show PW _ _ _ 81 [some (.ref 5), some (.int a1), some (.int a2), some (.int (nI N)), some (.ref (58 + 2 * sj)), some (.int (nI k)), some (.int (nI k)), some (.int (a2 + (3 * (nI k))))] [.int 0] (E X y0)
            refine PW_if_ne c_G_guests_81 (fun h3 => absurd (by decide) h3) (fun _ => ?_)
            refine PW_goto c_G_guests_84 ?_
            refine PW_iload c_G_guests_96 rfl ?_
            refine PW_ireturn (ty := .int) c_G_guests_98 rfl rfl ?_
            exact h
          · skip
            refine PW_iload c_M_guests_58 rfl ?_
            refine PW_iload_n c_M_guests_60 rfl ?_
            refine PW_icmp_ge c_M_guests_61 (fun h0 => absurd h0 (fun q => absurd ((nI_leI (by omega) (by omega)).mp q) (by omega))) (fun h0 => ?_)
            refine PW_iload_n c_M_guests_64 rfl ?_
            refine PW_i2l c_M_guests_65 ?_
            refine PW_iconst (v := 3) c_M_guests_66 (by decide) ?_
            refine PW_iload c_M_guests_67 rfl ?_
            refine PW_imul c_M_guests_69 ?_
            refine PW_i2l c_M_guests_70 ?_
            refine PW_ladd c_M_guests_71 ?_
            refine PW_lstore (i := 5) (L2 := [some (.ref 70), some (.int (nI sj)), some (.int a2), some (.int (nI N)), some (.int (nI k)), some (.long (a2.toInt64 + ((3 * (nI k)).toInt64))), none, l7]) c_M_guests_72 (Nat.le_of_ble_eq_true rfl) rfl rfl ?_
            refine PW_lload c_M_guests_74 rfl ?_
            refine PW_lconst (v := 0) c_M_guests_76 (by decide) ?_
            refine PW_lcmp c_M_guests_77 ?_
            refine PW_if_lt c_M_guests_78 (fun h1 => absurd h1 (fun z => by rw [lg_lt, (at_ti (by omega)).1, show (0 : Int64).toInt = 0 by decide] at z; omega)) (fun h1 => ?_)
            refine PW_lload c_M_guests_81 rfl ?_
            refine PW_ldc2 c_M_guests_83 kk_M_146 ?_
            refine PW_ladd c_M_guests_86 ?_
            refine PW_aload_n c_M_guests_87 rfl ?_
            refine PW_get (v := .ref 105) c_M_guests_88 fl_M_114 (gf_70_54 _ _) ?_
            refine PW_iload_n c_M_guests_91 rfl ?_
            refine PW_iald (j := sj) c_M_guests_92 (ar_105 _ _) (vp_in_nI hsj (by decide)) (nI_clamp (by omega)) ?_
            show PW _ _ _ 93 [some (.ref 70), some (.int (nI sj)), some (.int a2), some (.int (nI N)), some (.int (nI k)), some (.long (a2.toInt64 + ((3 * (nI k)).toInt64))), none, l7] [.int ((Y.2.1 105) sj), .long ((a2.toInt64 + ((3 * (nI k)).toInt64)) + 2)] (E x0 Y)
            refine PW_i2l c_M_guests_93 ?_
            refine PW_lcmp c_M_guests_94 ?_
            refine PW_if_ge c_M_guests_95 (fun h2 => ?_) (fun h2 => absurd (by rw [lg_ge, (at_ti (by omega)).2, hYz, Int32.toInt_toInt64, nI_toInt (by omega)]; omega) h2)
            refine PW_iload c_M_guests_107 rfl ?_
            refine PW_ireturn (ty := .int) c_M_guests_109 rfl rfl ?_
            exact h
