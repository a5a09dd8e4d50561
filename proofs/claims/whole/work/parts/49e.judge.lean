/-! told evenings -/
def jdF (T : Option Txt) (y : XS) (gs : Nat → Int32) (n : Nat) : Nat → Nat → Nat × Int32 × Int32 → Int32
  | 0, _, _ => -2
  | j + 1, k, s => if 2 * k + 1 < n ∧ (0 ≤ gs (2 * k) ∧ gs (2 * k) ≤ 4) then (if (stp T y (gs (2 * k)).toNatClampNeg s).2.1 = gs (2 * k + 1) then jdF T y gs n j (k + 1) (stp T y (gs (2 * k)).toNatClampNeg s) else nI k) else nI k
theorem half_all : ∀ n : Nat, n < 61 → (nI n + 1) / 2 = nI ((n + 1) / 2) := by decide +kernel
theorem dbl (k : Nat) : (2 : Int32) * nI k = nI (2 * k) := by rw [show (2 : Int32) = nI 2 from rfl, pk_mul]
set_option maxHeartbeats 1000000 in
theorem lp_G_judge {T : Option Txt} {x y : XS} {a1 a2 : Int32} {sj n M : Nat} (C : CPg x y) (hT : lawIs T x y) (hsj : sj < 6) (hb : x.1 ((58 + 2 * sj) * 8 + 1) = 2 ∧ x.1 ((58 + 2 * sj) * 8 + 3) = 0) (hz : x.1 ((58 + 2 * sj) * 8 + 4) = nI n) (hn : n ≤ 60) (hR : ∀ i, i < n → (x.2.2 (59 + 2 * sj) i).toInt32 = plF y sj i) (hM : M = (n + 1) / 2) : ∀ (j k : Nat) (X : XS) (a : Nat) (m t : Int32), k + j = M → xS x X → lvS 31 X a m t → a < 5 → 0 ≤ m.toInt ∧ m.toInt ≤ ((100 + 66 * k : Nat) : Int) → ∃ X' : XS, xS x X' ∧ ∀ {z : ZS} {post : Option Value → List PE → Prop}, post (some (.int (jdF T y (plF y sj) n j k (a, m, t)))) (E X' y) → PW (6, 0, 0, z) m_G_judge post 61 [some (.ref 5), some (.int a1), some (.int a2), some (.ref (58 + 2 * sj)), some (.int 0), some (.int (nI M)), some (.int (nI k))] [] (E X y) := by
  intro j
  induction j with
  | zero =>
    intro k X a m t hk hX hs ha hm
    refine ⟨X, hX, fun {z post} h => ?_⟩
    rw [jdF] at h
    refine PW_iload c_G_judge_61 rfl ?_
    refine PW_iload c_G_judge_63 rfl ?_
    refine PW_icmp_ge c_G_judge_65 (fun h0 => ?_) (fun h0 => absurd ((nI_leI (by omega) (by omega)).mpr (by omega)) h0)
    refine PW_bipush (v := -2) c_G_judge_89 (by decide) ?_
    refine PW_ireturn (ty := .int) c_G_judge_91 rfl rfl ?_
    exact h
  | succ j ih =>
    intro k X a m t hk hX hs ha hm
    have hXb : X.1 ((58 + 2 * sj) * 8 + 1) = 2 ∧ X.1 ((58 + 2 * sj) * 8 + 3) = 0 := by rw [hX.1 _ (by omega), hX.1 _ (by omega)]; exact hb
    have hXz : X.1 ((58 + 2 * sj) * 8 + 4) = nI n := by rw [hX.1 _ (by omega)]; exact hz
    have hXR : ∀ i, i < n → (X.2.2 (59 + 2 * sj) i).toInt32 = plF y sj i := fun i hi => by rw [hX.2.2]; exact hR i hi
    have hz2 : (X.1 ((58 + 2 * sj) * 8 + 4)).toInt = n := by rw [hXz, nI_toInt (by omega)]
    have hz0 : 0 ≤ (X.1 ((58 + 2 * sj) * 8 + 4)).toInt := by omega
    by_cases hkn : 2 * k + 1 < n
    · have hp : 0 ≤ (nI (2 * k)).toInt ∧ 0 ≤ (2 : Int32).toInt ∧ (2 : Int32).toInt ≤ (X.1 ((58 + 2 * sj) * 8 + 4)).toInt ∧ (nI (2 * k)).toInt ≤ (X.1 ((58 + 2 * sj) * 8 + 4)).toInt - (2 : Int32).toInt := by rw [hz2, nI_toInt (by omega), show (2 : Int32).toInt = 2 by decide]; omega
      by_cases hr : 0 ≤ plF y sj (2 * k) ∧ plF y sj (2 * k) ≤ 4
      · have hgk := rm_nI hr
        obtain ⟨X1, s1, hX1, H1⟩ := G_step (T := T) (b := (plF y sj (2 * k)).toNatClampNeg) C hT hX hs ha hgk.2 hm (by omega)
        have hb1 := stp_b (T := T) (t := t) C ha hgk.2 hm (by omega)
        have hX1b : X1.1 ((58 + 2 * sj) * 8 + 1) = 2 ∧ X1.1 ((58 + 2 * sj) * 8 + 3) = 0 := by rw [hX1.1 _ (by omega), hX1.1 _ (by omega)]; exact hb
        have hX1z : X1.1 ((58 + 2 * sj) * 8 + 4) = nI n := by rw [hX1.1 _ (by omega)]; exact hz
        have hX1R : ∀ i, i < n → (X1.2.2 (59 + 2 * sj) i).toInt32 = plF y sj i := fun i hi => by rw [hX1.2.2]; exact hR i hi
        by_cases hE : (stp T y (plF y sj (2 * k)).toNatClampNeg (a, m, t)).2.1 = plF y sj (2 * k + 1)
        · obtain ⟨X2, hX2, H2⟩ := ih (k + 1) X1 _ _ _ (by omega) hX1 s1 hgk.2 (by omega)
          refine ⟨X2, hX2, fun {z post} h => ?_⟩
          rw [jdF, if_pos ⟨hkn, hr⟩, if_pos hE] at h
          refine PW_iload c_G_judge_61 rfl ?_
          refine PW_iload c_G_judge_63 rfl ?_
          refine PW_icmp_ge c_G_judge_65 (fun h0 => absurd h0 (fun q => absurd ((nI_leI (by omega) (by omega)).mp q) (by omega))) (fun h0 => ?_)
          refine PW_aload_n c_G_judge_68 rfl ?_
          refine PW_aload_n c_G_judge_69 rfl ?_
          refine PW_iconst (v := 2) c_G_judge_70 (by decide) ?_
          refine PW_iload c_G_judge_71 rfl ?_
          refine PW_imul c_G_judge_73 ?_
          rw [dbl]
          show PW _ _ _ 74 [some (.ref 5), some (.int a1), some (.int a2), some (.ref (58 + 2 * sj)), some (.int 0), some (.int (nI M)), some (.int (nI k))] [.int (nI (2 * k)), .ref (58 + 2 * sj), .ref 5] (E X y)
          refine PW_V0 (d2 := 5) (st := []) [.ref (58 + 2 * sj), .int (nI (2 * k))] c_G_judge_74 lk_G_judge_258 (po_5 _ _) rfl rfl rfl (Nat.le_of_ble_eq_true rfl) (by first | decide | omega) (Nat.le_of_ble_eq_true rfl) ?_
          show PW _ _ _ 0 [some (.ref 5), some (.ref (58 + 2 * sj)), some (.int (nI (2 * k)))] [] (E X y)
          refine PW_aload_n c_G_isTrue_0 rfl ?_
          refine PW_iload_n c_G_isTrue_1 rfl ?_
          refine PW_iconst (v := 2) c_G_isTrue_2 (by decide) ?_
          refine PW_V0 (d2 := 1) (st := []) [.int (nI (2 * k)), .int 2] c_G_isTrue_3 lk_G_isTrue_114 (sh_po _ _ hsj) rfl rfl rfl (Nat.le_of_ble_eq_true rfl) (by first | decide | omega) (Nat.le_of_ble_eq_true rfl) ?_
          show PW _ _ _ 0 [some (.ref (58 + 2 * sj)), some (.int (nI (2 * k))), some (.int 2)] [] (E X y)
          refine PW_aload_n c_F_hasBytes_0 rfl ?_
          refine PW_V0 (d2 := 0) (st := []) [] c_F_hasBytes_1 lk_F_hasBytes_41 (sh_po _ _ hsj) rfl rfl rfl (Nat.le_of_ble_eq_true rfl) (by first | decide | omega) (Nat.le_of_ble_eq_true rfl) ?_
          refine sp_F_holdsBytes hsj  ?_
          show PW _ _ _ 4 [some (.ref (58 + 2 * sj)), some (.int (nI (2 * k))), some (.int 2)] [.int (b2i (X.1 ((58 + 2 * sj) * 8 + 1) = 2 ∧ X.1 ((58 + 2 * sj) * 8 + 3) = 0))] (E X y)
          refine PW_if_eq c_F_hasBytes_4 (fun h1 => absurd hXb (b2i_0.mp h1)) (fun _ => ?_)
          refine PW_aload_n c_F_hasBytes_7 rfl ?_
          refine PW_iload_n c_F_hasBytes_8 rfl ?_
          refine PW_iload_n c_F_hasBytes_9 rfl ?_
          refine PW_V0 (d2 := 0) (st := []) [.int (nI (2 * k)), .int 2] c_F_hasBytes_10 lk_F_hasBytes_47 (sh_po _ _ hsj) rfl rfl rfl (Nat.le_of_ble_eq_true rfl) (by first | decide | omega) (Nat.le_of_ble_eq_true rfl) ?_
          refine sp_F_hasPlaces hsj hz0 ?_
          show PW _ _ _ 13 [some (.ref (58 + 2 * sj)), some (.int (nI (2 * k))), some (.int 2)] [.int (b2i (0 ≤ (nI (2 * k)).toInt ∧ 0 ≤ (2 : Int32).toInt ∧ (2 : Int32).toInt ≤ (X.1 ((58 + 2 * sj) * 8 + 4)).toInt ∧ (nI (2 * k)).toInt ≤ (X.1 ((58 + 2 * sj) * 8 + 4)).toInt - (2 : Int32).toInt))] (E X y)
          refine PW_if_eq c_F_hasBytes_13 (fun h2 => absurd hp (b2i_0.mp h2)) (fun _ => ?_)
          refine PW_iconst (v := 1) c_F_hasBytes_16 (by decide) ?_
          refine PW_goto c_F_hasBytes_17 ?_
          refine PW_ireturn (ty := .boolean) c_F_hasBytes_21 rfl (by decide +kernel) ?_
          show PW _ _ _ 6 [some (.ref 5), some (.ref (58 + 2 * sj)), some (.int (nI (2 * k)))] [.int 1] (E X y)
          refine PW_if_eq c_G_isTrue_6 (fun h3 => absurd h3 (by decide)) (fun _ => ?_)
          refine PW_aload_n c_G_isTrue_9 rfl ?_
          refine PW_iload_n c_G_isTrue_10 rfl ?_
          refine PW_V0 (d2 := 2) (st := []) [.int (nI (2 * k))] c_G_isTrue_11 lk_G_isTrue_117 (sh_po _ _ hsj) rfl rfl rfl (Nat.le_of_ble_eq_true rfl) (by first | decide | omega) (Nat.le_of_ble_eq_true rfl) ?_
          refine sp_F_small hsj hXb hXz hn (i := 2 * k) rfl (by omega) ?_
          rw [if_pos (by omega), hXR (2 * k) (by omega)]
          show PW _ _ _ 14 [some (.ref 5), some (.ref (58 + 2 * sj)), some (.int (nI (2 * k)))] [.int (plF y sj (2 * k))] (E X y)
          refine PW_S0 (d2 := 0) (st := []) [.int (plF y sj (2 * k))] c_G_isTrue_14 lk_G_isTrue_121 rfl rfl rfl (Nat.le_of_ble_eq_true rfl) (by first | decide | omega) (Nat.le_of_ble_eq_true rfl) ?_
          refine sp_H_isRoom  ?_
          show PW _ _ _ 17 [some (.ref 5), some (.ref (58 + 2 * sj)), some (.int (nI (2 * k)))] [.int (b2i (0 ≤ (plF y sj (2 * k)) ∧ (plF y sj (2 * k)) ≤ 4))] (E X y)
          refine PW_if_ne c_G_isTrue_17 (fun _ => ?_) (fun h4 => absurd hr (b2i_0.mp h4))
          refine PW_aload_n c_G_isTrue_22 rfl ?_
          refine PW_get (v := .ref 31) c_G_isTrue_23 fl_G_35 (gf_5_3 _ _) ?_
          refine PW_aload_n c_G_isTrue_26 rfl ?_
          refine PW_iload_n c_G_isTrue_27 rfl ?_
          refine PW_V0 (d2 := 2) (st := [.ref 31]) [.int (nI (2 * k))] c_G_isTrue_28 lk_G_isTrue_117 (sh_po _ _ hsj) rfl rfl rfl (Nat.le_of_ble_eq_true rfl) (by first | decide | omega) (Nat.le_of_ble_eq_true rfl) ?_
          refine sp_F_small hsj hXb hXz hn (i := 2 * k) rfl (by omega) ?_
          rw [if_pos (by omega), hXR (2 * k) (by omega), hgk.1]
          show PW _ _ _ 31 [some (.ref 5), some (.ref (58 + 2 * sj)), some (.int (nI (2 * k)))] [.int (nI (plF y sj (2 * k)).toNatClampNeg), .ref 31] (E X y)
          refine PW_V0 (d2 := 3) (st := []) [.int (nI (plF y sj (2 * k)).toNatClampNeg)] c_G_isTrue_31 lk_G_isTrue_173 (po_31 _ _) rfl rfl rfl (Nat.le_of_ble_eq_true rfl) (by first | decide | omega) (Nat.le_of_ble_eq_true rfl) ?_
          refine sp_V_walkTo (o := 31) (Or.inl rfl) (CPg_S C hX (yS_0 y)) hs ha hgk.2 ?_
          show PW _ _ _ 34 [some (.ref 5), some (.ref (58 + 2 * sj)), some (.int (nI (2 * k)))] [] (E (sI (sI X (31 * 8 + 3) (m + wayN y a (plF y sj (2 * k)).toNatClampNeg)) (31 * 8 + 2) (nI (plF y sj (2 * k)).toNatClampNeg)) y)
          refine PW_aload_n c_G_isTrue_34 rfl ?_
          refine PW_get (v := .ref 31) c_G_isTrue_35 fl_G_35 (gf_5_3 _ _) ?_
          refine PW_iconst (v := 0) c_G_isTrue_38 (by decide) ?_
          refine PW_V0 (d2 := 4) (st := []) [.int 0] c_G_isTrue_39 lk_G_isTrue_177 (po_31 _ _) rfl rfl rfl (Nat.le_of_ble_eq_true rfl) (by first | decide | omega) (Nat.le_of_ble_eq_true rfl) ?_
          refine H1 ?_
          show PW _ _ _ 42 [some (.ref 5), some (.ref (58 + 2 * sj)), some (.int (nI (2 * k)))] [.int (telF y (nI (plF y sj (2 * k)).toNatClampNeg) (m + wayN y a (plF y sj (2 * k)).toNatClampNeg) t)] (E X1 y)
          refine PW_pop c_G_isTrue_42 rfl ?_
          refine PW_aload_n c_G_isTrue_43 rfl ?_
          refine PW_get (v := .ref 31) c_G_isTrue_44 fl_G_35 (gf_5_3 _ _) ?_
          refine PW_V0 (d2 := 0) (st := []) [] c_G_isTrue_47 lk_G_isTrue_180 (po_31 _ _) rfl rfl rfl (Nat.le_of_ble_eq_true rfl) (by first | decide | omega) (Nat.le_of_ble_eq_true rfl) ?_
          show PW _ _ _ 0 [some (.ref 31)] [] (E X1 y)
          refine PW_aload_n c_V_minute_0 rfl ?_
          refine PW_get (v := .int (X1.1 251)) c_V_minute_1 fl_V_27 (gf_31_3 _ _) ?_
          refine PW_ireturn (ty := .int) c_V_minute_4 rfl rfl ?_
          show PW _ _ _ 50 [some (.ref 5), some (.ref (58 + 2 * sj)), some (.int (nI (2 * k)))] [.int (X1.1 251)] (E X1 y)
          refine PW_aload_n c_G_isTrue_50 rfl ?_
          refine PW_iload_n c_G_isTrue_51 rfl ?_
          refine PW_iconst (v := 1) c_G_isTrue_52 (by decide) ?_
          refine PW_iadd c_G_isTrue_53 ?_
          refine PW_V0 (d2 := 2) (st := [.int (X1.1 251)]) [.int ((nI (2 * k)) + 1)] c_G_isTrue_54 lk_G_isTrue_117 (sh_po _ _ hsj) rfl rfl rfl (Nat.le_of_ble_eq_true rfl) (by first | decide | omega) (Nat.le_of_ble_eq_true rfl) ?_
          refine sp_F_small hsj hX1b hX1z hn (i := 2 * k + 1) (nI_1 (2 * k)) (by omega) ?_
          rw [if_pos (by omega), hX1R (2 * k + 1) (by omega)]
          show PW _ _ _ 57 [some (.ref 5), some (.ref (58 + 2 * sj)), some (.int (nI (2 * k)))] [.int (plF y sj (2 * k + 1)), .int (X1.1 251)] (E X1 y)
          refine PW_icmp_ne c_G_isTrue_57 (fun h5 => absurd h5 (not_not_intro (by rw [show X1.1 251 = (stp T y (plF y sj (2 * k)).toNatClampNeg (a, m, t)).2.1 from s1.2.1]; exact hE))) (fun h5 => ?_)
          refine PW_iconst (v := 1) c_G_isTrue_60 (by decide) ?_
          refine PW_goto c_G_isTrue_61 ?_
          refine PW_ireturn (ty := .boolean) c_G_isTrue_65 rfl (by decide +kernel) ?_
          show PW _ _ _ 77 [some (.ref 5), some (.int a1), some (.int a2), some (.ref (58 + 2 * sj)), some (.int 0), some (.int (nI M)), some (.int (nI k))] [.int 1] (E X1 y)
          refine PW_if_ne c_G_judge_77 (fun _ => ?_) (fun h6 => absurd h6 (by decide))
          refine PW_iinc (i := 6) (v := (nI k) + 1) (L2 := [some (.ref 5), some (.int a1), some (.int a2), some (.ref (58 + 2 * sj)), some (.int 0), some (.int (nI M)), some (.int ((nI k) + 1))]) c_G_judge_83 rfl (iinc_v (by decide)) (Nat.le_of_ble_eq_true rfl) rfl rfl ?_
          refine PW_goto c_G_judge_86 ?_
          refine PW.eqL ?_ rfl rfl (H2 h)
          show ([some (.ref 5), some (.int a1), some (.int a2), some (.ref (58 + 2 * sj)), some (.int 0), some (.int (nI M)), some (.int ((nI k) + 1))] : List (Option Value)) = [some (.ref 5), some (.int a1), some (.int a2), some (.ref (58 + 2 * sj)), some (.int 0), some (.int (nI M)), some (.int (nI (k + 1)))]
          rw [nI_1]
        · refine ⟨X1, hX1, fun {z post} h => ?_⟩
          rw [jdF, if_pos ⟨hkn, hr⟩, if_neg hE] at h
          refine PW_iload c_G_judge_61 rfl ?_
          refine PW_iload c_G_judge_63 rfl ?_
          refine PW_icmp_ge c_G_judge_65 (fun h0 => absurd h0 (fun q => absurd ((nI_leI (by omega) (by omega)).mp q) (by omega))) (fun h0 => ?_)
          refine PW_aload_n c_G_judge_68 rfl ?_
          refine PW_aload_n c_G_judge_69 rfl ?_
          refine PW_iconst (v := 2) c_G_judge_70 (by decide) ?_
          refine PW_iload c_G_judge_71 rfl ?_
          refine PW_imul c_G_judge_73 ?_
          rw [dbl]
          show PW _ _ _ 74 [some (.ref 5), some (.int a1), some (.int a2), some (.ref (58 + 2 * sj)), some (.int 0), some (.int (nI M)), some (.int (nI k))] [.int (nI (2 * k)), .ref (58 + 2 * sj), .ref 5] (E X y)
          refine PW_V0 (d2 := 5) (st := []) [.ref (58 + 2 * sj), .int (nI (2 * k))] c_G_judge_74 lk_G_judge_258 (po_5 _ _) rfl rfl rfl (Nat.le_of_ble_eq_true rfl) (by first | decide | omega) (Nat.le_of_ble_eq_true rfl) ?_
          show PW _ _ _ 0 [some (.ref 5), some (.ref (58 + 2 * sj)), some (.int (nI (2 * k)))] [] (E X y)
          refine PW_aload_n c_G_isTrue_0 rfl ?_
          refine PW_iload_n c_G_isTrue_1 rfl ?_
          refine PW_iconst (v := 2) c_G_isTrue_2 (by decide) ?_
          refine PW_V0 (d2 := 1) (st := []) [.int (nI (2 * k)), .int 2] c_G_isTrue_3 lk_G_isTrue_114 (sh_po _ _ hsj) rfl rfl rfl (Nat.le_of_ble_eq_true rfl) (by first | decide | omega) (Nat.le_of_ble_eq_true rfl) ?_
          show PW _ _ _ 0 [some (.ref (58 + 2 * sj)), some (.int (nI (2 * k))), some (.int 2)] [] (E X y)
          refine PW_aload_n c_F_hasBytes_0 rfl ?_
          refine PW_V0 (d2 := 0) (st := []) [] c_F_hasBytes_1 lk_F_hasBytes_41 (sh_po _ _ hsj) rfl rfl rfl (Nat.le_of_ble_eq_true rfl) (by first | decide | omega) (Nat.le_of_ble_eq_true rfl) ?_
          refine sp_F_holdsBytes hsj  ?_
          show PW _ _ _ 4 [some (.ref (58 + 2 * sj)), some (.int (nI (2 * k))), some (.int 2)] [.int (b2i (X.1 ((58 + 2 * sj) * 8 + 1) = 2 ∧ X.1 ((58 + 2 * sj) * 8 + 3) = 0))] (E X y)
          refine PW_if_eq c_F_hasBytes_4 (fun h1 => absurd hXb (b2i_0.mp h1)) (fun _ => ?_)
          refine PW_aload_n c_F_hasBytes_7 rfl ?_
          refine PW_iload_n c_F_hasBytes_8 rfl ?_
          refine PW_iload_n c_F_hasBytes_9 rfl ?_
          refine PW_V0 (d2 := 0) (st := []) [.int (nI (2 * k)), .int 2] c_F_hasBytes_10 lk_F_hasBytes_47 (sh_po _ _ hsj) rfl rfl rfl (Nat.le_of_ble_eq_true rfl) (by first | decide | omega) (Nat.le_of_ble_eq_true rfl) ?_
          refine sp_F_hasPlaces hsj hz0 ?_
          show PW _ _ _ 13 [some (.ref (58 + 2 * sj)), some (.int (nI (2 * k))), some (.int 2)] [.int (b2i (0 ≤ (nI (2 * k)).toInt ∧ 0 ≤ (2 : Int32).toInt ∧ (2 : Int32).toInt ≤ (X.1 ((58 + 2 * sj) * 8 + 4)).toInt ∧ (nI (2 * k)).toInt ≤ (X.1 ((58 + 2 * sj) * 8 + 4)).toInt - (2 : Int32).toInt))] (E X y)
          refine PW_if_eq c_F_hasBytes_13 (fun h2 => absurd hp (b2i_0.mp h2)) (fun _ => ?_)
          refine PW_iconst (v := 1) c_F_hasBytes_16 (by decide) ?_
          refine PW_goto c_F_hasBytes_17 ?_
          refine PW_ireturn (ty := .boolean) c_F_hasBytes_21 rfl (by decide +kernel) ?_
          show PW _ _ _ 6 [some (.ref 5), some (.ref (58 + 2 * sj)), some (.int (nI (2 * k)))] [.int 1] (E X y)
          refine PW_if_eq c_G_isTrue_6 (fun h3 => absurd h3 (by decide)) (fun _ => ?_)
          refine PW_aload_n c_G_isTrue_9 rfl ?_
          refine PW_iload_n c_G_isTrue_10 rfl ?_
          refine PW_V0 (d2 := 2) (st := []) [.int (nI (2 * k))] c_G_isTrue_11 lk_G_isTrue_117 (sh_po _ _ hsj) rfl rfl rfl (Nat.le_of_ble_eq_true rfl) (by first | decide | omega) (Nat.le_of_ble_eq_true rfl) ?_
          refine sp_F_small hsj hXb hXz hn (i := 2 * k) rfl (by omega) ?_
          rw [if_pos (by omega), hXR (2 * k) (by omega)]
          show PW _ _ _ 14 [some (.ref 5), some (.ref (58 + 2 * sj)), some (.int (nI (2 * k)))] [.int (plF y sj (2 * k))] (E X y)
          refine PW_S0 (d2 := 0) (st := []) [.int (plF y sj (2 * k))] c_G_isTrue_14 lk_G_isTrue_121 rfl rfl rfl (Nat.le_of_ble_eq_true rfl) (by first | decide | omega) (Nat.le_of_ble_eq_true rfl) ?_
          refine sp_H_isRoom  ?_
          show PW _ _ _ 17 [some (.ref 5), some (.ref (58 + 2 * sj)), some (.int (nI (2 * k)))] [.int (b2i (0 ≤ (plF y sj (2 * k)) ∧ (plF y sj (2 * k)) ≤ 4))] (E X y)
          refine PW_if_ne c_G_isTrue_17 (fun _ => ?_) (fun h4 => absurd hr (b2i_0.mp h4))
          refine PW_aload_n c_G_isTrue_22 rfl ?_
          refine PW_get (v := .ref 31) c_G_isTrue_23 fl_G_35 (gf_5_3 _ _) ?_
          refine PW_aload_n c_G_isTrue_26 rfl ?_
          refine PW_iload_n c_G_isTrue_27 rfl ?_
          refine PW_V0 (d2 := 2) (st := [.ref 31]) [.int (nI (2 * k))] c_G_isTrue_28 lk_G_isTrue_117 (sh_po _ _ hsj) rfl rfl rfl (Nat.le_of_ble_eq_true rfl) (by first | decide | omega) (Nat.le_of_ble_eq_true rfl) ?_
          refine sp_F_small hsj hXb hXz hn (i := 2 * k) rfl (by omega) ?_
          rw [if_pos (by omega), hXR (2 * k) (by omega), hgk.1]
          show PW _ _ _ 31 [some (.ref 5), some (.ref (58 + 2 * sj)), some (.int (nI (2 * k)))] [.int (nI (plF y sj (2 * k)).toNatClampNeg), .ref 31] (E X y)
          refine PW_V0 (d2 := 3) (st := []) [.int (nI (plF y sj (2 * k)).toNatClampNeg)] c_G_isTrue_31 lk_G_isTrue_173 (po_31 _ _) rfl rfl rfl (Nat.le_of_ble_eq_true rfl) (by first | decide | omega) (Nat.le_of_ble_eq_true rfl) ?_
          refine sp_V_walkTo (o := 31) (Or.inl rfl) (CPg_S C hX (yS_0 y)) hs ha hgk.2 ?_
          show PW _ _ _ 34 [some (.ref 5), some (.ref (58 + 2 * sj)), some (.int (nI (2 * k)))] [] (E (sI (sI X (31 * 8 + 3) (m + wayN y a (plF y sj (2 * k)).toNatClampNeg)) (31 * 8 + 2) (nI (plF y sj (2 * k)).toNatClampNeg)) y)
          refine PW_aload_n c_G_isTrue_34 rfl ?_
          refine PW_get (v := .ref 31) c_G_isTrue_35 fl_G_35 (gf_5_3 _ _) ?_
          refine PW_iconst (v := 0) c_G_isTrue_38 (by decide) ?_
          refine PW_V0 (d2 := 4) (st := []) [.int 0] c_G_isTrue_39 lk_G_isTrue_177 (po_31 _ _) rfl rfl rfl (Nat.le_of_ble_eq_true rfl) (by first | decide | omega) (Nat.le_of_ble_eq_true rfl) ?_
          refine H1 ?_
          show PW _ _ _ 42 [some (.ref 5), some (.ref (58 + 2 * sj)), some (.int (nI (2 * k)))] [.int (telF y (nI (plF y sj (2 * k)).toNatClampNeg) (m + wayN y a (plF y sj (2 * k)).toNatClampNeg) t)] (E X1 y)
          refine PW_pop c_G_isTrue_42 rfl ?_
          refine PW_aload_n c_G_isTrue_43 rfl ?_
          refine PW_get (v := .ref 31) c_G_isTrue_44 fl_G_35 (gf_5_3 _ _) ?_
          refine PW_V0 (d2 := 0) (st := []) [] c_G_isTrue_47 lk_G_isTrue_180 (po_31 _ _) rfl rfl rfl (Nat.le_of_ble_eq_true rfl) (by first | decide | omega) (Nat.le_of_ble_eq_true rfl) ?_
          show PW _ _ _ 0 [some (.ref 31)] [] (E X1 y)
          refine PW_aload_n c_V_minute_0 rfl ?_
          refine PW_get (v := .int (X1.1 251)) c_V_minute_1 fl_V_27 (gf_31_3 _ _) ?_
          refine PW_ireturn (ty := .int) c_V_minute_4 rfl rfl ?_
          show PW _ _ _ 50 [some (.ref 5), some (.ref (58 + 2 * sj)), some (.int (nI (2 * k)))] [.int (X1.1 251)] (E X1 y)
          refine PW_aload_n c_G_isTrue_50 rfl ?_
          refine PW_iload_n c_G_isTrue_51 rfl ?_
          refine PW_iconst (v := 1) c_G_isTrue_52 (by decide) ?_
          refine PW_iadd c_G_isTrue_53 ?_
          refine PW_V0 (d2 := 2) (st := [.int (X1.1 251)]) [.int ((nI (2 * k)) + 1)] c_G_isTrue_54 lk_G_isTrue_117 (sh_po _ _ hsj) rfl rfl rfl (Nat.le_of_ble_eq_true rfl) (by first | decide | omega) (Nat.le_of_ble_eq_true rfl) ?_
          refine sp_F_small hsj hX1b hX1z hn (i := 2 * k + 1) (nI_1 (2 * k)) (by omega) ?_
          rw [if_pos (by omega), hX1R (2 * k + 1) (by omega)]
          show PW _ _ _ 57 [some (.ref 5), some (.ref (58 + 2 * sj)), some (.int (nI (2 * k)))] [.int (plF y sj (2 * k + 1)), .int (X1.1 251)] (E X1 y)
          refine PW_icmp_ne c_G_isTrue_57 (fun h5 => ?_) (fun h5 => absurd h5 (by rw [show X1.1 251 = (stp T y (plF y sj (2 * k)).toNatClampNeg (a, m, t)).2.1 from s1.2.1]; exact hE))
          refine PW_iconst (v := 0) c_G_isTrue_64 (by decide) ?_
          refine PW_ireturn (ty := .boolean) c_G_isTrue_65 rfl (by decide +kernel) ?_
          show PW _ _ _ 77 [some (.ref 5), some (.int a1), some (.int a2), some (.ref (58 + 2 * sj)), some (.int 0), some (.int (nI M)), some (.int (nI k))] [.int 0] (E X1 y)
          refine PW_if_ne c_G_judge_77 (fun h6 => absurd (by decide) h6) (fun _ => ?_)
          refine PW_iload c_G_judge_80 rfl ?_
          refine PW_ireturn (ty := .int) c_G_judge_82 rfl rfl ?_
          exact h
      · refine ⟨X, hX, fun {z post} h => ?_⟩
        rw [jdF, if_neg (fun q => hr q.2)] at h
        refine PW_iload c_G_judge_61 rfl ?_
        refine PW_iload c_G_judge_63 rfl ?_
        refine PW_icmp_ge c_G_judge_65 (fun h0 => absurd h0 (fun q => absurd ((nI_leI (by omega) (by omega)).mp q) (by omega))) (fun h0 => ?_)
        refine PW_aload_n c_G_judge_68 rfl ?_
        refine PW_aload_n c_G_judge_69 rfl ?_
        refine PW_iconst (v := 2) c_G_judge_70 (by decide) ?_
        refine PW_iload c_G_judge_71 rfl ?_
        refine PW_imul c_G_judge_73 ?_
        rw [dbl]
        show PW _ _ _ 74 [some (.ref 5), some (.int a1), some (.int a2), some (.ref (58 + 2 * sj)), some (.int 0), some (.int (nI M)), some (.int (nI k))] [.int (nI (2 * k)), .ref (58 + 2 * sj), .ref 5] (E X y)
        refine PW_V0 (d2 := 5) (st := []) [.ref (58 + 2 * sj), .int (nI (2 * k))] c_G_judge_74 lk_G_judge_258 (po_5 _ _) rfl rfl rfl (Nat.le_of_ble_eq_true rfl) (by first | decide | omega) (Nat.le_of_ble_eq_true rfl) ?_
        show PW _ _ _ 0 [some (.ref 5), some (.ref (58 + 2 * sj)), some (.int (nI (2 * k)))] [] (E X y)
        refine PW_aload_n c_G_isTrue_0 rfl ?_
        refine PW_iload_n c_G_isTrue_1 rfl ?_
        refine PW_iconst (v := 2) c_G_isTrue_2 (by decide) ?_
        refine PW_V0 (d2 := 1) (st := []) [.int (nI (2 * k)), .int 2] c_G_isTrue_3 lk_G_isTrue_114 (sh_po _ _ hsj) rfl rfl rfl (Nat.le_of_ble_eq_true rfl) (by first | decide | omega) (Nat.le_of_ble_eq_true rfl) ?_
        show PW _ _ _ 0 [some (.ref (58 + 2 * sj)), some (.int (nI (2 * k))), some (.int 2)] [] (E X y)
        refine PW_aload_n c_F_hasBytes_0 rfl ?_
        refine PW_V0 (d2 := 0) (st := []) [] c_F_hasBytes_1 lk_F_hasBytes_41 (sh_po _ _ hsj) rfl rfl rfl (Nat.le_of_ble_eq_true rfl) (by first | decide | omega) (Nat.le_of_ble_eq_true rfl) ?_
        refine sp_F_holdsBytes hsj  ?_
        show PW _ _ _ 4 [some (.ref (58 + 2 * sj)), some (.int (nI (2 * k))), some (.int 2)] [.int (b2i (X.1 ((58 + 2 * sj) * 8 + 1) = 2 ∧ X.1 ((58 + 2 * sj) * 8 + 3) = 0))] (E X y)
        refine PW_if_eq c_F_hasBytes_4 (fun h1 => absurd hXb (b2i_0.mp h1)) (fun _ => ?_)
        refine PW_aload_n c_F_hasBytes_7 rfl ?_
        refine PW_iload_n c_F_hasBytes_8 rfl ?_
        refine PW_iload_n c_F_hasBytes_9 rfl ?_
        refine PW_V0 (d2 := 0) (st := []) [.int (nI (2 * k)), .int 2] c_F_hasBytes_10 lk_F_hasBytes_47 (sh_po _ _ hsj) rfl rfl rfl (Nat.le_of_ble_eq_true rfl) (by first | decide | omega) (Nat.le_of_ble_eq_true rfl) ?_
        refine sp_F_hasPlaces hsj hz0 ?_
        show PW _ _ _ 13 [some (.ref (58 + 2 * sj)), some (.int (nI (2 * k))), some (.int 2)] [.int (b2i (0 ≤ (nI (2 * k)).toInt ∧ 0 ≤ (2 : Int32).toInt ∧ (2 : Int32).toInt ≤ (X.1 ((58 + 2 * sj) * 8 + 4)).toInt ∧ (nI (2 * k)).toInt ≤ (X.1 ((58 + 2 * sj) * 8 + 4)).toInt - (2 : Int32).toInt))] (E X y)
        refine PW_if_eq c_F_hasBytes_13 (fun h2 => absurd hp (b2i_0.mp h2)) (fun _ => ?_)
        refine PW_iconst (v := 1) c_F_hasBytes_16 (by decide) ?_
        refine PW_goto c_F_hasBytes_17 ?_
        refine PW_ireturn (ty := .boolean) c_F_hasBytes_21 rfl (by decide +kernel) ?_
        show PW _ _ _ 6 [some (.ref 5), some (.ref (58 + 2 * sj)), some (.int (nI (2 * k)))] [.int 1] (E X y)
        refine PW_if_eq c_G_isTrue_6 (fun h3 => absurd h3 (by decide)) (fun _ => ?_)
        refine PW_aload_n c_G_isTrue_9 rfl ?_
        refine PW_iload_n c_G_isTrue_10 rfl ?_
        refine PW_V0 (d2 := 2) (st := []) [.int (nI (2 * k))] c_G_isTrue_11 lk_G_isTrue_117 (sh_po _ _ hsj) rfl rfl rfl (Nat.le_of_ble_eq_true rfl) (by first | decide | omega) (Nat.le_of_ble_eq_true rfl) ?_
        refine sp_F_small hsj hXb hXz hn (i := 2 * k) rfl (by omega) ?_
        rw [if_pos (by omega), hXR (2 * k) (by omega)]
        show PW _ _ _ 14 [some (.ref 5), some (.ref (58 + 2 * sj)), some (.int (nI (2 * k)))] [.int (plF y sj (2 * k))] (E X y)
        refine PW_S0 (d2 := 0) (st := []) [.int (plF y sj (2 * k))] c_G_isTrue_14 lk_G_isTrue_121 rfl rfl rfl (Nat.le_of_ble_eq_true rfl) (by first | decide | omega) (Nat.le_of_ble_eq_true rfl) ?_
        refine sp_H_isRoom  ?_
        show PW _ _ _ 17 [some (.ref 5), some (.ref (58 + 2 * sj)), some (.int (nI (2 * k)))] [.int (b2i (0 ≤ (plF y sj (2 * k)) ∧ (plF y sj (2 * k)) ≤ 4))] (E X y)
        refine PW_if_ne c_G_isTrue_17 (fun h4 => absurd (b2i_n0.mp h4) hr) (fun _ => ?_)
        refine PW_iconst (v := 0) c_G_isTrue_20 (by decide) ?_
        refine PW_ireturn (ty := .boolean) c_G_isTrue_21 rfl (by decide +kernel) ?_
        show PW _ _ _ 77 [some (.ref 5), some (.int a1), some (.int a2), some (.ref (58 + 2 * sj)), some (.int 0), some (.int (nI M)), some (.int (nI k))] [.int 0] (E X y)
        refine PW_if_ne c_G_judge_77 (fun h5 => absurd (by decide) h5) (fun _ => ?_)
        refine PW_iload c_G_judge_80 rfl ?_
        refine PW_ireturn (ty := .int) c_G_judge_82 rfl rfl ?_
        exact h
    · have hp : ¬ (0 ≤ (nI (2 * k)).toInt ∧ 0 ≤ (2 : Int32).toInt ∧ (2 : Int32).toInt ≤ (X.1 ((58 + 2 * sj) * 8 + 4)).toInt ∧ (nI (2 * k)).toInt ≤ (X.1 ((58 + 2 * sj) * 8 + 4)).toInt - (2 : Int32).toInt) := fun q => by rw [hz2, nI_toInt (by omega), show (2 : Int32).toInt = 2 by decide] at q; omega
      refine ⟨X, hX, fun {z post} h => ?_⟩
      rw [jdF, if_neg (fun q => hkn q.1)] at h
      refine PW_iload c_G_judge_61 rfl ?_
      refine PW_iload c_G_judge_63 rfl ?_
      refine PW_icmp_ge c_G_judge_65 (fun h0 => absurd h0 (fun q => absurd ((nI_leI (by omega) (by omega)).mp q) (by omega))) (fun h0 => ?_)
      refine PW_aload_n c_G_judge_68 rfl ?_
      refine PW_aload_n c_G_judge_69 rfl ?_
      refine PW_iconst (v := 2) c_G_judge_70 (by decide) ?_
      refine PW_iload c_G_judge_71 rfl ?_
      refine PW_imul c_G_judge_73 ?_
      rw [dbl]
      show PW _ _ _ 74 [some (.ref 5), some (.int a1), some (.int a2), some (.ref (58 + 2 * sj)), some (.int 0), some (.int (nI M)), some (.int (nI k))] [.int (nI (2 * k)), .ref (58 + 2 * sj), .ref 5] (E X y)
      refine PW_V0 (d2 := 5) (st := []) [.ref (58 + 2 * sj), .int (nI (2 * k))] c_G_judge_74 lk_G_judge_258 (po_5 _ _) rfl rfl rfl (Nat.le_of_ble_eq_true rfl) (by first | decide | omega) (Nat.le_of_ble_eq_true rfl) ?_
      show PW _ _ _ 0 [some (.ref 5), some (.ref (58 + 2 * sj)), some (.int (nI (2 * k)))] [] (E X y)
      refine PW_aload_n c_G_isTrue_0 rfl ?_
      refine PW_iload_n c_G_isTrue_1 rfl ?_
      refine PW_iconst (v := 2) c_G_isTrue_2 (by decide) ?_
      refine PW_V0 (d2 := 1) (st := []) [.int (nI (2 * k)), .int 2] c_G_isTrue_3 lk_G_isTrue_114 (sh_po _ _ hsj) rfl rfl rfl (Nat.le_of_ble_eq_true rfl) (by first | decide | omega) (Nat.le_of_ble_eq_true rfl) ?_
      show PW _ _ _ 0 [some (.ref (58 + 2 * sj)), some (.int (nI (2 * k))), some (.int 2)] [] (E X y)
      refine PW_aload_n c_F_hasBytes_0 rfl ?_
      refine PW_V0 (d2 := 0) (st := []) [] c_F_hasBytes_1 lk_F_hasBytes_41 (sh_po _ _ hsj) rfl rfl rfl (Nat.le_of_ble_eq_true rfl) (by first | decide | omega) (Nat.le_of_ble_eq_true rfl) ?_
      refine sp_F_holdsBytes hsj  ?_
      show PW _ _ _ 4 [some (.ref (58 + 2 * sj)), some (.int (nI (2 * k))), some (.int 2)] [.int (b2i (X.1 ((58 + 2 * sj) * 8 + 1) = 2 ∧ X.1 ((58 + 2 * sj) * 8 + 3) = 0))] (E X y)
      refine PW_if_eq c_F_hasBytes_4 (fun h1 => absurd hXb (b2i_0.mp h1)) (fun _ => ?_)
      refine PW_aload_n c_F_hasBytes_7 rfl ?_
      refine PW_iload_n c_F_hasBytes_8 rfl ?_
      refine PW_iload_n c_F_hasBytes_9 rfl ?_
      refine PW_V0 (d2 := 0) (st := []) [.int (nI (2 * k)), .int 2] c_F_hasBytes_10 lk_F_hasBytes_47 (sh_po _ _ hsj) rfl rfl rfl (Nat.le_of_ble_eq_true rfl) (by first | decide | omega) (Nat.le_of_ble_eq_true rfl) ?_
      refine sp_F_hasPlaces hsj hz0 ?_
      show PW _ _ _ 13 [some (.ref (58 + 2 * sj)), some (.int (nI (2 * k))), some (.int 2)] [.int (b2i (0 ≤ (nI (2 * k)).toInt ∧ 0 ≤ (2 : Int32).toInt ∧ (2 : Int32).toInt ≤ (X.1 ((58 + 2 * sj) * 8 + 4)).toInt ∧ (nI (2 * k)).toInt ≤ (X.1 ((58 + 2 * sj) * 8 + 4)).toInt - (2 : Int32).toInt))] (E X y)
      refine PW_if_eq c_F_hasBytes_13 (fun _ => ?_) (fun h2 => absurd (b2i_n0.mp h2) hp)
      refine PW_iconst (v := 0) c_F_hasBytes_20 (by decide) ?_
      refine PW_ireturn (ty := .boolean) c_F_hasBytes_21 rfl (by decide +kernel) ?_
      show PW _ _ _ 6 [some (.ref 5), some (.ref (58 + 2 * sj)), some (.int (nI (2 * k)))] [.int 0] (E X y)
      refine PW_if_eq c_G_isTrue_6 (fun _ => ?_) (fun h3 => absurd (by decide) h3)
      refine PW_iconst (v := 0) c_G_isTrue_20 (by decide) ?_
      refine PW_ireturn (ty := .boolean) c_G_isTrue_21 rfl (by decide +kernel) ?_
      show PW _ _ _ 77 [some (.ref 5), some (.int a1), some (.int a2), some (.ref (58 + 2 * sj)), some (.int 0), some (.int (nI M)), some (.int (nI k))] [.int 0] (E X y)
      refine PW_if_ne c_G_judge_77 (fun h4 => absurd (by decide) h4) (fun _ => ?_)
      refine PW_iload c_G_judge_80 rfl ?_
      refine PW_ireturn (ty := .int) c_G_judge_82 rfl rfl ?_
      exact h
set_option maxHeartbeats 1000000 in
theorem lp_M_judge {T : Option Txt} {x x0 y : XS} {a2 : Int32} {sj n M : Nat} (C : CPg x0 y) (hT : lawIs T x0 y) (hsj : sj < 6) (hyz : y.2.1 105 sj = nI n) (hn : n ≤ 60) (hM : M = (n + 1) / 2) : ∀ (j k : Nat) (Y : XS) (a : Nat) (m t : Int32), k + j = M → yS y Y → roS Y a m t → a < 5 → ∃ Y' : XS, yS y Y' ∧ ∀ {z : ZS} {post : Option Value → List PE → Prop}, post (some (.int (jdF T y (plF y sj) n j k (a, m, t)))) (E x Y') → PW (5, 0, 0, z) m_M_judge post 44 [some (.ref 70), some (.int (nI sj)), some (.int a2), some (.int (nI k))] [] (E x Y) := by
  intro j
  induction j with
  | zero =>
    intro k Y a m t hk hY hs ha
    have hYz : Y.2.1 105 sj = nI n := by rw [hY.2.1 105 (by omega)]; exact hyz
    refine ⟨Y, hY, fun {z post} h => ?_⟩
    rw [jdF] at h
    refine PW_iconst (v := 2) c_M_judge_44 (by decide) ?_
    refine PW_iload_n c_M_judge_45 rfl ?_
    refine PW_imul c_M_judge_46 ?_
    refine PW_aload_n c_M_judge_47 rfl ?_
    refine PW_get (v := .ref 105) c_M_judge_48 fl_M_114 (gf_70_54 _ _) ?_
    refine PW_iload_n c_M_judge_51 rfl ?_
    refine PW_iald (j := sj) c_M_judge_52 (ar_105 _ _) (vp_in_nI hsj (by decide)) (nI_clamp (by omega)) ?_
    show PW _ _ _ 53 [some (.ref 70), some (.int (nI sj)), some (.int a2), some (.int (nI k))] [.int ((Y.2.1 105) sj), .int (2 * (nI k))] (E x Y)
    refine PW_icmp_ge c_M_judge_53 (fun h0 => ?_) (fun h0 => absurd (by rw [hYz, dbl]; exact (nI_leI (by omega) (by omega)).mpr (by omega)) h0)
    refine PW_bipush (v := -2) c_M_judge_123 (by decide) ?_
    refine PW_ireturn (ty := .int) c_M_judge_125 rfl rfl ?_
    exact h
  | succ j ih =>
    intro k Y a m t hk hY hs ha
    have hYz : Y.2.1 105 sj = nI n := by rw [hY.2.1 105 (by omega)]; exact hyz
    have hYk : (Y.2.2 106 (60 * sj + 2 * k)).toInt32 = plF y sj (2 * k) := by rw [hY.2.2]; rfl
    by_cases hkn : 2 * k + 1 < n
    · by_cases hr : 0 ≤ plF y sj (2 * k) ∧ plF y sj (2 * k) ≤ 4
      · have hgk := rm_nI hr
        have hYr : 0 ≤ (Y.2.2 106 (60 * sj + 2 * k)).toInt32 ∧ (Y.2.2 106 (60 * sj + 2 * k)).toInt32 ≤ 4 := by rw [hYk]; exact hr
        have hW : WG Y := (CPg_S C (xS_0 x0) hY).1
        obtain ⟨Y1, s1, f1, H1⟩ := sp_M_goTo (T := T) (x := x) (x0 := x0) hW (law_S hT (xS_0 x0) hY) hs ha hgk.2
        have s1 : roS Y1 (plF y sj (2 * k)).toNatClampNeg (stp T Y (plF y sj (2 * k)).toNatClampNeg (a, m, t)).2.1 (stp T Y (plF y sj (2 * k)).toNatClampNeg (a, m, t)).2.2 := s1
        rw [stp_gE (gE_S hY)] at s1
        have hY1 := yS_t hY (yS_frG f1)
        have hY1k : (Y1.2.2 106 (60 * sj + (2 * k + 1))).toInt32 = plF y sj (2 * k + 1) := by rw [hY1.2.2]; rfl
        by_cases hE : (stp T y (plF y sj (2 * k)).toNatClampNeg (a, m, t)).2.1 = plF y sj (2 * k + 1)
        · obtain ⟨Y2, hY2, H2⟩ := ih (k + 1) Y1 _ _ _ (by omega) hY1 s1 hgk.2
          refine ⟨Y2, hY2, fun {z post} h => ?_⟩
          rw [jdF, if_pos ⟨hkn, hr⟩, if_pos hE] at h
          refine PW_iconst (v := 2) c_M_judge_44 (by decide) ?_
          refine PW_iload_n c_M_judge_45 rfl ?_
          refine PW_imul c_M_judge_46 ?_
          refine PW_aload_n c_M_judge_47 rfl ?_
          refine PW_get (v := .ref 105) c_M_judge_48 fl_M_114 (gf_70_54 _ _) ?_
          refine PW_iload_n c_M_judge_51 rfl ?_
          refine PW_iald (j := sj) c_M_judge_52 (ar_105 _ _) (vp_in_nI hsj (by decide)) (nI_clamp (by omega)) ?_
          show PW _ _ _ 53 [some (.ref 70), some (.int (nI sj)), some (.int a2), some (.int (nI k))] [.int ((Y.2.1 105) sj), .int (2 * (nI k))] (E x Y)
          refine PW_icmp_ge c_M_judge_53 (fun h0 => absurd h0 (fun q => by rw [hYz, dbl] at q; exact absurd ((nI_leI (by omega) (by omega)).mp q) (by omega))) (fun h0 => ?_)
          refine PW_iconst (v := 2) c_M_judge_56 (by decide) ?_
          refine PW_iload_n c_M_judge_57 rfl ?_
          refine PW_imul c_M_judge_58 ?_
          refine PW_iconst (v := 1) c_M_judge_59 (by decide) ?_
          refine PW_iadd c_M_judge_60 ?_
          refine PW_aload_n c_M_judge_61 rfl ?_
          refine PW_get (v := .ref 105) c_M_judge_62 fl_M_114 (gf_70_54 _ _) ?_
          refine PW_iload_n c_M_judge_65 rfl ?_
          refine PW_iald (j := sj) c_M_judge_66 (ar_105 _ _) (vp_in_nI hsj (by decide)) (nI_clamp (by omega)) ?_
          show PW _ _ _ 67 [some (.ref 70), some (.int (nI sj)), some (.int a2), some (.int (nI k))] [.int ((Y.2.1 105) sj), .int ((2 * (nI k)) + 1)] (E x Y)
          refine PW_icmp_ge c_M_judge_67 (fun h1 => absurd h1 (fun q => by rw [hYz, dbl, nI_1] at q; exact absurd ((nI_leI (by omega) (by omega)).mp q) (by omega))) (fun h1 => ?_)
          refine PW_aload_n c_M_judge_70 rfl ?_
          refine PW_iload_n c_M_judge_71 rfl ?_
          refine PW_iconst (v := 2) c_M_judge_72 (by decide) ?_
          refine PW_iload_n c_M_judge_73 rfl ?_
          refine PW_imul c_M_judge_74 ?_
          refine PW_V0 (d2 := 0) (st := []) [.int (nI sj), .int (2 * (nI k))] c_M_judge_75 lk_M_judge_292 (po_70 _ _) rfl rfl rfl (Nat.le_of_ble_eq_true rfl) (by first | decide | omega) (Nat.le_of_ble_eq_true rfl) ?_
          show PW _ _ _ 0 [some (.ref 70), some (.int (nI sj)), some (.int (2 * (nI k)))] [] (E x Y)
          refine PW_aload_n c_M_byteAt_0 rfl ?_
          refine PW_get (v := .ref 106) c_M_byteAt_1 fl_M_117 (gf_70_55 _ _) ?_
          refine PW_bipush (v := 60) c_M_byteAt_4 (by decide) ?_
          refine PW_iload_n c_M_byteAt_6 rfl ?_
          refine PW_imul c_M_byteAt_7 ?_
          refine PW_iload_n c_M_byteAt_8 rfl ?_
          refine PW_iadd c_M_byteAt_9 ?_
          refine PW_lald (j := 60 * sj + 2 * k) c_M_byteAt_10 (ar_106 _ _) (by rw [dbl, show (60 : Int32) = nI 60 from rfl, pk_mul, nI_add]; exact vp_in_nI (by omega) (by decide)) (by rw [dbl, show (60 : Int32) = nI 60 from rfl, pk_mul, nI_add]; exact nI_clamp (by omega)) ?_
          show PW _ _ _ 11 [some (.ref 70), some (.int (nI sj)), some (.int (2 * (nI k)))] [.long ((Y.2.2 106) (60 * sj + 2 * k))] (E x Y)
          refine PW_l2i c_M_byteAt_11 ?_
          refine PW_ireturn (ty := .int) c_M_byteAt_12 rfl rfl ?_
          show PW _ _ _ 78 [some (.ref 70), some (.int (nI sj)), some (.int a2), some (.int (nI k))] [.int (((Y.2.2 106) (60 * sj + 2 * k)).toInt32)] (E x Y)
          refine PW_S0 (d2 := 1) (st := []) [.int (((Y.2.2 106) (60 * sj + 2 * k)).toInt32)] c_M_judge_78 lk_M_judge_135 rfl rfl rfl (Nat.le_of_ble_eq_true rfl) (by first | decide | omega) (Nat.le_of_ble_eq_true rfl) ?_
          refine sp_M_isRoom  ?_
          show PW _ _ _ 81 [some (.ref 70), some (.int (nI sj)), some (.int a2), some (.int (nI k))] [.int (b2i (0 ≤ (((Y.2.2 106) (60 * sj + 2 * k)).toInt32) ∧ (((Y.2.2 106) (60 * sj + 2 * k)).toInt32) ≤ 4))] (E x Y)
          refine PW_if_ne c_M_judge_81 (fun _ => ?_) (fun h2 => absurd hYr (b2i_0.mp h2))
          refine PW_aload_n c_M_judge_86 rfl ?_
          refine PW_aload_n c_M_judge_87 rfl ?_
          refine PW_iload_n c_M_judge_88 rfl ?_
          refine PW_iconst (v := 2) c_M_judge_89 (by decide) ?_
          refine PW_iload_n c_M_judge_90 rfl ?_
          refine PW_imul c_M_judge_91 ?_
          refine PW_V0 (d2 := 0) (st := [.ref 70]) [.int (nI sj), .int (2 * (nI k))] c_M_judge_92 lk_M_judge_292 (po_70 _ _) rfl rfl rfl (Nat.le_of_ble_eq_true rfl) (by first | decide | omega) (Nat.le_of_ble_eq_true rfl) ?_
          show PW _ _ _ 0 [some (.ref 70), some (.int (nI sj)), some (.int (2 * (nI k)))] [] (E x Y)
          refine PW_aload_n c_M_byteAt_0 rfl ?_
          refine PW_get (v := .ref 106) c_M_byteAt_1 fl_M_117 (gf_70_55 _ _) ?_
          refine PW_bipush (v := 60) c_M_byteAt_4 (by decide) ?_
          refine PW_iload_n c_M_byteAt_6 rfl ?_
          refine PW_imul c_M_byteAt_7 ?_
          refine PW_iload_n c_M_byteAt_8 rfl ?_
          refine PW_iadd c_M_byteAt_9 ?_
          refine PW_lald (j := 60 * sj + 2 * k) c_M_byteAt_10 (ar_106 _ _) (by rw [dbl, show (60 : Int32) = nI 60 from rfl, pk_mul, nI_add]; exact vp_in_nI (by omega) (by decide)) (by rw [dbl, show (60 : Int32) = nI 60 from rfl, pk_mul, nI_add]; exact nI_clamp (by omega)) ?_
          show PW _ _ _ 11 [some (.ref 70), some (.int (nI sj)), some (.int (2 * (nI k)))] [.long ((Y.2.2 106) (60 * sj + 2 * k))] (E x Y)
          refine PW_l2i c_M_byteAt_11 ?_
          refine PW_ireturn (ty := .int) c_M_byteAt_12 rfl rfl ?_
          show PW _ _ _ 95 [some (.ref 70), some (.int (nI sj)), some (.int a2), some (.int (nI k))] [.int (((Y.2.2 106) (60 * sj + 2 * k)).toInt32), .ref 70] (E x Y)
          rw [show (Y.2.2 106 (60 * sj + 2 * k)).toInt32 = nI (plF y sj (2 * k)).toNatClampNeg from hYk.trans hgk.1]
          show PW _ _ _ 95 [some (.ref 70), some (.int (nI sj)), some (.int a2), some (.int (nI k))] [.int (nI (plF y sj (2 * k)).toNatClampNeg), .ref 70] (E x Y)
          refine PW_V0 (d2 := 4) (st := []) [.int (nI (plF y sj (2 * k)).toNatClampNeg)] c_M_judge_95 lk_M_judge_295 (po_70 _ _) rfl rfl rfl (Nat.le_of_ble_eq_true rfl) (by first | decide | omega) (Nat.le_of_ble_eq_true rfl) ?_
          refine H1 ?_
          show PW _ _ _ 98 [some (.ref 70), some (.int (nI sj)), some (.int a2), some (.int (nI k))] [] (E x Y1)
          refine PW_aload_n c_M_judge_98 rfl ?_
          refine PW_get (v := .int (Y1.1 591)) c_M_judge_99 fl_M_268 (gf_70_31 _ _) ?_
          refine PW_aload_n c_M_judge_102 rfl ?_
          refine PW_iload_n c_M_judge_103 rfl ?_
          refine PW_iconst (v := 2) c_M_judge_104 (by decide) ?_
          refine PW_iload_n c_M_judge_105 rfl ?_
          refine PW_imul c_M_judge_106 ?_
          refine PW_iconst (v := 1) c_M_judge_107 (by decide) ?_
          refine PW_iadd c_M_judge_108 ?_
          refine PW_V0 (d2 := 0) (st := [.int (Y1.1 591)]) [.int (nI sj), .int ((2 * (nI k)) + 1)] c_M_judge_109 lk_M_judge_292 (po_70 _ _) rfl rfl rfl (Nat.le_of_ble_eq_true rfl) (by first | decide | omega) (Nat.le_of_ble_eq_true rfl) ?_
          show PW _ _ _ 0 [some (.ref 70), some (.int (nI sj)), some (.int ((2 * (nI k)) + 1))] [] (E x Y1)
          refine PW_aload_n c_M_byteAt_0 rfl ?_
          refine PW_get (v := .ref 106) c_M_byteAt_1 fl_M_117 (gf_70_55 _ _) ?_
          refine PW_bipush (v := 60) c_M_byteAt_4 (by decide) ?_
          refine PW_iload_n c_M_byteAt_6 rfl ?_
          refine PW_imul c_M_byteAt_7 ?_
          refine PW_iload_n c_M_byteAt_8 rfl ?_
          refine PW_iadd c_M_byteAt_9 ?_
          refine PW_lald (j := 60 * sj + (2 * k + 1)) c_M_byteAt_10 (ar_106 _ _) (by rw [dbl, nI_1, show (60 : Int32) = nI 60 from rfl, pk_mul, nI_add]; exact vp_in_nI (by omega) (by decide)) (by rw [dbl, nI_1, show (60 : Int32) = nI 60 from rfl, pk_mul, nI_add]; exact nI_clamp (by omega)) ?_
          show PW _ _ _ 11 [some (.ref 70), some (.int (nI sj)), some (.int ((2 * (nI k)) + 1))] [.long ((Y1.2.2 106) (60 * sj + (2 * k + 1)))] (E x Y1)
          refine PW_l2i c_M_byteAt_11 ?_
          refine PW_ireturn (ty := .int) c_M_byteAt_12 rfl rfl ?_
          show PW _ _ _ 112 [some (.ref 70), some (.int (nI sj)), some (.int a2), some (.int (nI k))] [.int (((Y1.2.2 106) (60 * sj + (2 * k + 1))).toInt32), .int (Y1.1 591)] (E x Y1)
          refine PW_icmp_eq c_M_judge_112 (fun h3 => ?_) (fun h3 => absurd (by rw [show Y1.1 591 = (stp T y (plF y sj (2 * k)).toNatClampNeg (a, m, t)).2.1 from s1.2.1, show (Y1.2.2 106 (60 * sj + (2 * k + 1))).toInt32 = plF y sj (2 * k + 1) from hY1k]; exact hE) h3)
          refine PW_iinc (i := 3) (v := (nI k) + 1) (L2 := [some (.ref 70), some (.int (nI sj)), some (.int a2), some (.int ((nI k) + 1))]) c_M_judge_117 rfl (iinc_v (by decide)) (Nat.le_of_ble_eq_true rfl) rfl rfl ?_
          refine PW_goto c_M_judge_120 ?_
          refine PW.eqL ?_ rfl rfl (H2 h)
          show ([some (.ref 70), some (.int (nI sj)), some (.int a2), some (.int ((nI k) + 1))] : List (Option Value)) = [some (.ref 70), some (.int (nI sj)), some (.int a2), some (.int (nI (k + 1)))]
          rw [nI_1]
        · refine ⟨Y1, hY1, fun {z post} h => ?_⟩
          rw [jdF, if_pos ⟨hkn, hr⟩, if_neg hE] at h
          refine PW_iconst (v := 2) c_M_judge_44 (by decide) ?_
          refine PW_iload_n c_M_judge_45 rfl ?_
          refine PW_imul c_M_judge_46 ?_
          refine PW_aload_n c_M_judge_47 rfl ?_
          refine PW_get (v := .ref 105) c_M_judge_48 fl_M_114 (gf_70_54 _ _) ?_
          refine PW_iload_n c_M_judge_51 rfl ?_
          refine PW_iald (j := sj) c_M_judge_52 (ar_105 _ _) (vp_in_nI hsj (by decide)) (nI_clamp (by omega)) ?_
          show PW _ _ _ 53 [some (.ref 70), some (.int (nI sj)), some (.int a2), some (.int (nI k))] [.int ((Y.2.1 105) sj), .int (2 * (nI k))] (E x Y)
          refine PW_icmp_ge c_M_judge_53 (fun h0 => absurd h0 (fun q => by rw [hYz, dbl] at q; exact absurd ((nI_leI (by omega) (by omega)).mp q) (by omega))) (fun h0 => ?_)
          refine PW_iconst (v := 2) c_M_judge_56 (by decide) ?_
          refine PW_iload_n c_M_judge_57 rfl ?_
          refine PW_imul c_M_judge_58 ?_
          refine PW_iconst (v := 1) c_M_judge_59 (by decide) ?_
          refine PW_iadd c_M_judge_60 ?_
          refine PW_aload_n c_M_judge_61 rfl ?_
          refine PW_get (v := .ref 105) c_M_judge_62 fl_M_114 (gf_70_54 _ _) ?_
          refine PW_iload_n c_M_judge_65 rfl ?_
          refine PW_iald (j := sj) c_M_judge_66 (ar_105 _ _) (vp_in_nI hsj (by decide)) (nI_clamp (by omega)) ?_
          show PW _ _ _ 67 [some (.ref 70), some (.int (nI sj)), some (.int a2), some (.int (nI k))] [.int ((Y.2.1 105) sj), .int ((2 * (nI k)) + 1)] (E x Y)
          refine PW_icmp_ge c_M_judge_67 (fun h1 => absurd h1 (fun q => by rw [hYz, dbl, nI_1] at q; exact absurd ((nI_leI (by omega) (by omega)).mp q) (by omega))) (fun h1 => ?_)
          refine PW_aload_n c_M_judge_70 rfl ?_
          refine PW_iload_n c_M_judge_71 rfl ?_
          refine PW_iconst (v := 2) c_M_judge_72 (by decide) ?_
          refine PW_iload_n c_M_judge_73 rfl ?_
          refine PW_imul c_M_judge_74 ?_
          refine PW_V0 (d2 := 0) (st := []) [.int (nI sj), .int (2 * (nI k))] c_M_judge_75 lk_M_judge_292 (po_70 _ _) rfl rfl rfl (Nat.le_of_ble_eq_true rfl) (by first | decide | omega) (Nat.le_of_ble_eq_true rfl) ?_
          show PW _ _ _ 0 [some (.ref 70), some (.int (nI sj)), some (.int (2 * (nI k)))] [] (E x Y)
          refine PW_aload_n c_M_byteAt_0 rfl ?_
          refine PW_get (v := .ref 106) c_M_byteAt_1 fl_M_117 (gf_70_55 _ _) ?_
          refine PW_bipush (v := 60) c_M_byteAt_4 (by decide) ?_
          refine PW_iload_n c_M_byteAt_6 rfl ?_
          refine PW_imul c_M_byteAt_7 ?_
          refine PW_iload_n c_M_byteAt_8 rfl ?_
          refine PW_iadd c_M_byteAt_9 ?_
          refine PW_lald (j := 60 * sj + 2 * k) c_M_byteAt_10 (ar_106 _ _) (by rw [dbl, show (60 : Int32) = nI 60 from rfl, pk_mul, nI_add]; exact vp_in_nI (by omega) (by decide)) (by rw [dbl, show (60 : Int32) = nI 60 from rfl, pk_mul, nI_add]; exact nI_clamp (by omega)) ?_
          show PW _ _ _ 11 [some (.ref 70), some (.int (nI sj)), some (.int (2 * (nI k)))] [.long ((Y.2.2 106) (60 * sj + 2 * k))] (E x Y)
          refine PW_l2i c_M_byteAt_11 ?_
          refine PW_ireturn (ty := .int) c_M_byteAt_12 rfl rfl ?_
          show PW _ _ _ 78 [some (.ref 70), some (.int (nI sj)), some (.int a2), some (.int (nI k))] [.int (((Y.2.2 106) (60 * sj + 2 * k)).toInt32)] (E x Y)
          refine PW_S0 (d2 := 1) (st := []) [.int (((Y.2.2 106) (60 * sj + 2 * k)).toInt32)] c_M_judge_78 lk_M_judge_135 rfl rfl rfl (Nat.le_of_ble_eq_true rfl) (by first | decide | omega) (Nat.le_of_ble_eq_true rfl) ?_
          refine sp_M_isRoom  ?_
          show PW _ _ _ 81 [some (.ref 70), some (.int (nI sj)), some (.int a2), some (.int (nI k))] [.int (b2i (0 ≤ (((Y.2.2 106) (60 * sj + 2 * k)).toInt32) ∧ (((Y.2.2 106) (60 * sj + 2 * k)).toInt32) ≤ 4))] (E x Y)
          refine PW_if_ne c_M_judge_81 (fun _ => ?_) (fun h2 => absurd hYr (b2i_0.mp h2))
          refine PW_aload_n c_M_judge_86 rfl ?_
          refine PW_aload_n c_M_judge_87 rfl ?_
          refine PW_iload_n c_M_judge_88 rfl ?_
          refine PW_iconst (v := 2) c_M_judge_89 (by decide) ?_
          refine PW_iload_n c_M_judge_90 rfl ?_
          refine PW_imul c_M_judge_91 ?_
          refine PW_V0 (d2 := 0) (st := [.ref 70]) [.int (nI sj), .int (2 * (nI k))] c_M_judge_92 lk_M_judge_292 (po_70 _ _) rfl rfl rfl (Nat.le_of_ble_eq_true rfl) (by first | decide | omega) (Nat.le_of_ble_eq_true rfl) ?_
          show PW _ _ _ 0 [some (.ref 70), some (.int (nI sj)), some (.int (2 * (nI k)))] [] (E x Y)
          refine PW_aload_n c_M_byteAt_0 rfl ?_
          refine PW_get (v := .ref 106) c_M_byteAt_1 fl_M_117 (gf_70_55 _ _) ?_
          refine PW_bipush (v := 60) c_M_byteAt_4 (by decide) ?_
          refine PW_iload_n c_M_byteAt_6 rfl ?_
          refine PW_imul c_M_byteAt_7 ?_
          refine PW_iload_n c_M_byteAt_8 rfl ?_
          refine PW_iadd c_M_byteAt_9 ?_
          refine PW_lald (j := 60 * sj + 2 * k) c_M_byteAt_10 (ar_106 _ _) (by rw [dbl, show (60 : Int32) = nI 60 from rfl, pk_mul, nI_add]; exact vp_in_nI (by omega) (by decide)) (by rw [dbl, show (60 : Int32) = nI 60 from rfl, pk_mul, nI_add]; exact nI_clamp (by omega)) ?_
          show PW _ _ _ 11 [some (.ref 70), some (.int (nI sj)), some (.int (2 * (nI k)))] [.long ((Y.2.2 106) (60 * sj + 2 * k))] (E x Y)
          refine PW_l2i c_M_byteAt_11 ?_
          refine PW_ireturn (ty := .int) c_M_byteAt_12 rfl rfl ?_
          show PW _ _ _ 95 [some (.ref 70), some (.int (nI sj)), some (.int a2), some (.int (nI k))] [.int (((Y.2.2 106) (60 * sj + 2 * k)).toInt32), .ref 70] (E x Y)
          rw [show (Y.2.2 106 (60 * sj + 2 * k)).toInt32 = nI (plF y sj (2 * k)).toNatClampNeg from hYk.trans hgk.1]
          show PW _ _ _ 95 [some (.ref 70), some (.int (nI sj)), some (.int a2), some (.int (nI k))] [.int (nI (plF y sj (2 * k)).toNatClampNeg), .ref 70] (E x Y)
          refine PW_V0 (d2 := 4) (st := []) [.int (nI (plF y sj (2 * k)).toNatClampNeg)] c_M_judge_95 lk_M_judge_295 (po_70 _ _) rfl rfl rfl (Nat.le_of_ble_eq_true rfl) (by first | decide | omega) (Nat.le_of_ble_eq_true rfl) ?_
          refine H1 ?_
          show PW _ _ _ 98 [some (.ref 70), some (.int (nI sj)), some (.int a2), some (.int (nI k))] [] (E x Y1)
          refine PW_aload_n c_M_judge_98 rfl ?_
          refine PW_get (v := .int (Y1.1 591)) c_M_judge_99 fl_M_268 (gf_70_31 _ _) ?_
          refine PW_aload_n c_M_judge_102 rfl ?_
          refine PW_iload_n c_M_judge_103 rfl ?_
          refine PW_iconst (v := 2) c_M_judge_104 (by decide) ?_
          refine PW_iload_n c_M_judge_105 rfl ?_
          refine PW_imul c_M_judge_106 ?_
          refine PW_iconst (v := 1) c_M_judge_107 (by decide) ?_
          refine PW_iadd c_M_judge_108 ?_
          refine PW_V0 (d2 := 0) (st := [.int (Y1.1 591)]) [.int (nI sj), .int ((2 * (nI k)) + 1)] c_M_judge_109 lk_M_judge_292 (po_70 _ _) rfl rfl rfl (Nat.le_of_ble_eq_true rfl) (by first | decide | omega) (Nat.le_of_ble_eq_true rfl) ?_
          show PW _ _ _ 0 [some (.ref 70), some (.int (nI sj)), some (.int ((2 * (nI k)) + 1))] [] (E x Y1)
          refine PW_aload_n c_M_byteAt_0 rfl ?_
          refine PW_get (v := .ref 106) c_M_byteAt_1 fl_M_117 (gf_70_55 _ _) ?_
          refine PW_bipush (v := 60) c_M_byteAt_4 (by decide) ?_
          refine PW_iload_n c_M_byteAt_6 rfl ?_
          refine PW_imul c_M_byteAt_7 ?_
          refine PW_iload_n c_M_byteAt_8 rfl ?_
          refine PW_iadd c_M_byteAt_9 ?_
          refine PW_lald (j := 60 * sj + (2 * k + 1)) c_M_byteAt_10 (ar_106 _ _) (by rw [dbl, nI_1, show (60 : Int32) = nI 60 from rfl, pk_mul, nI_add]; exact vp_in_nI (by omega) (by decide)) (by rw [dbl, nI_1, show (60 : Int32) = nI 60 from rfl, pk_mul, nI_add]; exact nI_clamp (by omega)) ?_
          show PW _ _ _ 11 [some (.ref 70), some (.int (nI sj)), some (.int ((2 * (nI k)) + 1))] [.long ((Y1.2.2 106) (60 * sj + (2 * k + 1)))] (E x Y1)
          refine PW_l2i c_M_byteAt_11 ?_
          refine PW_ireturn (ty := .int) c_M_byteAt_12 rfl rfl ?_
          show PW _ _ _ 112 [some (.ref 70), some (.int (nI sj)), some (.int a2), some (.int (nI k))] [.int (((Y1.2.2 106) (60 * sj + (2 * k + 1))).toInt32), .int (Y1.1 591)] (E x Y1)
          refine PW_icmp_eq c_M_judge_112 (fun h3 => absurd h3 (fun q => absurd q (by rw [show Y1.1 591 = (stp T y (plF y sj (2 * k)).toNatClampNeg (a, m, t)).2.1 from s1.2.1, show (Y1.2.2 106 (60 * sj + (2 * k + 1))).toInt32 = plF y sj (2 * k + 1) from hY1k]; exact hE))) (fun h3 => ?_)
          refine PW_iload_n c_M_judge_115 rfl ?_
          refine PW_ireturn (ty := .int) c_M_judge_116 rfl rfl ?_
          exact h
      · have hYr : ¬ (0 ≤ (Y.2.2 106 (60 * sj + 2 * k)).toInt32 ∧ (Y.2.2 106 (60 * sj + 2 * k)).toInt32 ≤ 4) := by rw [hYk]; exact hr
        refine ⟨Y, hY, fun {z post} h => ?_⟩
        rw [jdF, if_neg (fun q => hr q.2)] at h
        refine PW_iconst (v := 2) c_M_judge_44 (by decide) ?_
        refine PW_iload_n c_M_judge_45 rfl ?_
        refine PW_imul c_M_judge_46 ?_
        refine PW_aload_n c_M_judge_47 rfl ?_
        refine PW_get (v := .ref 105) c_M_judge_48 fl_M_114 (gf_70_54 _ _) ?_
        refine PW_iload_n c_M_judge_51 rfl ?_
        refine PW_iald (j := sj) c_M_judge_52 (ar_105 _ _) (vp_in_nI hsj (by decide)) (nI_clamp (by omega)) ?_
        show PW _ _ _ 53 [some (.ref 70), some (.int (nI sj)), some (.int a2), some (.int (nI k))] [.int ((Y.2.1 105) sj), .int (2 * (nI k))] (E x Y)
        refine PW_icmp_ge c_M_judge_53 (fun h0 => absurd h0 (fun q => by rw [hYz, dbl] at q; exact absurd ((nI_leI (by omega) (by omega)).mp q) (by omega))) (fun h0 => ?_)
        refine PW_iconst (v := 2) c_M_judge_56 (by decide) ?_
        refine PW_iload_n c_M_judge_57 rfl ?_
        refine PW_imul c_M_judge_58 ?_
        refine PW_iconst (v := 1) c_M_judge_59 (by decide) ?_
        refine PW_iadd c_M_judge_60 ?_
        refine PW_aload_n c_M_judge_61 rfl ?_
        refine PW_get (v := .ref 105) c_M_judge_62 fl_M_114 (gf_70_54 _ _) ?_
        refine PW_iload_n c_M_judge_65 rfl ?_
        refine PW_iald (j := sj) c_M_judge_66 (ar_105 _ _) (vp_in_nI hsj (by decide)) (nI_clamp (by omega)) ?_
        show PW _ _ _ 67 [some (.ref 70), some (.int (nI sj)), some (.int a2), some (.int (nI k))] [.int ((Y.2.1 105) sj), .int ((2 * (nI k)) + 1)] (E x Y)
        refine PW_icmp_ge c_M_judge_67 (fun h1 => absurd h1 (fun q => by rw [hYz, dbl, nI_1] at q; exact absurd ((nI_leI (by omega) (by omega)).mp q) (by omega))) (fun h1 => ?_)
        refine PW_aload_n c_M_judge_70 rfl ?_
        refine PW_iload_n c_M_judge_71 rfl ?_
        refine PW_iconst (v := 2) c_M_judge_72 (by decide) ?_
        refine PW_iload_n c_M_judge_73 rfl ?_
        refine PW_imul c_M_judge_74 ?_
        refine PW_V0 (d2 := 0) (st := []) [.int (nI sj), .int (2 * (nI k))] c_M_judge_75 lk_M_judge_292 (po_70 _ _) rfl rfl rfl (Nat.le_of_ble_eq_true rfl) (by first | decide | omega) (Nat.le_of_ble_eq_true rfl) ?_
        show PW _ _ _ 0 [some (.ref 70), some (.int (nI sj)), some (.int (2 * (nI k)))] [] (E x Y)
        refine PW_aload_n c_M_byteAt_0 rfl ?_
        refine PW_get (v := .ref 106) c_M_byteAt_1 fl_M_117 (gf_70_55 _ _) ?_
        refine PW_bipush (v := 60) c_M_byteAt_4 (by decide) ?_
        refine PW_iload_n c_M_byteAt_6 rfl ?_
        refine PW_imul c_M_byteAt_7 ?_
        refine PW_iload_n c_M_byteAt_8 rfl ?_
        refine PW_iadd c_M_byteAt_9 ?_
        refine PW_lald (j := 60 * sj + 2 * k) c_M_byteAt_10 (ar_106 _ _) (by rw [dbl, show (60 : Int32) = nI 60 from rfl, pk_mul, nI_add]; exact vp_in_nI (by omega) (by decide)) (by rw [dbl, show (60 : Int32) = nI 60 from rfl, pk_mul, nI_add]; exact nI_clamp (by omega)) ?_
        show PW _ _ _ 11 [some (.ref 70), some (.int (nI sj)), some (.int (2 * (nI k)))] [.long ((Y.2.2 106) (60 * sj + 2 * k))] (E x Y)
        refine PW_l2i c_M_byteAt_11 ?_
        refine PW_ireturn (ty := .int) c_M_byteAt_12 rfl rfl ?_
        show PW _ _ _ 78 [some (.ref 70), some (.int (nI sj)), some (.int a2), some (.int (nI k))] [.int (((Y.2.2 106) (60 * sj + 2 * k)).toInt32)] (E x Y)
        refine PW_S0 (d2 := 1) (st := []) [.int (((Y.2.2 106) (60 * sj + 2 * k)).toInt32)] c_M_judge_78 lk_M_judge_135 rfl rfl rfl (Nat.le_of_ble_eq_true rfl) (by first | decide | omega) (Nat.le_of_ble_eq_true rfl) ?_
        refine sp_M_isRoom  ?_
        show PW _ _ _ 81 [some (.ref 70), some (.int (nI sj)), some (.int a2), some (.int (nI k))] [.int (b2i (0 ≤ (((Y.2.2 106) (60 * sj + 2 * k)).toInt32) ∧ (((Y.2.2 106) (60 * sj + 2 * k)).toInt32) ≤ 4))] (E x Y)
        refine PW_if_ne c_M_judge_81 (fun h2 => absurd (b2i_n0.mp h2) hYr) (fun _ => ?_)
        refine PW_iload_n c_M_judge_84 rfl ?_
        refine PW_ireturn (ty := .int) c_M_judge_85 rfl rfl ?_
        exact h
    · refine ⟨Y, hY, fun {z post} h => ?_⟩
      rw [jdF, if_neg (fun q => hkn q.1)] at h
      refine PW_iconst (v := 2) c_M_judge_44 (by decide) ?_
      refine PW_iload_n c_M_judge_45 rfl ?_
      refine PW_imul c_M_judge_46 ?_
      refine PW_aload_n c_M_judge_47 rfl ?_
      refine PW_get (v := .ref 105) c_M_judge_48 fl_M_114 (gf_70_54 _ _) ?_
      refine PW_iload_n c_M_judge_51 rfl ?_
      refine PW_iald (j := sj) c_M_judge_52 (ar_105 _ _) (vp_in_nI hsj (by decide)) (nI_clamp (by omega)) ?_
      show PW _ _ _ 53 [some (.ref 70), some (.int (nI sj)), some (.int a2), some (.int (nI k))] [.int ((Y.2.1 105) sj), .int (2 * (nI k))] (E x Y)
      refine PW_icmp_ge c_M_judge_53 (fun h0 => absurd h0 (fun q => by rw [hYz, dbl] at q; exact absurd ((nI_leI (by omega) (by omega)).mp q) (by omega))) (fun h0 => ?_)
      refine PW_iconst (v := 2) c_M_judge_56 (by decide) ?_
      refine PW_iload_n c_M_judge_57 rfl ?_
      refine PW_imul c_M_judge_58 ?_
      refine PW_iconst (v := 1) c_M_judge_59 (by decide) ?_
      refine PW_iadd c_M_judge_60 ?_
      refine PW_aload_n c_M_judge_61 rfl ?_
      refine PW_get (v := .ref 105) c_M_judge_62 fl_M_114 (gf_70_54 _ _) ?_
      refine PW_iload_n c_M_judge_65 rfl ?_
      refine PW_iald (j := sj) c_M_judge_66 (ar_105 _ _) (vp_in_nI hsj (by decide)) (nI_clamp (by omega)) ?_
      show PW _ _ _ 67 [some (.ref 70), some (.int (nI sj)), some (.int a2), some (.int (nI k))] [.int ((Y.2.1 105) sj), .int ((2 * (nI k)) + 1)] (E x Y)
      refine PW_icmp_ge c_M_judge_67 (fun h1 => ?_) (fun h1 => absurd (by rw [hYz, dbl, nI_1]; exact (nI_leI (by omega) (by omega)).mpr (by omega)) h1)
      refine PW_iload_n c_M_judge_84 rfl ?_
      refine PW_ireturn (ty := .int) c_M_judge_85 rfl rfl ?_
      exact h
