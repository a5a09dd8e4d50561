/-! a pair, side by side -/
def prI (x y X Y : XS) (a0 : Nat) (m0 : Int32) (k0 : Nat) (e0 w0 : Nat → Int32) (b0 : Nat) (m1 : Int32) (k1 : Nat) (e1 w1 : Nat → Int32) : Prop := (xS x X ∧ yS y Y) ∧ (pXs 42 285 37 40 X a0 m0 (orW w0 k0) k0 e0 w0 ∧ pXs 43 286 38 41 X b0 m1 (orW w1 k1) k1 e1 w1) ∧ (pYs 0 Y a0 m0 k0 e0 w0 ∧ pYs 1 Y b0 m1 k1 e1 w1) ∧ (a0 < 5 ∧ b0 < 5) ∧ (0 ≤ m0.toInt ∧ m0.toInt ≤ ((100 + 66 * k0 : Nat) : Int)) ∧ (0 ≤ m1.toInt ∧ m1.toInt ≤ ((100 + 66 * k1 : Nat) : Int)) ∧ (∀ i, i < k0 → e0 i < 1000000) ∧ ∀ i, i < k1 → e1 i < 1000000
theorem orW_up {w : Nat → Int32} {k : Nat} {v : Int32} : orW (upd w k v) (k + 1) = orW w k ||| v := by
  rw [orW, upd_s, orW_cong (w' := w) (fun i hi => upd_n (by omega))]
theorem far_lt {m : Int32} (h : m.toInt ≤ 900000) : m < 1000000 := by rw [Int32.lt_iff_toInt_lt, show (1000000 : Int32).toInt = 1000000 by decide]; omega
theorem e_up {e : Nat → Int32} {k : Nat} {v : Int32} (h : ∀ i, i < k → e i < 1000000) (hv : v.toInt ≤ 900000) : ∀ i, i < k + 1 → upd e k v i < 1000000 := fun i hi => by
  by_cases q : i = k
  · rw [q, upd_s]; exact far_lt hv
  · rw [upd_n q]; exact h i (by omega)
set_option maxHeartbeats 1000000 in
theorem pr_all {T : Option Txt} {x y : XS} {a1 a2 a3 a4 : Int32} {pj qj n0 n1 N0 N1 : Nat} (C : CPg x y) (hT : lawIs T x y) (e1 : a1 / 10 = nI pj) (e2 : a1 - a1 / 10 * 10 = nI qj) (hpj : pj < 6) (hb0 : x.1 ((58 + 2 * pj) * 8 + 1) = 2 ∧ x.1 ((58 + 2 * pj) * 8 + 3) = 0) (hz0 : x.1 ((58 + 2 * pj) * 8 + 4) = nI n0) (hyz0 : y.2.1 105 pj = nI n0) (hn0 : n0 ≤ 60) (hR0 : ∀ i, i < n0 → (x.2.2 (59 + 2 * pj) i).toInt32 = plF y pj i) (hN0 : N0 ≤ 12) (hL0 : ∀ i, i < N0 → i < n0 ∧ (0 ≤ plF y pj i ∧ plF y pj i ≤ 4)) (hE0 : N0 = 12 ∨ ¬ (N0 < n0 ∧ (0 ≤ plF y pj N0 ∧ plF y pj N0 ≤ 4))) (hqj : qj < 6) (hb1 : x.1 ((58 + 2 * qj) * 8 + 1) = 2 ∧ x.1 ((58 + 2 * qj) * 8 + 3) = 0) (hz1 : x.1 ((58 + 2 * qj) * 8 + 4) = nI n1) (hyz1 : y.2.1 105 qj = nI n1) (hn1 : n1 ≤ 60) (hR1 : ∀ i, i < n1 → (x.2.2 (59 + 2 * qj) i).toInt32 = plF y qj i) (hN1 : N1 ≤ 12) (hL1 : ∀ i, i < N1 → i < n1 ∧ (0 ≤ plF y qj i ∧ plF y qj i ≤ 4)) (hE1 : N1 = 12 ∨ ¬ (N1 < n1 ∧ (0 ≤ plF y qj N1 ∧ plF y qj N1 ≤ 4))) : ∀ (j k0 k1 : Nat) (X Y : XS) (a0 : Nat) (m0 : Int32) (e0 w0 : Nat → Int32) (b0 : Nat) (m1 : Int32) (e1 w1 : Nat → Int32), k0 ≤ N0 → k1 ≤ N1 → (N0 - k0) + (N1 - k1) = j → prI x y X Y a0 m0 k0 e0 w0 b0 m1 k1 e1 w1 → ∃ (XX YY : XS) (A0 : Nat) (M0 : Int32) (K0 : Nat) (E0 W0 : Nat → Int32) (A1 : Nat) (M1 : Int32) (K1 : Nat) (E1 W1 : Nat → Int32), prI x y XX YY A0 M0 K0 E0 W0 A1 M1 K1 E1 W1 ∧ K0 ≤ 12 ∧ K1 ≤ 12 ∧ (∀ {z : ZS} {post : Option Value → List PE → Prop} {l6 l7 l8 l9 : Option Value}, post none (E XX y) → PW (6, 0, 0, z) m_P_goThrough post 14 [some (.ref 35), some (.ref (58 + 2 * pj)), some (.ref (58 + 2 * qj)), some (.int (nI N0)), some (.int (nI N1)), some (.int (nI (k0 + k1))), l6, l7, l8, l9] [] (E X y)) ∧ (∀ {x9 : XS} {z : ZS} {post : Option Value → List PE → Prop} {l5 l6 : Option Value}, PW (5, 0, 0, z) m_M_pair post 255 [some (.ref 70), some (.int a1), some (.int a2), some (.int a3), some (.int a4), l5, l6] [] (E x9 YY) → PW (5, 0, 0, z) m_M_pair post 186 [some (.ref 70), some (.int a1), some (.int a2), some (.int a3), some (.int a4), l5, l6] [] (E x9 Y)) := by
  intro j
  induction j with
  | zero =>
    intro k0 k1 X Y a0 m0 e0 w0 b0 m1 e1x w1 hk0 hk1 hj hI
    have hI' := hI
    obtain ⟨⟨hX, hY⟩, ⟨hp0, hp1⟩, ⟨hy0, hy1⟩, ⟨hA5, hB5⟩, hm0, hm1, hf0e, hf1e⟩ := hI
    have hXb0 : X.1 ((58 + 2 * pj) * 8 + 1) = 2 ∧ X.1 ((58 + 2 * pj) * 8 + 3) = 0 := by rw [hX.1 _ (by omega), hX.1 _ (by omega)]; exact hb0
    have hXz0 : X.1 ((58 + 2 * pj) * 8 + 4) = nI n0 := by rw [hX.1 _ (by omega)]; exact hz0
    have hXR0 : ∀ i, i < n0 → (X.2.2 (59 + 2 * pj) i).toInt32 = plF y pj i := fun i hi => by rw [hX.2.2]; exact hR0 i hi
    have hY1050 : Y.2.1 105 pj = nI n0 := by rw [hY.2.1 105 (by omega)]; exact hyz0
    have hYk0 : (Y.2.2 106 (60 * pj + k0)).toInt32 = plF y pj k0 := by rw [hY.2.2]; rfl
    have hXb1 : X.1 ((58 + 2 * qj) * 8 + 1) = 2 ∧ X.1 ((58 + 2 * qj) * 8 + 3) = 0 := by rw [hX.1 _ (by omega), hX.1 _ (by omega)]; exact hb1
    have hXz1 : X.1 ((58 + 2 * qj) * 8 + 4) = nI n1 := by rw [hX.1 _ (by omega)]; exact hz1
    have hXR1 : ∀ i, i < n1 → (X.2.2 (59 + 2 * qj) i).toInt32 = plF y qj i := fun i hi => by rw [hX.2.2]; exact hR1 i hi
    have hY1051 : Y.2.1 105 qj = nI n1 := by rw [hY.2.1 105 (by omega)]; exact hyz1
    have hYk1 : (Y.2.2 106 (60 * qj + k1)).toInt32 = plF y qj k1 := by rw [hY.2.2]; rfl
    have hno0 : ¬ (k0 < n0 ∧ k0 < 12 ∧ (0 ≤ (Y.2.2 106 (60 * pj + k0)).toInt32 ∧ (Y.2.2 106 (60 * pj + k0)).toInt32 ≤ 4)) := fun q => by
      rcases hE0 with z | z
      · omega
      · exact z ⟨by omega, by rw [show N0 = k0 by omega, ← hYk0]; exact q.2.2⟩
    have hno1 : ¬ (k1 < n1 ∧ k1 < 12 ∧ (0 ≤ (Y.2.2 106 (60 * qj + k1)).toInt32 ∧ (Y.2.2 106 (60 * qj + k1)).toInt32 ≤ 4)) := fun q => by
      rcases hE1 with z | z
      · omega
      · exact z ⟨by omega, by rw [show N1 = k1 by omega, ← hYk1]; exact q.2.2⟩
    refine ⟨X, Y, a0, m0, k0, e0, w0, b0, m1, k1, e1x, w1, hI', by omega, by omega, fun {z post l6 l7 l8 l9} h => ?_, fun {x9 z post l5 l6} h => ?_⟩
    · by_cases q24 : 24 ≤ k0 + k1
      · skip
        refine PW_iload c_P_goThrough_14 rfl ?_
        refine PW_bipush (v := 24) c_P_goThrough_16 (by decide) ?_
        refine PW_icmp_ge c_P_goThrough_18 (fun h0 => ?_) (fun h0 => absurd ((nI_leI (by decide) (by omega)).mpr (show 24 ≤ k0 + k1 by omega) : nI 24 ≤ nI (k0 + k1)) h0)
        refine PW_vreturn c_P_goThrough_183 rfl ?_
        exact h
      · skip
        refine PW_iload c_P_goThrough_14 rfl ?_
        refine PW_bipush (v := 24) c_P_goThrough_16 (by decide) ?_
        refine PW_icmp_ge c_P_goThrough_18 (fun h0 => absurd h0 (fun q => absurd ((nI_leI (by decide) (by omega)).mp (show nI 24 ≤ nI (k0 + k1) from q)) (by omega))) (fun h0 => ?_)
        refine PW_aload_n c_P_goThrough_21 rfl ?_
        refine PW_get (v := .int (X.1 285)) c_P_goThrough_22 fl_P_39 (gf_35_5 _ _) ?_
        rw [hp0.2.1]
        show PW _ _ _ 25 [some (.ref 35), some (.ref (58 + 2 * pj)), some (.ref (58 + 2 * qj)), some (.int (nI N0)), some (.int (nI N1)), some (.int (nI (k0 + k1))), l6, l7, l8, l9] [.int (nI k0)] (E X y)
        refine PW_iload_n c_P_goThrough_25 rfl ?_
        refine PW_icmp_ge c_P_goThrough_26 (fun h1 => ?_) (fun h1 => absurd ((nI_leI (by omega) (by omega)).mpr (by omega)) h1)
        refine PW_iconst (v := 0) c_P_goThrough_33 (by decide) ?_
        refine PW_istore (i := 6) (L2 := [some (.ref 35), some (.ref (58 + 2 * pj)), some (.ref (58 + 2 * qj)), some (.int (nI N0)), some (.int (nI N1)), some (.int (nI (k0 + k1))), some (.int 0), l7, l8, l9]) c_P_goThrough_34 (Nat.le_of_ble_eq_true rfl) rfl rfl ?_
        refine PW_aload_n c_P_goThrough_36 rfl ?_
        refine PW_get (v := .int (X.1 286)) c_P_goThrough_37 fl_P_43 (gf_35_6 _ _) ?_
        rw [hp1.2.1]
        show PW _ _ _ 40 [some (.ref 35), some (.ref (58 + 2 * pj)), some (.ref (58 + 2 * qj)), some (.int (nI N0)), some (.int (nI N1)), some (.int (nI (k0 + k1))), some (.int 0), l7, l8, l9] [.int (nI k1)] (E X y)
        refine PW_iload c_P_goThrough_40 rfl ?_
        refine PW_icmp_ge c_P_goThrough_42 (fun h2 => ?_) (fun h2 => absurd ((nI_leI (by omega) (by omega)).mpr (by omega)) h2)
        refine PW_iconst (v := 0) c_P_goThrough_49 (by decide) ?_
        refine PW_istore (i := 7) (L2 := [some (.ref 35), some (.ref (58 + 2 * pj)), some (.ref (58 + 2 * qj)), some (.int (nI N0)), some (.int (nI N1)), some (.int (nI (k0 + k1))), some (.int 0), some (.int 0), l8, l9]) c_P_goThrough_50 (Nat.le_of_ble_eq_true rfl) rfl rfl ?_
        refine PW_iload c_P_goThrough_52 rfl ?_
        refine PW_if_ne c_P_goThrough_54 (fun h3 => absurd (by decide) h3) (fun _ => ?_)
        refine PW_iload c_P_goThrough_57 rfl ?_
        refine PW_if_ne c_P_goThrough_59 (fun h4 => absurd (by decide) h4) (fun _ => ?_)
        refine PW_goto c_P_goThrough_62 ?_
        refine PW_vreturn c_P_goThrough_183 rfl ?_
        exact h
    · skip
      refine PW_aload_n c_M_pair_186 rfl ?_
      refine PW_iconst (v := 0) c_M_pair_187 (by decide) ?_
      refine PW_iload_n c_M_pair_188 rfl ?_
      refine PW_bipush (v := 10) c_M_pair_189 (by decide) ?_
      refine PW_idiv c_M_pair_191 (by decide) ?_
      rw [e1]
      show PW _ _ _ 192 [some (.ref 70), some (.int a1), some (.int a2), some (.int a3), some (.int a4), l5, l6] [.int (nI pj), .int 0, .ref 70] (E x9 Y)
      refine PW_V0 (d2 := 2) (st := []) [.int 0, .int (nI pj)] c_M_pair_192 lk_M_pair_321 (po_70 _ _) rfl rfl rfl (Nat.le_of_ble_eq_true rfl) (by first | decide | omega) (Nat.le_of_ble_eq_true rfl) ?_
      refine sp_hm0_0 hpj hn0 hy0.2.2.1 hY1050 (by omega) hno0 ?_
      show PW _ _ _ 195 [some (.ref 70), some (.int a1), some (.int a2), some (.int a3), some (.int a4), l5, l6] [.int 0] (E x9 Y)
      refine PW_if_ne c_M_pair_195 (fun h0 => absurd (by decide) h0) (fun _ => ?_)
      refine PW_aload_n c_M_pair_198 rfl ?_
      refine PW_iconst (v := 1) c_M_pair_199 (by decide) ?_
      refine PW_iload_n c_M_pair_200 rfl ?_
      refine PW_bipush (v := 10) c_M_pair_201 (by decide) ?_
      refine PW_irem c_M_pair_203 (by decide) ?_
      rw [e2]
      show PW _ _ _ 204 [some (.ref 70), some (.int a1), some (.int a2), some (.int a3), some (.int a4), l5, l6] [.int (nI qj), .int 1, .ref 70] (E x9 Y)
      refine PW_V0 (d2 := 2) (st := []) [.int 1, .int (nI qj)] c_M_pair_204 lk_M_pair_321 (po_70 _ _) rfl rfl rfl (Nat.le_of_ble_eq_true rfl) (by first | decide | omega) (Nat.le_of_ble_eq_true rfl) ?_
      refine sp_hm0_1 hqj hn1 hy1.2.2.1 hY1051 (by omega) hno1 ?_
      show PW _ _ _ 207 [some (.ref 70), some (.int a1), some (.int a2), some (.int a3), some (.int a4), l5, l6] [.int 0] (E x9 Y)
      refine PW_if_eq c_M_pair_207 (fun _ => ?_) (fun h1 => absurd (by decide) h1)
      exact h
  | succ j ih0 =>
    intro k0 k1 X Y a0 m0 e0 w0 b0 m1 e1x w1 hk0 hk1 hj hI
    have ih := fun (k0 k1 : Nat) (X Y : XS) (a0 : Nat) (m0 : Int32) (e0 w0 : Nat → Int32) (b0 : Nat) (m1 : Int32) (e1 w1 : Nat → Int32) (h1 : k0 ≤ N0) (h2 : k1 ≤ N1) (h3 : (N0 - k0) + (N1 - k1) = j) => ih0 k0 k1 X Y a0 m0 e0 w0 b0 m1 e1 w1 h1 h2 h3
    obtain ⟨⟨hX, hY⟩, ⟨hp0, hp1⟩, ⟨hy0, hy1⟩, ⟨hA5, hB5⟩, hm0, hm1, hf0e, hf1e⟩ := hI
    have CX := CPg_S C hX (yS_0 y)
    have hW : WG Y := (CPg_S C (xS_0 x) hY).1
    obtain ⟨g1, g2, g3, g4, g5, g6, g7⟩ := gE_fun (gE_S hY)
    have hXb0 : X.1 ((58 + 2 * pj) * 8 + 1) = 2 ∧ X.1 ((58 + 2 * pj) * 8 + 3) = 0 := by rw [hX.1 _ (by omega), hX.1 _ (by omega)]; exact hb0
    have hXz0 : X.1 ((58 + 2 * pj) * 8 + 4) = nI n0 := by rw [hX.1 _ (by omega)]; exact hz0
    have hXR0 : ∀ i, i < n0 → (X.2.2 (59 + 2 * pj) i).toInt32 = plF y pj i := fun i hi => by rw [hX.2.2]; exact hR0 i hi
    have hY1050 : Y.2.1 105 pj = nI n0 := by rw [hY.2.1 105 (by omega)]; exact hyz0
    have hYk0 : (Y.2.2 106 (60 * pj + k0)).toInt32 = plF y pj k0 := by rw [hY.2.2]; rfl
    have hXb1 : X.1 ((58 + 2 * qj) * 8 + 1) = 2 ∧ X.1 ((58 + 2 * qj) * 8 + 3) = 0 := by rw [hX.1 _ (by omega), hX.1 _ (by omega)]; exact hb1
    have hXz1 : X.1 ((58 + 2 * qj) * 8 + 4) = nI n1 := by rw [hX.1 _ (by omega)]; exact hz1
    have hXR1 : ∀ i, i < n1 → (X.2.2 (59 + 2 * qj) i).toInt32 = plF y qj i := fun i hi => by rw [hX.2.2]; exact hR1 i hi
    have hY1051 : Y.2.1 105 qj = nI n1 := by rw [hY.2.1 105 (by omega)]; exact hyz1
    have hYk1 : (Y.2.2 106 (60 * qj + k1)).toInt32 = plF y qj k1 := by rw [hY.2.2]; rfl
    by_cases hc0 : k0 < N0
    · by_cases hc1 : k1 < N1
      · skip
        have hrm0 := (hL0 k0 (by omega)).2
        have hkn0 := (hL0 k0 (by omega)).1
        have hg0 := rm_nI hrm0
        have hYr0 : 0 ≤ (Y.2.2 106 (60 * pj + k0)).toInt32 ∧ (Y.2.2 106 (60 * pj + k0)).toInt32 ≤ 4 := by rw [hYk0]; exact hrm0
        have hYb0 : (Y.2.2 106 (60 * pj + k0)).toInt32 = nI (plF y pj k0).toNatClampNeg := hYk0.trans hg0.1
        have hw0 := stp_b (T := T) (t := 0) C hA5 hg0.2 hm0 (by omega)
        have hrm1 := (hL1 k1 (by omega)).2
        have hkn1 := (hL1 k1 (by omega)).1
        have hg1 := rm_nI hrm1
        have hYr1 : 0 ≤ (Y.2.2 106 (60 * qj + k1)).toInt32 ∧ (Y.2.2 106 (60 * qj + k1)).toInt32 ≤ 4 := by rw [hYk1]; exact hrm1
        have hYb1 : (Y.2.2 106 (60 * qj + k1)).toInt32 = nI (plF y qj k1).toNatClampNeg := hYk1.trans hg1.1
        have hw1 := stp_b (T := T) (t := 0) C hB5 hg1.2 hm1 (by omega)
        by_cases hle : m0 + wayN y a0 (plF y pj k0).toNatClampNeg ≤ m1 + wayN y b0 (plF y qj k1).toNatClampNeg
        · skip
          obtain ⟨X3, hX3, hV, hq0, hq1, HV⟩ := G_visit0 (T := T) (b := (plF y pj k0).toNatClampNeg) C hT hX hp0 hp1 hA5 hg0.2 (by omega) (by omega) hm0 (by omega)
          obtain ⟨Y3, hY3, hs0, hs1, HVM⟩ := M_visit0 (T := T) (x0 := x) (b := (plF y pj k0).toNatClampNeg) hpj hn0 hW (law_S hT (xS_0 x) hY) hY1050 hy0 hy1 (by omega) (by omega) (by omega) hYr0 hYb0 hA5 hg0.2
          rw [g5, g6, g7] at hs0
          have hbd := stp_b (T := T) (t := orW w0 k0 ||| orB e1x w1 (m0 + wayN y a0 (plF y pj k0).toNatClampNeg) k1) C hA5 hg0.2 hm0 (by omega)
          obtain ⟨XX, YY, A0, M0, K0, E0, W0, A1, M1, K1, E1, W1, hI2, hK0, hK1, HG, HM⟩ := ih (k0 + 1) k1 _ _ _ _ _ _ _ _ _ _ (by omega) (by omega) (by omega) ⟨⟨hX3, yS_t hY hY3⟩, ⟨by rw [orW_up]; exact hq0, hq1⟩, ⟨hs0, hs1⟩, ⟨hg0.2, hB5⟩, ⟨hbd.2.2.1, Int.le_trans hbd.2.2.2 (by omega)⟩, hm1, e_up hf0e (Int.le_trans hbd.2.2.2 (by omega)), hf1e⟩
          refine ⟨XX, YY, A0, M0, K0, E0, W0, A1, M1, K1, E1, W1, hI2, hK0, hK1, fun {z post l6 l7 l8 l9} h => ?_, fun {x9 z post l5 l6} h => ?_⟩
          · skip
            refine PW_iload c_P_goThrough_14 rfl ?_
            refine PW_bipush (v := 24) c_P_goThrough_16 (by decide) ?_
            refine PW_icmp_ge c_P_goThrough_18 (fun h0 => absurd h0 (fun q => absurd ((nI_leI (by decide) (by omega)).mp (show nI 24 ≤ nI (k0 + k1) from q)) (by omega))) (fun h0 => ?_)
            refine PW_aload_n c_P_goThrough_21 rfl ?_
            refine PW_get (v := .int (X.1 285)) c_P_goThrough_22 fl_P_39 (gf_35_5 _ _) ?_
            rw [hp0.2.1]
            show PW _ _ _ 25 [some (.ref 35), some (.ref (58 + 2 * pj)), some (.ref (58 + 2 * qj)), some (.int (nI N0)), some (.int (nI N1)), some (.int (nI (k0 + k1))), l6, l7, l8, l9] [.int (nI k0)] (E X y)
            refine PW_iload_n c_P_goThrough_25 rfl ?_
            refine PW_icmp_ge c_P_goThrough_26 (fun h1 => absurd h1 (fun q => absurd ((nI_leI (by omega) (by omega)).mp q) (by omega))) (fun h1 => ?_)
            refine PW_iconst (v := 1) c_P_goThrough_29 (by decide) ?_
            refine PW_goto c_P_goThrough_30 ?_
            refine PW_istore (i := 6) (L2 := [some (.ref 35), some (.ref (58 + 2 * pj)), some (.ref (58 + 2 * qj)), some (.int (nI N0)), some (.int (nI N1)), some (.int (nI (k0 + k1))), some (.int 1), l7, l8, l9]) c_P_goThrough_34 (Nat.le_of_ble_eq_true rfl) rfl rfl ?_
            refine PW_aload_n c_P_goThrough_36 rfl ?_
            refine PW_get (v := .int (X.1 286)) c_P_goThrough_37 fl_P_43 (gf_35_6 _ _) ?_
            rw [hp1.2.1]
            show PW _ _ _ 40 [some (.ref 35), some (.ref (58 + 2 * pj)), some (.ref (58 + 2 * qj)), some (.int (nI N0)), some (.int (nI N1)), some (.int (nI (k0 + k1))), some (.int 1), l7, l8, l9] [.int (nI k1)] (E X y)
            refine PW_iload c_P_goThrough_40 rfl ?_
            refine PW_icmp_ge c_P_goThrough_42 (fun h2 => absurd h2 (fun q => absurd ((nI_leI (by omega) (by omega)).mp q) (by omega))) (fun h2 => ?_)
            refine PW_iconst (v := 1) c_P_goThrough_45 (by decide) ?_
            refine PW_goto c_P_goThrough_46 ?_
            refine PW_istore (i := 7) (L2 := [some (.ref 35), some (.ref (58 + 2 * pj)), some (.ref (58 + 2 * qj)), some (.int (nI N0)), some (.int (nI N1)), some (.int (nI (k0 + k1))), some (.int 1), some (.int 1), l8, l9]) c_P_goThrough_50 (Nat.le_of_ble_eq_true rfl) rfl rfl ?_
            refine PW_iload c_P_goThrough_52 rfl ?_
            refine PW_if_ne c_P_goThrough_54 (fun _ => ?_) (fun h3 => absurd h3 (by decide))
            refine PW_aload_n c_P_goThrough_65 rfl ?_
            refine PW_aload_n c_P_goThrough_66 rfl ?_
            refine PW_get (v := .int (X.1 285)) c_P_goThrough_67 fl_P_39 (gf_35_5 _ _) ?_
            rw [hp0.2.1]
            show PW _ _ _ 70 [some (.ref 35), some (.ref (58 + 2 * pj)), some (.ref (58 + 2 * qj)), some (.int (nI N0)), some (.int (nI N1)), some (.int (nI (k0 + k1))), some (.int 1), some (.int 1), l8, l9] [.int (nI k0), .ref (58 + 2 * pj)] (E X y)
            refine PW_V0 (d2 := 2) (st := []) [.int (nI k0)] c_P_goThrough_70 lk_P_goThrough_52 (sh_po _ _ hpj) rfl rfl rfl (Nat.le_of_ble_eq_true rfl) (by first | decide | omega) (Nat.le_of_ble_eq_true rfl) ?_
            refine sp_F_small hpj hXb0 hXz0 hn0 rfl (by omega) ?_
            rw [if_pos (show k0 < n0 by omega), hXR0 k0 (by omega), hg0.1]
            show PW _ _ _ 73 [some (.ref 35), some (.ref (58 + 2 * pj)), some (.ref (58 + 2 * qj)), some (.int (nI N0)), some (.int (nI N1)), some (.int (nI (k0 + k1))), some (.int 1), some (.int 1), l8, l9] [.int (nI (plF y pj k0).toNatClampNeg)] (E X y)
            refine PW_istore (i := 8) (L2 := [some (.ref 35), some (.ref (58 + 2 * pj)), some (.ref (58 + 2 * qj)), some (.int (nI N0)), some (.int (nI N1)), some (.int (nI (k0 + k1))), some (.int 1), some (.int 1), some (.int (nI (plF y pj k0).toNatClampNeg)), l9]) c_P_goThrough_73 (Nat.le_of_ble_eq_true rfl) rfl rfl ?_
            refine PW_aload_n c_P_goThrough_75 rfl ?_
            refine PW_aload_n c_P_goThrough_76 rfl ?_
            refine PW_get (v := .int (X.1 286)) c_P_goThrough_77 fl_P_43 (gf_35_6 _ _) ?_
            rw [hp1.2.1]
            show PW _ _ _ 80 [some (.ref 35), some (.ref (58 + 2 * pj)), some (.ref (58 + 2 * qj)), some (.int (nI N0)), some (.int (nI N1)), some (.int (nI (k0 + k1))), some (.int 1), some (.int 1), some (.int (nI (plF y pj k0).toNatClampNeg)), l9] [.int (nI k1), .ref (58 + 2 * qj)] (E X y)
            refine PW_V0 (d2 := 2) (st := []) [.int (nI k1)] c_P_goThrough_80 lk_P_goThrough_52 (sh_po _ _ hqj) rfl rfl rfl (Nat.le_of_ble_eq_true rfl) (by first | decide | omega) (Nat.le_of_ble_eq_true rfl) ?_
            refine sp_F_small hqj hXb1 hXz1 hn1 rfl (by omega) ?_
            rw [if_pos (show k1 < n1 by omega), hXR1 k1 (by omega), hg1.1]
            show PW _ _ _ 83 [some (.ref 35), some (.ref (58 + 2 * pj)), some (.ref (58 + 2 * qj)), some (.int (nI N0)), some (.int (nI N1)), some (.int (nI (k0 + k1))), some (.int 1), some (.int 1), some (.int (nI (plF y pj k0).toNatClampNeg)), l9] [.int (nI (plF y qj k1).toNatClampNeg)] (E X y)
            refine PW_istore (i := 9) (L2 := [some (.ref 35), some (.ref (58 + 2 * pj)), some (.ref (58 + 2 * qj)), some (.int (nI N0)), some (.int (nI N1)), some (.int (nI (k0 + k1))), some (.int 1), some (.int 1), some (.int (nI (plF y pj k0).toNatClampNeg)), some (.int (nI (plF y qj k1).toNatClampNeg))]) c_P_goThrough_83 (Nat.le_of_ble_eq_true rfl) rfl rfl ?_
            refine PW_iload c_P_goThrough_85 rfl ?_
            refine PW_if_eq c_P_goThrough_87 (fun h4 => absurd h4 (by decide)) (fun _ => ?_)
            refine PW_iload c_P_goThrough_90 rfl ?_
            refine PW_if_eq c_P_goThrough_92 (fun h5 => absurd h5 (by decide)) (fun _ => ?_)
            refine PW_aload_n c_P_goThrough_95 rfl ?_
            refine PW_get (v := .ref 42) c_P_goThrough_96 fl_P_28 (gf_35_1 _ _) ?_
            refine PW_iload c_P_goThrough_99 rfl ?_
            refine PW_V0 (d2 := 2) (st := []) [.int (nI (plF y pj k0).toNatClampNeg)] c_P_goThrough_101 lk_P_goThrough_56 (po_42 _ _) rfl rfl rfl (Nat.le_of_ble_eq_true rfl) (by first | decide | omega) (Nat.le_of_ble_eq_true rfl) ?_
            refine sp_V_arrival (o := 42) (Or.inr (Or.inl rfl)) CX hp0.1 hA5 hg0.2 ?_
            show PW _ _ _ 104 [some (.ref 35), some (.ref (58 + 2 * pj)), some (.ref (58 + 2 * qj)), some (.int (nI N0)), some (.int (nI N1)), some (.int (nI (k0 + k1))), some (.int 1), some (.int 1), some (.int (nI (plF y pj k0).toNatClampNeg)), some (.int (nI (plF y qj k1).toNatClampNeg))] [.int (m0 + wayN y a0 (plF y pj k0).toNatClampNeg)] (E X y)
            refine PW_aload_n c_P_goThrough_104 rfl ?_
            refine PW_get (v := .ref 43) c_P_goThrough_105 fl_P_32 (gf_35_2 _ _) ?_
            refine PW_iload c_P_goThrough_108 rfl ?_
            refine PW_V0 (d2 := 2) (st := [.int (m0 + wayN y a0 (plF y pj k0).toNatClampNeg)]) [.int (nI (plF y qj k1).toNatClampNeg)] c_P_goThrough_110 lk_P_goThrough_56 (po_43 _ _) rfl rfl rfl (Nat.le_of_ble_eq_true rfl) (by first | decide | omega) (Nat.le_of_ble_eq_true rfl) ?_
            refine sp_V_arrival (o := 43) (Or.inr (Or.inr (Or.inl rfl))) CX hp1.1 hB5 hg1.2 ?_
            show PW _ _ _ 113 [some (.ref 35), some (.ref (58 + 2 * pj)), some (.ref (58 + 2 * qj)), some (.int (nI N0)), some (.int (nI N1)), some (.int (nI (k0 + k1))), some (.int 1), some (.int 1), some (.int (nI (plF y pj k0).toNatClampNeg)), some (.int (nI (plF y qj k1).toNatClampNeg))] [.int (m1 + wayN y b0 (plF y qj k1).toNatClampNeg), .int (m0 + wayN y a0 (plF y pj k0).toNatClampNeg)] (E X y)
            refine PW_icmp_gt c_P_goThrough_113 (fun h6 => absurd h6 (Int32.not_lt.mpr hle)) (fun h6 => ?_)
            refine PW_aload_n c_P_goThrough_116 rfl ?_
            refine PW_aload_n c_P_goThrough_117 rfl ?_
            refine PW_get (v := .ref 42) c_P_goThrough_118 fl_P_28 (gf_35_1 _ _) ?_
            refine PW_iload c_P_goThrough_121 rfl ?_
            refine PW_iconst (v := 0) c_P_goThrough_123 (by decide) ?_
            refine PW_aload_n c_P_goThrough_124 rfl ?_
            refine PW_get (v := .int (X.1 285)) c_P_goThrough_125 fl_P_39 (gf_35_5 _ _) ?_
            rw [hp0.2.1]
            show PW _ _ _ 128 [some (.ref 35), some (.ref (58 + 2 * pj)), some (.ref (58 + 2 * qj)), some (.int (nI N0)), some (.int (nI N1)), some (.int (nI (k0 + k1))), some (.int 1), some (.int 1), some (.int (nI (plF y pj k0).toNatClampNeg)), some (.int (nI (plF y qj k1).toNatClampNeg))] [.int (nI k0), .int 0, .int (nI (plF y pj k0).toNatClampNeg), .ref 42, .ref 35] (E X y)
            refine PW_aload_n c_P_goThrough_128 rfl ?_
            refine PW_get (v := .int (X.1 286)) c_P_goThrough_129 fl_P_43 (gf_35_6 _ _) ?_
            rw [hp1.2.1]
            show PW _ _ _ 132 [some (.ref 35), some (.ref (58 + 2 * pj)), some (.ref (58 + 2 * qj)), some (.int (nI N0)), some (.int (nI N1)), some (.int (nI (k0 + k1))), some (.int 1), some (.int 1), some (.int (nI (plF y pj k0).toNatClampNeg)), some (.int (nI (plF y qj k1).toNatClampNeg))] [.int (nI k1), .int (nI k0), .int 0, .int (nI (plF y pj k0).toNatClampNeg), .ref 42, .ref 35] (E X y)
            refine PW_V0 (d2 := 5) (st := []) [.ref 42, .int (nI (plF y pj k0).toNatClampNeg), .int 0, .int (nI k0), .int (nI k1)] c_P_goThrough_132 lk_P_goThrough_59 (po_35 _ _) rfl rfl rfl (Nat.le_of_ble_eq_true rfl) (by first | decide | omega) (Nat.le_of_ble_eq_true rfl) ?_
            refine HV ?_
            show PW _ _ _ 135 [some (.ref 35), some (.ref (58 + 2 * pj)), some (.ref (58 + 2 * qj)), some (.int (nI N0)), some (.int (nI N1)), some (.int (nI (k0 + k1))), some (.int 1), some (.int 1), some (.int (nI (plF y pj k0).toNatClampNeg)), some (.int (nI (plF y qj k1).toNatClampNeg))] [] (E X3 y)
            refine PW_aload_n c_P_goThrough_135 rfl ?_
            refine PW_dup c_P_goThrough_136 rfl ?_
            refine PW_get (v := .int (X3.1 285)) c_P_goThrough_137 fl_P_39 (gf_35_5 _ _) ?_
            rw [hV]
            show PW _ _ _ 140 [some (.ref 35), some (.ref (58 + 2 * pj)), some (.ref (58 + 2 * qj)), some (.int (nI N0)), some (.int (nI N1)), some (.int (nI (k0 + k1))), some (.int 1), some (.int 1), some (.int (nI (plF y pj k0).toNatClampNeg)), some (.int (nI (plF y qj k1).toNatClampNeg))] [.int (nI k0), .ref 35] (E X3 y)
            refine PW_iconst (v := 1) c_P_goThrough_140 (by decide) ?_
            refine PW_iadd c_P_goThrough_141 ?_
            refine PW_put (w2 := E (sI X3 285 ((nI k0) + 1)) y) c_P_goThrough_142 fp_P_goThrough_39 rfl (pf_35_5 _ _ _) ?_
            refine PW_goto c_P_goThrough_145 ?_
            refine PW_iinc (i := 5) (v := (nI (k0 + k1)) + 1) (L2 := [some (.ref 35), some (.ref (58 + 2 * pj)), some (.ref (58 + 2 * qj)), some (.int (nI N0)), some (.int (nI N1)), some (.int ((nI (k0 + k1)) + 1)), some (.int 1), some (.int 1), some (.int (nI (plF y pj k0).toNatClampNeg)), some (.int (nI (plF y qj k1).toNatClampNeg))]) c_P_goThrough_177 rfl (iinc_v (by decide)) (Nat.le_of_ble_eq_true rfl) rfl rfl ?_
            refine PW_goto c_P_goThrough_180 ?_
            rw [show (nI k0 + 1 : Int32) = nI (k0 + 1) from nI_1 k0]
            refine PW.eqL ?_ rfl rfl (HG (l6 := some (.int 1)) (l7 := some (.int 1)) (l8 := some (.int (nI (plF y pj k0).toNatClampNeg))) (l9 := some (.int (nI (plF y qj k1).toNatClampNeg))) h)
            show ([some (.ref 35), some (.ref (58 + 2 * pj)), some (.ref (58 + 2 * qj)), some (.int (nI N0)), some (.int (nI N1)), some (.int ((nI (k0 + k1)) + 1)), some (.int 1), some (.int 1), some (.int (nI (plF y pj k0).toNatClampNeg)), some (.int (nI (plF y qj k1).toNatClampNeg))] : List (Option Value)) = [some (.ref 35), some (.ref (58 + 2 * pj)), some (.ref (58 + 2 * qj)), some (.int (nI N0)), some (.int (nI N1)), some (.int (nI (k0 + 1 + k1))), some (.int 1), some (.int 1), some (.int (nI (plF y pj k0).toNatClampNeg)), some (.int (nI (plF y qj k1).toNatClampNeg))]
            rw [nI_1, show k0 + k1 + 1 = k0 + 1 + k1 by omega]
          · skip
            refine PW_aload_n c_M_pair_186 rfl ?_
            refine PW_iconst (v := 0) c_M_pair_187 (by decide) ?_
            refine PW_iload_n c_M_pair_188 rfl ?_
            refine PW_bipush (v := 10) c_M_pair_189 (by decide) ?_
            refine PW_idiv c_M_pair_191 (by decide) ?_
            rw [e1]
            show PW _ _ _ 192 [some (.ref 70), some (.int a1), some (.int a2), some (.int a3), some (.int a4), l5, l6] [.int (nI pj), .int 0, .ref 70] (E x9 Y)
            refine PW_V0 (d2 := 2) (st := []) [.int 0, .int (nI pj)] c_M_pair_192 lk_M_pair_321 (po_70 _ _) rfl rfl rfl (Nat.le_of_ble_eq_true rfl) (by first | decide | omega) (Nat.le_of_ble_eq_true rfl) ?_
            refine sp_hm1_0 hpj hn0 hy0.2.2.1 hY1050 (by omega) (by omega) hYr0 ?_
            show PW _ _ _ 195 [some (.ref 70), some (.int a1), some (.int a2), some (.int a3), some (.int a4), l5, l6] [.int 1] (E x9 Y)
            refine PW_if_ne c_M_pair_195 (fun _ => ?_) (fun h0 => absurd h0 (by decide))
            refine PW_aload_n c_M_pair_210 rfl ?_
            refine PW_iconst (v := 0) c_M_pair_211 (by decide) ?_
            refine PW_iload_n c_M_pair_212 rfl ?_
            refine PW_bipush (v := 10) c_M_pair_213 (by decide) ?_
            refine PW_idiv c_M_pair_215 (by decide) ?_
            rw [e1]
            show PW _ _ _ 216 [some (.ref 70), some (.int a1), some (.int a2), some (.int a3), some (.int a4), l5, l6] [.int (nI pj), .int 0, .ref 70] (E x9 Y)
            refine PW_V0 (d2 := 3) (st := []) [.int 0, .int (nI pj)] c_M_pair_216 lk_M_pair_324 (po_70 _ _) rfl rfl rfl (Nat.le_of_ble_eq_true rfl) (by first | decide | omega) (Nat.le_of_ble_eq_true rfl) ?_
            refine sp_so1_0 hpj hn0 hy0.2.2.1 hY1050 hy0.1 hy0.2.1 (by omega) (by omega) hYr0 hYb0 hA5 hg0.2 ?_
            show PW _ _ _ 219 [some (.ref 70), some (.int a1), some (.int a2), some (.int a3), some (.int a4), l5, l6] [.int (m0 + wayN Y a0 (plF y pj k0).toNatClampNeg)] (E x9 Y)
            refine PW_aload_n c_M_pair_219 rfl ?_
            refine PW_iconst (v := 1) c_M_pair_220 (by decide) ?_
            refine PW_iload_n c_M_pair_221 rfl ?_
            refine PW_bipush (v := 10) c_M_pair_222 (by decide) ?_
            refine PW_irem c_M_pair_224 (by decide) ?_
            rw [e2]
            show PW _ _ _ 225 [some (.ref 70), some (.int a1), some (.int a2), some (.int a3), some (.int a4), l5, l6] [.int (nI qj), .int 1, .ref 70, .int (m0 + wayN Y a0 (plF y pj k0).toNatClampNeg)] (E x9 Y)
            refine PW_V0 (d2 := 3) (st := [.int (m0 + wayN Y a0 (plF y pj k0).toNatClampNeg)]) [.int 1, .int (nI qj)] c_M_pair_225 lk_M_pair_324 (po_70 _ _) rfl rfl rfl (Nat.le_of_ble_eq_true rfl) (by first | decide | omega) (Nat.le_of_ble_eq_true rfl) ?_
            refine sp_so1_1 hqj hn1 hy1.2.2.1 hY1051 hy1.1 hy1.2.1 (by omega) (by omega) hYr1 hYb1 hB5 hg1.2 ?_
            show PW _ _ _ 228 [some (.ref 70), some (.int a1), some (.int a2), some (.int a3), some (.int a4), l5, l6] [.int (m1 + wayN Y b0 (plF y qj k1).toNatClampNeg), .int (m0 + wayN Y a0 (plF y pj k0).toNatClampNeg)] (E x9 Y)
            refine PW_icmp_gt c_M_pair_228 (fun h1 => absurd h1 (by rw [g5, g5]; exact Int32.not_lt.mpr hle)) (fun h1 => ?_)
            refine PW_aload_n c_M_pair_231 rfl ?_
            refine PW_iconst (v := 0) c_M_pair_232 (by decide) ?_
            refine PW_iload_n c_M_pair_233 rfl ?_
            refine PW_bipush (v := 10) c_M_pair_234 (by decide) ?_
            refine PW_idiv c_M_pair_236 (by decide) ?_
            rw [e1]
            show PW _ _ _ 237 [some (.ref 70), some (.int a1), some (.int a2), some (.int a3), some (.int a4), l5, l6] [.int (nI pj), .int 0, .ref 70] (E x9 Y)
            refine PW_V0 (d2 := 4) (st := []) [.int 0, .int (nI pj)] c_M_pair_237 lk_M_pair_330 (po_70 _ _) rfl rfl rfl (Nat.le_of_ble_eq_true rfl) (by first | decide | omega) (Nat.le_of_ble_eq_true rfl) ?_
            refine HVM ?_
            show PW _ _ _ 240 [some (.ref 70), some (.int a1), some (.int a2), some (.int a3), some (.int a4), l5, l6] [] (E x9 Y3)
            refine PW_goto c_M_pair_240 ?_
            exact HM (l5 := l5) (l6 := l6) h
        · skip
          obtain ⟨X3, hX3, hV, hq0, hq1, HV⟩ := G_visit1 (T := T) (b := (plF y qj k1).toNatClampNeg) C hT hX hp1 hp0 hB5 hg1.2 (by omega) (by omega) hm1 (by omega)
          obtain ⟨Y3, hY3, hs0, hs1, HVM⟩ := M_visit1 (T := T) (x0 := x) (b := (plF y qj k1).toNatClampNeg) hqj hn1 hW (law_S hT (xS_0 x) hY) hY1051 hy1 hy0 (by omega) (by omega) (by omega) hYr1 hYb1 hB5 hg1.2
          rw [g5, g6, g7] at hs0
          have hbd := stp_b (T := T) (t := orW w1 k1 ||| orB e0 w0 (m1 + wayN y b0 (plF y qj k1).toNatClampNeg) k0) C hB5 hg1.2 hm1 (by omega)
          obtain ⟨XX, YY, A0, M0, K0, E0, W0, A1, M1, K1, E1, W1, hI2, hK0, hK1, HG, HM⟩ := ih k0 (k1 + 1) _ _ _ _ _ _ _ _ _ _ (by omega) (by omega) (by omega) ⟨⟨hX3, yS_t hY hY3⟩, ⟨hq1, by rw [orW_up]; exact hq0⟩, ⟨hs1, hs0⟩, ⟨hA5, hg1.2⟩, hm0, ⟨hbd.2.2.1, Int.le_trans hbd.2.2.2 (by omega)⟩, hf0e, e_up hf1e (Int.le_trans hbd.2.2.2 (by omega))⟩
          refine ⟨XX, YY, A0, M0, K0, E0, W0, A1, M1, K1, E1, W1, hI2, hK0, hK1, fun {z post l6 l7 l8 l9} h => ?_, fun {x9 z post l5 l6} h => ?_⟩
          · skip
            refine PW_iload c_P_goThrough_14 rfl ?_
            refine PW_bipush (v := 24) c_P_goThrough_16 (by decide) ?_
            refine PW_icmp_ge c_P_goThrough_18 (fun h0 => absurd h0 (fun q => absurd ((nI_leI (by decide) (by omega)).mp (show nI 24 ≤ nI (k0 + k1) from q)) (by omega))) (fun h0 => ?_)
            refine PW_aload_n c_P_goThrough_21 rfl ?_
            refine PW_get (v := .int (X.1 285)) c_P_goThrough_22 fl_P_39 (gf_35_5 _ _) ?_
            rw [hp0.2.1]
            show PW _ _ _ 25 [some (.ref 35), some (.ref (58 + 2 * pj)), some (.ref (58 + 2 * qj)), some (.int (nI N0)), some (.int (nI N1)), some (.int (nI (k0 + k1))), l6, l7, l8, l9] [.int (nI k0)] (E X y)
            refine PW_iload_n c_P_goThrough_25 rfl ?_
            refine PW_icmp_ge c_P_goThrough_26 (fun h1 => absurd h1 (fun q => absurd ((nI_leI (by omega) (by omega)).mp q) (by omega))) (fun h1 => ?_)
            refine PW_iconst (v := 1) c_P_goThrough_29 (by decide) ?_
            refine PW_goto c_P_goThrough_30 ?_
            refine PW_istore (i := 6) (L2 := [some (.ref 35), some (.ref (58 + 2 * pj)), some (.ref (58 + 2 * qj)), some (.int (nI N0)), some (.int (nI N1)), some (.int (nI (k0 + k1))), some (.int 1), l7, l8, l9]) c_P_goThrough_34 (Nat.le_of_ble_eq_true rfl) rfl rfl ?_
            refine PW_aload_n c_P_goThrough_36 rfl ?_
            refine PW_get (v := .int (X.1 286)) c_P_goThrough_37 fl_P_43 (gf_35_6 _ _) ?_
            rw [hp1.2.1]
            show PW _ _ _ 40 [some (.ref 35), some (.ref (58 + 2 * pj)), some (.ref (58 + 2 * qj)), some (.int (nI N0)), some (.int (nI N1)), some (.int (nI (k0 + k1))), some (.int 1), l7, l8, l9] [.int (nI k1)] (E X y)
            refine PW_iload c_P_goThrough_40 rfl ?_
            refine PW_icmp_ge c_P_goThrough_42 (fun h2 => absurd h2 (fun q => absurd ((nI_leI (by omega) (by omega)).mp q) (by omega))) (fun h2 => ?_)
            refine PW_iconst (v := 1) c_P_goThrough_45 (by decide) ?_
            refine PW_goto c_P_goThrough_46 ?_
            refine PW_istore (i := 7) (L2 := [some (.ref 35), some (.ref (58 + 2 * pj)), some (.ref (58 + 2 * qj)), some (.int (nI N0)), some (.int (nI N1)), some (.int (nI (k0 + k1))), some (.int 1), some (.int 1), l8, l9]) c_P_goThrough_50 (Nat.le_of_ble_eq_true rfl) rfl rfl ?_
            refine PW_iload c_P_goThrough_52 rfl ?_
            refine PW_if_ne c_P_goThrough_54 (fun _ => ?_) (fun h3 => absurd h3 (by decide))
            refine PW_aload_n c_P_goThrough_65 rfl ?_
            refine PW_aload_n c_P_goThrough_66 rfl ?_
            refine PW_get (v := .int (X.1 285)) c_P_goThrough_67 fl_P_39 (gf_35_5 _ _) ?_
            rw [hp0.2.1]
            show PW _ _ _ 70 [some (.ref 35), some (.ref (58 + 2 * pj)), some (.ref (58 + 2 * qj)), some (.int (nI N0)), some (.int (nI N1)), some (.int (nI (k0 + k1))), some (.int 1), some (.int 1), l8, l9] [.int (nI k0), .ref (58 + 2 * pj)] (E X y)
            refine PW_V0 (d2 := 2) (st := []) [.int (nI k0)] c_P_goThrough_70 lk_P_goThrough_52 (sh_po _ _ hpj) rfl rfl rfl (Nat.le_of_ble_eq_true rfl) (by first | decide | omega) (Nat.le_of_ble_eq_true rfl) ?_
            refine sp_F_small hpj hXb0 hXz0 hn0 rfl (by omega) ?_
            rw [if_pos (show k0 < n0 by omega), hXR0 k0 (by omega), hg0.1]
            show PW _ _ _ 73 [some (.ref 35), some (.ref (58 + 2 * pj)), some (.ref (58 + 2 * qj)), some (.int (nI N0)), some (.int (nI N1)), some (.int (nI (k0 + k1))), some (.int 1), some (.int 1), l8, l9] [.int (nI (plF y pj k0).toNatClampNeg)] (E X y)
            refine PW_istore (i := 8) (L2 := [some (.ref 35), some (.ref (58 + 2 * pj)), some (.ref (58 + 2 * qj)), some (.int (nI N0)), some (.int (nI N1)), some (.int (nI (k0 + k1))), some (.int 1), some (.int 1), some (.int (nI (plF y pj k0).toNatClampNeg)), l9]) c_P_goThrough_73 (Nat.le_of_ble_eq_true rfl) rfl rfl ?_
            refine PW_aload_n c_P_goThrough_75 rfl ?_
            refine PW_aload_n c_P_goThrough_76 rfl ?_
            refine PW_get (v := .int (X.1 286)) c_P_goThrough_77 fl_P_43 (gf_35_6 _ _) ?_
            rw [hp1.2.1]
            show PW _ _ _ 80 [some (.ref 35), some (.ref (58 + 2 * pj)), some (.ref (58 + 2 * qj)), some (.int (nI N0)), some (.int (nI N1)), some (.int (nI (k0 + k1))), some (.int 1), some (.int 1), some (.int (nI (plF y pj k0).toNatClampNeg)), l9] [.int (nI k1), .ref (58 + 2 * qj)] (E X y)
            refine PW_V0 (d2 := 2) (st := []) [.int (nI k1)] c_P_goThrough_80 lk_P_goThrough_52 (sh_po _ _ hqj) rfl rfl rfl (Nat.le_of_ble_eq_true rfl) (by first | decide | omega) (Nat.le_of_ble_eq_true rfl) ?_
            refine sp_F_small hqj hXb1 hXz1 hn1 rfl (by omega) ?_
            rw [if_pos (show k1 < n1 by omega), hXR1 k1 (by omega), hg1.1]
            show PW _ _ _ 83 [some (.ref 35), some (.ref (58 + 2 * pj)), some (.ref (58 + 2 * qj)), some (.int (nI N0)), some (.int (nI N1)), some (.int (nI (k0 + k1))), some (.int 1), some (.int 1), some (.int (nI (plF y pj k0).toNatClampNeg)), l9] [.int (nI (plF y qj k1).toNatClampNeg)] (E X y)
            refine PW_istore (i := 9) (L2 := [some (.ref 35), some (.ref (58 + 2 * pj)), some (.ref (58 + 2 * qj)), some (.int (nI N0)), some (.int (nI N1)), some (.int (nI (k0 + k1))), some (.int 1), some (.int 1), some (.int (nI (plF y pj k0).toNatClampNeg)), some (.int (nI (plF y qj k1).toNatClampNeg))]) c_P_goThrough_83 (Nat.le_of_ble_eq_true rfl) rfl rfl ?_
            refine PW_iload c_P_goThrough_85 rfl ?_
            refine PW_if_eq c_P_goThrough_87 (fun h4 => absurd h4 (by decide)) (fun _ => ?_)
            refine PW_iload c_P_goThrough_90 rfl ?_
            refine PW_if_eq c_P_goThrough_92 (fun h5 => absurd h5 (by decide)) (fun _ => ?_)
            refine PW_aload_n c_P_goThrough_95 rfl ?_
            refine PW_get (v := .ref 42) c_P_goThrough_96 fl_P_28 (gf_35_1 _ _) ?_
            refine PW_iload c_P_goThrough_99 rfl ?_
            refine PW_V0 (d2 := 2) (st := []) [.int (nI (plF y pj k0).toNatClampNeg)] c_P_goThrough_101 lk_P_goThrough_56 (po_42 _ _) rfl rfl rfl (Nat.le_of_ble_eq_true rfl) (by first | decide | omega) (Nat.le_of_ble_eq_true rfl) ?_
            refine sp_V_arrival (o := 42) (Or.inr (Or.inl rfl)) CX hp0.1 hA5 hg0.2 ?_
            show PW _ _ _ 104 [some (.ref 35), some (.ref (58 + 2 * pj)), some (.ref (58 + 2 * qj)), some (.int (nI N0)), some (.int (nI N1)), some (.int (nI (k0 + k1))), some (.int 1), some (.int 1), some (.int (nI (plF y pj k0).toNatClampNeg)), some (.int (nI (plF y qj k1).toNatClampNeg))] [.int (m0 + wayN y a0 (plF y pj k0).toNatClampNeg)] (E X y)
            refine PW_aload_n c_P_goThrough_104 rfl ?_
            refine PW_get (v := .ref 43) c_P_goThrough_105 fl_P_32 (gf_35_2 _ _) ?_
            refine PW_iload c_P_goThrough_108 rfl ?_
            refine PW_V0 (d2 := 2) (st := [.int (m0 + wayN y a0 (plF y pj k0).toNatClampNeg)]) [.int (nI (plF y qj k1).toNatClampNeg)] c_P_goThrough_110 lk_P_goThrough_56 (po_43 _ _) rfl rfl rfl (Nat.le_of_ble_eq_true rfl) (by first | decide | omega) (Nat.le_of_ble_eq_true rfl) ?_
            refine sp_V_arrival (o := 43) (Or.inr (Or.inr (Or.inl rfl))) CX hp1.1 hB5 hg1.2 ?_
            show PW _ _ _ 113 [some (.ref 35), some (.ref (58 + 2 * pj)), some (.ref (58 + 2 * qj)), some (.int (nI N0)), some (.int (nI N1)), some (.int (nI (k0 + k1))), some (.int 1), some (.int 1), some (.int (nI (plF y pj k0).toNatClampNeg)), some (.int (nI (plF y qj k1).toNatClampNeg))] [.int (m1 + wayN y b0 (plF y qj k1).toNatClampNeg), .int (m0 + wayN y a0 (plF y pj k0).toNatClampNeg)] (E X y)
            refine PW_icmp_gt c_P_goThrough_113 (fun h6 => ?_) (fun h6 => absurd (Int32.not_le.mp hle) h6)
            refine PW_aload_n c_P_goThrough_148 rfl ?_
            refine PW_aload_n c_P_goThrough_149 rfl ?_
            refine PW_get (v := .ref 43) c_P_goThrough_150 fl_P_32 (gf_35_2 _ _) ?_
            refine PW_iload c_P_goThrough_153 rfl ?_
            refine PW_iconst (v := 1) c_P_goThrough_155 (by decide) ?_
            refine PW_aload_n c_P_goThrough_156 rfl ?_
            refine PW_get (v := .int (X.1 286)) c_P_goThrough_157 fl_P_43 (gf_35_6 _ _) ?_
            rw [hp1.2.1]
            show PW _ _ _ 160 [some (.ref 35), some (.ref (58 + 2 * pj)), some (.ref (58 + 2 * qj)), some (.int (nI N0)), some (.int (nI N1)), some (.int (nI (k0 + k1))), some (.int 1), some (.int 1), some (.int (nI (plF y pj k0).toNatClampNeg)), some (.int (nI (plF y qj k1).toNatClampNeg))] [.int (nI k1), .int 1, .int (nI (plF y qj k1).toNatClampNeg), .ref 43, .ref 35] (E X y)
            refine PW_aload_n c_P_goThrough_160 rfl ?_
            refine PW_get (v := .int (X.1 285)) c_P_goThrough_161 fl_P_39 (gf_35_5 _ _) ?_
            rw [hp0.2.1]
            show PW _ _ _ 164 [some (.ref 35), some (.ref (58 + 2 * pj)), some (.ref (58 + 2 * qj)), some (.int (nI N0)), some (.int (nI N1)), some (.int (nI (k0 + k1))), some (.int 1), some (.int 1), some (.int (nI (plF y pj k0).toNatClampNeg)), some (.int (nI (plF y qj k1).toNatClampNeg))] [.int (nI k0), .int (nI k1), .int 1, .int (nI (plF y qj k1).toNatClampNeg), .ref 43, .ref 35] (E X y)
            refine PW_V0 (d2 := 5) (st := []) [.ref 43, .int (nI (plF y qj k1).toNatClampNeg), .int 1, .int (nI k1), .int (nI k0)] c_P_goThrough_164 lk_P_goThrough_59 (po_35 _ _) rfl rfl rfl (Nat.le_of_ble_eq_true rfl) (by first | decide | omega) (Nat.le_of_ble_eq_true rfl) ?_
            refine HV ?_
            show PW _ _ _ 167 [some (.ref 35), some (.ref (58 + 2 * pj)), some (.ref (58 + 2 * qj)), some (.int (nI N0)), some (.int (nI N1)), some (.int (nI (k0 + k1))), some (.int 1), some (.int 1), some (.int (nI (plF y pj k0).toNatClampNeg)), some (.int (nI (plF y qj k1).toNatClampNeg))] [] (E X3 y)
            refine PW_aload_n c_P_goThrough_167 rfl ?_
            refine PW_dup c_P_goThrough_168 rfl ?_
            refine PW_get (v := .int (X3.1 286)) c_P_goThrough_169 fl_P_43 (gf_35_6 _ _) ?_
            rw [hV]
            show PW _ _ _ 172 [some (.ref 35), some (.ref (58 + 2 * pj)), some (.ref (58 + 2 * qj)), some (.int (nI N0)), some (.int (nI N1)), some (.int (nI (k0 + k1))), some (.int 1), some (.int 1), some (.int (nI (plF y pj k0).toNatClampNeg)), some (.int (nI (plF y qj k1).toNatClampNeg))] [.int (nI k1), .ref 35] (E X3 y)
            refine PW_iconst (v := 1) c_P_goThrough_172 (by decide) ?_
            refine PW_iadd c_P_goThrough_173 ?_
            refine PW_put (w2 := E (sI X3 286 ((nI k1) + 1)) y) c_P_goThrough_174 fp_P_goThrough_43 rfl (pf_35_6 _ _ _) ?_
            refine PW_iinc (i := 5) (v := (nI (k0 + k1)) + 1) (L2 := [some (.ref 35), some (.ref (58 + 2 * pj)), some (.ref (58 + 2 * qj)), some (.int (nI N0)), some (.int (nI N1)), some (.int ((nI (k0 + k1)) + 1)), some (.int 1), some (.int 1), some (.int (nI (plF y pj k0).toNatClampNeg)), some (.int (nI (plF y qj k1).toNatClampNeg))]) c_P_goThrough_177 rfl (iinc_v (by decide)) (Nat.le_of_ble_eq_true rfl) rfl rfl ?_
            refine PW_goto c_P_goThrough_180 ?_
            rw [show (nI k1 + 1 : Int32) = nI (k1 + 1) from nI_1 k1]
            refine PW.eqL ?_ rfl rfl (HG (l6 := some (.int 1)) (l7 := some (.int 1)) (l8 := some (.int (nI (plF y pj k0).toNatClampNeg))) (l9 := some (.int (nI (plF y qj k1).toNatClampNeg))) h)
            show ([some (.ref 35), some (.ref (58 + 2 * pj)), some (.ref (58 + 2 * qj)), some (.int (nI N0)), some (.int (nI N1)), some (.int ((nI (k0 + k1)) + 1)), some (.int 1), some (.int 1), some (.int (nI (plF y pj k0).toNatClampNeg)), some (.int (nI (plF y qj k1).toNatClampNeg))] : List (Option Value)) = [some (.ref 35), some (.ref (58 + 2 * pj)), some (.ref (58 + 2 * qj)), some (.int (nI N0)), some (.int (nI N1)), some (.int (nI (k0 + (k1 + 1)))), some (.int 1), some (.int 1), some (.int (nI (plF y pj k0).toNatClampNeg)), some (.int (nI (plF y qj k1).toNatClampNeg))]
            rw [nI_1, show k0 + k1 + 1 = k0 + (k1 + 1) by omega]
          · skip
            refine PW_aload_n c_M_pair_186 rfl ?_
            refine PW_iconst (v := 0) c_M_pair_187 (by decide) ?_
            refine PW_iload_n c_M_pair_188 rfl ?_
            refine PW_bipush (v := 10) c_M_pair_189 (by decide) ?_
            refine PW_idiv c_M_pair_191 (by decide) ?_
            rw [e1]
            show PW _ _ _ 192 [some (.ref 70), some (.int a1), some (.int a2), some (.int a3), some (.int a4), l5, l6] [.int (nI pj), .int 0, .ref 70] (E x9 Y)
            refine PW_V0 (d2 := 2) (st := []) [.int 0, .int (nI pj)] c_M_pair_192 lk_M_pair_321 (po_70 _ _) rfl rfl rfl (Nat.le_of_ble_eq_true rfl) (by first | decide | omega) (Nat.le_of_ble_eq_true rfl) ?_
            refine sp_hm1_0 hpj hn0 hy0.2.2.1 hY1050 (by omega) (by omega) hYr0 ?_
            show PW _ _ _ 195 [some (.ref 70), some (.int a1), some (.int a2), some (.int a3), some (.int a4), l5, l6] [.int 1] (E x9 Y)
            refine PW_if_ne c_M_pair_195 (fun _ => ?_) (fun h0 => absurd h0 (by decide))
            refine PW_aload_n c_M_pair_210 rfl ?_
            refine PW_iconst (v := 0) c_M_pair_211 (by decide) ?_
            refine PW_iload_n c_M_pair_212 rfl ?_
            refine PW_bipush (v := 10) c_M_pair_213 (by decide) ?_
            refine PW_idiv c_M_pair_215 (by decide) ?_
            rw [e1]
            show PW _ _ _ 216 [some (.ref 70), some (.int a1), some (.int a2), some (.int a3), some (.int a4), l5, l6] [.int (nI pj), .int 0, .ref 70] (E x9 Y)
            refine PW_V0 (d2 := 3) (st := []) [.int 0, .int (nI pj)] c_M_pair_216 lk_M_pair_324 (po_70 _ _) rfl rfl rfl (Nat.le_of_ble_eq_true rfl) (by first | decide | omega) (Nat.le_of_ble_eq_true rfl) ?_
            refine sp_so1_0 hpj hn0 hy0.2.2.1 hY1050 hy0.1 hy0.2.1 (by omega) (by omega) hYr0 hYb0 hA5 hg0.2 ?_
            show PW _ _ _ 219 [some (.ref 70), some (.int a1), some (.int a2), some (.int a3), some (.int a4), l5, l6] [.int (m0 + wayN Y a0 (plF y pj k0).toNatClampNeg)] (E x9 Y)
            refine PW_aload_n c_M_pair_219 rfl ?_
            refine PW_iconst (v := 1) c_M_pair_220 (by decide) ?_
            refine PW_iload_n c_M_pair_221 rfl ?_
            refine PW_bipush (v := 10) c_M_pair_222 (by decide) ?_
            refine PW_irem c_M_pair_224 (by decide) ?_
            rw [e2]
            show PW _ _ _ 225 [some (.ref 70), some (.int a1), some (.int a2), some (.int a3), some (.int a4), l5, l6] [.int (nI qj), .int 1, .ref 70, .int (m0 + wayN Y a0 (plF y pj k0).toNatClampNeg)] (E x9 Y)
            refine PW_V0 (d2 := 3) (st := [.int (m0 + wayN Y a0 (plF y pj k0).toNatClampNeg)]) [.int 1, .int (nI qj)] c_M_pair_225 lk_M_pair_324 (po_70 _ _) rfl rfl rfl (Nat.le_of_ble_eq_true rfl) (by first | decide | omega) (Nat.le_of_ble_eq_true rfl) ?_
            refine sp_so1_1 hqj hn1 hy1.2.2.1 hY1051 hy1.1 hy1.2.1 (by omega) (by omega) hYr1 hYb1 hB5 hg1.2 ?_
            show PW _ _ _ 228 [some (.ref 70), some (.int a1), some (.int a2), some (.int a3), some (.int a4), l5, l6] [.int (m1 + wayN Y b0 (plF y qj k1).toNatClampNeg), .int (m0 + wayN Y a0 (plF y pj k0).toNatClampNeg)] (E x9 Y)
            refine PW_icmp_gt c_M_pair_228 (fun h1 => ?_) (fun h1 => absurd (by rw [g5, g5]; exact Int32.not_le.mp hle) h1)
            refine PW_aload_n c_M_pair_243 rfl ?_
            refine PW_iconst (v := 1) c_M_pair_244 (by decide) ?_
            refine PW_iload_n c_M_pair_245 rfl ?_
            refine PW_bipush (v := 10) c_M_pair_246 (by decide) ?_
            refine PW_irem c_M_pair_248 (by decide) ?_
            rw [e2]
            show PW _ _ _ 249 [some (.ref 70), some (.int a1), some (.int a2), some (.int a3), some (.int a4), l5, l6] [.int (nI qj), .int 1, .ref 70] (E x9 Y)
            refine PW_V0 (d2 := 4) (st := []) [.int 1, .int (nI qj)] c_M_pair_249 lk_M_pair_330 (po_70 _ _) rfl rfl rfl (Nat.le_of_ble_eq_true rfl) (by first | decide | omega) (Nat.le_of_ble_eq_true rfl) ?_
            refine HVM ?_
            show PW _ _ _ 252 [some (.ref 70), some (.int a1), some (.int a2), some (.int a3), some (.int a4), l5, l6] [] (E x9 Y3)
            refine PW_goto c_M_pair_252 ?_
            exact HM (l5 := l5) (l6 := l6) h
      · skip
        have hrm0 := (hL0 k0 (by omega)).2
        have hkn0 := (hL0 k0 (by omega)).1
        have hg0 := rm_nI hrm0
        have hYr0 : 0 ≤ (Y.2.2 106 (60 * pj + k0)).toInt32 ∧ (Y.2.2 106 (60 * pj + k0)).toInt32 ≤ 4 := by rw [hYk0]; exact hrm0
        have hYb0 : (Y.2.2 106 (60 * pj + k0)).toInt32 = nI (plF y pj k0).toNatClampNeg := hYk0.trans hg0.1
        have hw0 := stp_b (T := T) (t := 0) C hA5 hg0.2 hm0 (by omega)
        have hno1 : ¬ (k1 < n1 ∧ k1 < 12 ∧ (0 ≤ (Y.2.2 106 (60 * qj + k1)).toInt32 ∧ (Y.2.2 106 (60 * qj + k1)).toInt32 ≤ 4)) := fun q => by
          rcases hE1 with z | z
          · omega
          · exact z ⟨by omega, by rw [show N1 = k1 by omega, ← hYk1]; exact q.2.2⟩
        have hf0 : m0 + wayN y a0 (plF y pj k0).toNatClampNeg ≤ 1000000 := by have q := hw0.2.1; rw [Int32.le_iff_toInt_le, show (1000000 : Int32).toInt = 1000000 by decide]; omega
        obtain ⟨X3, hX3, hV, hq0, hq1, HV⟩ := G_visit0 (T := T) (b := (plF y pj k0).toNatClampNeg) C hT hX hp0 hp1 hA5 hg0.2 (by omega) (by omega) hm0 (by omega)
        obtain ⟨Y3, hY3, hs0, hs1, HVM⟩ := M_visit0 (T := T) (x0 := x) (b := (plF y pj k0).toNatClampNeg) hpj hn0 hW (law_S hT (xS_0 x) hY) hY1050 hy0 hy1 (by omega) (by omega) (by omega) hYr0 hYb0 hA5 hg0.2
        rw [g5, g6, g7] at hs0
        have hbd := stp_b (T := T) (t := orW w0 k0 ||| orB e1x w1 (m0 + wayN y a0 (plF y pj k0).toNatClampNeg) k1) C hA5 hg0.2 hm0 (by omega)
        obtain ⟨XX, YY, A0, M0, K0, E0, W0, A1, M1, K1, E1, W1, hI2, hK0, hK1, HG, HM⟩ := ih (k0 + 1) k1 _ _ _ _ _ _ _ _ _ _ (by omega) (by omega) (by omega) ⟨⟨hX3, yS_t hY hY3⟩, ⟨by rw [orW_up]; exact hq0, hq1⟩, ⟨hs0, hs1⟩, ⟨hg0.2, hB5⟩, ⟨hbd.2.2.1, Int.le_trans hbd.2.2.2 (by omega)⟩, hm1, e_up hf0e (Int.le_trans hbd.2.2.2 (by omega)), hf1e⟩
        refine ⟨XX, YY, A0, M0, K0, E0, W0, A1, M1, K1, E1, W1, hI2, hK0, hK1, fun {z post l6 l7 l8 l9} h => ?_, fun {x9 z post l5 l6} h => ?_⟩
        · skip
          refine PW_iload c_P_goThrough_14 rfl ?_
          refine PW_bipush (v := 24) c_P_goThrough_16 (by decide) ?_
          refine PW_icmp_ge c_P_goThrough_18 (fun h0 => absurd h0 (fun q => absurd ((nI_leI (by decide) (by omega)).mp (show nI 24 ≤ nI (k0 + k1) from q)) (by omega))) (fun h0 => ?_)
          refine PW_aload_n c_P_goThrough_21 rfl ?_
          refine PW_get (v := .int (X.1 285)) c_P_goThrough_22 fl_P_39 (gf_35_5 _ _) ?_
          rw [hp0.2.1]
          show PW _ _ _ 25 [some (.ref 35), some (.ref (58 + 2 * pj)), some (.ref (58 + 2 * qj)), some (.int (nI N0)), some (.int (nI N1)), some (.int (nI (k0 + k1))), l6, l7, l8, l9] [.int (nI k0)] (E X y)
          refine PW_iload_n c_P_goThrough_25 rfl ?_
          refine PW_icmp_ge c_P_goThrough_26 (fun h1 => absurd h1 (fun q => absurd ((nI_leI (by omega) (by omega)).mp q) (by omega))) (fun h1 => ?_)
          refine PW_iconst (v := 1) c_P_goThrough_29 (by decide) ?_
          refine PW_goto c_P_goThrough_30 ?_
          refine PW_istore (i := 6) (L2 := [some (.ref 35), some (.ref (58 + 2 * pj)), some (.ref (58 + 2 * qj)), some (.int (nI N0)), some (.int (nI N1)), some (.int (nI (k0 + k1))), some (.int 1), l7, l8, l9]) c_P_goThrough_34 (Nat.le_of_ble_eq_true rfl) rfl rfl ?_
          refine PW_aload_n c_P_goThrough_36 rfl ?_
          refine PW_get (v := .int (X.1 286)) c_P_goThrough_37 fl_P_43 (gf_35_6 _ _) ?_
          rw [hp1.2.1]
          show PW _ _ _ 40 [some (.ref 35), some (.ref (58 + 2 * pj)), some (.ref (58 + 2 * qj)), some (.int (nI N0)), some (.int (nI N1)), some (.int (nI (k0 + k1))), some (.int 1), l7, l8, l9] [.int (nI k1)] (E X y)
          refine PW_iload c_P_goThrough_40 rfl ?_
          refine PW_icmp_ge c_P_goThrough_42 (fun h2 => ?_) (fun h2 => absurd ((nI_leI (by omega) (by omega)).mpr (by omega)) h2)
          refine PW_iconst (v := 0) c_P_goThrough_49 (by decide) ?_
          refine PW_istore (i := 7) (L2 := [some (.ref 35), some (.ref (58 + 2 * pj)), some (.ref (58 + 2 * qj)), some (.int (nI N0)), some (.int (nI N1)), some (.int (nI (k0 + k1))), some (.int 1), some (.int 0), l8, l9]) c_P_goThrough_50 (Nat.le_of_ble_eq_true rfl) rfl rfl ?_
          refine PW_iload c_P_goThrough_52 rfl ?_
          refine PW_if_ne c_P_goThrough_54 (fun _ => ?_) (fun h3 => absurd h3 (by decide))
          refine PW_aload_n c_P_goThrough_65 rfl ?_
          refine PW_aload_n c_P_goThrough_66 rfl ?_
          refine PW_get (v := .int (X.1 285)) c_P_goThrough_67 fl_P_39 (gf_35_5 _ _) ?_
          rw [hp0.2.1]
          show PW _ _ _ 70 [some (.ref 35), some (.ref (58 + 2 * pj)), some (.ref (58 + 2 * qj)), some (.int (nI N0)), some (.int (nI N1)), some (.int (nI (k0 + k1))), some (.int 1), some (.int 0), l8, l9] [.int (nI k0), .ref (58 + 2 * pj)] (E X y)
          refine PW_V0 (d2 := 2) (st := []) [.int (nI k0)] c_P_goThrough_70 lk_P_goThrough_52 (sh_po _ _ hpj) rfl rfl rfl (Nat.le_of_ble_eq_true rfl) (by first | decide | omega) (Nat.le_of_ble_eq_true rfl) ?_
          refine sp_F_small hpj hXb0 hXz0 hn0 rfl (by omega) ?_
          rw [if_pos (show k0 < n0 by omega), hXR0 k0 (by omega), hg0.1]
          show PW _ _ _ 73 [some (.ref 35), some (.ref (58 + 2 * pj)), some (.ref (58 + 2 * qj)), some (.int (nI N0)), some (.int (nI N1)), some (.int (nI (k0 + k1))), some (.int 1), some (.int 0), l8, l9] [.int (nI (plF y pj k0).toNatClampNeg)] (E X y)
          refine PW_istore (i := 8) (L2 := [some (.ref 35), some (.ref (58 + 2 * pj)), some (.ref (58 + 2 * qj)), some (.int (nI N0)), some (.int (nI N1)), some (.int (nI (k0 + k1))), some (.int 1), some (.int 0), some (.int (nI (plF y pj k0).toNatClampNeg)), l9]) c_P_goThrough_73 (Nat.le_of_ble_eq_true rfl) rfl rfl ?_
          refine PW_aload_n c_P_goThrough_75 rfl ?_
          refine PW_aload_n c_P_goThrough_76 rfl ?_
          refine PW_get (v := .int (X.1 286)) c_P_goThrough_77 fl_P_43 (gf_35_6 _ _) ?_
          rw [hp1.2.1]
          show PW _ _ _ 80 [some (.ref 35), some (.ref (58 + 2 * pj)), some (.ref (58 + 2 * qj)), some (.int (nI N0)), some (.int (nI N1)), some (.int (nI (k0 + k1))), some (.int 1), some (.int 0), some (.int (nI (plF y pj k0).toNatClampNeg)), l9] [.int (nI k1), .ref (58 + 2 * qj)] (E X y)
          refine PW_V0 (d2 := 2) (st := []) [.int (nI k1)] c_P_goThrough_80 lk_P_goThrough_52 (sh_po _ _ hqj) rfl rfl rfl (Nat.le_of_ble_eq_true rfl) (by first | decide | omega) (Nat.le_of_ble_eq_true rfl) ?_
          refine sp_F_small hqj hXb1 hXz1 hn1 (i := k1) rfl (by omega) ?_
          show PW _ _ _ 83 [some (.ref 35), some (.ref (58 + 2 * pj)), some (.ref (58 + 2 * qj)), some (.int (nI N0)), some (.int (nI N1)), some (.int (nI (k0 + k1))), some (.int 1), some (.int 0), some (.int (nI (plF y pj k0).toNatClampNeg)), l9] [.int (if k1 < n1 then (X.2.2 (59 + 2 * qj) k1).toInt32 else -1)] (E X y)
          refine PW_istore (i := 9) (L2 := [some (.ref 35), some (.ref (58 + 2 * pj)), some (.ref (58 + 2 * qj)), some (.int (nI N0)), some (.int (nI N1)), some (.int (nI (k0 + k1))), some (.int 1), some (.int 0), some (.int (nI (plF y pj k0).toNatClampNeg)), some (.int (if k1 < n1 then (X.2.2 (59 + 2 * qj) k1).toInt32 else -1))]) c_P_goThrough_83 (Nat.le_of_ble_eq_true rfl) rfl rfl ?_
          refine PW_iload c_P_goThrough_85 rfl ?_
          refine PW_if_eq c_P_goThrough_87 (fun _ => ?_) (fun h4 => absurd (by decide) h4)
          refine PW_aload_n c_P_goThrough_116 rfl ?_
          refine PW_aload_n c_P_goThrough_117 rfl ?_
          refine PW_get (v := .ref 42) c_P_goThrough_118 fl_P_28 (gf_35_1 _ _) ?_
          refine PW_iload c_P_goThrough_121 rfl ?_
          refine PW_iconst (v := 0) c_P_goThrough_123 (by decide) ?_
          refine PW_aload_n c_P_goThrough_124 rfl ?_
          refine PW_get (v := .int (X.1 285)) c_P_goThrough_125 fl_P_39 (gf_35_5 _ _) ?_
          rw [hp0.2.1]
          show PW _ _ _ 128 [some (.ref 35), some (.ref (58 + 2 * pj)), some (.ref (58 + 2 * qj)), some (.int (nI N0)), some (.int (nI N1)), some (.int (nI (k0 + k1))), some (.int 1), some (.int 0), some (.int (nI (plF y pj k0).toNatClampNeg)), some (.int (if k1 < n1 then (X.2.2 (59 + 2 * qj) k1).toInt32 else -1))] [.int (nI k0), .int 0, .int (nI (plF y pj k0).toNatClampNeg), .ref 42, .ref 35] (E X y)
          refine PW_aload_n c_P_goThrough_128 rfl ?_
          refine PW_get (v := .int (X.1 286)) c_P_goThrough_129 fl_P_43 (gf_35_6 _ _) ?_
          rw [hp1.2.1]
          show PW _ _ _ 132 [some (.ref 35), some (.ref (58 + 2 * pj)), some (.ref (58 + 2 * qj)), some (.int (nI N0)), some (.int (nI N1)), some (.int (nI (k0 + k1))), some (.int 1), some (.int 0), some (.int (nI (plF y pj k0).toNatClampNeg)), some (.int (if k1 < n1 then (X.2.2 (59 + 2 * qj) k1).toInt32 else -1))] [.int (nI k1), .int (nI k0), .int 0, .int (nI (plF y pj k0).toNatClampNeg), .ref 42, .ref 35] (E X y)
          refine PW_V0 (d2 := 5) (st := []) [.ref 42, .int (nI (plF y pj k0).toNatClampNeg), .int 0, .int (nI k0), .int (nI k1)] c_P_goThrough_132 lk_P_goThrough_59 (po_35 _ _) rfl rfl rfl (Nat.le_of_ble_eq_true rfl) (by first | decide | omega) (Nat.le_of_ble_eq_true rfl) ?_
          refine HV ?_
          show PW _ _ _ 135 [some (.ref 35), some (.ref (58 + 2 * pj)), some (.ref (58 + 2 * qj)), some (.int (nI N0)), some (.int (nI N1)), some (.int (nI (k0 + k1))), some (.int 1), some (.int 0), some (.int (nI (plF y pj k0).toNatClampNeg)), some (.int (if k1 < n1 then (X.2.2 (59 + 2 * qj) k1).toInt32 else -1))] [] (E X3 y)
          refine PW_aload_n c_P_goThrough_135 rfl ?_
          refine PW_dup c_P_goThrough_136 rfl ?_
          refine PW_get (v := .int (X3.1 285)) c_P_goThrough_137 fl_P_39 (gf_35_5 _ _) ?_
          rw [hV]
          show PW _ _ _ 140 [some (.ref 35), some (.ref (58 + 2 * pj)), some (.ref (58 + 2 * qj)), some (.int (nI N0)), some (.int (nI N1)), some (.int (nI (k0 + k1))), some (.int 1), some (.int 0), some (.int (nI (plF y pj k0).toNatClampNeg)), some (.int (if k1 < n1 then (X.2.2 (59 + 2 * qj) k1).toInt32 else -1))] [.int (nI k0), .ref 35] (E X3 y)
          refine PW_iconst (v := 1) c_P_goThrough_140 (by decide) ?_
          refine PW_iadd c_P_goThrough_141 ?_
          refine PW_put (w2 := E (sI X3 285 ((nI k0) + 1)) y) c_P_goThrough_142 fp_P_goThrough_39 rfl (pf_35_5 _ _ _) ?_
          refine PW_goto c_P_goThrough_145 ?_
          refine PW_iinc (i := 5) (v := (nI (k0 + k1)) + 1) (L2 := [some (.ref 35), some (.ref (58 + 2 * pj)), some (.ref (58 + 2 * qj)), some (.int (nI N0)), some (.int (nI N1)), some (.int ((nI (k0 + k1)) + 1)), some (.int 1), some (.int 0), some (.int (nI (plF y pj k0).toNatClampNeg)), some (.int (if k1 < n1 then (X.2.2 (59 + 2 * qj) k1).toInt32 else -1))]) c_P_goThrough_177 rfl (iinc_v (by decide)) (Nat.le_of_ble_eq_true rfl) rfl rfl ?_
          refine PW_goto c_P_goThrough_180 ?_
          rw [show (nI k0 + 1 : Int32) = nI (k0 + 1) from nI_1 k0]
          refine PW.eqL ?_ rfl rfl (HG (l6 := some (.int 1)) (l7 := some (.int 0)) (l8 := some (.int (nI (plF y pj k0).toNatClampNeg))) (l9 := some (.int (if k1 < n1 then (X.2.2 (59 + 2 * qj) k1).toInt32 else -1))) h)
          show ([some (.ref 35), some (.ref (58 + 2 * pj)), some (.ref (58 + 2 * qj)), some (.int (nI N0)), some (.int (nI N1)), some (.int ((nI (k0 + k1)) + 1)), some (.int 1), some (.int 0), some (.int (nI (plF y pj k0).toNatClampNeg)), some (.int (if k1 < n1 then (X.2.2 (59 + 2 * qj) k1).toInt32 else -1))] : List (Option Value)) = [some (.ref 35), some (.ref (58 + 2 * pj)), some (.ref (58 + 2 * qj)), some (.int (nI N0)), some (.int (nI N1)), some (.int (nI (k0 + 1 + k1))), some (.int 1), some (.int 0), some (.int (nI (plF y pj k0).toNatClampNeg)), some (.int (if k1 < n1 then (X.2.2 (59 + 2 * qj) k1).toInt32 else -1))]
          rw [nI_1, show k0 + k1 + 1 = k0 + 1 + k1 by omega]
        · skip
          refine PW_aload_n c_M_pair_186 rfl ?_
          refine PW_iconst (v := 0) c_M_pair_187 (by decide) ?_
          refine PW_iload_n c_M_pair_188 rfl ?_
          refine PW_bipush (v := 10) c_M_pair_189 (by decide) ?_
          refine PW_idiv c_M_pair_191 (by decide) ?_
          rw [e1]
          show PW _ _ _ 192 [some (.ref 70), some (.int a1), some (.int a2), some (.int a3), some (.int a4), l5, l6] [.int (nI pj), .int 0, .ref 70] (E x9 Y)
          refine PW_V0 (d2 := 2) (st := []) [.int 0, .int (nI pj)] c_M_pair_192 lk_M_pair_321 (po_70 _ _) rfl rfl rfl (Nat.le_of_ble_eq_true rfl) (by first | decide | omega) (Nat.le_of_ble_eq_true rfl) ?_
          refine sp_hm1_0 hpj hn0 hy0.2.2.1 hY1050 (by omega) (by omega) hYr0 ?_
          show PW _ _ _ 195 [some (.ref 70), some (.int a1), some (.int a2), some (.int a3), some (.int a4), l5, l6] [.int 1] (E x9 Y)
          refine PW_if_ne c_M_pair_195 (fun _ => ?_) (fun h0 => absurd h0 (by decide))
          refine PW_aload_n c_M_pair_210 rfl ?_
          refine PW_iconst (v := 0) c_M_pair_211 (by decide) ?_
          refine PW_iload_n c_M_pair_212 rfl ?_
          refine PW_bipush (v := 10) c_M_pair_213 (by decide) ?_
          refine PW_idiv c_M_pair_215 (by decide) ?_
          rw [e1]
          show PW _ _ _ 216 [some (.ref 70), some (.int a1), some (.int a2), some (.int a3), some (.int a4), l5, l6] [.int (nI pj), .int 0, .ref 70] (E x9 Y)
          refine PW_V0 (d2 := 3) (st := []) [.int 0, .int (nI pj)] c_M_pair_216 lk_M_pair_324 (po_70 _ _) rfl rfl rfl (Nat.le_of_ble_eq_true rfl) (by first | decide | omega) (Nat.le_of_ble_eq_true rfl) ?_
          refine sp_so1_0 hpj hn0 hy0.2.2.1 hY1050 hy0.1 hy0.2.1 (by omega) (by omega) hYr0 hYb0 hA5 hg0.2 ?_
          show PW _ _ _ 219 [some (.ref 70), some (.int a1), some (.int a2), some (.int a3), some (.int a4), l5, l6] [.int (m0 + wayN Y a0 (plF y pj k0).toNatClampNeg)] (E x9 Y)
          refine PW_aload_n c_M_pair_219 rfl ?_
          refine PW_iconst (v := 1) c_M_pair_220 (by decide) ?_
          refine PW_iload_n c_M_pair_221 rfl ?_
          refine PW_bipush (v := 10) c_M_pair_222 (by decide) ?_
          refine PW_irem c_M_pair_224 (by decide) ?_
          rw [e2]
          show PW _ _ _ 225 [some (.ref 70), some (.int a1), some (.int a2), some (.int a3), some (.int a4), l5, l6] [.int (nI qj), .int 1, .ref 70, .int (m0 + wayN Y a0 (plF y pj k0).toNatClampNeg)] (E x9 Y)
          refine PW_V0 (d2 := 3) (st := [.int (m0 + wayN Y a0 (plF y pj k0).toNatClampNeg)]) [.int 1, .int (nI qj)] c_M_pair_225 lk_M_pair_324 (po_70 _ _) rfl rfl rfl (Nat.le_of_ble_eq_true rfl) (by first | decide | omega) (Nat.le_of_ble_eq_true rfl) ?_
          refine sp_so0_1 hqj hn1 hy1.2.2.1 hY1051 (by omega) hno1 ?_
          show PW _ _ _ 228 [some (.ref 70), some (.int a1), some (.int a2), some (.int a3), some (.int a4), l5, l6] [.int 1000000, .int (m0 + wayN Y a0 (plF y pj k0).toNatClampNeg)] (E x9 Y)
          refine PW_icmp_gt c_M_pair_228 (fun h1 => absurd h1 (Int32.not_lt.mpr (by rw [g5]; exact hf0))) (fun h1 => ?_)
          refine PW_aload_n c_M_pair_231 rfl ?_
          refine PW_iconst (v := 0) c_M_pair_232 (by decide) ?_
          refine PW_iload_n c_M_pair_233 rfl ?_
          refine PW_bipush (v := 10) c_M_pair_234 (by decide) ?_
          refine PW_idiv c_M_pair_236 (by decide) ?_
          rw [e1]
          show PW _ _ _ 237 [some (.ref 70), some (.int a1), some (.int a2), some (.int a3), some (.int a4), l5, l6] [.int (nI pj), .int 0, .ref 70] (E x9 Y)
          refine PW_V0 (d2 := 4) (st := []) [.int 0, .int (nI pj)] c_M_pair_237 lk_M_pair_330 (po_70 _ _) rfl rfl rfl (Nat.le_of_ble_eq_true rfl) (by first | decide | omega) (Nat.le_of_ble_eq_true rfl) ?_
          refine HVM ?_
          show PW _ _ _ 240 [some (.ref 70), some (.int a1), some (.int a2), some (.int a3), some (.int a4), l5, l6] [] (E x9 Y3)
          refine PW_goto c_M_pair_240 ?_
          exact HM (l5 := l5) (l6 := l6) h
    · have hc1 : k1 < N1 := by omega
      have hno0 : ¬ (k0 < n0 ∧ k0 < 12 ∧ (0 ≤ (Y.2.2 106 (60 * pj + k0)).toInt32 ∧ (Y.2.2 106 (60 * pj + k0)).toInt32 ≤ 4)) := fun q => by
        rcases hE0 with z | z
        · omega
        · exact z ⟨by omega, by rw [show N0 = k0 by omega, ← hYk0]; exact q.2.2⟩
      have hrm1 := (hL1 k1 (by omega)).2
      have hkn1 := (hL1 k1 (by omega)).1
      have hg1 := rm_nI hrm1
      have hYr1 : 0 ≤ (Y.2.2 106 (60 * qj + k1)).toInt32 ∧ (Y.2.2 106 (60 * qj + k1)).toInt32 ≤ 4 := by rw [hYk1]; exact hrm1
      have hYb1 : (Y.2.2 106 (60 * qj + k1)).toInt32 = nI (plF y qj k1).toNatClampNeg := hYk1.trans hg1.1
      have hw1 := stp_b (T := T) (t := 0) C hB5 hg1.2 hm1 (by omega)
      have hf1 : m1 + wayN y b0 (plF y qj k1).toNatClampNeg < 1000000 := far_lt (by have q := hw1.2.1; omega)
      obtain ⟨X3, hX3, hV, hq0, hq1, HV⟩ := G_visit1 (T := T) (b := (plF y qj k1).toNatClampNeg) C hT hX hp1 hp0 hB5 hg1.2 (by omega) (by omega) hm1 (by omega)
      obtain ⟨Y3, hY3, hs0, hs1, HVM⟩ := M_visit1 (T := T) (x0 := x) (b := (plF y qj k1).toNatClampNeg) hqj hn1 hW (law_S hT (xS_0 x) hY) hY1051 hy1 hy0 (by omega) (by omega) (by omega) hYr1 hYb1 hB5 hg1.2
      rw [g5, g6, g7] at hs0
      have hbd := stp_b (T := T) (t := orW w1 k1 ||| orB e0 w0 (m1 + wayN y b0 (plF y qj k1).toNatClampNeg) k0) C hB5 hg1.2 hm1 (by omega)
      obtain ⟨XX, YY, A0, M0, K0, E0, W0, A1, M1, K1, E1, W1, hI2, hK0, hK1, HG, HM⟩ := ih k0 (k1 + 1) _ _ _ _ _ _ _ _ _ _ (by omega) (by omega) (by omega) ⟨⟨hX3, yS_t hY hY3⟩, ⟨hq1, by rw [orW_up]; exact hq0⟩, ⟨hs1, hs0⟩, ⟨hA5, hg1.2⟩, hm0, ⟨hbd.2.2.1, Int.le_trans hbd.2.2.2 (by omega)⟩, hf0e, e_up hf1e (Int.le_trans hbd.2.2.2 (by omega))⟩
      refine ⟨XX, YY, A0, M0, K0, E0, W0, A1, M1, K1, E1, W1, hI2, hK0, hK1, fun {z post l6 l7 l8 l9} h => ?_, fun {x9 z post l5 l6} h => ?_⟩
      · skip
        refine PW_iload c_P_goThrough_14 rfl ?_
        refine PW_bipush (v := 24) c_P_goThrough_16 (by decide) ?_
        refine PW_icmp_ge c_P_goThrough_18 (fun h0 => absurd h0 (fun q => absurd ((nI_leI (by decide) (by omega)).mp (show nI 24 ≤ nI (k0 + k1) from q)) (by omega))) (fun h0 => ?_)
        refine PW_aload_n c_P_goThrough_21 rfl ?_
        refine PW_get (v := .int (X.1 285)) c_P_goThrough_22 fl_P_39 (gf_35_5 _ _) ?_
        rw [hp0.2.1]
        show PW _ _ _ 25 [some (.ref 35), some (.ref (58 + 2 * pj)), some (.ref (58 + 2 * qj)), some (.int (nI N0)), some (.int (nI N1)), some (.int (nI (k0 + k1))), l6, l7, l8, l9] [.int (nI k0)] (E X y)
        refine PW_iload_n c_P_goThrough_25 rfl ?_
        refine PW_icmp_ge c_P_goThrough_26 (fun h1 => ?_) (fun h1 => absurd ((nI_leI (by omega) (by omega)).mpr (by omega)) h1)
        refine PW_iconst (v := 0) c_P_goThrough_33 (by decide) ?_
        refine PW_istore (i := 6) (L2 := [some (.ref 35), some (.ref (58 + 2 * pj)), some (.ref (58 + 2 * qj)), some (.int (nI N0)), some (.int (nI N1)), some (.int (nI (k0 + k1))), some (.int 0), l7, l8, l9]) c_P_goThrough_34 (Nat.le_of_ble_eq_true rfl) rfl rfl ?_
        refine PW_aload_n c_P_goThrough_36 rfl ?_
        refine PW_get (v := .int (X.1 286)) c_P_goThrough_37 fl_P_43 (gf_35_6 _ _) ?_
        rw [hp1.2.1]
        show PW _ _ _ 40 [some (.ref 35), some (.ref (58 + 2 * pj)), some (.ref (58 + 2 * qj)), some (.int (nI N0)), some (.int (nI N1)), some (.int (nI (k0 + k1))), some (.int 0), l7, l8, l9] [.int (nI k1)] (E X y)
        refine PW_iload c_P_goThrough_40 rfl ?_
        refine PW_icmp_ge c_P_goThrough_42 (fun h2 => absurd h2 (fun q => absurd ((nI_leI (by omega) (by omega)).mp q) (by omega))) (fun h2 => ?_)
        refine PW_iconst (v := 1) c_P_goThrough_45 (by decide) ?_
        refine PW_goto c_P_goThrough_46 ?_
        refine PW_istore (i := 7) (L2 := [some (.ref 35), some (.ref (58 + 2 * pj)), some (.ref (58 + 2 * qj)), some (.int (nI N0)), some (.int (nI N1)), some (.int (nI (k0 + k1))), some (.int 0), some (.int 1), l8, l9]) c_P_goThrough_50 (Nat.le_of_ble_eq_true rfl) rfl rfl ?_
        refine PW_iload c_P_goThrough_52 rfl ?_
        refine PW_if_ne c_P_goThrough_54 (fun h3 => absurd (by decide) h3) (fun _ => ?_)
        refine PW_iload c_P_goThrough_57 rfl ?_
        refine PW_if_ne c_P_goThrough_59 (fun _ => ?_) (fun h4 => absurd h4 (by decide))
        refine PW_aload_n c_P_goThrough_65 rfl ?_
        refine PW_aload_n c_P_goThrough_66 rfl ?_
        refine PW_get (v := .int (X.1 285)) c_P_goThrough_67 fl_P_39 (gf_35_5 _ _) ?_
        rw [hp0.2.1]
        show PW _ _ _ 70 [some (.ref 35), some (.ref (58 + 2 * pj)), some (.ref (58 + 2 * qj)), some (.int (nI N0)), some (.int (nI N1)), some (.int (nI (k0 + k1))), some (.int 0), some (.int 1), l8, l9] [.int (nI k0), .ref (58 + 2 * pj)] (E X y)
        refine PW_V0 (d2 := 2) (st := []) [.int (nI k0)] c_P_goThrough_70 lk_P_goThrough_52 (sh_po _ _ hpj) rfl rfl rfl (Nat.le_of_ble_eq_true rfl) (by first | decide | omega) (Nat.le_of_ble_eq_true rfl) ?_
        refine sp_F_small hpj hXb0 hXz0 hn0 (i := k0) rfl (by omega) ?_
        show PW _ _ _ 73 [some (.ref 35), some (.ref (58 + 2 * pj)), some (.ref (58 + 2 * qj)), some (.int (nI N0)), some (.int (nI N1)), some (.int (nI (k0 + k1))), some (.int 0), some (.int 1), l8, l9] [.int (if k0 < n0 then (X.2.2 (59 + 2 * pj) k0).toInt32 else -1)] (E X y)
        refine PW_istore (i := 8) (L2 := [some (.ref 35), some (.ref (58 + 2 * pj)), some (.ref (58 + 2 * qj)), some (.int (nI N0)), some (.int (nI N1)), some (.int (nI (k0 + k1))), some (.int 0), some (.int 1), some (.int (if k0 < n0 then (X.2.2 (59 + 2 * pj) k0).toInt32 else -1)), l9]) c_P_goThrough_73 (Nat.le_of_ble_eq_true rfl) rfl rfl ?_
        refine PW_aload_n c_P_goThrough_75 rfl ?_
        refine PW_aload_n c_P_goThrough_76 rfl ?_
        refine PW_get (v := .int (X.1 286)) c_P_goThrough_77 fl_P_43 (gf_35_6 _ _) ?_
        rw [hp1.2.1]
        show PW _ _ _ 80 [some (.ref 35), some (.ref (58 + 2 * pj)), some (.ref (58 + 2 * qj)), some (.int (nI N0)), some (.int (nI N1)), some (.int (nI (k0 + k1))), some (.int 0), some (.int 1), some (.int (if k0 < n0 then (X.2.2 (59 + 2 * pj) k0).toInt32 else -1)), l9] [.int (nI k1), .ref (58 + 2 * qj)] (E X y)
        refine PW_V0 (d2 := 2) (st := []) [.int (nI k1)] c_P_goThrough_80 lk_P_goThrough_52 (sh_po _ _ hqj) rfl rfl rfl (Nat.le_of_ble_eq_true rfl) (by first | decide | omega) (Nat.le_of_ble_eq_true rfl) ?_
        refine sp_F_small hqj hXb1 hXz1 hn1 rfl (by omega) ?_
        rw [if_pos (show k1 < n1 by omega), hXR1 k1 (by omega), hg1.1]
        show PW _ _ _ 83 [some (.ref 35), some (.ref (58 + 2 * pj)), some (.ref (58 + 2 * qj)), some (.int (nI N0)), some (.int (nI N1)), some (.int (nI (k0 + k1))), some (.int 0), some (.int 1), some (.int (if k0 < n0 then (X.2.2 (59 + 2 * pj) k0).toInt32 else -1)), l9] [.int (nI (plF y qj k1).toNatClampNeg)] (E X y)
        refine PW_istore (i := 9) (L2 := [some (.ref 35), some (.ref (58 + 2 * pj)), some (.ref (58 + 2 * qj)), some (.int (nI N0)), some (.int (nI N1)), some (.int (nI (k0 + k1))), some (.int 0), some (.int 1), some (.int (if k0 < n0 then (X.2.2 (59 + 2 * pj) k0).toInt32 else -1)), some (.int (nI (plF y qj k1).toNatClampNeg))]) c_P_goThrough_83 (Nat.le_of_ble_eq_true rfl) rfl rfl ?_
        refine PW_iload c_P_goThrough_85 rfl ?_
        refine PW_if_eq c_P_goThrough_87 (fun h5 => absurd h5 (by decide)) (fun _ => ?_)
        refine PW_iload c_P_goThrough_90 rfl ?_
        refine PW_if_eq c_P_goThrough_92 (fun _ => ?_) (fun h6 => absurd (by decide) h6)
        refine PW_aload_n c_P_goThrough_148 rfl ?_
        refine PW_aload_n c_P_goThrough_149 rfl ?_
        refine PW_get (v := .ref 43) c_P_goThrough_150 fl_P_32 (gf_35_2 _ _) ?_
        refine PW_iload c_P_goThrough_153 rfl ?_
        refine PW_iconst (v := 1) c_P_goThrough_155 (by decide) ?_
        refine PW_aload_n c_P_goThrough_156 rfl ?_
        refine PW_get (v := .int (X.1 286)) c_P_goThrough_157 fl_P_43 (gf_35_6 _ _) ?_
        rw [hp1.2.1]
        show PW _ _ _ 160 [some (.ref 35), some (.ref (58 + 2 * pj)), some (.ref (58 + 2 * qj)), some (.int (nI N0)), some (.int (nI N1)), some (.int (nI (k0 + k1))), some (.int 0), some (.int 1), some (.int (if k0 < n0 then (X.2.2 (59 + 2 * pj) k0).toInt32 else -1)), some (.int (nI (plF y qj k1).toNatClampNeg))] [.int (nI k1), .int 1, .int (nI (plF y qj k1).toNatClampNeg), .ref 43, .ref 35] (E X y)
        refine PW_aload_n c_P_goThrough_160 rfl ?_
        refine PW_get (v := .int (X.1 285)) c_P_goThrough_161 fl_P_39 (gf_35_5 _ _) ?_
        rw [hp0.2.1]
        show PW _ _ _ 164 [some (.ref 35), some (.ref (58 + 2 * pj)), some (.ref (58 + 2 * qj)), some (.int (nI N0)), some (.int (nI N1)), some (.int (nI (k0 + k1))), some (.int 0), some (.int 1), some (.int (if k0 < n0 then (X.2.2 (59 + 2 * pj) k0).toInt32 else -1)), some (.int (nI (plF y qj k1).toNatClampNeg))] [.int (nI k0), .int (nI k1), .int 1, .int (nI (plF y qj k1).toNatClampNeg), .ref 43, .ref 35] (E X y)
        refine PW_V0 (d2 := 5) (st := []) [.ref 43, .int (nI (plF y qj k1).toNatClampNeg), .int 1, .int (nI k1), .int (nI k0)] c_P_goThrough_164 lk_P_goThrough_59 (po_35 _ _) rfl rfl rfl (Nat.le_of_ble_eq_true rfl) (by first | decide | omega) (Nat.le_of_ble_eq_true rfl) ?_
        refine HV ?_
        show PW _ _ _ 167 [some (.ref 35), some (.ref (58 + 2 * pj)), some (.ref (58 + 2 * qj)), some (.int (nI N0)), some (.int (nI N1)), some (.int (nI (k0 + k1))), some (.int 0), some (.int 1), some (.int (if k0 < n0 then (X.2.2 (59 + 2 * pj) k0).toInt32 else -1)), some (.int (nI (plF y qj k1).toNatClampNeg))] [] (E X3 y)
        refine PW_aload_n c_P_goThrough_167 rfl ?_
        refine PW_dup c_P_goThrough_168 rfl ?_
        refine PW_get (v := .int (X3.1 286)) c_P_goThrough_169 fl_P_43 (gf_35_6 _ _) ?_
        rw [hV]
        show PW _ _ _ 172 [some (.ref 35), some (.ref (58 + 2 * pj)), some (.ref (58 + 2 * qj)), some (.int (nI N0)), some (.int (nI N1)), some (.int (nI (k0 + k1))), some (.int 0), some (.int 1), some (.int (if k0 < n0 then (X.2.2 (59 + 2 * pj) k0).toInt32 else -1)), some (.int (nI (plF y qj k1).toNatClampNeg))] [.int (nI k1), .ref 35] (E X3 y)
        refine PW_iconst (v := 1) c_P_goThrough_172 (by decide) ?_
        refine PW_iadd c_P_goThrough_173 ?_
        refine PW_put (w2 := E (sI X3 286 ((nI k1) + 1)) y) c_P_goThrough_174 fp_P_goThrough_43 rfl (pf_35_6 _ _ _) ?_
        refine PW_iinc (i := 5) (v := (nI (k0 + k1)) + 1) (L2 := [some (.ref 35), some (.ref (58 + 2 * pj)), some (.ref (58 + 2 * qj)), some (.int (nI N0)), some (.int (nI N1)), some (.int ((nI (k0 + k1)) + 1)), some (.int 0), some (.int 1), some (.int (if k0 < n0 then (X.2.2 (59 + 2 * pj) k0).toInt32 else -1)), some (.int (nI (plF y qj k1).toNatClampNeg))]) c_P_goThrough_177 rfl (iinc_v (by decide)) (Nat.le_of_ble_eq_true rfl) rfl rfl ?_
        refine PW_goto c_P_goThrough_180 ?_
        rw [show (nI k1 + 1 : Int32) = nI (k1 + 1) from nI_1 k1]
        refine PW.eqL ?_ rfl rfl (HG (l6 := some (.int 0)) (l7 := some (.int 1)) (l8 := some (.int (if k0 < n0 then (X.2.2 (59 + 2 * pj) k0).toInt32 else -1))) (l9 := some (.int (nI (plF y qj k1).toNatClampNeg))) h)
        show ([some (.ref 35), some (.ref (58 + 2 * pj)), some (.ref (58 + 2 * qj)), some (.int (nI N0)), some (.int (nI N1)), some (.int ((nI (k0 + k1)) + 1)), some (.int 0), some (.int 1), some (.int (if k0 < n0 then (X.2.2 (59 + 2 * pj) k0).toInt32 else -1)), some (.int (nI (plF y qj k1).toNatClampNeg))] : List (Option Value)) = [some (.ref 35), some (.ref (58 + 2 * pj)), some (.ref (58 + 2 * qj)), some (.int (nI N0)), some (.int (nI N1)), some (.int (nI (k0 + (k1 + 1)))), some (.int 0), some (.int 1), some (.int (if k0 < n0 then (X.2.2 (59 + 2 * pj) k0).toInt32 else -1)), some (.int (nI (plF y qj k1).toNatClampNeg))]
        rw [nI_1, show k0 + k1 + 1 = k0 + (k1 + 1) by omega]
      · skip
        refine PW_aload_n c_M_pair_186 rfl ?_
        refine PW_iconst (v := 0) c_M_pair_187 (by decide) ?_
        refine PW_iload_n c_M_pair_188 rfl ?_
        refine PW_bipush (v := 10) c_M_pair_189 (by decide) ?_
        refine PW_idiv c_M_pair_191 (by decide) ?_
        rw [e1]
        show PW _ _ _ 192 [some (.ref 70), some (.int a1), some (.int a2), some (.int a3), some (.int a4), l5, l6] [.int (nI pj), .int 0, .ref 70] (E x9 Y)
        refine PW_V0 (d2 := 2) (st := []) [.int 0, .int (nI pj)] c_M_pair_192 lk_M_pair_321 (po_70 _ _) rfl rfl rfl (Nat.le_of_ble_eq_true rfl) (by first | decide | omega) (Nat.le_of_ble_eq_true rfl) ?_
        refine sp_hm0_0 hpj hn0 hy0.2.2.1 hY1050 (by omega) hno0 ?_
        show PW _ _ _ 195 [some (.ref 70), some (.int a1), some (.int a2), some (.int a3), some (.int a4), l5, l6] [.int 0] (E x9 Y)
        refine PW_if_ne c_M_pair_195 (fun h0 => absurd (by decide) h0) (fun _ => ?_)
        refine PW_aload_n c_M_pair_198 rfl ?_
        refine PW_iconst (v := 1) c_M_pair_199 (by decide) ?_
        refine PW_iload_n c_M_pair_200 rfl ?_
        refine PW_bipush (v := 10) c_M_pair_201 (by decide) ?_
        refine PW_irem c_M_pair_203 (by decide) ?_
        rw [e2]
        show PW _ _ _ 204 [some (.ref 70), some (.int a1), some (.int a2), some (.int a3), some (.int a4), l5, l6] [.int (nI qj), .int 1, .ref 70] (E x9 Y)
        refine PW_V0 (d2 := 2) (st := []) [.int 1, .int (nI qj)] c_M_pair_204 lk_M_pair_321 (po_70 _ _) rfl rfl rfl (Nat.le_of_ble_eq_true rfl) (by first | decide | omega) (Nat.le_of_ble_eq_true rfl) ?_
        refine sp_hm1_1 hqj hn1 hy1.2.2.1 hY1051 (by omega) (by omega) hYr1 ?_
        show PW _ _ _ 207 [some (.ref 70), some (.int a1), some (.int a2), some (.int a3), some (.int a4), l5, l6] [.int 1] (E x9 Y)
        refine PW_if_eq c_M_pair_207 (fun h1 => absurd h1 (by decide)) (fun _ => ?_)
        refine PW_aload_n c_M_pair_210 rfl ?_
        refine PW_iconst (v := 0) c_M_pair_211 (by decide) ?_
        refine PW_iload_n c_M_pair_212 rfl ?_
        refine PW_bipush (v := 10) c_M_pair_213 (by decide) ?_
        refine PW_idiv c_M_pair_215 (by decide) ?_
        rw [e1]
        show PW _ _ _ 216 [some (.ref 70), some (.int a1), some (.int a2), some (.int a3), some (.int a4), l5, l6] [.int (nI pj), .int 0, .ref 70] (E x9 Y)
        refine PW_V0 (d2 := 3) (st := []) [.int 0, .int (nI pj)] c_M_pair_216 lk_M_pair_324 (po_70 _ _) rfl rfl rfl (Nat.le_of_ble_eq_true rfl) (by first | decide | omega) (Nat.le_of_ble_eq_true rfl) ?_
        refine sp_so0_0 hpj hn0 hy0.2.2.1 hY1050 (by omega) hno0 ?_
        show PW _ _ _ 219 [some (.ref 70), some (.int a1), some (.int a2), some (.int a3), some (.int a4), l5, l6] [.int 1000000] (E x9 Y)
        refine PW_aload_n c_M_pair_219 rfl ?_
        refine PW_iconst (v := 1) c_M_pair_220 (by decide) ?_
        refine PW_iload_n c_M_pair_221 rfl ?_
        refine PW_bipush (v := 10) c_M_pair_222 (by decide) ?_
        refine PW_irem c_M_pair_224 (by decide) ?_
        rw [e2]
        show PW _ _ _ 225 [some (.ref 70), some (.int a1), some (.int a2), some (.int a3), some (.int a4), l5, l6] [.int (nI qj), .int 1, .ref 70, .int 1000000] (E x9 Y)
        refine PW_V0 (d2 := 3) (st := [.int 1000000]) [.int 1, .int (nI qj)] c_M_pair_225 lk_M_pair_324 (po_70 _ _) rfl rfl rfl (Nat.le_of_ble_eq_true rfl) (by first | decide | omega) (Nat.le_of_ble_eq_true rfl) ?_
        refine sp_so1_1 hqj hn1 hy1.2.2.1 hY1051 hy1.1 hy1.2.1 (by omega) (by omega) hYr1 hYb1 hB5 hg1.2 ?_
        show PW _ _ _ 228 [some (.ref 70), some (.int a1), some (.int a2), some (.int a3), some (.int a4), l5, l6] [.int (m1 + wayN Y b0 (plF y qj k1).toNatClampNeg), .int 1000000] (E x9 Y)
        refine PW_icmp_gt c_M_pair_228 (fun h2 => ?_) (fun h2 => absurd (by rw [g5]; exact hf1) h2)
        refine PW_aload_n c_M_pair_243 rfl ?_
        refine PW_iconst (v := 1) c_M_pair_244 (by decide) ?_
        refine PW_iload_n c_M_pair_245 rfl ?_
        refine PW_bipush (v := 10) c_M_pair_246 (by decide) ?_
        refine PW_irem c_M_pair_248 (by decide) ?_
        rw [e2]
        show PW _ _ _ 249 [some (.ref 70), some (.int a1), some (.int a2), some (.int a3), some (.int a4), l5, l6] [.int (nI qj), .int 1, .ref 70] (E x9 Y)
        refine PW_V0 (d2 := 4) (st := []) [.int 1, .int (nI qj)] c_M_pair_249 lk_M_pair_330 (po_70 _ _) rfl rfl rfl (Nat.le_of_ble_eq_true rfl) (by first | decide | omega) (Nat.le_of_ble_eq_true rfl) ?_
        refine HVM ?_
        show PW _ _ _ 252 [some (.ref 70), some (.int a1), some (.int a2), some (.int a3), some (.int a4), l5, l6] [] (E x9 Y3)
        refine PW_goto c_M_pair_252 ?_
        exact HM (l5 := l5) (l6 := l6) h
