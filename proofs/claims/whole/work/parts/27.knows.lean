/-! the minutes of knowing -/
def kwI (y : XS) : Nat → Nat → Int32 → Int32
  | 0, _, kn => kn
  | j + 1, k, kn => kwI y j (k + 1) (kwF y kn (nI k))
def kwS (y : XS) (all : Int32) : Nat → Nat → Int32 → Int32
  | 0, _, _ => -2
  | j + 1, k, kn => if (if k = 0 then kn else kwF y kn (nI k)) = all then nI k else kwS y all j (k + 1) (if k = 0 then kn else kwF y kn (nI k))
theorem S10_kwI {y : XS} (hW : WG y) : ∀ (j k : Nat) (kn : Int32), S10 kn → S10 (kwI y j k kn)
  | 0, _, _, h => h
  | j + 1, k, kn, h => S10_kwI hW j (k + 1) _ (S10_kwF hW h)
theorem gtK {k K : Nat} (hk : k < 2 ^ 31) (hK : K < 2 ^ 31) : nI k > nI K ↔ K < k := nI_ltI hK hk
theorem sp_H_everybody {z : ZS} {post : Option Value → List PE → Prop} {x y : XS}   (h : post (some (.int ((1 <<< (x.1 51 &&& 31)) - 1))) (E x y)) : PW (0, 0, 0, z) m_H_everybody post 0 [some (.ref 6)] [] (E x y) := by
  refine PW_iconst (v := 1) c_H_everybody_0 (by decide) ?_
  refine PW_aload_n c_H_everybody_1 rfl ?_
  refine PW_get (v := .int (x.1 51)) c_H_everybody_2 fl_H_29 (gf_6_3 _ _) ?_
  refine PW_ishl c_H_everybody_5 ?_
  refine PW_iconst (v := 1) c_H_everybody_6 (by decide) ?_
  refine PW_isub c_H_everybody_7 ?_
  refine PW_ireturn (ty := .int) c_H_everybody_8 rfl rfl ?_
  exact h
theorem lp_Y_whoKnows {z : ZS} {post : Option Value → List PE → Prop} {x y : XS} {g : Int32} {K : Nat} (C : CPg x y) (hK : K < 1000) : ∀ (j k : Nat) (kn : Int32), k + j = K + 1 → S10 kn → post (some (.int (kwI y j k kn))) (E x y) → PW (3, 0, 0, z) m_Y_whoKnows post 7 [some (.ref 44), some (.int g), some (.int (nI K)), some (.int kn), some (.int (nI k))] [] (E x y) := by
  have hW := C.1
  intro j
  induction j with
  | zero =>
    intro k kn hk hS h
    rw [kwI] at h
    refine PW_iload c_Y_whoKnows_7 rfl ?_
    refine PW_iload_n c_Y_whoKnows_9 rfl ?_
    refine PW_icmp_gt c_Y_whoKnows_10 (fun h0 => ?_) (fun h0 => absurd ((gtK (by omega) (by omega)).mpr (by omega)) h0)
    refine PW_iload_n c_Y_whoKnows_27 rfl ?_
    refine PW_ireturn (ty := .int) c_Y_whoKnows_28 rfl rfl ?_
    exact h
  | succ j ih =>
    intro k kn hk hS h
    rw [kwI] at h
    refine PW_iload c_Y_whoKnows_7 rfl ?_
    refine PW_iload_n c_Y_whoKnows_9 rfl ?_
    refine PW_icmp_gt c_Y_whoKnows_10 (fun h0 => absurd h0 (fun q => absurd ((gtK (by omega) (by omega)).mp q) (by omega))) (fun h0 => ?_)
    refine PW_aload_n c_Y_whoKnows_13 rfl ?_
    refine PW_iload_n c_Y_whoKnows_14 rfl ?_
    refine PW_iload c_Y_whoKnows_15 rfl ?_
    refine PW_V0 (d2 := 2) (st := []) [.int kn, .int (nI k)] c_Y_whoKnows_17 lk_Y_whoKnows_48 (po_44 _ _) rfl rfl rfl (Nat.le_of_ble_eq_true rfl) (by first | decide | omega) (Nat.le_of_ble_eq_true rfl) ?_
    refine sp_Y_spread C hS (by rw [nI_toInt (by omega)]; omega) ?_
    show PW _ _ _ 20 [some (.ref 44), some (.int g), some (.int (nI K)), some (.int kn), some (.int (nI k))] [.int (kwF y kn (nI k))] (E x y)
    refine PW_istore_n (i := 3) (L2 := [some (.ref 44), some (.int g), some (.int (nI K)), some (.int (kwF y kn (nI k))), some (.int (nI k))]) c_Y_whoKnows_20 rfl (Nat.le_of_ble_eq_true rfl) rfl rfl ?_
    refine PW_iinc (i := 4) (v := (nI k) + 1) (L2 := [some (.ref 44), some (.int g), some (.int (nI K)), some (.int (kwF y kn (nI k))), some (.int ((nI k) + 1))]) c_Y_whoKnows_21 rfl (iinc_v (by decide)) (Nat.le_of_ble_eq_true rfl) rfl rfl ?_
    refine PW_goto c_Y_whoKnows_24 ?_
    refine PW.eqL ?_ rfl rfl (ih (k + 1) (kwF y kn (nI k)) (by omega) (S10_kwF hW hS) h)
    show ([some (.ref 44), some (.int g), some (.int (nI K)), some (.int (kwF y kn (nI k))), some (.int ((nI k) + 1))] : List (Option Value)) = [some (.ref 44), some (.int g), some (.int (nI K)), some (.int (kwF y kn (nI k))), some (.int (nI (k + 1)))]
    rw [nI_1]
theorem lp_M_knows {z : ZS} {post : Option Value → List PE → Prop} {x y : XS} {g al : Int32} {K : Nat} (hW : WG y) (hK : K < 1000) : ∀ (j k : Nat) (kn : Int32), k + j = K + 1 → S10 kn → PW (2, 0, 0, z) m_M_knows post 57 [some (.ref 70), some (.int g), some (.int (nI K)), some (.int (kwI y j k kn)), some (.int al), some (.int (nI (K + 1)))] [] (E x y) → PW (2, 0, 0, z) m_M_knows post 37 [some (.ref 70), some (.int g), some (.int (nI K)), some (.int kn), some (.int al), some (.int (nI k))] [] (E x y) := by
  intro j
  induction j with
  | zero =>
    intro k kn hk hS h
    rw [kwI] at h
    refine PW_iload c_M_knows_37 rfl ?_
    refine PW_iload_n c_M_knows_39 rfl ?_
    refine PW_icmp_gt c_M_knows_40 (fun h0 => ?_) (fun h0 => absurd ((gtK (by omega) (by omega)).mpr (by omega)) h0)
    rw [show k = K + 1 by omega]
    exact h
  | succ j ih =>
    intro k kn hk hS h
    rw [kwI] at h
    refine PW_iload c_M_knows_37 rfl ?_
    refine PW_iload_n c_M_knows_39 rfl ?_
    refine PW_icmp_gt c_M_knows_40 (fun h0 => absurd h0 (fun q => absurd ((gtK (by omega) (by omega)).mp q) (by omega))) (fun h0 => ?_)
    refine PW_aload_n c_M_knows_43 rfl ?_
    refine PW_iload_n c_M_knows_44 rfl ?_
    refine PW_iload c_M_knows_45 rfl ?_
    refine PW_V0 (d2 := 1) (st := []) [.int kn, .int (nI k)] c_M_knows_47 lk_M_knows_348 (po_70 _ _) rfl rfl rfl (Nat.le_of_ble_eq_true rfl) (by first | decide | omega) (Nat.le_of_ble_eq_true rfl) ?_
    refine sp_M_knowThen hW hS ?_
    show PW _ _ _ 50 [some (.ref 70), some (.int g), some (.int (nI K)), some (.int kn), some (.int al), some (.int (nI k))] [.int (kwF y kn (nI k))] (E x y)
    refine PW_istore_n (i := 3) (L2 := [some (.ref 70), some (.int g), some (.int (nI K)), some (.int (kwF y kn (nI k))), some (.int al), some (.int (nI k))]) c_M_knows_50 rfl (Nat.le_of_ble_eq_true rfl) rfl rfl ?_
    refine PW_iinc (i := 5) (v := (nI k) + 1) (L2 := [some (.ref 70), some (.int g), some (.int (nI K)), some (.int (kwF y kn (nI k))), some (.int al), some (.int ((nI k) + 1))]) c_M_knows_51 rfl (iinc_v (by decide)) (Nat.le_of_ble_eq_true rfl) rfl rfl ?_
    refine PW_goto c_M_knows_54 ?_
    refine PW.eqL ?_ rfl rfl (ih (k + 1) (kwF y kn (nI k)) (by omega) (S10_kwF hW hS) h)
    show ([some (.ref 70), some (.int g), some (.int (nI K)), some (.int (kwF y kn (nI k))), some (.int al), some (.int ((nI k) + 1))] : List (Option Value)) = [some (.ref 70), some (.int g), some (.int (nI K)), some (.int (kwF y kn (nI k))), some (.int al), some (.int (nI (k + 1)))]
    rw [nI_1]
theorem lp2_M_knows {z : ZS} {post : Option Value → List PE → Prop} {x y : XS} {g K al : Int32} (hW : WG y) : ∀ (j k : Nat) (kn : Int32), k + j = 121 → S10 kn → post (some (.int (kwS y al j k kn))) (E x y) → PW (2, 0, 0, z) m_M_knows post 66 [some (.ref 70), some (.int g), some (.int K), some (.int kn), some (.int al), some (.int (nI k))] [] (E x y) := by
  intro j
  induction j with
  | zero =>
    intro k kn hk hS h
    rw [kwS] at h
    refine PW_iload c_M_knows_66 rfl ?_
    refine PW_bipush (v := 120) c_M_knows_68 (by decide) ?_
    refine PW_icmp_gt c_M_knows_70 (fun h0 => ?_) (fun h0 => absurd (by rw [show k = 121 by omega]; decide) h0)
    refine PW_bipush (v := -2) c_M_knows_101 (by decide) ?_
    refine PW_ireturn (ty := .int) c_M_knows_103 rfl rfl ?_
    exact h
  | succ j ih =>
    intro k kn hk hS h
    rw [kwS] at h
    by_cases hk0 : k = 0
    · rw [if_pos hk0] at h
      by_cases hE : kn = al
      · rw [if_pos hE] at h
        refine PW_iload c_M_knows_66 rfl ?_
        refine PW_bipush (v := 120) c_M_knows_68 (by decide) ?_
        refine PW_icmp_gt c_M_knows_70 (fun h0 => absurd h0 (fun q => absurd ((gtK (by omega) (by decide)).mp (show nI k > nI 120 from q)) (by omega))) (fun h0 => ?_)
        refine PW_iload c_M_knows_73 rfl ?_
        refine PW_if_le c_M_knows_75 (fun h1 => ?_) (fun h1 => absurd (show nI k ≤ nI 0 from (nI_leI (by omega) (by decide)).mpr (by omega)) h1)
        refine PW_iload_n c_M_knows_86 rfl ?_
        refine PW_iload c_M_knows_87 rfl ?_
        refine PW_icmp_ne c_M_knows_89 (fun h2 => absurd h2 (not_not_intro (by exact hE))) (fun h2 => ?_)
        refine PW_iload c_M_knows_92 rfl ?_
        refine PW_ireturn (ty := .int) c_M_knows_94 rfl rfl ?_
        exact h
      · rw [if_neg hE] at h
        refine PW_iload c_M_knows_66 rfl ?_
        refine PW_bipush (v := 120) c_M_knows_68 (by decide) ?_
        refine PW_icmp_gt c_M_knows_70 (fun h0 => absurd h0 (fun q => absurd ((gtK (by omega) (by decide)).mp (show nI k > nI 120 from q)) (by omega))) (fun h0 => ?_)
        refine PW_iload c_M_knows_73 rfl ?_
        refine PW_if_le c_M_knows_75 (fun h1 => ?_) (fun h1 => absurd (show nI k ≤ nI 0 from (nI_leI (by omega) (by decide)).mpr (by omega)) h1)
        refine PW_iload_n c_M_knows_86 rfl ?_
        refine PW_iload c_M_knows_87 rfl ?_
        refine PW_icmp_ne c_M_knows_89 (fun h2 => ?_) (fun h2 => absurd h2 (by exact hE))
        refine PW_iinc (i := 5) (v := (nI k) + 1) (L2 := [some (.ref 70), some (.int g), some (.int K), some (.int kn), some (.int al), some (.int ((nI k) + 1))]) c_M_knows_95 rfl (iinc_v (by decide)) (Nat.le_of_ble_eq_true rfl) rfl rfl ?_
        refine PW_goto c_M_knows_98 ?_
        refine PW.eqL ?_ rfl rfl (ih (k + 1) (kn) (by omega) hS h)
        show ([some (.ref 70), some (.int g), some (.int K), some (.int kn), some (.int al), some (.int ((nI k) + 1))] : List (Option Value)) = [some (.ref 70), some (.int g), some (.int K), some (.int kn), some (.int al), some (.int (nI (k + 1)))]
        rw [nI_1]
    · rw [if_neg hk0] at h
      by_cases hE : kwF y kn (nI k) = al
      · rw [if_pos hE] at h
        refine PW_iload c_M_knows_66 rfl ?_
        refine PW_bipush (v := 120) c_M_knows_68 (by decide) ?_
        refine PW_icmp_gt c_M_knows_70 (fun h0 => absurd h0 (fun q => absurd ((gtK (by omega) (by decide)).mp (show nI k > nI 120 from q)) (by omega))) (fun h0 => ?_)
        refine PW_iload c_M_knows_73 rfl ?_
        refine PW_if_le c_M_knows_75 (fun h1 => absurd h1 (fun q => absurd ((nI_leI (by omega) (by decide)).mp (show nI k ≤ nI 0 from q)) (by omega))) (fun h1 => ?_)
        refine PW_aload_n c_M_knows_78 rfl ?_
        refine PW_iload_n c_M_knows_79 rfl ?_
        refine PW_iload c_M_knows_80 rfl ?_
        refine PW_V0 (d2 := 1) (st := []) [.int kn, .int (nI k)] c_M_knows_82 lk_M_knows_348 (po_70 _ _) rfl rfl rfl (Nat.le_of_ble_eq_true rfl) (by first | decide | omega) (Nat.le_of_ble_eq_true rfl) ?_
        refine sp_M_knowThen hW hS ?_
        show PW _ _ _ 85 [some (.ref 70), some (.int g), some (.int K), some (.int kn), some (.int al), some (.int (nI k))] [.int (kwF y kn (nI k))] (E x y)
        refine PW_istore_n (i := 3) (L2 := [some (.ref 70), some (.int g), some (.int K), some (.int (kwF y kn (nI k))), some (.int al), some (.int (nI k))]) c_M_knows_85 rfl (Nat.le_of_ble_eq_true rfl) rfl rfl ?_
        refine PW_iload_n c_M_knows_86 rfl ?_
        refine PW_iload c_M_knows_87 rfl ?_
        refine PW_icmp_ne c_M_knows_89 (fun h2 => absurd h2 (not_not_intro (by exact hE))) (fun h2 => ?_)
        refine PW_iload c_M_knows_92 rfl ?_
        refine PW_ireturn (ty := .int) c_M_knows_94 rfl rfl ?_
        exact h
      · rw [if_neg hE] at h
        refine PW_iload c_M_knows_66 rfl ?_
        refine PW_bipush (v := 120) c_M_knows_68 (by decide) ?_
        refine PW_icmp_gt c_M_knows_70 (fun h0 => absurd h0 (fun q => absurd ((gtK (by omega) (by decide)).mp (show nI k > nI 120 from q)) (by omega))) (fun h0 => ?_)
        refine PW_iload c_M_knows_73 rfl ?_
        refine PW_if_le c_M_knows_75 (fun h1 => absurd h1 (fun q => absurd ((nI_leI (by omega) (by decide)).mp (show nI k ≤ nI 0 from q)) (by omega))) (fun h1 => ?_)
        refine PW_aload_n c_M_knows_78 rfl ?_
        refine PW_iload_n c_M_knows_79 rfl ?_
        refine PW_iload c_M_knows_80 rfl ?_
        refine PW_V0 (d2 := 1) (st := []) [.int kn, .int (nI k)] c_M_knows_82 lk_M_knows_348 (po_70 _ _) rfl rfl rfl (Nat.le_of_ble_eq_true rfl) (by first | decide | omega) (Nat.le_of_ble_eq_true rfl) ?_
        refine sp_M_knowThen hW hS ?_
        show PW _ _ _ 85 [some (.ref 70), some (.int g), some (.int K), some (.int kn), some (.int al), some (.int (nI k))] [.int (kwF y kn (nI k))] (E x y)
        refine PW_istore_n (i := 3) (L2 := [some (.ref 70), some (.int g), some (.int K), some (.int (kwF y kn (nI k))), some (.int al), some (.int (nI k))]) c_M_knows_85 rfl (Nat.le_of_ble_eq_true rfl) rfl rfl ?_
        refine PW_iload_n c_M_knows_86 rfl ?_
        refine PW_iload c_M_knows_87 rfl ?_
        refine PW_icmp_ne c_M_knows_89 (fun h2 => ?_) (fun h2 => absurd h2 (by exact hE))
        refine PW_iinc (i := 5) (v := (nI k) + 1) (L2 := [some (.ref 70), some (.int g), some (.int K), some (.int (kwF y kn (nI k))), some (.int al), some (.int ((nI k) + 1))]) c_M_knows_95 rfl (iinc_v (by decide)) (Nat.le_of_ble_eq_true rfl) rfl rfl ?_
        refine PW_goto c_M_knows_98 ?_
        refine PW.eqL ?_ rfl rfl (ih (k + 1) (kwF y kn (nI k)) (by omega) (S10_kwF hW hS) h)
        show ([some (.ref 70), some (.int g), some (.int K), some (.int (kwF y kn (nI k))), some (.int al), some (.int ((nI k) + 1))] : List (Option Value)) = [some (.ref 70), some (.int g), some (.int K), some (.int (kwF y kn (nI k))), some (.int al), some (.int (nI (k + 1)))]
        rw [nI_1]
theorem lp2_Y_firstMinuteAllKnow {z : ZS} {post : Option Value → List PE → Prop} {x y : XS} {g al : Int32} (C : CPg x y) (hal : (1 <<< (x.1 51 &&& 31)) - 1 = al) : ∀ (j k : Nat) (kn : Int32), k + j = 110 → S10 kn → post (some (.int (kwS y al j k kn))) (E x y) → PW (3, 0, 0, z) m_Y_firstMinuteAllKnow post 10 [some (.ref 44), some (.int g), some (.int kn), some (.int 109), some (.int (nI k))] [] (E x y) := by
  have hW := C.1
  intro j
  induction j with
  | zero =>
    intro k kn hk hS h
    rw [kwS] at h
    refine PW_iload c_Y_firstMinuteAllKnow_10 rfl ?_
    refine PW_iload_n c_Y_firstMinuteAllKnow_12 rfl ?_
    refine PW_icmp_gt c_Y_firstMinuteAllKnow_13 (fun h0 => ?_) (fun h0 => absurd (by rw [show k = 110 by omega]; decide) h0)
    refine PW_bipush (v := -2) c_Y_firstMinuteAllKnow_49 (by decide) ?_
    refine PW_ireturn (ty := .int) c_Y_firstMinuteAllKnow_51 rfl rfl ?_
    exact h
  | succ j ih =>
    intro k kn hk hS h
    rw [kwS] at h
    by_cases hk0 : k = 0
    · rw [if_pos hk0] at h
      by_cases hE : kn = al
      · rw [if_pos hE] at h
        refine PW_iload c_Y_firstMinuteAllKnow_10 rfl ?_
        refine PW_iload_n c_Y_firstMinuteAllKnow_12 rfl ?_
        refine PW_icmp_gt c_Y_firstMinuteAllKnow_13 (fun h0 => absurd h0 (fun q => absurd ((gtK (by omega) (by decide)).mp (show nI k > nI 109 from q)) (by omega))) (fun h0 => ?_)
        refine PW_iload c_Y_firstMinuteAllKnow_16 rfl ?_
        refine PW_if_le c_Y_firstMinuteAllKnow_18 (fun h1 => ?_) (fun h1 => absurd (show nI k ≤ nI 0 from (nI_leI (by omega) (by decide)).mpr (by omega)) h1)
        refine PW_iload_n c_Y_firstMinuteAllKnow_29 rfl ?_
        refine PW_aload_n c_Y_firstMinuteAllKnow_30 rfl ?_
        refine PW_get (v := .ref 6) c_Y_firstMinuteAllKnow_31 fl_Y_17 (gf_44_0 _ _) ?_
        refine PW_V0 (d2 := 0) (st := [.int kn]) [] c_Y_firstMinuteAllKnow_34 lk_Y_firstMinuteAllKnow_41 (po_6 _ _) rfl rfl rfl (Nat.le_of_ble_eq_true rfl) (by first | decide | omega) (Nat.le_of_ble_eq_true rfl) ?_
        refine sp_H_everybody  ?_
        show PW _ _ _ 37 [some (.ref 44), some (.int g), some (.int kn), some (.int 109), some (.int (nI k))] [.int ((1 <<< (x.1 51 &&& 31)) - 1), .int kn] (E x y)
        refine PW_icmp_ne c_Y_firstMinuteAllKnow_37 (fun h2 => absurd h2 (not_not_intro (by rw [hal]; exact hE))) (fun h2 => ?_)
        refine PW_iload c_Y_firstMinuteAllKnow_40 rfl ?_
        refine PW_ireturn (ty := .int) c_Y_firstMinuteAllKnow_42 rfl rfl ?_
        exact h
      · rw [if_neg hE] at h
        refine PW_iload c_Y_firstMinuteAllKnow_10 rfl ?_
        refine PW_iload_n c_Y_firstMinuteAllKnow_12 rfl ?_
        refine PW_icmp_gt c_Y_firstMinuteAllKnow_13 (fun h0 => absurd h0 (fun q => absurd ((gtK (by omega) (by decide)).mp (show nI k > nI 109 from q)) (by omega))) (fun h0 => ?_)
        refine PW_iload c_Y_firstMinuteAllKnow_16 rfl ?_
        refine PW_if_le c_Y_firstMinuteAllKnow_18 (fun h1 => ?_) (fun h1 => absurd (show nI k ≤ nI 0 from (nI_leI (by omega) (by decide)).mpr (by omega)) h1)
        refine PW_iload_n c_Y_firstMinuteAllKnow_29 rfl ?_
        refine PW_aload_n c_Y_firstMinuteAllKnow_30 rfl ?_
        refine PW_get (v := .ref 6) c_Y_firstMinuteAllKnow_31 fl_Y_17 (gf_44_0 _ _) ?_
        refine PW_V0 (d2 := 0) (st := [.int kn]) [] c_Y_firstMinuteAllKnow_34 lk_Y_firstMinuteAllKnow_41 (po_6 _ _) rfl rfl rfl (Nat.le_of_ble_eq_true rfl) (by first | decide | omega) (Nat.le_of_ble_eq_true rfl) ?_
        refine sp_H_everybody  ?_
        show PW _ _ _ 37 [some (.ref 44), some (.int g), some (.int kn), some (.int 109), some (.int (nI k))] [.int ((1 <<< (x.1 51 &&& 31)) - 1), .int kn] (E x y)
        refine PW_icmp_ne c_Y_firstMinuteAllKnow_37 (fun h2 => ?_) (fun h2 => absurd h2 (by rw [hal]; exact hE))
        refine PW_iinc (i := 4) (v := (nI k) + 1) (L2 := [some (.ref 44), some (.int g), some (.int kn), some (.int 109), some (.int ((nI k) + 1))]) c_Y_firstMinuteAllKnow_43 rfl (iinc_v (by decide)) (Nat.le_of_ble_eq_true rfl) rfl rfl ?_
        refine PW_goto c_Y_firstMinuteAllKnow_46 ?_
        refine PW.eqL ?_ rfl rfl (ih (k + 1) (kn) (by omega) hS h)
        show ([some (.ref 44), some (.int g), some (.int kn), some (.int 109), some (.int ((nI k) + 1))] : List (Option Value)) = [some (.ref 44), some (.int g), some (.int kn), some (.int 109), some (.int (nI (k + 1)))]
        rw [nI_1]
    · rw [if_neg hk0] at h
      by_cases hE : kwF y kn (nI k) = al
      · rw [if_pos hE] at h
        refine PW_iload c_Y_firstMinuteAllKnow_10 rfl ?_
        refine PW_iload_n c_Y_firstMinuteAllKnow_12 rfl ?_
        refine PW_icmp_gt c_Y_firstMinuteAllKnow_13 (fun h0 => absurd h0 (fun q => absurd ((gtK (by omega) (by decide)).mp (show nI k > nI 109 from q)) (by omega))) (fun h0 => ?_)
        refine PW_iload c_Y_firstMinuteAllKnow_16 rfl ?_
        refine PW_if_le c_Y_firstMinuteAllKnow_18 (fun h1 => absurd h1 (fun q => absurd ((nI_leI (by omega) (by decide)).mp (show nI k ≤ nI 0 from q)) (by omega))) (fun h1 => ?_)
        refine PW_aload_n c_Y_firstMinuteAllKnow_21 rfl ?_
        refine PW_iload_n c_Y_firstMinuteAllKnow_22 rfl ?_
        refine PW_iload c_Y_firstMinuteAllKnow_23 rfl ?_
        refine PW_V0 (d2 := 2) (st := []) [.int kn, .int (nI k)] c_Y_firstMinuteAllKnow_25 lk_Y_firstMinuteAllKnow_48 (po_44 _ _) rfl rfl rfl (Nat.le_of_ble_eq_true rfl) (by first | decide | omega) (Nat.le_of_ble_eq_true rfl) ?_
        refine sp_Y_spread C hS (by rw [nI_toInt (by omega)]; omega) ?_
        show PW _ _ _ 28 [some (.ref 44), some (.int g), some (.int kn), some (.int 109), some (.int (nI k))] [.int (kwF y kn (nI k))] (E x y)
        refine PW_istore_n (i := 2) (L2 := [some (.ref 44), some (.int g), some (.int (kwF y kn (nI k))), some (.int 109), some (.int (nI k))]) c_Y_firstMinuteAllKnow_28 rfl (Nat.le_of_ble_eq_true rfl) rfl rfl ?_
        refine PW_iload_n c_Y_firstMinuteAllKnow_29 rfl ?_
        refine PW_aload_n c_Y_firstMinuteAllKnow_30 rfl ?_
        refine PW_get (v := .ref 6) c_Y_firstMinuteAllKnow_31 fl_Y_17 (gf_44_0 _ _) ?_
        refine PW_V0 (d2 := 0) (st := [.int (kwF y kn (nI k))]) [] c_Y_firstMinuteAllKnow_34 lk_Y_firstMinuteAllKnow_41 (po_6 _ _) rfl rfl rfl (Nat.le_of_ble_eq_true rfl) (by first | decide | omega) (Nat.le_of_ble_eq_true rfl) ?_
        refine sp_H_everybody  ?_
        show PW _ _ _ 37 [some (.ref 44), some (.int g), some (.int (kwF y kn (nI k))), some (.int 109), some (.int (nI k))] [.int ((1 <<< (x.1 51 &&& 31)) - 1), .int (kwF y kn (nI k))] (E x y)
        refine PW_icmp_ne c_Y_firstMinuteAllKnow_37 (fun h2 => absurd h2 (not_not_intro (by rw [hal]; exact hE))) (fun h2 => ?_)
        refine PW_iload c_Y_firstMinuteAllKnow_40 rfl ?_
        refine PW_ireturn (ty := .int) c_Y_firstMinuteAllKnow_42 rfl rfl ?_
        exact h
      · rw [if_neg hE] at h
        refine PW_iload c_Y_firstMinuteAllKnow_10 rfl ?_
        refine PW_iload_n c_Y_firstMinuteAllKnow_12 rfl ?_
        refine PW_icmp_gt c_Y_firstMinuteAllKnow_13 (fun h0 => absurd h0 (fun q => absurd ((gtK (by omega) (by decide)).mp (show nI k > nI 109 from q)) (by omega))) (fun h0 => ?_)
        refine PW_iload c_Y_firstMinuteAllKnow_16 rfl ?_
        refine PW_if_le c_Y_firstMinuteAllKnow_18 (fun h1 => absurd h1 (fun q => absurd ((nI_leI (by omega) (by decide)).mp (show nI k ≤ nI 0 from q)) (by omega))) (fun h1 => ?_)
        refine PW_aload_n c_Y_firstMinuteAllKnow_21 rfl ?_
        refine PW_iload_n c_Y_firstMinuteAllKnow_22 rfl ?_
        refine PW_iload c_Y_firstMinuteAllKnow_23 rfl ?_
        refine PW_V0 (d2 := 2) (st := []) [.int kn, .int (nI k)] c_Y_firstMinuteAllKnow_25 lk_Y_firstMinuteAllKnow_48 (po_44 _ _) rfl rfl rfl (Nat.le_of_ble_eq_true rfl) (by first | decide | omega) (Nat.le_of_ble_eq_true rfl) ?_
        refine sp_Y_spread C hS (by rw [nI_toInt (by omega)]; omega) ?_
        show PW _ _ _ 28 [some (.ref 44), some (.int g), some (.int kn), some (.int 109), some (.int (nI k))] [.int (kwF y kn (nI k))] (E x y)
        refine PW_istore_n (i := 2) (L2 := [some (.ref 44), some (.int g), some (.int (kwF y kn (nI k))), some (.int 109), some (.int (nI k))]) c_Y_firstMinuteAllKnow_28 rfl (Nat.le_of_ble_eq_true rfl) rfl rfl ?_
        refine PW_iload_n c_Y_firstMinuteAllKnow_29 rfl ?_
        refine PW_aload_n c_Y_firstMinuteAllKnow_30 rfl ?_
        refine PW_get (v := .ref 6) c_Y_firstMinuteAllKnow_31 fl_Y_17 (gf_44_0 _ _) ?_
        refine PW_V0 (d2 := 0) (st := [.int (kwF y kn (nI k))]) [] c_Y_firstMinuteAllKnow_34 lk_Y_firstMinuteAllKnow_41 (po_6 _ _) rfl rfl rfl (Nat.le_of_ble_eq_true rfl) (by first | decide | omega) (Nat.le_of_ble_eq_true rfl) ?_
        refine sp_H_everybody  ?_
        show PW _ _ _ 37 [some (.ref 44), some (.int g), some (.int (kwF y kn (nI k))), some (.int 109), some (.int (nI k))] [.int ((1 <<< (x.1 51 &&& 31)) - 1), .int (kwF y kn (nI k))] (E x y)
        refine PW_icmp_ne c_Y_firstMinuteAllKnow_37 (fun h2 => ?_) (fun h2 => absurd h2 (by rw [hal]; exact hE))
        refine PW_iinc (i := 4) (v := (nI k) + 1) (L2 := [some (.ref 44), some (.int g), some (.int (kwF y kn (nI k))), some (.int 109), some (.int ((nI k) + 1))]) c_Y_firstMinuteAllKnow_43 rfl (iinc_v (by decide)) (Nat.le_of_ble_eq_true rfl) rfl rfl ?_
        refine PW_goto c_Y_firstMinuteAllKnow_46 ?_
        refine PW.eqL ?_ rfl rfl (ih (k + 1) (kwF y kn (nI k)) (by omega) (S10_kwF hW hS) h)
        show ([some (.ref 44), some (.int g), some (.int (kwF y kn (nI k))), some (.int 109), some (.int ((nI k) + 1))] : List (Option Value)) = [some (.ref 44), some (.int g), some (.int (kwF y kn (nI k))), some (.int 109), some (.int (nI (k + 1)))]
        rw [nI_1]
