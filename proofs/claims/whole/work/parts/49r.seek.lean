theorem sp_S_seek {T : Option Txt} {x y : XS} (C : CPg x y) (hT : lawIs T x y) : ∀ (j k a : Nat) (m t : Int32) (row : Nat → Int32) (B : Cd) (X : XS) (Bd : Nat), k + j = 6 → (j = 0 → mustB y &&& (t ^^^ -1) = 0) → xS x X → a < 5 → 0 ≤ m.toInt ∧ m.toInt ≤ Bd → Bd + 66 * j < 900000 → rwX X row k → bsX X B → ∃ X' : XS, (xS x X' ∧ rwX X' row k ∧ bsX X' ((cL T y j k (a, m, t) row).foldl btr B)) ∧ ∀ {z : ZS} {post : Option Value → List PE → Prop}, post none (E X' y) → PW (2 * j + 4, 0, 0, z) m_S_seek post 0 [some (.ref 32), some (.int (nI a)), some (.int m), some (.int t), some (.int (nI k)), none, none] [] (E X y) := by
  intro j
  induction j with
  | zero =>
    intro k a m t row B X Bd hk hz hX ha hm hB hr hb
    exact gs_head C (by omega) hk hX ha hm hB hr hb (fun h => by rw [cL, if_pos h]) (fun hn => absurd (hz rfl) hn)
  | succ j ih =>
    intro k a m t row B X Bd hk hz hX ha hm hB hr hb
    have lp : ∀ (n b : Nat) (B : Cd) (X : XS), b + n = 5 → xS x X → rwX X row k → bsX X B → ∃ X' : XS, (xS x X' ∧ rwX X' row k ∧ bsX X' ((cLs (fun b => if 0 < k ∧ b = a then [] else cL T y j (k + 1) (stp T y b (a, m, t)) (upd row k (nI b))) n b).foldl btr B)) ∧ ∀ {z : ZS} {post : Option Value → List PE → Prop}, post none (E X' y) → PW (2 * (j + 1) + 4, 0, 0, z) m_S_seek post 82 [some (.ref 32), some (.int (nI a)), some (.int m), some (.int t), some (.int (nI k)), some (.int (m + wayN y a 0)), some (.int (nI b))] [] (E X y) := by
      intro n
      induction n with
      | zero =>
        intro b B X hn hX hr hb
        refine ⟨X, ⟨hX, hr, hb⟩, fun {z post} h => ?_⟩
        refine PW_iload c_S_seek_82 rfl ?_
        refine PW_iconst (v := 5) c_S_seek_84 (by decide) ?_
        refine PW_icmp_ge c_S_seek_85 (fun h0 => ?_) (fun h0 => absurd (by rw [show b = 5 by omega]; decide : (5 : Int32) ≤ nI b) h0)
        refine PW_vreturn c_S_seek_126 rfl ?_
        exact h
      | succ n ihn =>
        intro b B X hn hX hr hb
        have CX : CPg X y := CPg_S C hX (yS_0 y)
        by_cases hs : 0 < k ∧ b = a
        · obtain ⟨X', hP, H⟩ := ihn (b + 1) B X (by omega) hX hr hb
          have hk0 := hs.1
          refine ⟨X', ?_, fun {z post} h => ?_⟩
          · rw [cLs, if_pos hs, List.nil_append]; exact hP
          · skip
            refine PW_iload c_S_seek_82 rfl ?_
            refine PW_iconst (v := 5) c_S_seek_84 (by decide) ?_
            refine PW_icmp_ge c_S_seek_85 (fun h0 => absurd h0 (fun q => absurd ((nI_leI (by decide) (by omega)).mp (show nI 5 ≤ nI b from q)) (by omega))) (fun h0 => ?_)
            refine PW_iload c_S_seek_88 rfl ?_
            refine PW_if_eq c_S_seek_90 (fun h1 => absurd h1 (fun q => absurd ((nI_eq (by omega) (by decide)).mp (show nI k = nI 0 from q)) (by omega))) (fun h1 => ?_)
            refine PW_iload c_S_seek_93 rfl ?_
            refine PW_iload_n c_S_seek_95 rfl ?_
            refine PW_icmp_eq c_S_seek_96 (fun h2 => ?_) (fun h2 => absurd (by rw [hs.2]) h2)
            refine PW_iinc (i := 6) (v := (nI b) + 1) (L2 := [some (.ref 32), some (.int (nI a)), some (.int m), some (.int t), some (.int (nI k)), some (.int (m + wayN y a 0)), some (.int ((nI b) + 1))]) c_S_seek_120 rfl (iinc_v (by decide)) (Nat.le_of_ble_eq_true rfl) rfl rfl ?_
            refine PW_goto c_S_seek_123 ?_
            refine PW.eqL ?_ rfl rfl (H h)
            show ([some (.ref 32), some (.int (nI a)), some (.int m), some (.int t), some (.int (nI k)), some (.int (m + wayN y a 0)), some (.int ((nI b) + 1))] : List (Option Value)) = [some (.ref 32), some (.int (nI a)), some (.int m), some (.int t), some (.int (nI k)), some (.int (m + wayN y a 0)), some (.int (nI (b + 1)))]
            rw [nI_1]
        · have hb5 : b < 5 := by omega
          have hrb : 0 ≤ (nI b).toInt ∧ (nI b).toInt < 5 := by rw [nI_toInt (by omega)]; omega
          have hX1 : xS x (sA X 33 (upd (X.2.1 33) k (nI b))) := xS_t hX ⟨fun _ _ => rfl, fun q hq => by rw [sA_A, if_neg (by omega)], rfl⟩
          obtain ⟨q1, q2, q3, q4⟩ := stp_b (T := T) (t := t) C ha hb5 hm (by omega)
          have hm1 := q1
          have q4' : (m + wayN y a b + mnF T y (nI b) (m + wayN y a b) (telF y (nI b) (m + wayN y a b) t)).toInt ≤ ((Bd + 66 : Nat) : Int) := by have := q4; show (stp T y b (a, m, t)).2.1.toInt ≤ _; omega
          by_cases hk5 : k = 5
          · have hk0 : 0 < k := by omega
            by_cases hdn : mustB y &&& ((t ||| telF y (nI b) (m + wayN y a b) t) ^^^ -1) = 0
            · skip
              obtain ⟨X2, ⟨c1, c2, c3⟩, HM⟩ := sp_L_minutes (T := T) (x := sA X 33 (upd (X.2.1 33) k (nI b))) (y := y) (r := nI b) (m := m + wayN y a b) (v := telF y (nI b) (m + wayN y a b) t) (CPg_S C hX1 (yS_0 y)) hrb hm1 (S10_telF C.1.2) (law_S hT hX1 (yS_0 y))
              have hX2 : xS x X2 := xS_t hX1 ⟨fun n q => c1 n (by omega), fun q hq => c2 q (by omega) (by omega), c3⟩
              obtain ⟨X3, ⟨hX3, hr3, hb3⟩, H3⟩ := ih (k + 1) b (m + wayN y a b + mnF T y (nI b) (m + wayN y a b) (telF y (nI b) (m + wayN y a b) t)) (t ||| telF y (nI b) (m + wayN y a b) t) (upd row k (nI b)) B X2 (Bd + 66) (by omega) (fun _ => hdn) hX2 hb5 ⟨q3, q4'⟩ (by omega) (fun i hi => by
                rw [c2 33 (by decide) (by decide), sA_A, if_pos rfl]
                by_cases e : i = k
                · rw [e, upd_s, upd_s]
                · rw [upd_n e, upd_n e]; exact hr i (by omega)) ⟨by rw [c1 261 (by decide)]; exact hb.1, by rw [c1 260 (by decide)]; exact hb.2.1, hb.2.2.1, fun i h1 h2 => by rw [c2 34 (by decide) (by decide), sA_A, if_neg (by decide)]; exact hb.2.2.2.1 i h1 h2, by rw [c1 262 (by decide)]; exact hb.2.2.2.2⟩
              obtain ⟨X', hP, H⟩ := ihn (b + 1) _ X3 (by omega) hX3 (fun i hi => (hr3 i (by omega)).trans (upd_n (by omega))) hb3
              refine ⟨X', ?_, fun {z post} h => ?_⟩
              · rw [cLs, if_neg hs, List.foldl_append]; exact hP
              · skip
                refine PW_iload c_S_seek_82 rfl ?_
                refine PW_iconst (v := 5) c_S_seek_84 (by decide) ?_
                refine PW_icmp_ge c_S_seek_85 (fun h0 => absurd h0 (fun q => absurd ((nI_leI (by decide) (by omega)).mp (show nI 5 ≤ nI b from q)) (by omega))) (fun h0 => ?_)
                refine PW_iload c_S_seek_88 rfl ?_
                refine PW_if_eq c_S_seek_90 (fun h1 => absurd h1 (fun q => absurd ((nI_eq (by omega) (by decide)).mp (show nI k = nI 0 from q)) (by omega))) (fun h1 => ?_)
                refine PW_iload c_S_seek_93 rfl ?_
                refine PW_iload_n c_S_seek_95 rfl ?_
                refine PW_icmp_eq c_S_seek_96 (fun h2 => absurd h2 (fun q => hs ⟨hk0, (nI_eq (by omega) (by omega)).mp q⟩)) (fun h2 => ?_)
                refine PW_aload_n c_S_seek_99 rfl ?_
                refine PW_iload c_S_seek_100 rfl ?_
                refine PW_iload_n c_S_seek_102 rfl ?_
                refine PW_aload_n c_S_seek_103 rfl ?_
                refine PW_get (v := .ref 6) c_S_seek_104 fl_S_18 (gf_32_0 _ _) ?_
                refine PW_iload_n c_S_seek_107 rfl ?_
                refine PW_iload c_S_seek_108 rfl ?_
                refine PW_V0 (d2 := 1) (st := [.int m, .int (nI b), .ref 32]) [.int (nI a), .int (nI b)] c_S_seek_110 lk_S_seek_41 (po_6 _ _) rfl rfl rfl (Nat.le_of_ble_eq_true rfl) (by first | decide | omega) (Nat.le_of_ble_eq_true rfl) ?_
                refine sp_H_wayBetween CX rfl rfl ha hb5 ?_
                show PW _ _ _ 113 [some (.ref 32), some (.int (nI a)), some (.int m), some (.int t), some (.int (nI k)), some (.int (m + wayN y a 0)), some (.int (nI b))] [.int (wayN y a b), .int m, .int (nI b), .ref 32] (E X y)
                refine PW_iadd c_S_seek_113 ?_
                refine PW_iload_n c_S_seek_114 rfl ?_
                refine PW_iload c_S_seek_115 rfl ?_
                refine PW_V0 (d2 := 2 * j + 5) (st := []) [.int (nI b), .int (m + (wayN y a b)), .int t, .int (nI k)] c_S_seek_117 lk_S_seek_58 (po_32 _ _) rfl rfl rfl (Nat.le_of_ble_eq_true rfl) (by first | decide | omega) (Nat.le_of_ble_eq_true rfl) ?_
                show PW _ _ _ 0 [some (.ref 32), some (.int (nI b)), some (.int (m + (wayN y a b))), some (.int t), some (.int (nI k)), none] [] (E X y)
                refine PW_aload_n c_S_enter_0 rfl ?_
                refine PW_get (v := .ref 6) c_S_enter_1 fl_S_18 (gf_32_0 _ _) ?_
                refine PW_iload_n c_S_enter_4 rfl ?_
                refine PW_iload_n c_S_enter_5 rfl ?_
                refine PW_iload_n c_S_enter_6 rfl ?_
                refine PW_V0 (d2 := 2) (st := []) [.int (nI b), .int (m + (wayN y a b)), .int t] c_S_enter_7 lk_S_enter_61 (po_6 _ _) rfl rfl rfl (Nat.le_of_ble_eq_true rfl) (by first | decide | omega) (Nat.le_of_ble_eq_true rfl) ?_
                refine sp_H_whomToTell CX hrb hm1 ?_
                show PW _ _ _ 10 [some (.ref 32), some (.int (nI b)), some (.int (m + (wayN y a b))), some (.int t), some (.int (nI k)), none] [.int (telF y (nI b) (m + wayN y a b) t)] (E X y)
                refine PW_istore (i := 5) (L2 := [some (.ref 32), some (.int (nI b)), some (.int (m + (wayN y a b))), some (.int t), some (.int (nI k)), some (.int (telF y (nI b) (m + wayN y a b) t))]) c_S_enter_10 (Nat.le_of_ble_eq_true rfl) rfl rfl ?_
                refine PW_iload c_S_enter_12 rfl ?_
                refine PW_if_lt c_S_enter_14 (fun h3 => absurd h3 (fun q => by rw [Int32.lt_iff_toInt_lt, nI_toInt (by omega), tiA.1] at q; omega)) (fun h3 => ?_)
                refine PW_iload c_S_enter_17 rfl ?_
                refine PW_bipush (v := 6) c_S_enter_19 (by decide) ?_
                refine PW_icmp_ge c_S_enter_21 (fun h4 => absurd h4 (fun q => absurd ((nI_leI (by decide) (by omega)).mp (show nI 6 ≤ nI k from q)) (by omega))) (fun h4 => ?_)
                refine PW_iload c_S_enter_24 rfl ?_
                refine PW_iconst (v := 5) c_S_enter_26 (by decide) ?_
                refine PW_icmp_ne c_S_enter_27 (fun h5 => absurd h5 (not_not_intro (show nI k = nI 5 by rw [hk5]))) (fun h5 => ?_)
                refine PW_aload_n c_S_enter_30 rfl ?_
                refine PW_get (v := .ref 6) c_S_enter_31 fl_S_18 (gf_32_0 _ _) ?_
                refine PW_iload_n c_S_enter_34 rfl ?_
                refine PW_iload c_S_enter_35 rfl ?_
                refine PW_ior c_S_enter_37 ?_
                refine PW_V0 (d2 := 0) (st := []) [.int (t ||| (telF y (nI b) (m + wayN y a b) t))] c_S_enter_38 lk_S_enter_47 (po_6 _ _) rfl rfl rfl (Nat.le_of_ble_eq_true rfl) (by first | decide | omega) (Nat.le_of_ble_eq_true rfl) ?_
                show PW _ _ _ 0 [some (.ref 6), some (.int (t ||| (telF y (nI b) (m + wayN y a b) t)))] [] (E X y)
                refine PW_aload_n c_H_missed_0 rfl ?_
                refine PW_get (v := .int (X.1 52)) c_H_missed_1 fl_H_45 (gf_6_4 _ _) ?_
                rw [CX.x52]
                show PW _ _ _ 4 [some (.ref 6), some (.int (t ||| (telF y (nI b) (m + wayN y a b) t)))] [.int (mustB y)] (E X y)
                refine PW_iload_n c_H_missed_4 rfl ?_
                refine PW_iconst (v := -1) c_H_missed_5 (by decide) ?_
                refine PW_ixor c_H_missed_6 ?_
                refine PW_iand c_H_missed_7 ?_
                refine PW_ireturn (ty := .int) c_H_missed_8 rfl rfl ?_
                show PW _ _ _ 41 [some (.ref 32), some (.int (nI b)), some (.int (m + (wayN y a b))), some (.int t), some (.int (nI k)), some (.int (telF y (nI b) (m + wayN y a b) t))] [.int ((mustB y) &&& ((t ||| (telF y (nI b) (m + wayN y a b) t)) ^^^ (-1)))] (E X y)
                refine PW_if_eq c_S_enter_41 (fun h6 => ?_) (fun h6 => absurd hdn h6)
                refine PW_aload_n c_S_enter_45 rfl ?_
                refine PW_get (v := .ref 33) c_S_enter_46 fl_S_11 (gf_32_2 _ _) ?_
                refine PW_iload c_S_enter_49 rfl ?_
                refine PW_iload_n c_S_enter_51 rfl ?_
                refine PW_iast (j := k) (w2 := E (sA X 33 (upd (X.2.1 33) k (nI b))) y) c_S_enter_52 (ar_33 _ _) (vp_in_nI (by omega) (by decide)) (nI_clamp (by omega)) (aw_33 _ _ _) ?_
                refine PW_aload_n c_S_enter_53 rfl ?_
                refine PW_iload_n c_S_enter_54 rfl ?_
                refine PW_iload_n c_S_enter_55 rfl ?_
                refine PW_aload_n c_S_enter_56 rfl ?_
                refine PW_get (v := .ref 22) c_S_enter_57 fl_S_22 (gf_32_1 _ _) ?_
                refine PW_aload_n c_S_enter_60 rfl ?_
                refine PW_get (v := .ref 6) c_S_enter_61 fl_S_18 (gf_32_0 _ _) ?_
                refine PW_iload_n c_S_enter_64 rfl ?_
                refine PW_iload_n c_S_enter_65 rfl ?_
                refine PW_iload c_S_enter_66 rfl ?_
                refine PW_V0 (d2 := 3) (st := [.int (m + (wayN y a b)), .int (nI b), .ref 32]) [.ref 6, .int (nI b), .int (m + (wayN y a b)), .int (telF y (nI b) (m + wayN y a b) t)] c_S_enter_68 lk_S_enter_65 (po_22 _ _) rfl rfl rfl (Nat.le_of_ble_eq_true rfl) (by first | decide | omega) (Nat.le_of_ble_eq_true rfl) ?_
                refine HM ?_
                show PW _ _ _ 71 [some (.ref 32), some (.int (nI b)), some (.int (m + (wayN y a b))), some (.int t), some (.int (nI k)), some (.int (telF y (nI b) (m + wayN y a b) t))] [.int (mnF T y (nI b) (m + wayN y a b) (telF y (nI b) (m + wayN y a b) t)), .int (m + (wayN y a b)), .int (nI b), .ref 32] (E X2 y)
                refine PW_iadd c_S_enter_71 ?_
                refine PW_iload_n c_S_enter_72 rfl ?_
                refine PW_iload c_S_enter_73 rfl ?_
                refine PW_ior c_S_enter_75 ?_
                refine PW_iload c_S_enter_76 rfl ?_
                refine PW_iconst (v := 1) c_S_enter_78 (by decide) ?_
                refine PW_iadd c_S_enter_79 ?_
                refine PW_V0 (d2 := 2 * j + 4) (st := []) [.int (nI b), .int ((m + (wayN y a b)) + (mnF T y (nI b) (m + wayN y a b) (telF y (nI b) (m + wayN y a b) t))), .int (t ||| (telF y (nI b) (m + wayN y a b) t)), .int ((nI k) + 1)] c_S_enter_80 lk_S_enter_37 (po_32 _ _) rfl rfl rfl (Nat.le_of_ble_eq_true rfl) (by first | decide | omega) (Nat.le_of_ble_eq_true rfl) ?_
                rw [nI_1]
                refine H3 ?_
                show PW _ _ _ 83 [some (.ref 32), some (.int (nI b)), some (.int (m + (wayN y a b))), some (.int t), some (.int (nI k)), some (.int (telF y (nI b) (m + wayN y a b) t))] [] (E X3 y)
                refine PW_vreturn c_S_enter_83 rfl ?_
                show PW _ _ _ 120 [some (.ref 32), some (.int (nI a)), some (.int m), some (.int t), some (.int (nI k)), some (.int (m + wayN y a 0)), some (.int (nI b))] [] (E X3 y)
                refine PW_iinc (i := 6) (v := (nI b) + 1) (L2 := [some (.ref 32), some (.int (nI a)), some (.int m), some (.int t), some (.int (nI k)), some (.int (m + wayN y a 0)), some (.int ((nI b) + 1))]) c_S_seek_120 rfl (iinc_v (by decide)) (Nat.le_of_ble_eq_true rfl) rfl rfl ?_
                refine PW_goto c_S_seek_123 ?_
                refine PW.eqL ?_ rfl rfl (H h)
                show ([some (.ref 32), some (.int (nI a)), some (.int m), some (.int t), some (.int (nI k)), some (.int (m + wayN y a 0)), some (.int ((nI b) + 1))] : List (Option Value)) = [some (.ref 32), some (.int (nI a)), some (.int m), some (.int t), some (.int (nI k)), some (.int (m + wayN y a 0)), some (.int (nI (b + 1)))]
                rw [nI_1]
            · obtain ⟨X', hP, H⟩ := ihn (b + 1) B X (by omega) hX hr hb
              refine ⟨X', ?_, fun {z post} h => ?_⟩
              · have e0 : cL T y j (k + 1) (stp T y b (a, m, t)) (upd row k (nI b)) = [] := by
                  have hj0 : j = 0 := by omega
                  subst hj0
                  rw [cL]
                  exact if_neg hdn
                rw [cLs, if_neg hs, e0, List.nil_append]; exact hP
              · skip
                refine PW_iload c_S_seek_82 rfl ?_
                refine PW_iconst (v := 5) c_S_seek_84 (by decide) ?_
                refine PW_icmp_ge c_S_seek_85 (fun h0 => absurd h0 (fun q => absurd ((nI_leI (by decide) (by omega)).mp (show nI 5 ≤ nI b from q)) (by omega))) (fun h0 => ?_)
                refine PW_iload c_S_seek_88 rfl ?_
                refine PW_if_eq c_S_seek_90 (fun h1 => absurd h1 (fun q => absurd ((nI_eq (by omega) (by decide)).mp (show nI k = nI 0 from q)) (by omega))) (fun h1 => ?_)
                refine PW_iload c_S_seek_93 rfl ?_
                refine PW_iload_n c_S_seek_95 rfl ?_
                refine PW_icmp_eq c_S_seek_96 (fun h2 => absurd h2 (fun q => hs ⟨hk0, (nI_eq (by omega) (by omega)).mp q⟩)) (fun h2 => ?_)
                refine PW_aload_n c_S_seek_99 rfl ?_
                refine PW_iload c_S_seek_100 rfl ?_
                refine PW_iload_n c_S_seek_102 rfl ?_
                refine PW_aload_n c_S_seek_103 rfl ?_
                refine PW_get (v := .ref 6) c_S_seek_104 fl_S_18 (gf_32_0 _ _) ?_
                refine PW_iload_n c_S_seek_107 rfl ?_
                refine PW_iload c_S_seek_108 rfl ?_
                refine PW_V0 (d2 := 1) (st := [.int m, .int (nI b), .ref 32]) [.int (nI a), .int (nI b)] c_S_seek_110 lk_S_seek_41 (po_6 _ _) rfl rfl rfl (Nat.le_of_ble_eq_true rfl) (by first | decide | omega) (Nat.le_of_ble_eq_true rfl) ?_
                refine sp_H_wayBetween CX rfl rfl ha hb5 ?_
                show PW _ _ _ 113 [some (.ref 32), some (.int (nI a)), some (.int m), some (.int t), some (.int (nI k)), some (.int (m + wayN y a 0)), some (.int (nI b))] [.int (wayN y a b), .int m, .int (nI b), .ref 32] (E X y)
                refine PW_iadd c_S_seek_113 ?_
                refine PW_iload_n c_S_seek_114 rfl ?_
                refine PW_iload c_S_seek_115 rfl ?_
                refine PW_V0 (d2 := 2 * j + 5) (st := []) [.int (nI b), .int (m + (wayN y a b)), .int t, .int (nI k)] c_S_seek_117 lk_S_seek_58 (po_32 _ _) rfl rfl rfl (Nat.le_of_ble_eq_true rfl) (by first | decide | omega) (Nat.le_of_ble_eq_true rfl) ?_
                show PW _ _ _ 0 [some (.ref 32), some (.int (nI b)), some (.int (m + (wayN y a b))), some (.int t), some (.int (nI k)), none] [] (E X y)
                refine PW_aload_n c_S_enter_0 rfl ?_
                refine PW_get (v := .ref 6) c_S_enter_1 fl_S_18 (gf_32_0 _ _) ?_
                refine PW_iload_n c_S_enter_4 rfl ?_
                refine PW_iload_n c_S_enter_5 rfl ?_
                refine PW_iload_n c_S_enter_6 rfl ?_
                refine PW_V0 (d2 := 2) (st := []) [.int (nI b), .int (m + (wayN y a b)), .int t] c_S_enter_7 lk_S_enter_61 (po_6 _ _) rfl rfl rfl (Nat.le_of_ble_eq_true rfl) (by first | decide | omega) (Nat.le_of_ble_eq_true rfl) ?_
                refine sp_H_whomToTell CX hrb hm1 ?_
                show PW _ _ _ 10 [some (.ref 32), some (.int (nI b)), some (.int (m + (wayN y a b))), some (.int t), some (.int (nI k)), none] [.int (telF y (nI b) (m + wayN y a b) t)] (E X y)
                refine PW_istore (i := 5) (L2 := [some (.ref 32), some (.int (nI b)), some (.int (m + (wayN y a b))), some (.int t), some (.int (nI k)), some (.int (telF y (nI b) (m + wayN y a b) t))]) c_S_enter_10 (Nat.le_of_ble_eq_true rfl) rfl rfl ?_
                refine PW_iload c_S_enter_12 rfl ?_
                refine PW_if_lt c_S_enter_14 (fun h3 => absurd h3 (fun q => by rw [Int32.lt_iff_toInt_lt, nI_toInt (by omega), tiA.1] at q; omega)) (fun h3 => ?_)
                refine PW_iload c_S_enter_17 rfl ?_
                refine PW_bipush (v := 6) c_S_enter_19 (by decide) ?_
                refine PW_icmp_ge c_S_enter_21 (fun h4 => absurd h4 (fun q => absurd ((nI_leI (by decide) (by omega)).mp (show nI 6 ≤ nI k from q)) (by omega))) (fun h4 => ?_)
                refine PW_iload c_S_enter_24 rfl ?_
                refine PW_iconst (v := 5) c_S_enter_26 (by decide) ?_
                refine PW_icmp_ne c_S_enter_27 (fun h5 => absurd h5 (not_not_intro (show nI k = nI 5 by rw [hk5]))) (fun h5 => ?_)
                refine PW_aload_n c_S_enter_30 rfl ?_
                refine PW_get (v := .ref 6) c_S_enter_31 fl_S_18 (gf_32_0 _ _) ?_
                refine PW_iload_n c_S_enter_34 rfl ?_
                refine PW_iload c_S_enter_35 rfl ?_
                refine PW_ior c_S_enter_37 ?_
                refine PW_V0 (d2 := 0) (st := []) [.int (t ||| (telF y (nI b) (m + wayN y a b) t))] c_S_enter_38 lk_S_enter_47 (po_6 _ _) rfl rfl rfl (Nat.le_of_ble_eq_true rfl) (by first | decide | omega) (Nat.le_of_ble_eq_true rfl) ?_
                show PW _ _ _ 0 [some (.ref 6), some (.int (t ||| (telF y (nI b) (m + wayN y a b) t)))] [] (E X y)
                refine PW_aload_n c_H_missed_0 rfl ?_
                refine PW_get (v := .int (X.1 52)) c_H_missed_1 fl_H_45 (gf_6_4 _ _) ?_
                rw [CX.x52]
                show PW _ _ _ 4 [some (.ref 6), some (.int (t ||| (telF y (nI b) (m + wayN y a b) t)))] [.int (mustB y)] (E X y)
                refine PW_iload_n c_H_missed_4 rfl ?_
                refine PW_iconst (v := -1) c_H_missed_5 (by decide) ?_
                refine PW_ixor c_H_missed_6 ?_
                refine PW_iand c_H_missed_7 ?_
                refine PW_ireturn (ty := .int) c_H_missed_8 rfl rfl ?_
                show PW _ _ _ 41 [some (.ref 32), some (.int (nI b)), some (.int (m + (wayN y a b))), some (.int t), some (.int (nI k)), some (.int (telF y (nI b) (m + wayN y a b) t))] [.int ((mustB y) &&& ((t ||| (telF y (nI b) (m + wayN y a b) t)) ^^^ (-1)))] (E X y)
                refine PW_if_eq c_S_enter_41 (fun h6 => absurd h6 hdn) (fun h6 => ?_)
                refine PW_vreturn c_S_enter_44 rfl ?_
                show PW _ _ _ 120 [some (.ref 32), some (.int (nI a)), some (.int m), some (.int t), some (.int (nI k)), some (.int (m + wayN y a 0)), some (.int (nI b))] [] (E X y)
                refine PW_iinc (i := 6) (v := (nI b) + 1) (L2 := [some (.ref 32), some (.int (nI a)), some (.int m), some (.int t), some (.int (nI k)), some (.int (m + wayN y a 0)), some (.int ((nI b) + 1))]) c_S_seek_120 rfl (iinc_v (by decide)) (Nat.le_of_ble_eq_true rfl) rfl rfl ?_
                refine PW_goto c_S_seek_123 ?_
                refine PW.eqL ?_ rfl rfl (H h)
                show ([some (.ref 32), some (.int (nI a)), some (.int m), some (.int t), some (.int (nI k)), some (.int (m + wayN y a 0)), some (.int ((nI b) + 1))] : List (Option Value)) = [some (.ref 32), some (.int (nI a)), some (.int m), some (.int t), some (.int (nI k)), some (.int (m + wayN y a 0)), some (.int (nI (b + 1)))]
                rw [nI_1]
          · have hj1 : j = 0 → mustB y &&& ((t ||| telF y (nI b) (m + wayN y a b) t) ^^^ -1) = 0 := fun q => absurd q (by omega)
            by_cases hk0 : 0 < k
            · skip
              obtain ⟨X2, ⟨c1, c2, c3⟩, HM⟩ := sp_L_minutes (T := T) (x := sA X 33 (upd (X.2.1 33) k (nI b))) (y := y) (r := nI b) (m := m + wayN y a b) (v := telF y (nI b) (m + wayN y a b) t) (CPg_S C hX1 (yS_0 y)) hrb hm1 (S10_telF C.1.2) (law_S hT hX1 (yS_0 y))
              have hX2 : xS x X2 := xS_t hX1 ⟨fun n q => c1 n (by omega), fun q hq => c2 q (by omega) (by omega), c3⟩
              obtain ⟨X3, ⟨hX3, hr3, hb3⟩, H3⟩ := ih (k + 1) b (m + wayN y a b + mnF T y (nI b) (m + wayN y a b) (telF y (nI b) (m + wayN y a b) t)) (t ||| telF y (nI b) (m + wayN y a b) t) (upd row k (nI b)) B X2 (Bd + 66) (by omega) hj1 hX2 hb5 ⟨q3, q4'⟩ (by omega) (fun i hi => by
                rw [c2 33 (by decide) (by decide), sA_A, if_pos rfl]
                by_cases e : i = k
                · rw [e, upd_s, upd_s]
                · rw [upd_n e, upd_n e]; exact hr i (by omega)) ⟨by rw [c1 261 (by decide)]; exact hb.1, by rw [c1 260 (by decide)]; exact hb.2.1, hb.2.2.1, fun i h1 h2 => by rw [c2 34 (by decide) (by decide), sA_A, if_neg (by decide)]; exact hb.2.2.2.1 i h1 h2, by rw [c1 262 (by decide)]; exact hb.2.2.2.2⟩
              obtain ⟨X', hP, H⟩ := ihn (b + 1) _ X3 (by omega) hX3 (fun i hi => (hr3 i (by omega)).trans (upd_n (by omega))) hb3
              refine ⟨X', ?_, fun {z post} h => ?_⟩
              · rw [cLs, if_neg hs, List.foldl_append]; exact hP
              · skip
                refine PW_iload c_S_seek_82 rfl ?_
                refine PW_iconst (v := 5) c_S_seek_84 (by decide) ?_
                refine PW_icmp_ge c_S_seek_85 (fun h0 => absurd h0 (fun q => absurd ((nI_leI (by decide) (by omega)).mp (show nI 5 ≤ nI b from q)) (by omega))) (fun h0 => ?_)
                refine PW_iload c_S_seek_88 rfl ?_
                refine PW_if_eq c_S_seek_90 (fun h1 => absurd h1 (fun q => absurd ((nI_eq (by omega) (by decide)).mp (show nI k = nI 0 from q)) (by omega))) (fun h1 => ?_)
                refine PW_iload c_S_seek_93 rfl ?_
                refine PW_iload_n c_S_seek_95 rfl ?_
                refine PW_icmp_eq c_S_seek_96 (fun h2 => absurd h2 (fun q => hs ⟨hk0, (nI_eq (by omega) (by omega)).mp q⟩)) (fun h2 => ?_)
                refine PW_aload_n c_S_seek_99 rfl ?_
                refine PW_iload c_S_seek_100 rfl ?_
                refine PW_iload_n c_S_seek_102 rfl ?_
                refine PW_aload_n c_S_seek_103 rfl ?_
                refine PW_get (v := .ref 6) c_S_seek_104 fl_S_18 (gf_32_0 _ _) ?_
                refine PW_iload_n c_S_seek_107 rfl ?_
                refine PW_iload c_S_seek_108 rfl ?_
                refine PW_V0 (d2 := 1) (st := [.int m, .int (nI b), .ref 32]) [.int (nI a), .int (nI b)] c_S_seek_110 lk_S_seek_41 (po_6 _ _) rfl rfl rfl (Nat.le_of_ble_eq_true rfl) (by first | decide | omega) (Nat.le_of_ble_eq_true rfl) ?_
                refine sp_H_wayBetween CX rfl rfl ha hb5 ?_
                show PW _ _ _ 113 [some (.ref 32), some (.int (nI a)), some (.int m), some (.int t), some (.int (nI k)), some (.int (m + wayN y a 0)), some (.int (nI b))] [.int (wayN y a b), .int m, .int (nI b), .ref 32] (E X y)
                refine PW_iadd c_S_seek_113 ?_
                refine PW_iload_n c_S_seek_114 rfl ?_
                refine PW_iload c_S_seek_115 rfl ?_
                refine PW_V0 (d2 := 2 * j + 5) (st := []) [.int (nI b), .int (m + (wayN y a b)), .int t, .int (nI k)] c_S_seek_117 lk_S_seek_58 (po_32 _ _) rfl rfl rfl (Nat.le_of_ble_eq_true rfl) (by first | decide | omega) (Nat.le_of_ble_eq_true rfl) ?_
                show PW _ _ _ 0 [some (.ref 32), some (.int (nI b)), some (.int (m + (wayN y a b))), some (.int t), some (.int (nI k)), none] [] (E X y)
                refine PW_aload_n c_S_enter_0 rfl ?_
                refine PW_get (v := .ref 6) c_S_enter_1 fl_S_18 (gf_32_0 _ _) ?_
                refine PW_iload_n c_S_enter_4 rfl ?_
                refine PW_iload_n c_S_enter_5 rfl ?_
                refine PW_iload_n c_S_enter_6 rfl ?_
                refine PW_V0 (d2 := 2) (st := []) [.int (nI b), .int (m + (wayN y a b)), .int t] c_S_enter_7 lk_S_enter_61 (po_6 _ _) rfl rfl rfl (Nat.le_of_ble_eq_true rfl) (by first | decide | omega) (Nat.le_of_ble_eq_true rfl) ?_
                refine sp_H_whomToTell CX hrb hm1 ?_
                show PW _ _ _ 10 [some (.ref 32), some (.int (nI b)), some (.int (m + (wayN y a b))), some (.int t), some (.int (nI k)), none] [.int (telF y (nI b) (m + wayN y a b) t)] (E X y)
                refine PW_istore (i := 5) (L2 := [some (.ref 32), some (.int (nI b)), some (.int (m + (wayN y a b))), some (.int t), some (.int (nI k)), some (.int (telF y (nI b) (m + wayN y a b) t))]) c_S_enter_10 (Nat.le_of_ble_eq_true rfl) rfl rfl ?_
                refine PW_iload c_S_enter_12 rfl ?_
                refine PW_if_lt c_S_enter_14 (fun h3 => absurd h3 (fun q => by rw [Int32.lt_iff_toInt_lt, nI_toInt (by omega), tiA.1] at q; omega)) (fun h3 => ?_)
                refine PW_iload c_S_enter_17 rfl ?_
                refine PW_bipush (v := 6) c_S_enter_19 (by decide) ?_
                refine PW_icmp_ge c_S_enter_21 (fun h4 => absurd h4 (fun q => absurd ((nI_leI (by decide) (by omega)).mp (show nI 6 ≤ nI k from q)) (by omega))) (fun h4 => ?_)
                refine PW_iload c_S_enter_24 rfl ?_
                refine PW_iconst (v := 5) c_S_enter_26 (by decide) ?_
                refine PW_icmp_ne c_S_enter_27 (fun h5 => ?_) (fun h5 => absurd h5 (fun q => absurd ((nI_eq (by omega) (by decide)).mp (show nI k = nI 5 from q)) (by omega)))
                refine PW_aload_n c_S_enter_45 rfl ?_
                refine PW_get (v := .ref 33) c_S_enter_46 fl_S_11 (gf_32_2 _ _) ?_
                refine PW_iload c_S_enter_49 rfl ?_
                refine PW_iload_n c_S_enter_51 rfl ?_
                refine PW_iast (j := k) (w2 := E (sA X 33 (upd (X.2.1 33) k (nI b))) y) c_S_enter_52 (ar_33 _ _) (vp_in_nI (by omega) (by decide)) (nI_clamp (by omega)) (aw_33 _ _ _) ?_
                refine PW_aload_n c_S_enter_53 rfl ?_
                refine PW_iload_n c_S_enter_54 rfl ?_
                refine PW_iload_n c_S_enter_55 rfl ?_
                refine PW_aload_n c_S_enter_56 rfl ?_
                refine PW_get (v := .ref 22) c_S_enter_57 fl_S_22 (gf_32_1 _ _) ?_
                refine PW_aload_n c_S_enter_60 rfl ?_
                refine PW_get (v := .ref 6) c_S_enter_61 fl_S_18 (gf_32_0 _ _) ?_
                refine PW_iload_n c_S_enter_64 rfl ?_
                refine PW_iload_n c_S_enter_65 rfl ?_
                refine PW_iload c_S_enter_66 rfl ?_
                refine PW_V0 (d2 := 3) (st := [.int (m + (wayN y a b)), .int (nI b), .ref 32]) [.ref 6, .int (nI b), .int (m + (wayN y a b)), .int (telF y (nI b) (m + wayN y a b) t)] c_S_enter_68 lk_S_enter_65 (po_22 _ _) rfl rfl rfl (Nat.le_of_ble_eq_true rfl) (by first | decide | omega) (Nat.le_of_ble_eq_true rfl) ?_
                refine HM ?_
                show PW _ _ _ 71 [some (.ref 32), some (.int (nI b)), some (.int (m + (wayN y a b))), some (.int t), some (.int (nI k)), some (.int (telF y (nI b) (m + wayN y a b) t))] [.int (mnF T y (nI b) (m + wayN y a b) (telF y (nI b) (m + wayN y a b) t)), .int (m + (wayN y a b)), .int (nI b), .ref 32] (E X2 y)
                refine PW_iadd c_S_enter_71 ?_
                refine PW_iload_n c_S_enter_72 rfl ?_
                refine PW_iload c_S_enter_73 rfl ?_
                refine PW_ior c_S_enter_75 ?_
                refine PW_iload c_S_enter_76 rfl ?_
                refine PW_iconst (v := 1) c_S_enter_78 (by decide) ?_
                refine PW_iadd c_S_enter_79 ?_
                refine PW_V0 (d2 := 2 * j + 4) (st := []) [.int (nI b), .int ((m + (wayN y a b)) + (mnF T y (nI b) (m + wayN y a b) (telF y (nI b) (m + wayN y a b) t))), .int (t ||| (telF y (nI b) (m + wayN y a b) t)), .int ((nI k) + 1)] c_S_enter_80 lk_S_enter_37 (po_32 _ _) rfl rfl rfl (Nat.le_of_ble_eq_true rfl) (by first | decide | omega) (Nat.le_of_ble_eq_true rfl) ?_
                rw [nI_1]
                refine H3 ?_
                show PW _ _ _ 83 [some (.ref 32), some (.int (nI b)), some (.int (m + (wayN y a b))), some (.int t), some (.int (nI k)), some (.int (telF y (nI b) (m + wayN y a b) t))] [] (E X3 y)
                refine PW_vreturn c_S_enter_83 rfl ?_
                show PW _ _ _ 120 [some (.ref 32), some (.int (nI a)), some (.int m), some (.int t), some (.int (nI k)), some (.int (m + wayN y a 0)), some (.int (nI b))] [] (E X3 y)
                refine PW_iinc (i := 6) (v := (nI b) + 1) (L2 := [some (.ref 32), some (.int (nI a)), some (.int m), some (.int t), some (.int (nI k)), some (.int (m + wayN y a 0)), some (.int ((nI b) + 1))]) c_S_seek_120 rfl (iinc_v (by decide)) (Nat.le_of_ble_eq_true rfl) rfl rfl ?_
                refine PW_goto c_S_seek_123 ?_
                refine PW.eqL ?_ rfl rfl (H h)
                show ([some (.ref 32), some (.int (nI a)), some (.int m), some (.int t), some (.int (nI k)), some (.int (m + wayN y a 0)), some (.int ((nI b) + 1))] : List (Option Value)) = [some (.ref 32), some (.int (nI a)), some (.int m), some (.int t), some (.int (nI k)), some (.int (m + wayN y a 0)), some (.int (nI (b + 1)))]
                rw [nI_1]
            · skip
              obtain ⟨X2, ⟨c1, c2, c3⟩, HM⟩ := sp_L_minutes (T := T) (x := sA X 33 (upd (X.2.1 33) k (nI b))) (y := y) (r := nI b) (m := m + wayN y a b) (v := telF y (nI b) (m + wayN y a b) t) (CPg_S C hX1 (yS_0 y)) hrb hm1 (S10_telF C.1.2) (law_S hT hX1 (yS_0 y))
              have hX2 : xS x X2 := xS_t hX1 ⟨fun n q => c1 n (by omega), fun q hq => c2 q (by omega) (by omega), c3⟩
              obtain ⟨X3, ⟨hX3, hr3, hb3⟩, H3⟩ := ih (k + 1) b (m + wayN y a b + mnF T y (nI b) (m + wayN y a b) (telF y (nI b) (m + wayN y a b) t)) (t ||| telF y (nI b) (m + wayN y a b) t) (upd row k (nI b)) B X2 (Bd + 66) (by omega) hj1 hX2 hb5 ⟨q3, q4'⟩ (by omega) (fun i hi => by
                rw [c2 33 (by decide) (by decide), sA_A, if_pos rfl]
                by_cases e : i = k
                · rw [e, upd_s, upd_s]
                · rw [upd_n e, upd_n e]; exact hr i (by omega)) ⟨by rw [c1 261 (by decide)]; exact hb.1, by rw [c1 260 (by decide)]; exact hb.2.1, hb.2.2.1, fun i h1 h2 => by rw [c2 34 (by decide) (by decide), sA_A, if_neg (by decide)]; exact hb.2.2.2.1 i h1 h2, by rw [c1 262 (by decide)]; exact hb.2.2.2.2⟩
              obtain ⟨X', hP, H⟩ := ihn (b + 1) _ X3 (by omega) hX3 (fun i hi => (hr3 i (by omega)).trans (upd_n (by omega))) hb3
              refine ⟨X', ?_, fun {z post} h => ?_⟩
              · rw [cLs, if_neg hs, List.foldl_append]; exact hP
              · skip
                refine PW_iload c_S_seek_82 rfl ?_
                refine PW_iconst (v := 5) c_S_seek_84 (by decide) ?_
                refine PW_icmp_ge c_S_seek_85 (fun h0 => absurd h0 (fun q => absurd ((nI_leI (by decide) (by omega)).mp (show nI 5 ≤ nI b from q)) (by omega))) (fun h0 => ?_)
                refine PW_iload c_S_seek_88 rfl ?_
                refine PW_if_eq c_S_seek_90 (fun h1 => ?_) (fun h1 => absurd (show nI k = nI 0 by rw [show k = 0 by omega]) h1)
                refine PW_aload_n c_S_seek_99 rfl ?_
                refine PW_iload c_S_seek_100 rfl ?_
                refine PW_iload_n c_S_seek_102 rfl ?_
                refine PW_aload_n c_S_seek_103 rfl ?_
                refine PW_get (v := .ref 6) c_S_seek_104 fl_S_18 (gf_32_0 _ _) ?_
                refine PW_iload_n c_S_seek_107 rfl ?_
                refine PW_iload c_S_seek_108 rfl ?_
                refine PW_V0 (d2 := 1) (st := [.int m, .int (nI b), .ref 32]) [.int (nI a), .int (nI b)] c_S_seek_110 lk_S_seek_41 (po_6 _ _) rfl rfl rfl (Nat.le_of_ble_eq_true rfl) (by first | decide | omega) (Nat.le_of_ble_eq_true rfl) ?_
                refine sp_H_wayBetween CX rfl rfl ha hb5 ?_
                show PW _ _ _ 113 [some (.ref 32), some (.int (nI a)), some (.int m), some (.int t), some (.int (nI k)), some (.int (m + wayN y a 0)), some (.int (nI b))] [.int (wayN y a b), .int m, .int (nI b), .ref 32] (E X y)
                refine PW_iadd c_S_seek_113 ?_
                refine PW_iload_n c_S_seek_114 rfl ?_
                refine PW_iload c_S_seek_115 rfl ?_
                refine PW_V0 (d2 := 2 * j + 5) (st := []) [.int (nI b), .int (m + (wayN y a b)), .int t, .int (nI k)] c_S_seek_117 lk_S_seek_58 (po_32 _ _) rfl rfl rfl (Nat.le_of_ble_eq_true rfl) (by first | decide | omega) (Nat.le_of_ble_eq_true rfl) ?_
                show PW _ _ _ 0 [some (.ref 32), some (.int (nI b)), some (.int (m + (wayN y a b))), some (.int t), some (.int (nI k)), none] [] (E X y)
                refine PW_aload_n c_S_enter_0 rfl ?_
                refine PW_get (v := .ref 6) c_S_enter_1 fl_S_18 (gf_32_0 _ _) ?_
                refine PW_iload_n c_S_enter_4 rfl ?_
                refine PW_iload_n c_S_enter_5 rfl ?_
                refine PW_iload_n c_S_enter_6 rfl ?_
                refine PW_V0 (d2 := 2) (st := []) [.int (nI b), .int (m + (wayN y a b)), .int t] c_S_enter_7 lk_S_enter_61 (po_6 _ _) rfl rfl rfl (Nat.le_of_ble_eq_true rfl) (by first | decide | omega) (Nat.le_of_ble_eq_true rfl) ?_
                refine sp_H_whomToTell CX hrb hm1 ?_
                show PW _ _ _ 10 [some (.ref 32), some (.int (nI b)), some (.int (m + (wayN y a b))), some (.int t), some (.int (nI k)), none] [.int (telF y (nI b) (m + wayN y a b) t)] (E X y)
                refine PW_istore (i := 5) (L2 := [some (.ref 32), some (.int (nI b)), some (.int (m + (wayN y a b))), some (.int t), some (.int (nI k)), some (.int (telF y (nI b) (m + wayN y a b) t))]) c_S_enter_10 (Nat.le_of_ble_eq_true rfl) rfl rfl ?_
                refine PW_iload c_S_enter_12 rfl ?_
                refine PW_if_lt c_S_enter_14 (fun h2 => absurd h2 (fun q => by rw [Int32.lt_iff_toInt_lt, nI_toInt (by omega), tiA.1] at q; omega)) (fun h2 => ?_)
                refine PW_iload c_S_enter_17 rfl ?_
                refine PW_bipush (v := 6) c_S_enter_19 (by decide) ?_
                refine PW_icmp_ge c_S_enter_21 (fun h3 => absurd h3 (fun q => absurd ((nI_leI (by decide) (by omega)).mp (show nI 6 ≤ nI k from q)) (by omega))) (fun h3 => ?_)
                refine PW_iload c_S_enter_24 rfl ?_
                refine PW_iconst (v := 5) c_S_enter_26 (by decide) ?_
                refine PW_icmp_ne c_S_enter_27 (fun h4 => ?_) (fun h4 => absurd h4 (fun q => absurd ((nI_eq (by omega) (by decide)).mp (show nI k = nI 5 from q)) (by omega)))
                refine PW_aload_n c_S_enter_45 rfl ?_
                refine PW_get (v := .ref 33) c_S_enter_46 fl_S_11 (gf_32_2 _ _) ?_
                refine PW_iload c_S_enter_49 rfl ?_
                refine PW_iload_n c_S_enter_51 rfl ?_
                refine PW_iast (j := k) (w2 := E (sA X 33 (upd (X.2.1 33) k (nI b))) y) c_S_enter_52 (ar_33 _ _) (vp_in_nI (by omega) (by decide)) (nI_clamp (by omega)) (aw_33 _ _ _) ?_
                refine PW_aload_n c_S_enter_53 rfl ?_
                refine PW_iload_n c_S_enter_54 rfl ?_
                refine PW_iload_n c_S_enter_55 rfl ?_
                refine PW_aload_n c_S_enter_56 rfl ?_
                refine PW_get (v := .ref 22) c_S_enter_57 fl_S_22 (gf_32_1 _ _) ?_
                refine PW_aload_n c_S_enter_60 rfl ?_
                refine PW_get (v := .ref 6) c_S_enter_61 fl_S_18 (gf_32_0 _ _) ?_
                refine PW_iload_n c_S_enter_64 rfl ?_
                refine PW_iload_n c_S_enter_65 rfl ?_
                refine PW_iload c_S_enter_66 rfl ?_
                refine PW_V0 (d2 := 3) (st := [.int (m + (wayN y a b)), .int (nI b), .ref 32]) [.ref 6, .int (nI b), .int (m + (wayN y a b)), .int (telF y (nI b) (m + wayN y a b) t)] c_S_enter_68 lk_S_enter_65 (po_22 _ _) rfl rfl rfl (Nat.le_of_ble_eq_true rfl) (by first | decide | omega) (Nat.le_of_ble_eq_true rfl) ?_
                refine HM ?_
                show PW _ _ _ 71 [some (.ref 32), some (.int (nI b)), some (.int (m + (wayN y a b))), some (.int t), some (.int (nI k)), some (.int (telF y (nI b) (m + wayN y a b) t))] [.int (mnF T y (nI b) (m + wayN y a b) (telF y (nI b) (m + wayN y a b) t)), .int (m + (wayN y a b)), .int (nI b), .ref 32] (E X2 y)
                refine PW_iadd c_S_enter_71 ?_
                refine PW_iload_n c_S_enter_72 rfl ?_
                refine PW_iload c_S_enter_73 rfl ?_
                refine PW_ior c_S_enter_75 ?_
                refine PW_iload c_S_enter_76 rfl ?_
                refine PW_iconst (v := 1) c_S_enter_78 (by decide) ?_
                refine PW_iadd c_S_enter_79 ?_
                refine PW_V0 (d2 := 2 * j + 4) (st := []) [.int (nI b), .int ((m + (wayN y a b)) + (mnF T y (nI b) (m + wayN y a b) (telF y (nI b) (m + wayN y a b) t))), .int (t ||| (telF y (nI b) (m + wayN y a b) t)), .int ((nI k) + 1)] c_S_enter_80 lk_S_enter_37 (po_32 _ _) rfl rfl rfl (Nat.le_of_ble_eq_true rfl) (by first | decide | omega) (Nat.le_of_ble_eq_true rfl) ?_
                rw [nI_1]
                refine H3 ?_
                show PW _ _ _ 83 [some (.ref 32), some (.int (nI b)), some (.int (m + (wayN y a b))), some (.int t), some (.int (nI k)), some (.int (telF y (nI b) (m + wayN y a b) t))] [] (E X3 y)
                refine PW_vreturn c_S_enter_83 rfl ?_
                show PW _ _ _ 120 [some (.ref 32), some (.int (nI a)), some (.int m), some (.int t), some (.int (nI k)), some (.int (m + wayN y a 0)), some (.int (nI b))] [] (E X3 y)
                refine PW_iinc (i := 6) (v := (nI b) + 1) (L2 := [some (.ref 32), some (.int (nI a)), some (.int m), some (.int t), some (.int (nI k)), some (.int (m + wayN y a 0)), some (.int ((nI b) + 1))]) c_S_seek_120 rfl (iinc_v (by decide)) (Nat.le_of_ble_eq_true rfl) rfl rfl ?_
                refine PW_goto c_S_seek_123 ?_
                refine PW.eqL ?_ rfl rfl (H h)
                show ([some (.ref 32), some (.int (nI a)), some (.int m), some (.int t), some (.int (nI k)), some (.int (m + wayN y a 0)), some (.int ((nI b) + 1))] : List (Option Value)) = [some (.ref 32), some (.int (nI a)), some (.int m), some (.int t), some (.int (nI k)), some (.int (m + wayN y a 0)), some (.int (nI (b + 1)))]
                rw [nI_1]
    refine gs_head C (by omega) hk hX ha hm hB hr hb (fun h => by rw [cL, if_pos h]) (fun hn _ => ?_)
    obtain ⟨X', hP, H⟩ := lp 5 0 B X rfl hX hr hb
    refine ⟨X', ?_, fun {z post} h => ?_⟩
    · rw [cL, if_neg hn]; exact hP
    · skip
      refine PW_iconst (v := 0) c_S_seek_79 (by decide) ?_
      refine PW_istore (i := 6) (L2 := [some (.ref 32), some (.int (nI a)), some (.int m), some (.int t), some (.int (nI k)), some (.int (m + wayN y a 0)), some (.int 0)]) c_S_seek_80 (Nat.le_of_ble_eq_true rfl) rfl rfl ?_
      refine PW.eqL ?_ rfl rfl (H h)
      show ([some (.ref 32), some (.int (nI a)), some (.int m), some (.int t), some (.int (nI k)), some (.int (m + wayN y a 0)), some (.int 0)] : List (Option Value)) = _
      rfl
