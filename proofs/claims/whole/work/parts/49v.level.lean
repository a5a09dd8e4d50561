/-! the one side reads a level, an operand -/
def resX (X X' : XS) (k : Nat) (r : PRs) : Prop := frT X X' ∧ X'.1 220 = nI r.2.1 ∧ (r.1 = true → X'.1 221 = nI (k + r.2.2.length) ∧ wrA (X'.2.1 29) (X'.2.1 30) k (r.2.2.map stX) ∧ lowA (X.2.1 29) (X.2.1 30) (X'.2.1 29) (X'.2.1 30) k)
def TOK (g : Nat → Nat) (n : Nat) (y : XS) (fu lev : Nat) : Prop := ∀ (o p k : Nat) (X : XS), o ≤ 6 → (6 - o) * 6 + (6 - lev) ≤ fu → tpX X g n → X.1 220 = nI p → X.1 221 = nI k → p ≤ n → k ≤ p → ∃ X' : XS, resX X X' k (pF g n fu lev o p) ∧ ∀ {z : ZS} {post : Option Value → List PE → Prop}, post (some (.int (b2i ((pF g n fu lev o p).1 = true)))) (E X' y) → PW (fu + 2 * (6 - o) + 2, 0, 0, z) m_T_readLevel post 0 [some (.ref 27), some (.int (nI lev)), some (.int (nI o)), none, none, none] [] (E X y)
def OOK (g : Nat → Nat) (n : Nat) (y : XS) (fu : Nat) : Prop := ∀ (o p k : Nat) (X : XS), o ≤ 6 → (6 - o) * 6 + (6 - 5) ≤ fu → tpX X g n → X.1 220 = nI p → X.1 221 = nI k → p ≤ n → k ≤ p → ∃ X' : XS, resX X X' k (pF g n fu 5 o p) ∧ ∀ {z : ZS} {post : Option Value → List PE → Prop}, post (some (.int (b2i ((pF g n fu 5 o p).1 = true)))) (E X' y) → PW (fu + 2 * (6 - o) + 1, 0, 0, z) m_T_readOperand post 0 [some (.ref 27), some (.int (nI o)), none, none] [] (E X y)
theorem pF_lev {g : Nat → Nat} {n fu lev o p : Nat} (h : lev < 5) : pF g n (fu + 1) lev o p = if (pF g n fu (lev + 1) o p).1 = true then lpF (pF g n fu (lev + 1) o) g n lev (if lev = 2 then 1 else 120) (pF g n fu (lev + 1) o p).2.1 (pF g n fu (lev + 1) o p).2.2 else (false, (pF g n fu (lev + 1) o p).2.1, []) := by rw [pF, if_pos h]
theorem pF_5 {g : Nat → Nat} {n fu o p : Nat} : pF g n (fu + 1) 5 o p = if nmO (sg g n p) < 5 then (true, p + 1, [(2, nI (nmO (sg g n p)))]) else if isD (sg g n p) then (true, (rdN g n 4 p 0).1, [(1, (rdN g n 4 p 0).2)]) else if ¬ ((sg g n p = 40 ∨ sg g n p = 33 ∨ sg g n p = 45) ∧ o < 6) then (false, p, []) else if sg g n p = 40 then (if (pF g n fu 0 (o + 1) (p + 1)).1 = true ∧ sg g n (pF g n fu 0 (o + 1) (p + 1)).2.1 = 41 then (true, (pF g n fu 0 (o + 1) (p + 1)).2.1 + 1, (pF g n fu 0 (o + 1) (p + 1)).2.2) else (false, (pF g n fu 0 (o + 1) (p + 1)).2.1, [])) else if (pF g n fu 5 (o + 1) (p + 1)).1 = true then (true, (pF g n fu 5 (o + 1) (p + 1)).2.1, (pF g n fu 5 (o + 1) (p + 1)).2.2 ++ [(if sg g n p = 45 then 4 else 3, 0)]) else (false, (pF g n fu 5 (o + 1) (p + 1)).2.1, []) := by rw [pF, if_neg (by decide : ¬ 5 < 5)]
theorem cx_op {c : Nat} (h : 36 < c) : cxS c = nI c := by
  unfold cxS
  rw [if_neg (by omega), if_neg (by omega), if_neg (by omega), if_neg (by omega)]
theorem lp_T_lev {g : Nat → Nat} {n fu lev o k p0 most : Nat} {X0 y : XS} (hl : lev < 5) (ih : TOK g n y fu (lev + 1)) (ho : o ≤ 6) (hfu : (6 - o) * 6 + (6 - (lev + 1)) ≤ fu) (hm : most ≤ 120) (hk : k ≤ p0) : ∀ (j i q : Nat) (acc : List Stp0) (X : XS), i + j = most → tpX X g n → frT X0 X → X.1 220 = nI q → X.1 221 = nI (k + acc.length) → wrA (X.2.1 29) (X.2.1 30) k (acc.map stX) → lowA (X0.2.1 29) (X0.2.1 30) (X.2.1 29) (X.2.1 30) k → okP p0 n (true, q, acc) → ∃ X' : XS, resX X0 X' k (lpF (pF g n fu (lev + 1) o) g n lev j q acc) ∧ ∀ {z : ZS} {post : Option Value → List PE → Prop} {l5 : Option Value}, post (some (.int (b2i ((lpF (pF g n fu (lev + 1) o) g n lev j q acc).1 = true)))) (E X' y) → PW (fu + 1 + 2 * (6 - o) + 2, 0, 0, z) m_T_readLevel post 39 [some (.ref 27), some (.int (nI lev)), some (.int (nI o)), some (.int (nI most)), some (.int (nI i)), l5] [] (E X y) := by
  intro j
  induction j with
  | zero =>
    intro i q acc X hi hT hf hp hs hw hlo hok
    have hn := hT.2.1
    rw [lpF]
    refine ⟨X, ⟨hf, hp, fun _ => ⟨hs, hw, hlo⟩⟩, fun {z post l5} h => ?_⟩
    refine PW_iload c_T_readLevel_39 rfl ?_
    refine PW_iload_n c_T_readLevel_41 rfl ?_
    refine PW_icmp_ge c_T_readLevel_42 (fun h0 => ?_) (fun h0 => absurd ((nI_leI (by omega) (by omega)).mpr (by omega)) h0)
    refine PW_iconst (v := 1) c_T_readLevel_98 (by decide) ?_
    refine PW_ireturn (ty := .boolean) c_T_readLevel_99 rfl (by decide +kernel) ?_
    exact pq1 h rfl
  | succ j ihj =>
    intro i q acc X hi hT hf hp hs hw hlo hok
    have hn := hT.2.1
    have hq : q ≤ n := hok.2.1
    have ha := (hok.2.2 rfl).2.1
    have ha : acc.length + p0 ≤ q := ha
    by_cases hlv : lvO (sg g n q) = lev
    · have hop := lvO_op (c := sg g n q) (by omega)
      have hc := op_cd hop
      have hqn : q < n := sg_lt (g := g) (by omega)
      obtain ⟨X2, ⟨f2, p2, c2⟩, H2⟩ := ih o (q + 1) (k + acc.length) (sI X 220 (nI (q + 1))) ho hfu (tpX_fr hT frT_p) rfl (show (sI X 220 (nI (q + 1))).1 221 = _ by rw [sI_n (by decide)]; exact hs) hqn (by omega)
      have w2 := pF_p (g := g) fu (lev + 1) o (q + 1) hqn
      by_cases r2 : (pF g n fu (lev + 1) o (q + 1)).1 = true
      · obtain ⟨s2, v2, o2⟩ := c2 r2
        obtain ⟨z1, z2, z3⟩ := w2
        obtain ⟨z4, z5, z6, z7⟩ := z3 r2
        have s2 : X2.1 221 = nI (k + (acc.length + (pF g n fu (lev + 1) o (q + 1)).2.2.length)) := by rw [s2]; congr 1; omega
        have wA : wrA (X2.2.1 29) (X2.2.1 30) k ((acc ++ (pF g n fu (lev + 1) o (q + 1)).2.2).map stX) := by
          rw [List.map_append]
          refine wrA_app (wrA_low hw o2 (by rw [List.length_map]; omega)) ?_
          rw [List.length_map]
          exact v2
        have hacc : okP p0 n (true, (pF g n fu (lev + 1) o (q + 1)).2.1, acc ++ (pF g n fu (lev + 1) o (q + 1)).2.2 ++ [(sg g n q, 0)]) := by
          have := lpF_p (g := g) (n := n) (G := pF g n fu (lev + 1) o) hl (fun r hr => pF_p fu (lev + 1) o r hr) 1 q acc hok
          rw [lpF, if_pos hlv, if_pos r2, lpF] at this
          exact this
        obtain ⟨X', hR, H3⟩ := ihj (i + 1) (pF g n fu (lev + 1) o (q + 1)).2.1 (acc ++ (pF g n fu (lev + 1) o (q + 1)).2.2 ++ [(sg g n q, 0)]) (wrt X2 (k + (acc.length + (pF g n fu (lev + 1) o (q + 1)).2.2.length)) (sgX (sg g n q)) 0) (by omega) (tpX_fr (tpX_fr hT (frT_t frT_p f2)) frT_w) (frT_t hf (frT_t (frT_t frT_p f2) frT_w)) (by show (wrt X2 _ _ _).1 220 = _; rw [← p2]; exact sI_n (by decide)) (by
            refine sI_s.trans ?_
            rw [List.length_append, List.length_append, List.length_singleton]
            exact congrArg nI (by omega)) (by
            rw [wrt_29, wrt_30, List.map_append, List.map_singleton]
            rw [show stX (sg g n q, 0) = (sgX (sg g n q), 0) from by
              show (cxS (sg g n q), 0) = _
              rw [cx_op hc.1]
              unfold sgX
              rw [if_pos (by omega)]]
            exact wrA_snoc (by rw [List.length_map, List.length_append]) wA) (by
            rw [wrt_29, wrt_30]
            exact lowA_t (lowA_t hlo o2 (by omega)) (lowA_u (Nat.le_refl (k + (acc.length + (pF g n fu (lev + 1) o (q + 1)).2.2.length)))) (by omega)) hacc
        rw [lpF, if_pos hlv, if_pos r2]
        refine ⟨X', hR, fun {z post l5} h => ?_⟩
        refine PW_iload c_T_readLevel_39 rfl ?_
        refine PW_iload_n c_T_readLevel_41 rfl ?_
        refine PW_icmp_ge c_T_readLevel_42 (fun h0 => absurd h0 (fun w => absurd ((nI_leI (by omega) (by omega)).mp w) (by omega))) (fun h0 => ?_)
        refine PW_aload_n c_T_readLevel_45 rfl ?_
        refine PW_V0 (d2 := 0) (st := []) [] c_T_readLevel_46 lk_T_readLevel_35 (po_27 _ _) rfl rfl rfl (Nat.le_of_ble_eq_true rfl) (by first | decide | omega) (Nat.le_of_ble_eq_true rfl) ?_
        refine sp_T_sign hT hp hq ?_
        show PW _ _ _ 49 [some (.ref 27), some (.int (nI lev)), some (.int (nI o)), some (.int (nI most)), some (.int (nI i)), l5] [.int (sgX (sg g n q))] (E X y)
        refine PW_S0 (d2 := 0) (st := []) [.int (sgX (sg g n q))] c_T_readLevel_49 lk_T_readLevel_51 rfl rfl rfl (Nat.le_of_ble_eq_true rfl) (by first | decide | omega) (Nat.le_of_ble_eq_true rfl) ?_
        refine sp_T_levelOf (tpX_sg hT) ?_
        show PW _ _ _ 52 [some (.ref 27), some (.int (nI lev)), some (.int (nI o)), some (.int (nI most)), some (.int (nI i)), l5] [.int (lvI (sg g n q))] (E X y)
        refine PW_iload_n c_T_readLevel_52 rfl ?_
        refine PW_icmp_ne c_T_readLevel_53 (fun h1 => absurd h1 (not_not_intro ((lvI_eq hl).mpr hlv))) (fun h1 => ?_)
        refine PW_aload_n c_T_readLevel_56 rfl ?_
        refine PW_V0 (d2 := 0) (st := []) [] c_T_readLevel_57 lk_T_readLevel_35 (po_27 _ _) rfl rfl rfl (Nat.le_of_ble_eq_true rfl) (by first | decide | omega) (Nat.le_of_ble_eq_true rfl) ?_
        refine sp_T_sign hT hp hq ?_
        show PW _ _ _ 60 [some (.ref 27), some (.int (nI lev)), some (.int (nI o)), some (.int (nI most)), some (.int (nI i)), l5] [.int (sgX (sg g n q))] (E X y)
        refine PW_istore (i := 5) (L2 := [some (.ref 27), some (.int (nI lev)), some (.int (nI o)), some (.int (nI most)), some (.int (nI i)), some (.int (sgX (sg g n q)))]) c_T_readLevel_60 (Nat.le_of_ble_eq_true rfl) rfl rfl ?_
        refine PW_aload_n c_T_readLevel_62 rfl ?_
        refine PW_dup c_T_readLevel_63 rfl ?_
        refine PW_get (v := .int (X.1 220)) c_T_readLevel_64 fl_T_28 (gf_27_4 _ _) ?_
        rw [hp]
        show PW _ _ _ 67 [some (.ref 27), some (.int (nI lev)), some (.int (nI o)), some (.int (nI most)), some (.int (nI i)), some (.int (sgX (sg g n q)))] [.int (nI q), .ref 27] (E X y)
        refine PW_iconst (v := 1) c_T_readLevel_67 (by decide) ?_
        refine PW_iadd c_T_readLevel_68 ?_
        refine PW_put (w2 := E (sI X 220 ((nI q) + 1)) y) c_T_readLevel_69 fp_T_readLevel_28 rfl (pf_27_4 _ _ _) ?_
        rw [nI_1 (q)]
        show PW _ _ _ 72 [some (.ref 27), some (.int (nI lev)), some (.int (nI o)), some (.int (nI most)), some (.int (nI i)), some (.int (sgX (sg g n q)))] [] (E (sI X 220 (nI (q + 1))) y)
        refine PW_aload_n c_T_readLevel_72 rfl ?_
        refine PW_iload_n c_T_readLevel_73 rfl ?_
        refine PW_iconst (v := 1) c_T_readLevel_74 (by decide) ?_
        refine PW_iadd c_T_readLevel_75 ?_
        rw [nI_1 lev]
        show PW _ _ _ 76 [some (.ref 27), some (.int (nI lev)), some (.int (nI o)), some (.int (nI most)), some (.int (nI i)), some (.int (sgX (sg g n q)))] [.int (nI (lev + 1)), .ref 27] (E (sI X 220 (nI (q + 1))) y)
        refine PW_iload_n c_T_readLevel_76 rfl ?_
        refine PW_V0 (d2 := fu + 2 * (6 - o) + 2) (st := []) [.int (nI (lev + 1)), .int (nI o)] c_T_readLevel_77 lk_T_readLevel_39 (po_27 _ _) rfl rfl rfl (Nat.le_of_ble_eq_true rfl) (by first | decide | omega) (Nat.le_of_ble_eq_true rfl) ?_
        refine H2 ?_
        show PW _ _ _ 80 [some (.ref 27), some (.int (nI lev)), some (.int (nI o)), some (.int (nI most)), some (.int (nI i)), some (.int (sgX (sg g n q)))] [.int (b2i ((pF g n fu (lev + 1) o (q + 1)).1 = true))] (E X2 y)
        refine PW_if_ne c_T_readLevel_80 (fun _ => ?_) (fun h2 => absurd r2 (b2i_0.mp h2))
        refine PW_aload_n c_T_readLevel_85 rfl ?_
        refine PW_iload c_T_readLevel_86 rfl ?_
        refine PW_iconst (v := 0) c_T_readLevel_88 (by decide) ?_
        refine PW_V0 (d2 := 0) (st := []) [.int (sgX (sg g n q)), .int 0] c_T_readLevel_89 lk_T_readLevel_43 (po_27 _ _) rfl rfl rfl (Nat.le_of_ble_eq_true rfl) (by first | decide | omega) (Nat.le_of_ble_eq_true rfl) ?_
        refine sp_T_write s2 (by omega) ?_
        show PW _ _ _ 92 [some (.ref 27), some (.int (nI lev)), some (.int (nI o)), some (.int (nI most)), some (.int (nI i)), some (.int (sgX (sg g n q)))] [] (E (wrt X2 (k + (acc.length + (pF g n fu (lev + 1) o (q + 1)).2.2.length)) (sgX (sg g n q)) 0) y)
        refine PW_iinc (i := 4) (v := (nI i) + 1) (L2 := [some (.ref 27), some (.int (nI lev)), some (.int (nI o)), some (.int (nI most)), some (.int ((nI i) + 1)), some (.int (sgX (sg g n q)))]) c_T_readLevel_92 rfl (iinc_v (by decide)) (Nat.le_of_ble_eq_true rfl) rfl rfl ?_
        refine PW_goto c_T_readLevel_95 ?_
        refine PW.eqL ?_ rfl rfl (H3 (l5 := some (.int (sgX (sg g n q)))) h)
        show ([some (.ref 27), some (.int (nI lev)), some (.int (nI o)), some (.int (nI most)), some (.int ((nI i) + 1)), some (.int (sgX (sg g n q)))] : List (Option Value)) = [some (.ref 27), some (.int (nI lev)), some (.int (nI o)), some (.int (nI most)), some (.int (nI (i + 1))), some (.int (sgX (sg g n q)))]
        rw [nI_1]
      · rw [lpF, if_pos hlv, if_neg r2]
        refine ⟨X2, ⟨frT_t hf (frT_t frT_p f2), p2, fun w => Bool.noConfusion w⟩, fun {z post l5} h => ?_⟩
        refine PW_iload c_T_readLevel_39 rfl ?_
        refine PW_iload_n c_T_readLevel_41 rfl ?_
        refine PW_icmp_ge c_T_readLevel_42 (fun h0 => absurd h0 (fun w => absurd ((nI_leI (by omega) (by omega)).mp w) (by omega))) (fun h0 => ?_)
        refine PW_aload_n c_T_readLevel_45 rfl ?_
        refine PW_V0 (d2 := 0) (st := []) [] c_T_readLevel_46 lk_T_readLevel_35 (po_27 _ _) rfl rfl rfl (Nat.le_of_ble_eq_true rfl) (by first | decide | omega) (Nat.le_of_ble_eq_true rfl) ?_
        refine sp_T_sign hT hp hq ?_
        show PW _ _ _ 49 [some (.ref 27), some (.int (nI lev)), some (.int (nI o)), some (.int (nI most)), some (.int (nI i)), l5] [.int (sgX (sg g n q))] (E X y)
        refine PW_S0 (d2 := 0) (st := []) [.int (sgX (sg g n q))] c_T_readLevel_49 lk_T_readLevel_51 rfl rfl rfl (Nat.le_of_ble_eq_true rfl) (by first | decide | omega) (Nat.le_of_ble_eq_true rfl) ?_
        refine sp_T_levelOf (tpX_sg hT) ?_
        show PW _ _ _ 52 [some (.ref 27), some (.int (nI lev)), some (.int (nI o)), some (.int (nI most)), some (.int (nI i)), l5] [.int (lvI (sg g n q))] (E X y)
        refine PW_iload_n c_T_readLevel_52 rfl ?_
        refine PW_icmp_ne c_T_readLevel_53 (fun h1 => absurd h1 (not_not_intro ((lvI_eq hl).mpr hlv))) (fun h1 => ?_)
        refine PW_aload_n c_T_readLevel_56 rfl ?_
        refine PW_V0 (d2 := 0) (st := []) [] c_T_readLevel_57 lk_T_readLevel_35 (po_27 _ _) rfl rfl rfl (Nat.le_of_ble_eq_true rfl) (by first | decide | omega) (Nat.le_of_ble_eq_true rfl) ?_
        refine sp_T_sign hT hp hq ?_
        show PW _ _ _ 60 [some (.ref 27), some (.int (nI lev)), some (.int (nI o)), some (.int (nI most)), some (.int (nI i)), l5] [.int (sgX (sg g n q))] (E X y)
        refine PW_istore (i := 5) (L2 := [some (.ref 27), some (.int (nI lev)), some (.int (nI o)), some (.int (nI most)), some (.int (nI i)), some (.int (sgX (sg g n q)))]) c_T_readLevel_60 (Nat.le_of_ble_eq_true rfl) rfl rfl ?_
        refine PW_aload_n c_T_readLevel_62 rfl ?_
        refine PW_dup c_T_readLevel_63 rfl ?_
        refine PW_get (v := .int (X.1 220)) c_T_readLevel_64 fl_T_28 (gf_27_4 _ _) ?_
        rw [hp]
        show PW _ _ _ 67 [some (.ref 27), some (.int (nI lev)), some (.int (nI o)), some (.int (nI most)), some (.int (nI i)), some (.int (sgX (sg g n q)))] [.int (nI q), .ref 27] (E X y)
        refine PW_iconst (v := 1) c_T_readLevel_67 (by decide) ?_
        refine PW_iadd c_T_readLevel_68 ?_
        refine PW_put (w2 := E (sI X 220 ((nI q) + 1)) y) c_T_readLevel_69 fp_T_readLevel_28 rfl (pf_27_4 _ _ _) ?_
        rw [nI_1 (q)]
        show PW _ _ _ 72 [some (.ref 27), some (.int (nI lev)), some (.int (nI o)), some (.int (nI most)), some (.int (nI i)), some (.int (sgX (sg g n q)))] [] (E (sI X 220 (nI (q + 1))) y)
        refine PW_aload_n c_T_readLevel_72 rfl ?_
        refine PW_iload_n c_T_readLevel_73 rfl ?_
        refine PW_iconst (v := 1) c_T_readLevel_74 (by decide) ?_
        refine PW_iadd c_T_readLevel_75 ?_
        rw [nI_1 lev]
        show PW _ _ _ 76 [some (.ref 27), some (.int (nI lev)), some (.int (nI o)), some (.int (nI most)), some (.int (nI i)), some (.int (sgX (sg g n q)))] [.int (nI (lev + 1)), .ref 27] (E (sI X 220 (nI (q + 1))) y)
        refine PW_iload_n c_T_readLevel_76 rfl ?_
        refine PW_V0 (d2 := fu + 2 * (6 - o) + 2) (st := []) [.int (nI (lev + 1)), .int (nI o)] c_T_readLevel_77 lk_T_readLevel_39 (po_27 _ _) rfl rfl rfl (Nat.le_of_ble_eq_true rfl) (by first | decide | omega) (Nat.le_of_ble_eq_true rfl) ?_
        refine H2 ?_
        show PW _ _ _ 80 [some (.ref 27), some (.int (nI lev)), some (.int (nI o)), some (.int (nI most)), some (.int (nI i)), some (.int (sgX (sg g n q)))] [.int (b2i ((pF g n fu (lev + 1) o (q + 1)).1 = true))] (E X2 y)
        refine PW_if_ne c_T_readLevel_80 (fun h2 => absurd (b2i_n0.mp h2) r2) (fun _ => ?_)
        refine PW_iconst (v := 0) c_T_readLevel_83 (by decide) ?_
        refine PW_ireturn (ty := .boolean) c_T_readLevel_84 rfl (by decide +kernel) ?_
        exact pq0 h (fun w => Bool.noConfusion w)
    · rw [lpF, if_neg hlv]
      refine ⟨X, ⟨hf, hp, fun _ => ⟨hs, hw, hlo⟩⟩, fun {z post l5} h => ?_⟩
      refine PW_iload c_T_readLevel_39 rfl ?_
      refine PW_iload_n c_T_readLevel_41 rfl ?_
      refine PW_icmp_ge c_T_readLevel_42 (fun h0 => absurd h0 (fun w => absurd ((nI_leI (by omega) (by omega)).mp w) (by omega))) (fun h0 => ?_)
      refine PW_aload_n c_T_readLevel_45 rfl ?_
      refine PW_V0 (d2 := 0) (st := []) [] c_T_readLevel_46 lk_T_readLevel_35 (po_27 _ _) rfl rfl rfl (Nat.le_of_ble_eq_true rfl) (by first | decide | omega) (Nat.le_of_ble_eq_true rfl) ?_
      refine sp_T_sign hT hp hq ?_
      show PW _ _ _ 49 [some (.ref 27), some (.int (nI lev)), some (.int (nI o)), some (.int (nI most)), some (.int (nI i)), l5] [.int (sgX (sg g n q))] (E X y)
      refine PW_S0 (d2 := 0) (st := []) [.int (sgX (sg g n q))] c_T_readLevel_49 lk_T_readLevel_51 rfl rfl rfl (Nat.le_of_ble_eq_true rfl) (by first | decide | omega) (Nat.le_of_ble_eq_true rfl) ?_
      refine sp_T_levelOf (tpX_sg hT) ?_
      show PW _ _ _ 52 [some (.ref 27), some (.int (nI lev)), some (.int (nI o)), some (.int (nI most)), some (.int (nI i)), l5] [.int (lvI (sg g n q))] (E X y)
      refine PW_iload_n c_T_readLevel_52 rfl ?_
      refine PW_icmp_ne c_T_readLevel_53 (fun h1 => ?_) (fun h1 => absurd h1 (fun w => hlv ((lvI_eq hl).mp w)))
      refine PW_iconst (v := 1) c_T_readLevel_98 (by decide) ?_
      refine PW_ireturn (ty := .boolean) c_T_readLevel_99 rfl (by decide +kernel) ?_
      exact pq1 h rfl
theorem T_lev {g : Nat → Nat} {n fu lev : Nat} {y : XS} (hl : lev < 5) (ih : TOK g n y fu (lev + 1)) : TOK g n y (fu + 1) lev := by
  intro o p k X ho hfu hT hp hs hpn hk
  have hfu : (6 - o) * 6 + (6 - (lev + 1)) ≤ fu := by omega
  obtain ⟨X1, ⟨f1, p1, c1⟩, H1⟩ := ih o p k X ho hfu hT hp hs hpn hk
  have w1 := pF_p (g := g) fu (lev + 1) o p hpn
  rw [pF_lev hl]
  by_cases q : (pF g n fu (lev + 1) o p).1 = true
  · obtain ⟨s1, v1, o1⟩ := c1 q
    rw [if_pos q]
    have hok : okP p n (true, (pF g n fu (lev + 1) o p).2.1, (pF g n fu (lev + 1) o p).2.2) := ⟨w1.1, w1.2.1, fun _ => w1.2.2 q⟩
    by_cases hl2 : lev = 2
    · rw [if_pos hl2]
      obtain ⟨X', hR, HL⟩ := lp_T_lev (most := 1) hl ih ho hfu (by omega) hk 1 0 _ _ X1 rfl (tpX_fr hT f1) f1 p1 s1 v1 o1 hok
      refine ⟨X', hR, fun {z post} h => ?_⟩
      refine PW_iload_n c_T_readLevel_0 rfl ?_
      refine PW_iconst (v := 5) c_T_readLevel_1 (by decide) ?_
      refine PW_icmp_lt c_T_readLevel_2 (fun h0 => ?_) (fun h0 => absurd (show nI lev < nI 5 from (nI_ltI (by omega) (by decide)).mpr hl) h0)
      refine PW_aload_n c_T_readLevel_11 rfl ?_
      refine PW_iload_n c_T_readLevel_12 rfl ?_
      refine PW_iconst (v := 1) c_T_readLevel_13 (by decide) ?_
      refine PW_iadd c_T_readLevel_14 ?_
      rw [nI_1 lev]
      show PW _ _ _ 15 [some (.ref 27), some (.int (nI lev)), some (.int (nI o)), none, none, none] [.int (nI (lev + 1)), .ref 27] (E X y)
      refine PW_iload_n c_T_readLevel_15 rfl ?_
      refine PW_V0 (d2 := fu + 2 * (6 - o) + 2) (st := []) [.int (nI (lev + 1)), .int (nI o)] c_T_readLevel_16 lk_T_readLevel_39 (po_27 _ _) rfl rfl rfl (Nat.le_of_ble_eq_true rfl) (by first | decide | omega) (Nat.le_of_ble_eq_true rfl) ?_
      refine H1 ?_
      show PW _ _ _ 19 [some (.ref 27), some (.int (nI lev)), some (.int (nI o)), none, none, none] [.int (b2i ((pF g n fu (lev + 1) o p).1 = true))] (E X1 y)
      refine PW_if_ne c_T_readLevel_19 (fun _ => ?_) (fun h1 => absurd q (b2i_0.mp h1))
      refine PW_iload_n c_T_readLevel_24 rfl ?_
      refine PW_iconst (v := 2) c_T_readLevel_25 (by decide) ?_
      refine PW_icmp_ne c_T_readLevel_26 (fun h2 => absurd h2 (not_not_intro (show nI lev = nI 2 by rw [hl2]))) (fun h2 => ?_)
      refine PW_iconst (v := 1) c_T_readLevel_29 (by decide) ?_
      refine PW_goto c_T_readLevel_30 ?_
      refine PW_istore_n (i := 3) (L2 := [some (.ref 27), some (.int (nI lev)), some (.int (nI o)), some (.int 1), none, none]) c_T_readLevel_35 rfl (Nat.le_of_ble_eq_true rfl) rfl rfl ?_
      refine PW_iconst (v := 0) c_T_readLevel_36 (by decide) ?_
      refine PW_istore (i := 4) (L2 := [some (.ref 27), some (.int (nI lev)), some (.int (nI o)), some (.int 1), some (.int 0), none]) c_T_readLevel_37 (Nat.le_of_ble_eq_true rfl) rfl rfl ?_
      refine PW.eqL ?_ rfl rfl (HL (l5 := none) h)
      rfl
    · rw [if_neg hl2]
      obtain ⟨X', hR, HL⟩ := lp_T_lev (most := 120) hl ih ho hfu (by omega) hk 120 0 _ _ X1 rfl (tpX_fr hT f1) f1 p1 s1 v1 o1 hok
      refine ⟨X', hR, fun {z post} h => ?_⟩
      refine PW_iload_n c_T_readLevel_0 rfl ?_
      refine PW_iconst (v := 5) c_T_readLevel_1 (by decide) ?_
      refine PW_icmp_lt c_T_readLevel_2 (fun h0 => ?_) (fun h0 => absurd (show nI lev < nI 5 from (nI_ltI (by omega) (by decide)).mpr hl) h0)
      refine PW_aload_n c_T_readLevel_11 rfl ?_
      refine PW_iload_n c_T_readLevel_12 rfl ?_
      refine PW_iconst (v := 1) c_T_readLevel_13 (by decide) ?_
      refine PW_iadd c_T_readLevel_14 ?_
      rw [nI_1 lev]
      show PW _ _ _ 15 [some (.ref 27), some (.int (nI lev)), some (.int (nI o)), none, none, none] [.int (nI (lev + 1)), .ref 27] (E X y)
      refine PW_iload_n c_T_readLevel_15 rfl ?_
      refine PW_V0 (d2 := fu + 2 * (6 - o) + 2) (st := []) [.int (nI (lev + 1)), .int (nI o)] c_T_readLevel_16 lk_T_readLevel_39 (po_27 _ _) rfl rfl rfl (Nat.le_of_ble_eq_true rfl) (by first | decide | omega) (Nat.le_of_ble_eq_true rfl) ?_
      refine H1 ?_
      show PW _ _ _ 19 [some (.ref 27), some (.int (nI lev)), some (.int (nI o)), none, none, none] [.int (b2i ((pF g n fu (lev + 1) o p).1 = true))] (E X1 y)
      refine PW_if_ne c_T_readLevel_19 (fun _ => ?_) (fun h1 => absurd q (b2i_0.mp h1))
      refine PW_iload_n c_T_readLevel_24 rfl ?_
      refine PW_iconst (v := 2) c_T_readLevel_25 (by decide) ?_
      refine PW_icmp_ne c_T_readLevel_26 (fun h2 => ?_) (fun h2 => absurd h2 (fun w => hl2 ((nI_eq (by omega) (by decide)).mp (show nI lev = nI 2 from w))))
      refine PW_bipush (v := 120) c_T_readLevel_33 (by decide) ?_
      refine PW_istore_n (i := 3) (L2 := [some (.ref 27), some (.int (nI lev)), some (.int (nI o)), some (.int 120), none, none]) c_T_readLevel_35 rfl (Nat.le_of_ble_eq_true rfl) rfl rfl ?_
      refine PW_iconst (v := 0) c_T_readLevel_36 (by decide) ?_
      refine PW_istore (i := 4) (L2 := [some (.ref 27), some (.int (nI lev)), some (.int (nI o)), some (.int 120), some (.int 0), none]) c_T_readLevel_37 (Nat.le_of_ble_eq_true rfl) rfl rfl ?_
      refine PW.eqL ?_ rfl rfl (HL (l5 := none) h)
      rfl
  · rw [if_neg q]
    refine ⟨X1, ⟨f1, p1, fun w => Bool.noConfusion w⟩, fun {z post} h => ?_⟩
    refine PW_iload_n c_T_readLevel_0 rfl ?_
    refine PW_iconst (v := 5) c_T_readLevel_1 (by decide) ?_
    refine PW_icmp_lt c_T_readLevel_2 (fun h0 => ?_) (fun h0 => absurd (show nI lev < nI 5 from (nI_ltI (by omega) (by decide)).mpr hl) h0)
    refine PW_aload_n c_T_readLevel_11 rfl ?_
    refine PW_iload_n c_T_readLevel_12 rfl ?_
    refine PW_iconst (v := 1) c_T_readLevel_13 (by decide) ?_
    refine PW_iadd c_T_readLevel_14 ?_
    rw [nI_1 lev]
    show PW _ _ _ 15 [some (.ref 27), some (.int (nI lev)), some (.int (nI o)), none, none, none] [.int (nI (lev + 1)), .ref 27] (E X y)
    refine PW_iload_n c_T_readLevel_15 rfl ?_
    refine PW_V0 (d2 := fu + 2 * (6 - o) + 2) (st := []) [.int (nI (lev + 1)), .int (nI o)] c_T_readLevel_16 lk_T_readLevel_39 (po_27 _ _) rfl rfl rfl (Nat.le_of_ble_eq_true rfl) (by first | decide | omega) (Nat.le_of_ble_eq_true rfl) ?_
    refine H1 ?_
    show PW _ _ _ 19 [some (.ref 27), some (.int (nI lev)), some (.int (nI o)), none, none, none] [.int (b2i ((pF g n fu (lev + 1) o p).1 = true))] (E X1 y)
    refine PW_if_ne c_T_readLevel_19 (fun h1 => absurd (b2i_n0.mp h1) q) (fun _ => ?_)
    refine PW_iconst (v := 0) c_T_readLevel_22 (by decide) ?_
    refine PW_ireturn (ty := .boolean) c_T_readLevel_23 rfl (by decide +kernel) ?_
    exact pq0 h (fun w => Bool.noConfusion w)
theorem T_lev5 {g : Nat → Nat} {n fu : Nat} {y : XS} (ih : OOK g n y fu) : TOK g n y fu 5 := by
  intro o p k X ho hfu hT hp hs hpn hk
  obtain ⟨X', hR, H⟩ := ih o p k X ho hfu hT hp hs hpn hk
  refine ⟨X', hR, fun {z post} h => ?_⟩
  refine PW_iload_n c_T_readLevel_0 rfl ?_
  refine PW_iconst (v := 5) c_T_readLevel_1 (by decide) ?_
  refine PW_icmp_lt c_T_readLevel_2 (fun h0 => absurd h0 (by decide)) (fun h0 => ?_)
  refine PW_aload_n c_T_readLevel_5 rfl ?_
  refine PW_iload_n c_T_readLevel_6 rfl ?_
  refine PW_V0 (d2 := fu + 2 * (6 - o) + 1) (st := []) [.int (nI o)] c_T_readLevel_7 lk_T_readLevel_47 (po_27 _ _) rfl rfl rfl (Nat.le_of_ble_eq_true rfl) (by first | decide | omega) (Nat.le_of_ble_eq_true rfl) ?_
  refine H ?_
  show PW _ _ _ 10 [some (.ref 27), some (.int (nI 5)), some (.int (nI o)), none, none, none] [.int (b2i ((pF g n fu 5 o p).1 = true))] (E (X') y)
  refine PW_ireturn (ty := .boolean) c_T_readLevel_10 rfl (nb_b2i _) ?_
  exact h
set_option maxHeartbeats 1000000 in
theorem O_step {g : Nat → Nat} {n fu : Nat} {y : XS} (ih0 : TOK g n y fu 0) (ih5 : OOK g n y fu) : OOK g n y (fu + 1) := by
  intro o p k X ho hfu hT hp hs hpn hk
  have hn := hT.2.1
  rw [pF_5]
  by_cases h1 : nmO (sg g n p) < 5
  · rw [if_pos h1]
    have hp2 : p < n := sg_lt (g := g) (by have := nmO_lt h1; omega)
    refine ⟨wrt (sI X 220 (nI (p + 1))) k 97 (nmI (sg g n p)), ⟨frT_t frT_p frT_w, rfl, fun _ => ⟨rfl, ?_, lowA_u (Nat.le_refl k)⟩⟩, fun {z post} h => ?_⟩
    · rw [wrt_29, wrt_30, show nmI (sg g n p) = nI (nmO (sg g n p)) from if_pos h1]
      exact wrA_one
    · skip
      refine PW_aload_n c_T_readOperand_0 rfl ?_
      refine PW_V0 (d2 := 0) (st := []) [] c_T_readOperand_1 lk_T_readOperand_35 (po_27 _ _) rfl rfl rfl (Nat.le_of_ble_eq_true rfl) (by first | decide | omega) (Nat.le_of_ble_eq_true rfl) ?_
      refine sp_T_sign hT hp hpn ?_
      show PW _ _ _ 4 [some (.ref 27), some (.int (nI o)), none, none] [.int (sgX (sg g n p))] (E X y)
      refine PW_istore_n (i := 2) (L2 := [some (.ref 27), some (.int (nI o)), some (.int (sgX (sg g n p))), none]) c_T_readOperand_4 rfl (Nat.le_of_ble_eq_true rfl) rfl rfl ?_
      refine PW_iload_n c_T_readOperand_5 rfl ?_
      refine PW_S0 (d2 := 0) (st := []) [.int (sgX (sg g n p))] c_T_readOperand_6 lk_T_readOperand_55 rfl rfl rfl (Nat.le_of_ble_eq_true rfl) (by first | decide | omega) (Nat.le_of_ble_eq_true rfl) ?_
      refine sp_L_nameOf (tpX_sg hT) ?_
      show PW _ _ _ 9 [some (.ref 27), some (.int (nI o)), some (.int (sgX (sg g n p))), none] [.int (nmI (sg g n p))] (E X y)
      refine PW_istore_n (i := 3) (L2 := [some (.ref 27), some (.int (nI o)), some (.int (sgX (sg g n p))), some (.int (nmI (sg g n p)))]) c_T_readOperand_9 rfl (Nat.le_of_ble_eq_true rfl) rfl rfl ?_
      refine PW_iload_n c_T_readOperand_10 rfl ?_
      refine PW_if_lt c_T_readOperand_11 (fun h0 => absurd h0 (fun w => by rw [show nmI (sg g n p) = nI (nmO (sg g n p)) from if_pos h1] at w; exact absurd w (nI_pos (by omega)))) (fun h0 => ?_)
      refine PW_aload_n c_T_readOperand_14 rfl ?_
      refine PW_dup c_T_readOperand_15 rfl ?_
      refine PW_get (v := .int (X.1 220)) c_T_readOperand_16 fl_T_28 (gf_27_4 _ _) ?_
      rw [hp]
      show PW _ _ _ 19 [some (.ref 27), some (.int (nI o)), some (.int (sgX (sg g n p))), some (.int (nmI (sg g n p)))] [.int (nI p), .ref 27] (E X y)
      refine PW_iconst (v := 1) c_T_readOperand_19 (by decide) ?_
      refine PW_iadd c_T_readOperand_20 ?_
      refine PW_put (w2 := E (sI X 220 ((nI p) + 1)) y) c_T_readOperand_21 fp_T_readOperand_28 rfl (pf_27_4 _ _ _) ?_
      rw [nI_1 (p)]
      show PW _ _ _ 24 [some (.ref 27), some (.int (nI o)), some (.int (sgX (sg g n p))), some (.int (nmI (sg g n p)))] [] (E (sI X 220 (nI (p + 1))) y)
      refine PW_aload_n c_T_readOperand_24 rfl ?_
      refine PW_bipush (v := 97) c_T_readOperand_25 (by decide) ?_
      refine PW_iload_n c_T_readOperand_27 rfl ?_
      refine PW_V0 (d2 := 0) (st := []) [.int 97, .int (nmI (sg g n p))] c_T_readOperand_28 lk_T_readOperand_43 (po_27 _ _) rfl rfl rfl (Nat.le_of_ble_eq_true rfl) (by first | decide | omega) (Nat.le_of_ble_eq_true rfl) ?_
      refine sp_T_write (X := sI X 220 (nI (p + 1))) hs (by omega) ?_
      show PW _ _ _ 31 [some (.ref 27), some (.int (nI o)), some (.int (sgX (sg g n p))), some (.int (nmI (sg g n p)))] [] (E (wrt (sI X 220 (nI (p + 1))) k 97 (nmI (sg g n p))) y)
      refine PW_iconst (v := 1) c_T_readOperand_31 (by decide) ?_
      refine PW_ireturn (ty := .boolean) c_T_readOperand_32 rfl (by decide +kernel) ?_
      exact pq1 h rfl
  · rw [if_neg h1]
    by_cases h2 : isD (sg g n p)
    · rw [if_pos h2]
      refine ⟨wrt (sI X 220 (nI (rdN g n 4 p 0).1)) k 48 (rdN g n 4 p 0).2, ⟨frT_t frT_p frT_w, rfl, fun _ => ⟨rfl, ?_, lowA_u (Nat.le_refl k)⟩⟩, fun {z post} h => ?_⟩
      · rw [wrt_29, wrt_30]
        exact wrA_one
      · skip
        refine PW_aload_n c_T_readOperand_0 rfl ?_
        refine PW_V0 (d2 := 0) (st := []) [] c_T_readOperand_1 lk_T_readOperand_35 (po_27 _ _) rfl rfl rfl (Nat.le_of_ble_eq_true rfl) (by first | decide | omega) (Nat.le_of_ble_eq_true rfl) ?_
        refine sp_T_sign hT hp hpn ?_
        show PW _ _ _ 4 [some (.ref 27), some (.int (nI o)), none, none] [.int (sgX (sg g n p))] (E X y)
        refine PW_istore_n (i := 2) (L2 := [some (.ref 27), some (.int (nI o)), some (.int (sgX (sg g n p))), none]) c_T_readOperand_4 rfl (Nat.le_of_ble_eq_true rfl) rfl rfl ?_
        refine PW_iload_n c_T_readOperand_5 rfl ?_
        refine PW_S0 (d2 := 0) (st := []) [.int (sgX (sg g n p))] c_T_readOperand_6 lk_T_readOperand_55 rfl rfl rfl (Nat.le_of_ble_eq_true rfl) (by first | decide | omega) (Nat.le_of_ble_eq_true rfl) ?_
        refine sp_L_nameOf (tpX_sg hT) ?_
        show PW _ _ _ 9 [some (.ref 27), some (.int (nI o)), some (.int (sgX (sg g n p))), none] [.int (nmI (sg g n p))] (E X y)
        refine PW_istore_n (i := 3) (L2 := [some (.ref 27), some (.int (nI o)), some (.int (sgX (sg g n p))), some (.int (nmI (sg g n p)))]) c_T_readOperand_9 rfl (Nat.le_of_ble_eq_true rfl) rfl rfl ?_
        refine PW_iload_n c_T_readOperand_10 rfl ?_
        refine PW_if_lt c_T_readOperand_11 (fun h0 => ?_) (fun h0 => absurd (by rw [show nmI (sg g n p) = -1 from if_neg h1]; decide) h0)
        refine PW_iload_n c_T_readOperand_33 rfl ?_
        refine PW_S0 (d2 := 0) (st := []) [.int (sgX (sg g n p))] c_T_readOperand_34 lk_T_readOperand_58 rfl rfl rfl (Nat.le_of_ble_eq_true rfl) (by first | decide | omega) (Nat.le_of_ble_eq_true rfl) ?_
        refine sp_T_isDigit  ?_
        show PW _ _ _ 37 [some (.ref 27), some (.int (nI o)), some (.int (sgX (sg g n p))), some (.int (nmI (sg g n p)))] [.int (b2i (48 ≤ (sgX (sg g n p)) ∧ (sgX (sg g n p)) ≤ 57))] (E X y)
        refine PW_if_eq c_T_readOperand_37 (fun h1 => absurd ((sgX_D (tpX_sg hT)).mpr h2) (b2i_0.mp h1)) (fun _ => ?_)
        refine PW_aload_n c_T_readOperand_40 rfl ?_
        refine PW_V0 (d2 := 1) (st := []) [] c_T_readOperand_41 lk_T_readOperand_61 (po_27 _ _) rfl rfl rfl (Nat.le_of_ble_eq_true rfl) (by first | decide | omega) (Nat.le_of_ble_eq_true rfl) ?_
        refine sp_T_num hT hp hs (by omega) hpn ?_
        show PW _ _ _ 44 [some (.ref 27), some (.int (nI o)), some (.int (sgX (sg g n p))), some (.int (nmI (sg g n p)))] [] (E (wrt (sI X 220 (nI (rdN g n 4 p 0).1)) k 48 (rdN g n 4 p 0).2) y)
        refine PW_iconst (v := 1) c_T_readOperand_44 (by decide) ?_
        refine PW_ireturn (ty := .boolean) c_T_readOperand_45 rfl (by decide +kernel) ?_
        exact pq1 h rfl
    · rw [if_neg h2]
      by_cases h3 : sg g n p = 40 ∨ sg g n p = 33 ∨ sg g n p = 45
      · have hp2 : p < n := sg_lt (g := g) (by omega)
        by_cases h6 : o < 6
        · rw [if_neg (not_not_intro ⟨h3, h6⟩)]
          rcases h3 with e | e | e
          · obtain ⟨X0, ⟨f0, p0, c0⟩, H0⟩ := ih0 (o + 1) (p + 1) k (sI X 220 (nI (p + 1))) (by omega) (by omega) (tpX_fr hT frT_p) rfl ((sI_n (by decide)).trans hs) hp2 (by omega)
            have w0 := pF_p (g := g) fu 0 (o + 1) (p + 1) hp2
            rw [if_pos e]
            by_cases r0 : (pF g n fu 0 (o + 1) (p + 1)).1 = true
            · by_cases c41 : sg g n (pF g n fu 0 (o + 1) (p + 1)).2.1 = 41
              · rw [if_pos ⟨r0, c41⟩]
                obtain ⟨s0, v0, u0⟩ := c0 r0
                refine ⟨sI X0 220 (nI ((pF g n fu 0 (o + 1) (p + 1)).2.1 + 1)), ⟨frT_t (frT_t frT_p f0) frT_p, rfl, fun _ => ⟨(sI_n (by decide)).trans s0, v0, u0⟩⟩, fun {z post} h => ?_⟩
                refine PW_aload_n c_T_readOperand_0 rfl ?_
                refine PW_V0 (d2 := 0) (st := []) [] c_T_readOperand_1 lk_T_readOperand_35 (po_27 _ _) rfl rfl rfl (Nat.le_of_ble_eq_true rfl) (by first | decide | omega) (Nat.le_of_ble_eq_true rfl) ?_
                refine sp_T_sign hT hp hpn ?_
                show PW _ _ _ 4 [some (.ref 27), some (.int (nI o)), none, none] [.int (sgX (sg g n p))] (E X y)
                refine PW_istore_n (i := 2) (L2 := [some (.ref 27), some (.int (nI o)), some (.int (sgX (sg g n p))), none]) c_T_readOperand_4 rfl (Nat.le_of_ble_eq_true rfl) rfl rfl ?_
                refine PW_iload_n c_T_readOperand_5 rfl ?_
                refine PW_S0 (d2 := 0) (st := []) [.int (sgX (sg g n p))] c_T_readOperand_6 lk_T_readOperand_55 rfl rfl rfl (Nat.le_of_ble_eq_true rfl) (by first | decide | omega) (Nat.le_of_ble_eq_true rfl) ?_
                refine sp_L_nameOf (tpX_sg hT) ?_
                show PW _ _ _ 9 [some (.ref 27), some (.int (nI o)), some (.int (sgX (sg g n p))), none] [.int (nmI (sg g n p))] (E X y)
                refine PW_istore_n (i := 3) (L2 := [some (.ref 27), some (.int (nI o)), some (.int (sgX (sg g n p))), some (.int (nmI (sg g n p)))]) c_T_readOperand_9 rfl (Nat.le_of_ble_eq_true rfl) rfl rfl ?_
                refine PW_iload_n c_T_readOperand_10 rfl ?_
                refine PW_if_lt c_T_readOperand_11 (fun h0 => ?_) (fun h0 => absurd (by rw [show nmI (sg g n p) = -1 from if_neg h1]; decide) h0)
                refine PW_iload_n c_T_readOperand_33 rfl ?_
                refine PW_S0 (d2 := 0) (st := []) [.int (sgX (sg g n p))] c_T_readOperand_34 lk_T_readOperand_58 rfl rfl rfl (Nat.le_of_ble_eq_true rfl) (by first | decide | omega) (Nat.le_of_ble_eq_true rfl) ?_
                refine sp_T_isDigit  ?_
                show PW _ _ _ 37 [some (.ref 27), some (.int (nI o)), some (.int (sgX (sg g n p))), some (.int (nmI (sg g n p)))] [.int (b2i (48 ≤ (sgX (sg g n p)) ∧ (sgX (sg g n p)) ≤ 57))] (E X y)
                refine PW_if_eq c_T_readOperand_37 (fun _ => ?_) (fun h1 => absurd (b2i_n0.mp h1) (fun w => h2 ((sgX_D (tpX_sg hT)).mp w)))
                refine PW_iload_n c_T_readOperand_46 rfl ?_
                refine PW_bipush (v := 40) c_T_readOperand_47 (by decide) ?_
                refine PW_icmp_eq c_T_readOperand_49 (fun h2 => ?_) (fun h2 => absurd ((sgX_k (tpX_sg hT) (by decide) (k := 40)).mpr e) h2)
                refine PW_iload_n c_T_readOperand_64 rfl ?_
                refine PW_bipush (v := 6) c_T_readOperand_65 (by decide) ?_
                refine PW_icmp_lt c_T_readOperand_67 (fun h3 => ?_) (fun h3 => absurd ((nI_ltI (b := 6) (by omega) (by decide)).mpr (by omega)) h3)
                refine PW_aload_n c_T_readOperand_72 rfl ?_
                refine PW_dup c_T_readOperand_73 rfl ?_
                refine PW_get (v := .int (X.1 220)) c_T_readOperand_74 fl_T_28 (gf_27_4 _ _) ?_
                rw [hp]
                show PW _ _ _ 77 [some (.ref 27), some (.int (nI o)), some (.int (sgX (sg g n p))), some (.int (nmI (sg g n p)))] [.int (nI p), .ref 27] (E X y)
                refine PW_iconst (v := 1) c_T_readOperand_77 (by decide) ?_
                refine PW_iadd c_T_readOperand_78 ?_
                refine PW_put (w2 := E (sI X 220 ((nI p) + 1)) y) c_T_readOperand_79 fp_T_readOperand_28 rfl (pf_27_4 _ _ _) ?_
                rw [nI_1 (p)]
                show PW _ _ _ 82 [some (.ref 27), some (.int (nI o)), some (.int (sgX (sg g n p))), some (.int (nmI (sg g n p)))] [] (E (sI X 220 (nI (p + 1))) y)
                refine PW_iload_n c_T_readOperand_82 rfl ?_
                refine PW_bipush (v := 40) c_T_readOperand_83 (by decide) ?_
                refine PW_icmp_ne c_T_readOperand_85 (fun h4 => absurd h4 (not_not_intro ((sgX_k (tpX_sg hT) (by decide) (k := 40)).mpr e))) (fun h4 => ?_)
                refine PW_aload_n c_T_readOperand_88 rfl ?_
                refine PW_iload_n c_T_readOperand_89 rfl ?_
                refine PW_iconst (v := 1) c_T_readOperand_90 (by decide) ?_
                refine PW_iadd c_T_readOperand_91 ?_
                rw [nI_1 o]
                show PW _ _ _ 92 [some (.ref 27), some (.int (nI o)), some (.int (sgX (sg g n p))), some (.int (nmI (sg g n p)))] [.int (nI (o + 1)), .ref 27] (E (sI X 220 (nI (p + 1))) y)
                refine PW_V0 (d2 := fu + 2 * (6 - o) + 1) (st := []) [.int (nI (o + 1))] c_T_readOperand_92 lk_T_readOperand_64 (po_27 _ _) rfl rfl rfl (Nat.le_of_ble_eq_true rfl) (by first | decide | omega) (Nat.le_of_ble_eq_true rfl) ?_
                show PW _ _ _ 0 [some (.ref 27), some (.int (nI (o + 1)))] [] (E (sI X 220 (nI (p + 1))) y)
                refine PW_aload_n c_T_readInner_0 rfl ?_
                refine PW_iconst (v := 0) c_T_readInner_1 (by decide) ?_
                refine PW_iload_n c_T_readInner_2 rfl ?_
                refine PW_V0 (d2 := fu + 2 * (6 - (o + 1)) + 2) (st := []) [.int 0, .int (nI (o + 1))] c_T_readInner_3 lk_T_readInner_39 (po_27 _ _) rfl rfl rfl (Nat.le_of_ble_eq_true rfl) (by first | decide | omega) (Nat.le_of_ble_eq_true rfl) ?_
                refine H0 ?_
                show PW _ _ _ 6 [some (.ref 27), some (.int (nI (o + 1)))] [.int (b2i ((pF g n fu 0 (o + 1) (p + 1)).1 = true))] (E X0 y)
                refine PW_if_eq c_T_readInner_6 (fun h5 => absurd r0 (b2i_0.mp h5)) (fun _ => ?_)
                refine PW_aload_n c_T_readInner_9 rfl ?_
                refine PW_V0 (d2 := 0) (st := []) [] c_T_readInner_10 lk_T_readInner_35 (po_27 _ _) rfl rfl rfl (Nat.le_of_ble_eq_true rfl) (by first | decide | omega) (Nat.le_of_ble_eq_true rfl) ?_
                refine sp_T_sign (tpX_fr hT (frT_t frT_p f0)) p0 w0.2.1 ?_
                show PW _ _ _ 13 [some (.ref 27), some (.int (nI (o + 1)))] [.int (sgX (sg g n (pF g n fu 0 (o + 1) (p + 1)).2.1))] (E X0 y)
                refine PW_bipush (v := 41) c_T_readInner_13 (by decide) ?_
                refine PW_icmp_eq c_T_readInner_15 (fun h6 => ?_) (fun h6 => absurd ((sgX_k (tpX_sg hT) (by decide) (k := 41)).mpr c41) h6)
                refine PW_aload_n c_T_readInner_20 rfl ?_
                refine PW_dup c_T_readInner_21 rfl ?_
                refine PW_get (v := .int (X0.1 220)) c_T_readInner_22 fl_T_28 (gf_27_4 _ _) ?_
                rw [p0]
                show PW _ _ _ 25 [some (.ref 27), some (.int (nI (o + 1)))] [.int (nI (pF g n fu 0 (o + 1) (p + 1)).2.1), .ref 27] (E X0 y)
                refine PW_iconst (v := 1) c_T_readInner_25 (by decide) ?_
                refine PW_iadd c_T_readInner_26 ?_
                refine PW_put (w2 := E (sI X0 220 ((nI (pF g n fu 0 (o + 1) (p + 1)).2.1) + 1)) y) c_T_readInner_27 fp_T_readInner_28 rfl (pf_27_4 _ _ _) ?_
                refine PW_iconst (v := 1) c_T_readInner_30 (by decide) ?_
                refine PW_ireturn (ty := .boolean) c_T_readInner_31 rfl (by decide +kernel) ?_
                show PW _ _ _ 95 [some (.ref 27), some (.int (nI o)), some (.int (sgX (sg g n p))), some (.int (nmI (sg g n p)))] [.int 1] (E (sI X0 220 ((nI (pF g n fu 0 (o + 1) (p + 1)).2.1) + 1)) y)
                refine PW_goto c_T_readOperand_95 ?_
                refine PW_ireturn (ty := .boolean) c_T_readOperand_106 rfl (by decide +kernel) ?_
                rw [nI_1]
                exact pq1 h rfl
              · rw [if_neg (fun w => c41 w.2)]
                refine ⟨X0, ⟨frT_t frT_p f0, p0, fun w => Bool.noConfusion w⟩, fun {z post} h => ?_⟩
                refine PW_aload_n c_T_readOperand_0 rfl ?_
                refine PW_V0 (d2 := 0) (st := []) [] c_T_readOperand_1 lk_T_readOperand_35 (po_27 _ _) rfl rfl rfl (Nat.le_of_ble_eq_true rfl) (by first | decide | omega) (Nat.le_of_ble_eq_true rfl) ?_
                refine sp_T_sign hT hp hpn ?_
                show PW _ _ _ 4 [some (.ref 27), some (.int (nI o)), none, none] [.int (sgX (sg g n p))] (E X y)
                refine PW_istore_n (i := 2) (L2 := [some (.ref 27), some (.int (nI o)), some (.int (sgX (sg g n p))), none]) c_T_readOperand_4 rfl (Nat.le_of_ble_eq_true rfl) rfl rfl ?_
                refine PW_iload_n c_T_readOperand_5 rfl ?_
                refine PW_S0 (d2 := 0) (st := []) [.int (sgX (sg g n p))] c_T_readOperand_6 lk_T_readOperand_55 rfl rfl rfl (Nat.le_of_ble_eq_true rfl) (by first | decide | omega) (Nat.le_of_ble_eq_true rfl) ?_
                refine sp_L_nameOf (tpX_sg hT) ?_
                show PW _ _ _ 9 [some (.ref 27), some (.int (nI o)), some (.int (sgX (sg g n p))), none] [.int (nmI (sg g n p))] (E X y)
                refine PW_istore_n (i := 3) (L2 := [some (.ref 27), some (.int (nI o)), some (.int (sgX (sg g n p))), some (.int (nmI (sg g n p)))]) c_T_readOperand_9 rfl (Nat.le_of_ble_eq_true rfl) rfl rfl ?_
                refine PW_iload_n c_T_readOperand_10 rfl ?_
                refine PW_if_lt c_T_readOperand_11 (fun h0 => ?_) (fun h0 => absurd (by rw [show nmI (sg g n p) = -1 from if_neg h1]; decide) h0)
                refine PW_iload_n c_T_readOperand_33 rfl ?_
                refine PW_S0 (d2 := 0) (st := []) [.int (sgX (sg g n p))] c_T_readOperand_34 lk_T_readOperand_58 rfl rfl rfl (Nat.le_of_ble_eq_true rfl) (by first | decide | omega) (Nat.le_of_ble_eq_true rfl) ?_
                refine sp_T_isDigit  ?_
                show PW _ _ _ 37 [some (.ref 27), some (.int (nI o)), some (.int (sgX (sg g n p))), some (.int (nmI (sg g n p)))] [.int (b2i (48 ≤ (sgX (sg g n p)) ∧ (sgX (sg g n p)) ≤ 57))] (E X y)
                refine PW_if_eq c_T_readOperand_37 (fun _ => ?_) (fun h1 => absurd (b2i_n0.mp h1) (fun w => h2 ((sgX_D (tpX_sg hT)).mp w)))
                refine PW_iload_n c_T_readOperand_46 rfl ?_
                refine PW_bipush (v := 40) c_T_readOperand_47 (by decide) ?_
                refine PW_icmp_eq c_T_readOperand_49 (fun h2 => ?_) (fun h2 => absurd ((sgX_k (tpX_sg hT) (by decide) (k := 40)).mpr e) h2)
                refine PW_iload_n c_T_readOperand_64 rfl ?_
                refine PW_bipush (v := 6) c_T_readOperand_65 (by decide) ?_
                refine PW_icmp_lt c_T_readOperand_67 (fun h3 => ?_) (fun h3 => absurd ((nI_ltI (b := 6) (by omega) (by decide)).mpr (by omega)) h3)
                refine PW_aload_n c_T_readOperand_72 rfl ?_
                refine PW_dup c_T_readOperand_73 rfl ?_
                refine PW_get (v := .int (X.1 220)) c_T_readOperand_74 fl_T_28 (gf_27_4 _ _) ?_
                rw [hp]
                show PW _ _ _ 77 [some (.ref 27), some (.int (nI o)), some (.int (sgX (sg g n p))), some (.int (nmI (sg g n p)))] [.int (nI p), .ref 27] (E X y)
                refine PW_iconst (v := 1) c_T_readOperand_77 (by decide) ?_
                refine PW_iadd c_T_readOperand_78 ?_
                refine PW_put (w2 := E (sI X 220 ((nI p) + 1)) y) c_T_readOperand_79 fp_T_readOperand_28 rfl (pf_27_4 _ _ _) ?_
                rw [nI_1 (p)]
                show PW _ _ _ 82 [some (.ref 27), some (.int (nI o)), some (.int (sgX (sg g n p))), some (.int (nmI (sg g n p)))] [] (E (sI X 220 (nI (p + 1))) y)
                refine PW_iload_n c_T_readOperand_82 rfl ?_
                refine PW_bipush (v := 40) c_T_readOperand_83 (by decide) ?_
                refine PW_icmp_ne c_T_readOperand_85 (fun h4 => absurd h4 (not_not_intro ((sgX_k (tpX_sg hT) (by decide) (k := 40)).mpr e))) (fun h4 => ?_)
                refine PW_aload_n c_T_readOperand_88 rfl ?_
                refine PW_iload_n c_T_readOperand_89 rfl ?_
                refine PW_iconst (v := 1) c_T_readOperand_90 (by decide) ?_
                refine PW_iadd c_T_readOperand_91 ?_
                rw [nI_1 o]
                show PW _ _ _ 92 [some (.ref 27), some (.int (nI o)), some (.int (sgX (sg g n p))), some (.int (nmI (sg g n p)))] [.int (nI (o + 1)), .ref 27] (E (sI X 220 (nI (p + 1))) y)
                refine PW_V0 (d2 := fu + 2 * (6 - o) + 1) (st := []) [.int (nI (o + 1))] c_T_readOperand_92 lk_T_readOperand_64 (po_27 _ _) rfl rfl rfl (Nat.le_of_ble_eq_true rfl) (by first | decide | omega) (Nat.le_of_ble_eq_true rfl) ?_
                show PW _ _ _ 0 [some (.ref 27), some (.int (nI (o + 1)))] [] (E (sI X 220 (nI (p + 1))) y)
                refine PW_aload_n c_T_readInner_0 rfl ?_
                refine PW_iconst (v := 0) c_T_readInner_1 (by decide) ?_
                refine PW_iload_n c_T_readInner_2 rfl ?_
                refine PW_V0 (d2 := fu + 2 * (6 - (o + 1)) + 2) (st := []) [.int 0, .int (nI (o + 1))] c_T_readInner_3 lk_T_readInner_39 (po_27 _ _) rfl rfl rfl (Nat.le_of_ble_eq_true rfl) (by first | decide | omega) (Nat.le_of_ble_eq_true rfl) ?_
                refine H0 ?_
                show PW _ _ _ 6 [some (.ref 27), some (.int (nI (o + 1)))] [.int (b2i ((pF g n fu 0 (o + 1) (p + 1)).1 = true))] (E X0 y)
                refine PW_if_eq c_T_readInner_6 (fun h5 => absurd r0 (b2i_0.mp h5)) (fun _ => ?_)
                refine PW_aload_n c_T_readInner_9 rfl ?_
                refine PW_V0 (d2 := 0) (st := []) [] c_T_readInner_10 lk_T_readInner_35 (po_27 _ _) rfl rfl rfl (Nat.le_of_ble_eq_true rfl) (by first | decide | omega) (Nat.le_of_ble_eq_true rfl) ?_
                refine sp_T_sign (tpX_fr hT (frT_t frT_p f0)) p0 w0.2.1 ?_
                show PW _ _ _ 13 [some (.ref 27), some (.int (nI (o + 1)))] [.int (sgX (sg g n (pF g n fu 0 (o + 1) (p + 1)).2.1))] (E X0 y)
                refine PW_bipush (v := 41) c_T_readInner_13 (by decide) ?_
                refine PW_icmp_eq c_T_readInner_15 (fun h6 => absurd h6 (fun w => c41 ((sgX_k (tpX_sg hT) (by decide) (k := 41)).mp w))) (fun h6 => ?_)
                refine PW_iconst (v := 0) c_T_readInner_18 (by decide) ?_
                refine PW_ireturn (ty := .boolean) c_T_readInner_19 rfl (by decide +kernel) ?_
                show PW _ _ _ 95 [some (.ref 27), some (.int (nI o)), some (.int (sgX (sg g n p))), some (.int (nmI (sg g n p)))] [.int 0] (E X0 y)
                refine PW_goto c_T_readOperand_95 ?_
                refine PW_ireturn (ty := .boolean) c_T_readOperand_106 rfl (by decide +kernel) ?_
                exact pq0 h (fun w => Bool.noConfusion w)
            · rw [if_neg (fun w => r0 w.1)]
              refine ⟨X0, ⟨frT_t frT_p f0, p0, fun w => Bool.noConfusion w⟩, fun {z post} h => ?_⟩
              refine PW_aload_n c_T_readOperand_0 rfl ?_
              refine PW_V0 (d2 := 0) (st := []) [] c_T_readOperand_1 lk_T_readOperand_35 (po_27 _ _) rfl rfl rfl (Nat.le_of_ble_eq_true rfl) (by first | decide | omega) (Nat.le_of_ble_eq_true rfl) ?_
              refine sp_T_sign hT hp hpn ?_
              show PW _ _ _ 4 [some (.ref 27), some (.int (nI o)), none, none] [.int (sgX (sg g n p))] (E X y)
              refine PW_istore_n (i := 2) (L2 := [some (.ref 27), some (.int (nI o)), some (.int (sgX (sg g n p))), none]) c_T_readOperand_4 rfl (Nat.le_of_ble_eq_true rfl) rfl rfl ?_
              refine PW_iload_n c_T_readOperand_5 rfl ?_
              refine PW_S0 (d2 := 0) (st := []) [.int (sgX (sg g n p))] c_T_readOperand_6 lk_T_readOperand_55 rfl rfl rfl (Nat.le_of_ble_eq_true rfl) (by first | decide | omega) (Nat.le_of_ble_eq_true rfl) ?_
              refine sp_L_nameOf (tpX_sg hT) ?_
              show PW _ _ _ 9 [some (.ref 27), some (.int (nI o)), some (.int (sgX (sg g n p))), none] [.int (nmI (sg g n p))] (E X y)
              refine PW_istore_n (i := 3) (L2 := [some (.ref 27), some (.int (nI o)), some (.int (sgX (sg g n p))), some (.int (nmI (sg g n p)))]) c_T_readOperand_9 rfl (Nat.le_of_ble_eq_true rfl) rfl rfl ?_
              refine PW_iload_n c_T_readOperand_10 rfl ?_
              refine PW_if_lt c_T_readOperand_11 (fun h0 => ?_) (fun h0 => absurd (by rw [show nmI (sg g n p) = -1 from if_neg h1]; decide) h0)
              refine PW_iload_n c_T_readOperand_33 rfl ?_
              refine PW_S0 (d2 := 0) (st := []) [.int (sgX (sg g n p))] c_T_readOperand_34 lk_T_readOperand_58 rfl rfl rfl (Nat.le_of_ble_eq_true rfl) (by first | decide | omega) (Nat.le_of_ble_eq_true rfl) ?_
              refine sp_T_isDigit  ?_
              show PW _ _ _ 37 [some (.ref 27), some (.int (nI o)), some (.int (sgX (sg g n p))), some (.int (nmI (sg g n p)))] [.int (b2i (48 ≤ (sgX (sg g n p)) ∧ (sgX (sg g n p)) ≤ 57))] (E X y)
              refine PW_if_eq c_T_readOperand_37 (fun _ => ?_) (fun h1 => absurd (b2i_n0.mp h1) (fun w => h2 ((sgX_D (tpX_sg hT)).mp w)))
              refine PW_iload_n c_T_readOperand_46 rfl ?_
              refine PW_bipush (v := 40) c_T_readOperand_47 (by decide) ?_
              refine PW_icmp_eq c_T_readOperand_49 (fun h2 => ?_) (fun h2 => absurd ((sgX_k (tpX_sg hT) (by decide) (k := 40)).mpr e) h2)
              refine PW_iload_n c_T_readOperand_64 rfl ?_
              refine PW_bipush (v := 6) c_T_readOperand_65 (by decide) ?_
              refine PW_icmp_lt c_T_readOperand_67 (fun h3 => ?_) (fun h3 => absurd ((nI_ltI (b := 6) (by omega) (by decide)).mpr (by omega)) h3)
              refine PW_aload_n c_T_readOperand_72 rfl ?_
              refine PW_dup c_T_readOperand_73 rfl ?_
              refine PW_get (v := .int (X.1 220)) c_T_readOperand_74 fl_T_28 (gf_27_4 _ _) ?_
              rw [hp]
              show PW _ _ _ 77 [some (.ref 27), some (.int (nI o)), some (.int (sgX (sg g n p))), some (.int (nmI (sg g n p)))] [.int (nI p), .ref 27] (E X y)
              refine PW_iconst (v := 1) c_T_readOperand_77 (by decide) ?_
              refine PW_iadd c_T_readOperand_78 ?_
              refine PW_put (w2 := E (sI X 220 ((nI p) + 1)) y) c_T_readOperand_79 fp_T_readOperand_28 rfl (pf_27_4 _ _ _) ?_
              rw [nI_1 (p)]
              show PW _ _ _ 82 [some (.ref 27), some (.int (nI o)), some (.int (sgX (sg g n p))), some (.int (nmI (sg g n p)))] [] (E (sI X 220 (nI (p + 1))) y)
              refine PW_iload_n c_T_readOperand_82 rfl ?_
              refine PW_bipush (v := 40) c_T_readOperand_83 (by decide) ?_
              refine PW_icmp_ne c_T_readOperand_85 (fun h4 => absurd h4 (not_not_intro ((sgX_k (tpX_sg hT) (by decide) (k := 40)).mpr e))) (fun h4 => ?_)
              refine PW_aload_n c_T_readOperand_88 rfl ?_
              refine PW_iload_n c_T_readOperand_89 rfl ?_
              refine PW_iconst (v := 1) c_T_readOperand_90 (by decide) ?_
              refine PW_iadd c_T_readOperand_91 ?_
              rw [nI_1 o]
              show PW _ _ _ 92 [some (.ref 27), some (.int (nI o)), some (.int (sgX (sg g n p))), some (.int (nmI (sg g n p)))] [.int (nI (o + 1)), .ref 27] (E (sI X 220 (nI (p + 1))) y)
              refine PW_V0 (d2 := fu + 2 * (6 - o) + 1) (st := []) [.int (nI (o + 1))] c_T_readOperand_92 lk_T_readOperand_64 (po_27 _ _) rfl rfl rfl (Nat.le_of_ble_eq_true rfl) (by first | decide | omega) (Nat.le_of_ble_eq_true rfl) ?_
              show PW _ _ _ 0 [some (.ref 27), some (.int (nI (o + 1)))] [] (E (sI X 220 (nI (p + 1))) y)
              refine PW_aload_n c_T_readInner_0 rfl ?_
              refine PW_iconst (v := 0) c_T_readInner_1 (by decide) ?_
              refine PW_iload_n c_T_readInner_2 rfl ?_
              refine PW_V0 (d2 := fu + 2 * (6 - (o + 1)) + 2) (st := []) [.int 0, .int (nI (o + 1))] c_T_readInner_3 lk_T_readInner_39 (po_27 _ _) rfl rfl rfl (Nat.le_of_ble_eq_true rfl) (by first | decide | omega) (Nat.le_of_ble_eq_true rfl) ?_
              refine H0 ?_
              show PW _ _ _ 6 [some (.ref 27), some (.int (nI (o + 1)))] [.int (b2i ((pF g n fu 0 (o + 1) (p + 1)).1 = true))] (E X0 y)
              refine PW_if_eq c_T_readInner_6 (fun _ => ?_) (fun h5 => absurd (b2i_n0.mp h5) r0)
              refine PW_iconst (v := 0) c_T_readInner_18 (by decide) ?_
              refine PW_ireturn (ty := .boolean) c_T_readInner_19 rfl (by decide +kernel) ?_
              show PW _ _ _ 95 [some (.ref 27), some (.int (nI o)), some (.int (sgX (sg g n p))), some (.int (nmI (sg g n p)))] [.int 0] (E X0 y)
              refine PW_goto c_T_readOperand_95 ?_
              refine PW_ireturn (ty := .boolean) c_T_readOperand_106 rfl (by decide +kernel) ?_
              exact pq0 h (fun w => Bool.noConfusion w)
          · have n40 : ¬ sg g n p = 40 := by omega
            have n45 : ¬ sg g n p = 45 := by omega
            obtain ⟨X5, ⟨f5, p5, c5⟩, H5⟩ := ih5 (o + 1) (p + 1) k (sI X 220 (nI (p + 1))) (by omega) (by omega) (tpX_fr hT frT_p) rfl ((sI_n (by decide)).trans hs) hp2 (by omega)
            have w5 := pF_p (g := g) fu 5 (o + 1) (p + 1) hp2
            rw [if_neg (show ¬ sg g n p = 40 by omega)]
            by_cases r5 : (pF g n fu 5 (o + 1) (p + 1)).1 = true
            · obtain ⟨s5, v5, u5⟩ := c5 r5
              have z5 := (w5.2.2 r5).2.1
              have z6 := w5.2.1
              rw [if_pos r5]
              refine ⟨wrt X5 (k + (pF g n fu 5 (o + 1) (p + 1)).2.2.length) 33 0, ⟨frT_t (frT_t frT_p f5) frT_w, (show (wrt X5 _ _ _).1 220 = _ by rw [← p5]; exact sI_n (by decide)), fun _ => ⟨?_, ?_, ?_⟩⟩, fun {z post} h => ?_⟩
              · refine sI_s.trans ?_
                rw [List.length_append, List.length_singleton]
                exact congrArg nI (by omega)
              · rw [wrt_29, wrt_30, List.map_append, List.map_singleton]
                rw [show stX (if sg g n p = 45 then 4 else 3, 0) = (33, 0) from by rw [e]; rfl]
                exact wrA_snoc (by rw [List.length_map]) v5
              · rw [wrt_29, wrt_30]
                exact lowA_t u5 (lowA_u (Nat.le_refl (k + (pF g n fu 5 (o + 1) (p + 1)).2.2.length))) (by omega)
              · skip
                refine PW_aload_n c_T_readOperand_0 rfl ?_
                refine PW_V0 (d2 := 0) (st := []) [] c_T_readOperand_1 lk_T_readOperand_35 (po_27 _ _) rfl rfl rfl (Nat.le_of_ble_eq_true rfl) (by first | decide | omega) (Nat.le_of_ble_eq_true rfl) ?_
                refine sp_T_sign hT hp hpn ?_
                show PW _ _ _ 4 [some (.ref 27), some (.int (nI o)), none, none] [.int (sgX (sg g n p))] (E X y)
                refine PW_istore_n (i := 2) (L2 := [some (.ref 27), some (.int (nI o)), some (.int (sgX (sg g n p))), none]) c_T_readOperand_4 rfl (Nat.le_of_ble_eq_true rfl) rfl rfl ?_
                refine PW_iload_n c_T_readOperand_5 rfl ?_
                refine PW_S0 (d2 := 0) (st := []) [.int (sgX (sg g n p))] c_T_readOperand_6 lk_T_readOperand_55 rfl rfl rfl (Nat.le_of_ble_eq_true rfl) (by first | decide | omega) (Nat.le_of_ble_eq_true rfl) ?_
                refine sp_L_nameOf (tpX_sg hT) ?_
                show PW _ _ _ 9 [some (.ref 27), some (.int (nI o)), some (.int (sgX (sg g n p))), none] [.int (nmI (sg g n p))] (E X y)
                refine PW_istore_n (i := 3) (L2 := [some (.ref 27), some (.int (nI o)), some (.int (sgX (sg g n p))), some (.int (nmI (sg g n p)))]) c_T_readOperand_9 rfl (Nat.le_of_ble_eq_true rfl) rfl rfl ?_
                refine PW_iload_n c_T_readOperand_10 rfl ?_
                refine PW_if_lt c_T_readOperand_11 (fun h0 => ?_) (fun h0 => absurd (by rw [show nmI (sg g n p) = -1 from if_neg h1]; decide) h0)
                refine PW_iload_n c_T_readOperand_33 rfl ?_
                refine PW_S0 (d2 := 0) (st := []) [.int (sgX (sg g n p))] c_T_readOperand_34 lk_T_readOperand_58 rfl rfl rfl (Nat.le_of_ble_eq_true rfl) (by first | decide | omega) (Nat.le_of_ble_eq_true rfl) ?_
                refine sp_T_isDigit  ?_
                show PW _ _ _ 37 [some (.ref 27), some (.int (nI o)), some (.int (sgX (sg g n p))), some (.int (nmI (sg g n p)))] [.int (b2i (48 ≤ (sgX (sg g n p)) ∧ (sgX (sg g n p)) ≤ 57))] (E X y)
                refine PW_if_eq c_T_readOperand_37 (fun _ => ?_) (fun h1 => absurd (b2i_n0.mp h1) (fun w => h2 ((sgX_D (tpX_sg hT)).mp w)))
                refine PW_iload_n c_T_readOperand_46 rfl ?_
                refine PW_bipush (v := 40) c_T_readOperand_47 (by decide) ?_
                refine PW_icmp_eq c_T_readOperand_49 (fun h2 => absurd h2 (fun w => n40 ((sgX_k (tpX_sg hT) (by decide) (k := 40)).mp w))) (fun h2 => ?_)
                refine PW_iload_n c_T_readOperand_52 rfl ?_
                refine PW_bipush (v := 33) c_T_readOperand_53 (by decide) ?_
                refine PW_icmp_eq c_T_readOperand_55 (fun h3 => ?_) (fun h3 => absurd ((sgX_k (tpX_sg hT) (by decide) (k := 33)).mpr e) h3)
                refine PW_iload_n c_T_readOperand_64 rfl ?_
                refine PW_bipush (v := 6) c_T_readOperand_65 (by decide) ?_
                refine PW_icmp_lt c_T_readOperand_67 (fun h4 => ?_) (fun h4 => absurd ((nI_ltI (b := 6) (by omega) (by decide)).mpr (by omega)) h4)
                refine PW_aload_n c_T_readOperand_72 rfl ?_
                refine PW_dup c_T_readOperand_73 rfl ?_
                refine PW_get (v := .int (X.1 220)) c_T_readOperand_74 fl_T_28 (gf_27_4 _ _) ?_
                rw [hp]
                show PW _ _ _ 77 [some (.ref 27), some (.int (nI o)), some (.int (sgX (sg g n p))), some (.int (nmI (sg g n p)))] [.int (nI p), .ref 27] (E X y)
                refine PW_iconst (v := 1) c_T_readOperand_77 (by decide) ?_
                refine PW_iadd c_T_readOperand_78 ?_
                refine PW_put (w2 := E (sI X 220 ((nI p) + 1)) y) c_T_readOperand_79 fp_T_readOperand_28 rfl (pf_27_4 _ _ _) ?_
                rw [nI_1 (p)]
                show PW _ _ _ 82 [some (.ref 27), some (.int (nI o)), some (.int (sgX (sg g n p))), some (.int (nmI (sg g n p)))] [] (E (sI X 220 (nI (p + 1))) y)
                refine PW_iload_n c_T_readOperand_82 rfl ?_
                refine PW_bipush (v := 40) c_T_readOperand_83 (by decide) ?_
                refine PW_icmp_ne c_T_readOperand_85 (fun h5 => ?_) (fun h5 => absurd h5 (fun w => n40 ((sgX_k (tpX_sg hT) (by decide) (k := 40)).mp w)))
                refine PW_aload_n c_T_readOperand_98 rfl ?_
                refine PW_iload_n c_T_readOperand_99 rfl ?_
                refine PW_iload_n c_T_readOperand_100 rfl ?_
                refine PW_iconst (v := 1) c_T_readOperand_101 (by decide) ?_
                refine PW_iadd c_T_readOperand_102 ?_
                rw [nI_1 o]
                show PW _ _ _ 103 [some (.ref 27), some (.int (nI o)), some (.int (sgX (sg g n p))), some (.int (nmI (sg g n p)))] [.int (nI (o + 1)), .int (sgX (sg g n p)), .ref 27] (E (sI X 220 (nI (p + 1))) y)
                refine PW_V0 (d2 := fu + 2 * (6 - o) + 1) (st := []) [.int (sgX (sg g n p)), .int (nI (o + 1))] c_T_readOperand_103 lk_T_readOperand_67 (po_27 _ _) rfl rfl rfl (Nat.le_of_ble_eq_true rfl) (by first | decide | omega) (Nat.le_of_ble_eq_true rfl) ?_
                show PW _ _ _ 0 [some (.ref 27), some (.int (sgX (sg g n p))), some (.int (nI (o + 1)))] [] (E (sI X 220 (nI (p + 1))) y)
                refine PW_aload_n c_T_readPrefixed_0 rfl ?_
                refine PW_iload_n c_T_readPrefixed_1 rfl ?_
                refine PW_V0 (d2 := fu + 2 * (6 - (o + 1)) + 1) (st := []) [.int (nI (o + 1))] c_T_readPrefixed_2 lk_T_readPrefixed_47 (po_27 _ _) rfl rfl rfl (Nat.le_of_ble_eq_true rfl) (by first | decide | omega) (Nat.le_of_ble_eq_true rfl) ?_
                refine H5 ?_
                show PW _ _ _ 5 [some (.ref 27), some (.int (sgX (sg g n p))), some (.int (nI (o + 1)))] [.int (b2i ((pF g n fu 5 (o + 1) (p + 1)).1 = true))] (E X5 y)
                refine PW_if_ne c_T_readPrefixed_5 (fun _ => ?_) (fun h6 => absurd r5 (b2i_0.mp h6))
                refine PW_aload_n c_T_readPrefixed_10 rfl ?_
                refine PW_iload_n c_T_readPrefixed_11 rfl ?_
                refine PW_bipush (v := 45) c_T_readPrefixed_12 (by decide) ?_
                refine PW_icmp_ne c_T_readPrefixed_14 (fun h7 => ?_) (fun h7 => absurd h7 (fun w => n45 ((sgX_k (tpX_sg hT) (by decide) (k := 45)).mp w)))
                refine PW_iload_n c_T_readPrefixed_22 rfl ?_
                refine PW_iconst (v := 0) c_T_readPrefixed_23 (by decide) ?_
                refine PW_V0 (d2 := 0) (st := []) [.int (sgX (sg g n p)), .int 0] c_T_readPrefixed_24 lk_T_readPrefixed_43 (po_27 _ _) rfl rfl rfl (Nat.le_of_ble_eq_true rfl) (by first | decide | omega) (Nat.le_of_ble_eq_true rfl) ?_
                refine sp_T_write s5 (by omega) ?_
                show PW _ _ _ 27 [some (.ref 27), some (.int (sgX (sg g n p))), some (.int (nI (o + 1)))] [] (E (wrt X5 (k + (pF g n fu 5 (o + 1) (p + 1)).2.2.length) (sgX (sg g n p)) 0) y)
                refine PW_iconst (v := 1) c_T_readPrefixed_27 (by decide) ?_
                refine PW_ireturn (ty := .boolean) c_T_readPrefixed_28 rfl (by decide +kernel) ?_
                show PW _ _ _ 106 [some (.ref 27), some (.int (nI o)), some (.int (sgX (sg g n p))), some (.int (nmI (sg g n p)))] [.int 1] (E (wrt X5 (k + (pF g n fu 5 (o + 1) (p + 1)).2.2.length) (sgX (sg g n p)) 0) y)
                refine PW_ireturn (ty := .boolean) c_T_readOperand_106 rfl (by decide +kernel) ?_
                rw [show sgX (sg g n p) = 33 from ((sgX_k (tpX_sg hT) (by decide) (k := 33)).mpr e)]
                exact pq1 h rfl
            · rw [if_neg r5]
              refine ⟨X5, ⟨frT_t frT_p f5, p5, fun w => Bool.noConfusion w⟩, fun {z post} h => ?_⟩
              refine PW_aload_n c_T_readOperand_0 rfl ?_
              refine PW_V0 (d2 := 0) (st := []) [] c_T_readOperand_1 lk_T_readOperand_35 (po_27 _ _) rfl rfl rfl (Nat.le_of_ble_eq_true rfl) (by first | decide | omega) (Nat.le_of_ble_eq_true rfl) ?_
              refine sp_T_sign hT hp hpn ?_
              show PW _ _ _ 4 [some (.ref 27), some (.int (nI o)), none, none] [.int (sgX (sg g n p))] (E X y)
              refine PW_istore_n (i := 2) (L2 := [some (.ref 27), some (.int (nI o)), some (.int (sgX (sg g n p))), none]) c_T_readOperand_4 rfl (Nat.le_of_ble_eq_true rfl) rfl rfl ?_
              refine PW_iload_n c_T_readOperand_5 rfl ?_
              refine PW_S0 (d2 := 0) (st := []) [.int (sgX (sg g n p))] c_T_readOperand_6 lk_T_readOperand_55 rfl rfl rfl (Nat.le_of_ble_eq_true rfl) (by first | decide | omega) (Nat.le_of_ble_eq_true rfl) ?_
              refine sp_L_nameOf (tpX_sg hT) ?_
              show PW _ _ _ 9 [some (.ref 27), some (.int (nI o)), some (.int (sgX (sg g n p))), none] [.int (nmI (sg g n p))] (E X y)
              refine PW_istore_n (i := 3) (L2 := [some (.ref 27), some (.int (nI o)), some (.int (sgX (sg g n p))), some (.int (nmI (sg g n p)))]) c_T_readOperand_9 rfl (Nat.le_of_ble_eq_true rfl) rfl rfl ?_
              refine PW_iload_n c_T_readOperand_10 rfl ?_
              refine PW_if_lt c_T_readOperand_11 (fun h0 => ?_) (fun h0 => absurd (by rw [show nmI (sg g n p) = -1 from if_neg h1]; decide) h0)
              refine PW_iload_n c_T_readOperand_33 rfl ?_
              refine PW_S0 (d2 := 0) (st := []) [.int (sgX (sg g n p))] c_T_readOperand_34 lk_T_readOperand_58 rfl rfl rfl (Nat.le_of_ble_eq_true rfl) (by first | decide | omega) (Nat.le_of_ble_eq_true rfl) ?_
              refine sp_T_isDigit  ?_
              show PW _ _ _ 37 [some (.ref 27), some (.int (nI o)), some (.int (sgX (sg g n p))), some (.int (nmI (sg g n p)))] [.int (b2i (48 ≤ (sgX (sg g n p)) ∧ (sgX (sg g n p)) ≤ 57))] (E X y)
              refine PW_if_eq c_T_readOperand_37 (fun _ => ?_) (fun h1 => absurd (b2i_n0.mp h1) (fun w => h2 ((sgX_D (tpX_sg hT)).mp w)))
              refine PW_iload_n c_T_readOperand_46 rfl ?_
              refine PW_bipush (v := 40) c_T_readOperand_47 (by decide) ?_
              refine PW_icmp_eq c_T_readOperand_49 (fun h2 => absurd h2 (fun w => n40 ((sgX_k (tpX_sg hT) (by decide) (k := 40)).mp w))) (fun h2 => ?_)
              refine PW_iload_n c_T_readOperand_52 rfl ?_
              refine PW_bipush (v := 33) c_T_readOperand_53 (by decide) ?_
              refine PW_icmp_eq c_T_readOperand_55 (fun h3 => ?_) (fun h3 => absurd ((sgX_k (tpX_sg hT) (by decide) (k := 33)).mpr e) h3)
              refine PW_iload_n c_T_readOperand_64 rfl ?_
              refine PW_bipush (v := 6) c_T_readOperand_65 (by decide) ?_
              refine PW_icmp_lt c_T_readOperand_67 (fun h4 => ?_) (fun h4 => absurd ((nI_ltI (b := 6) (by omega) (by decide)).mpr (by omega)) h4)
              refine PW_aload_n c_T_readOperand_72 rfl ?_
              refine PW_dup c_T_readOperand_73 rfl ?_
              refine PW_get (v := .int (X.1 220)) c_T_readOperand_74 fl_T_28 (gf_27_4 _ _) ?_
              rw [hp]
              show PW _ _ _ 77 [some (.ref 27), some (.int (nI o)), some (.int (sgX (sg g n p))), some (.int (nmI (sg g n p)))] [.int (nI p), .ref 27] (E X y)
              refine PW_iconst (v := 1) c_T_readOperand_77 (by decide) ?_
              refine PW_iadd c_T_readOperand_78 ?_
              refine PW_put (w2 := E (sI X 220 ((nI p) + 1)) y) c_T_readOperand_79 fp_T_readOperand_28 rfl (pf_27_4 _ _ _) ?_
              rw [nI_1 (p)]
              show PW _ _ _ 82 [some (.ref 27), some (.int (nI o)), some (.int (sgX (sg g n p))), some (.int (nmI (sg g n p)))] [] (E (sI X 220 (nI (p + 1))) y)
              refine PW_iload_n c_T_readOperand_82 rfl ?_
              refine PW_bipush (v := 40) c_T_readOperand_83 (by decide) ?_
              refine PW_icmp_ne c_T_readOperand_85 (fun h5 => ?_) (fun h5 => absurd h5 (fun w => n40 ((sgX_k (tpX_sg hT) (by decide) (k := 40)).mp w)))
              refine PW_aload_n c_T_readOperand_98 rfl ?_
              refine PW_iload_n c_T_readOperand_99 rfl ?_
              refine PW_iload_n c_T_readOperand_100 rfl ?_
              refine PW_iconst (v := 1) c_T_readOperand_101 (by decide) ?_
              refine PW_iadd c_T_readOperand_102 ?_
              rw [nI_1 o]
              show PW _ _ _ 103 [some (.ref 27), some (.int (nI o)), some (.int (sgX (sg g n p))), some (.int (nmI (sg g n p)))] [.int (nI (o + 1)), .int (sgX (sg g n p)), .ref 27] (E (sI X 220 (nI (p + 1))) y)
              refine PW_V0 (d2 := fu + 2 * (6 - o) + 1) (st := []) [.int (sgX (sg g n p)), .int (nI (o + 1))] c_T_readOperand_103 lk_T_readOperand_67 (po_27 _ _) rfl rfl rfl (Nat.le_of_ble_eq_true rfl) (by first | decide | omega) (Nat.le_of_ble_eq_true rfl) ?_
              show PW _ _ _ 0 [some (.ref 27), some (.int (sgX (sg g n p))), some (.int (nI (o + 1)))] [] (E (sI X 220 (nI (p + 1))) y)
              refine PW_aload_n c_T_readPrefixed_0 rfl ?_
              refine PW_iload_n c_T_readPrefixed_1 rfl ?_
              refine PW_V0 (d2 := fu + 2 * (6 - (o + 1)) + 1) (st := []) [.int (nI (o + 1))] c_T_readPrefixed_2 lk_T_readPrefixed_47 (po_27 _ _) rfl rfl rfl (Nat.le_of_ble_eq_true rfl) (by first | decide | omega) (Nat.le_of_ble_eq_true rfl) ?_
              refine H5 ?_
              show PW _ _ _ 5 [some (.ref 27), some (.int (sgX (sg g n p))), some (.int (nI (o + 1)))] [.int (b2i ((pF g n fu 5 (o + 1) (p + 1)).1 = true))] (E X5 y)
              refine PW_if_ne c_T_readPrefixed_5 (fun h6 => absurd (b2i_n0.mp h6) r5) (fun _ => ?_)
              refine PW_iconst (v := 0) c_T_readPrefixed_8 (by decide) ?_
              refine PW_ireturn (ty := .boolean) c_T_readPrefixed_9 rfl (by decide +kernel) ?_
              show PW _ _ _ 106 [some (.ref 27), some (.int (nI o)), some (.int (sgX (sg g n p))), some (.int (nmI (sg g n p)))] [.int 0] (E X5 y)
              refine PW_ireturn (ty := .boolean) c_T_readOperand_106 rfl (by decide +kernel) ?_
              exact pq0 h (fun w => Bool.noConfusion w)
          · have n40 : ¬ sg g n p = 40 := by omega
            have n33 : ¬ sg g n p = 33 := by omega
            obtain ⟨X5, ⟨f5, p5, c5⟩, H5⟩ := ih5 (o + 1) (p + 1) k (sI X 220 (nI (p + 1))) (by omega) (by omega) (tpX_fr hT frT_p) rfl ((sI_n (by decide)).trans hs) hp2 (by omega)
            have w5 := pF_p (g := g) fu 5 (o + 1) (p + 1) hp2
            rw [if_neg (show ¬ sg g n p = 40 by omega)]
            by_cases r5 : (pF g n fu 5 (o + 1) (p + 1)).1 = true
            · obtain ⟨s5, v5, u5⟩ := c5 r5
              have z5 := (w5.2.2 r5).2.1
              have z6 := w5.2.1
              rw [if_pos r5]
              refine ⟨wrt X5 (k + (pF g n fu 5 (o + 1) (p + 1)).2.2.length) 126 0, ⟨frT_t (frT_t frT_p f5) frT_w, (show (wrt X5 _ _ _).1 220 = _ by rw [← p5]; exact sI_n (by decide)), fun _ => ⟨?_, ?_, ?_⟩⟩, fun {z post} h => ?_⟩
              · refine sI_s.trans ?_
                rw [List.length_append, List.length_singleton]
                exact congrArg nI (by omega)
              · rw [wrt_29, wrt_30, List.map_append, List.map_singleton]
                rw [show stX (if sg g n p = 45 then 4 else 3, 0) = (126, 0) from by rw [e]; rfl]
                exact wrA_snoc (by rw [List.length_map]) v5
              · rw [wrt_29, wrt_30]
                exact lowA_t u5 (lowA_u (Nat.le_refl (k + (pF g n fu 5 (o + 1) (p + 1)).2.2.length))) (by omega)
              · skip
                refine PW_aload_n c_T_readOperand_0 rfl ?_
                refine PW_V0 (d2 := 0) (st := []) [] c_T_readOperand_1 lk_T_readOperand_35 (po_27 _ _) rfl rfl rfl (Nat.le_of_ble_eq_true rfl) (by first | decide | omega) (Nat.le_of_ble_eq_true rfl) ?_
                refine sp_T_sign hT hp hpn ?_
                show PW _ _ _ 4 [some (.ref 27), some (.int (nI o)), none, none] [.int (sgX (sg g n p))] (E X y)
                refine PW_istore_n (i := 2) (L2 := [some (.ref 27), some (.int (nI o)), some (.int (sgX (sg g n p))), none]) c_T_readOperand_4 rfl (Nat.le_of_ble_eq_true rfl) rfl rfl ?_
                refine PW_iload_n c_T_readOperand_5 rfl ?_
                refine PW_S0 (d2 := 0) (st := []) [.int (sgX (sg g n p))] c_T_readOperand_6 lk_T_readOperand_55 rfl rfl rfl (Nat.le_of_ble_eq_true rfl) (by first | decide | omega) (Nat.le_of_ble_eq_true rfl) ?_
                refine sp_L_nameOf (tpX_sg hT) ?_
                show PW _ _ _ 9 [some (.ref 27), some (.int (nI o)), some (.int (sgX (sg g n p))), none] [.int (nmI (sg g n p))] (E X y)
                refine PW_istore_n (i := 3) (L2 := [some (.ref 27), some (.int (nI o)), some (.int (sgX (sg g n p))), some (.int (nmI (sg g n p)))]) c_T_readOperand_9 rfl (Nat.le_of_ble_eq_true rfl) rfl rfl ?_
                refine PW_iload_n c_T_readOperand_10 rfl ?_
                refine PW_if_lt c_T_readOperand_11 (fun h0 => ?_) (fun h0 => absurd (by rw [show nmI (sg g n p) = -1 from if_neg h1]; decide) h0)
                refine PW_iload_n c_T_readOperand_33 rfl ?_
                refine PW_S0 (d2 := 0) (st := []) [.int (sgX (sg g n p))] c_T_readOperand_34 lk_T_readOperand_58 rfl rfl rfl (Nat.le_of_ble_eq_true rfl) (by first | decide | omega) (Nat.le_of_ble_eq_true rfl) ?_
                refine sp_T_isDigit  ?_
                show PW _ _ _ 37 [some (.ref 27), some (.int (nI o)), some (.int (sgX (sg g n p))), some (.int (nmI (sg g n p)))] [.int (b2i (48 ≤ (sgX (sg g n p)) ∧ (sgX (sg g n p)) ≤ 57))] (E X y)
                refine PW_if_eq c_T_readOperand_37 (fun _ => ?_) (fun h1 => absurd (b2i_n0.mp h1) (fun w => h2 ((sgX_D (tpX_sg hT)).mp w)))
                refine PW_iload_n c_T_readOperand_46 rfl ?_
                refine PW_bipush (v := 40) c_T_readOperand_47 (by decide) ?_
                refine PW_icmp_eq c_T_readOperand_49 (fun h2 => absurd h2 (fun w => n40 ((sgX_k (tpX_sg hT) (by decide) (k := 40)).mp w))) (fun h2 => ?_)
                refine PW_iload_n c_T_readOperand_52 rfl ?_
                refine PW_bipush (v := 33) c_T_readOperand_53 (by decide) ?_
                refine PW_icmp_eq c_T_readOperand_55 (fun h3 => absurd h3 (fun w => n33 ((sgX_k (tpX_sg hT) (by decide) (k := 33)).mp w))) (fun h3 => ?_)
                refine PW_iload_n c_T_readOperand_58 rfl ?_
                refine PW_bipush (v := 45) c_T_readOperand_59 (by decide) ?_
                refine PW_icmp_ne c_T_readOperand_61 (fun h4 => absurd h4 (not_not_intro ((sgX_k (tpX_sg hT) (by decide) (k := 45)).mpr e))) (fun h4 => ?_)
                refine PW_iload_n c_T_readOperand_64 rfl ?_
                refine PW_bipush (v := 6) c_T_readOperand_65 (by decide) ?_
                refine PW_icmp_lt c_T_readOperand_67 (fun h5 => ?_) (fun h5 => absurd ((nI_ltI (b := 6) (by omega) (by decide)).mpr (by omega)) h5)
                refine PW_aload_n c_T_readOperand_72 rfl ?_
                refine PW_dup c_T_readOperand_73 rfl ?_
                refine PW_get (v := .int (X.1 220)) c_T_readOperand_74 fl_T_28 (gf_27_4 _ _) ?_
                rw [hp]
                show PW _ _ _ 77 [some (.ref 27), some (.int (nI o)), some (.int (sgX (sg g n p))), some (.int (nmI (sg g n p)))] [.int (nI p), .ref 27] (E X y)
                refine PW_iconst (v := 1) c_T_readOperand_77 (by decide) ?_
                refine PW_iadd c_T_readOperand_78 ?_
                refine PW_put (w2 := E (sI X 220 ((nI p) + 1)) y) c_T_readOperand_79 fp_T_readOperand_28 rfl (pf_27_4 _ _ _) ?_
                rw [nI_1 (p)]
                show PW _ _ _ 82 [some (.ref 27), some (.int (nI o)), some (.int (sgX (sg g n p))), some (.int (nmI (sg g n p)))] [] (E (sI X 220 (nI (p + 1))) y)
                refine PW_iload_n c_T_readOperand_82 rfl ?_
                refine PW_bipush (v := 40) c_T_readOperand_83 (by decide) ?_
                refine PW_icmp_ne c_T_readOperand_85 (fun h6 => ?_) (fun h6 => absurd h6 (fun w => n40 ((sgX_k (tpX_sg hT) (by decide) (k := 40)).mp w)))
                refine PW_aload_n c_T_readOperand_98 rfl ?_
                refine PW_iload_n c_T_readOperand_99 rfl ?_
                refine PW_iload_n c_T_readOperand_100 rfl ?_
                refine PW_iconst (v := 1) c_T_readOperand_101 (by decide) ?_
                refine PW_iadd c_T_readOperand_102 ?_
                rw [nI_1 o]
                show PW _ _ _ 103 [some (.ref 27), some (.int (nI o)), some (.int (sgX (sg g n p))), some (.int (nmI (sg g n p)))] [.int (nI (o + 1)), .int (sgX (sg g n p)), .ref 27] (E (sI X 220 (nI (p + 1))) y)
                refine PW_V0 (d2 := fu + 2 * (6 - o) + 1) (st := []) [.int (sgX (sg g n p)), .int (nI (o + 1))] c_T_readOperand_103 lk_T_readOperand_67 (po_27 _ _) rfl rfl rfl (Nat.le_of_ble_eq_true rfl) (by first | decide | omega) (Nat.le_of_ble_eq_true rfl) ?_
                show PW _ _ _ 0 [some (.ref 27), some (.int (sgX (sg g n p))), some (.int (nI (o + 1)))] [] (E (sI X 220 (nI (p + 1))) y)
                refine PW_aload_n c_T_readPrefixed_0 rfl ?_
                refine PW_iload_n c_T_readPrefixed_1 rfl ?_
                refine PW_V0 (d2 := fu + 2 * (6 - (o + 1)) + 1) (st := []) [.int (nI (o + 1))] c_T_readPrefixed_2 lk_T_readPrefixed_47 (po_27 _ _) rfl rfl rfl (Nat.le_of_ble_eq_true rfl) (by first | decide | omega) (Nat.le_of_ble_eq_true rfl) ?_
                refine H5 ?_
                show PW _ _ _ 5 [some (.ref 27), some (.int (sgX (sg g n p))), some (.int (nI (o + 1)))] [.int (b2i ((pF g n fu 5 (o + 1) (p + 1)).1 = true))] (E X5 y)
                refine PW_if_ne c_T_readPrefixed_5 (fun _ => ?_) (fun h7 => absurd r5 (b2i_0.mp h7))
                refine PW_aload_n c_T_readPrefixed_10 rfl ?_
                refine PW_iload_n c_T_readPrefixed_11 rfl ?_
                refine PW_bipush (v := 45) c_T_readPrefixed_12 (by decide) ?_
                refine PW_icmp_ne c_T_readPrefixed_14 (fun h8 => absurd h8 (not_not_intro ((sgX_k (tpX_sg hT) (by decide) (k := 45)).mpr e))) (fun h8 => ?_)
                refine PW_bipush (v := 126) c_T_readPrefixed_17 (by decide) ?_
                refine PW_goto c_T_readPrefixed_19 ?_
                refine PW_iconst (v := 0) c_T_readPrefixed_23 (by decide) ?_
                refine PW_V0 (d2 := 0) (st := []) [.int 126, .int 0] c_T_readPrefixed_24 lk_T_readPrefixed_43 (po_27 _ _) rfl rfl rfl (Nat.le_of_ble_eq_true rfl) (by first | decide | omega) (Nat.le_of_ble_eq_true rfl) ?_
                refine sp_T_write s5 (by omega) ?_
                show PW _ _ _ 27 [some (.ref 27), some (.int (sgX (sg g n p))), some (.int (nI (o + 1)))] [] (E (wrt X5 (k + (pF g n fu 5 (o + 1) (p + 1)).2.2.length) (126) 0) y)
                refine PW_iconst (v := 1) c_T_readPrefixed_27 (by decide) ?_
                refine PW_ireturn (ty := .boolean) c_T_readPrefixed_28 rfl (by decide +kernel) ?_
                show PW _ _ _ 106 [some (.ref 27), some (.int (nI o)), some (.int (sgX (sg g n p))), some (.int (nmI (sg g n p)))] [.int 1] (E (wrt X5 (k + (pF g n fu 5 (o + 1) (p + 1)).2.2.length) (126) 0) y)
                refine PW_ireturn (ty := .boolean) c_T_readOperand_106 rfl (by decide +kernel) ?_
                exact pq1 h rfl
            · rw [if_neg r5]
              refine ⟨X5, ⟨frT_t frT_p f5, p5, fun w => Bool.noConfusion w⟩, fun {z post} h => ?_⟩
              refine PW_aload_n c_T_readOperand_0 rfl ?_
              refine PW_V0 (d2 := 0) (st := []) [] c_T_readOperand_1 lk_T_readOperand_35 (po_27 _ _) rfl rfl rfl (Nat.le_of_ble_eq_true rfl) (by first | decide | omega) (Nat.le_of_ble_eq_true rfl) ?_
              refine sp_T_sign hT hp hpn ?_
              show PW _ _ _ 4 [some (.ref 27), some (.int (nI o)), none, none] [.int (sgX (sg g n p))] (E X y)
              refine PW_istore_n (i := 2) (L2 := [some (.ref 27), some (.int (nI o)), some (.int (sgX (sg g n p))), none]) c_T_readOperand_4 rfl (Nat.le_of_ble_eq_true rfl) rfl rfl ?_
              refine PW_iload_n c_T_readOperand_5 rfl ?_
              refine PW_S0 (d2 := 0) (st := []) [.int (sgX (sg g n p))] c_T_readOperand_6 lk_T_readOperand_55 rfl rfl rfl (Nat.le_of_ble_eq_true rfl) (by first | decide | omega) (Nat.le_of_ble_eq_true rfl) ?_
              refine sp_L_nameOf (tpX_sg hT) ?_
              show PW _ _ _ 9 [some (.ref 27), some (.int (nI o)), some (.int (sgX (sg g n p))), none] [.int (nmI (sg g n p))] (E X y)
              refine PW_istore_n (i := 3) (L2 := [some (.ref 27), some (.int (nI o)), some (.int (sgX (sg g n p))), some (.int (nmI (sg g n p)))]) c_T_readOperand_9 rfl (Nat.le_of_ble_eq_true rfl) rfl rfl ?_
              refine PW_iload_n c_T_readOperand_10 rfl ?_
              refine PW_if_lt c_T_readOperand_11 (fun h0 => ?_) (fun h0 => absurd (by rw [show nmI (sg g n p) = -1 from if_neg h1]; decide) h0)
              refine PW_iload_n c_T_readOperand_33 rfl ?_
              refine PW_S0 (d2 := 0) (st := []) [.int (sgX (sg g n p))] c_T_readOperand_34 lk_T_readOperand_58 rfl rfl rfl (Nat.le_of_ble_eq_true rfl) (by first | decide | omega) (Nat.le_of_ble_eq_true rfl) ?_
              refine sp_T_isDigit  ?_
              show PW _ _ _ 37 [some (.ref 27), some (.int (nI o)), some (.int (sgX (sg g n p))), some (.int (nmI (sg g n p)))] [.int (b2i (48 ≤ (sgX (sg g n p)) ∧ (sgX (sg g n p)) ≤ 57))] (E X y)
              refine PW_if_eq c_T_readOperand_37 (fun _ => ?_) (fun h1 => absurd (b2i_n0.mp h1) (fun w => h2 ((sgX_D (tpX_sg hT)).mp w)))
              refine PW_iload_n c_T_readOperand_46 rfl ?_
              refine PW_bipush (v := 40) c_T_readOperand_47 (by decide) ?_
              refine PW_icmp_eq c_T_readOperand_49 (fun h2 => absurd h2 (fun w => n40 ((sgX_k (tpX_sg hT) (by decide) (k := 40)).mp w))) (fun h2 => ?_)
              refine PW_iload_n c_T_readOperand_52 rfl ?_
              refine PW_bipush (v := 33) c_T_readOperand_53 (by decide) ?_
              refine PW_icmp_eq c_T_readOperand_55 (fun h3 => absurd h3 (fun w => n33 ((sgX_k (tpX_sg hT) (by decide) (k := 33)).mp w))) (fun h3 => ?_)
              refine PW_iload_n c_T_readOperand_58 rfl ?_
              refine PW_bipush (v := 45) c_T_readOperand_59 (by decide) ?_
              refine PW_icmp_ne c_T_readOperand_61 (fun h4 => absurd h4 (not_not_intro ((sgX_k (tpX_sg hT) (by decide) (k := 45)).mpr e))) (fun h4 => ?_)
              refine PW_iload_n c_T_readOperand_64 rfl ?_
              refine PW_bipush (v := 6) c_T_readOperand_65 (by decide) ?_
              refine PW_icmp_lt c_T_readOperand_67 (fun h5 => ?_) (fun h5 => absurd ((nI_ltI (b := 6) (by omega) (by decide)).mpr (by omega)) h5)
              refine PW_aload_n c_T_readOperand_72 rfl ?_
              refine PW_dup c_T_readOperand_73 rfl ?_
              refine PW_get (v := .int (X.1 220)) c_T_readOperand_74 fl_T_28 (gf_27_4 _ _) ?_
              rw [hp]
              show PW _ _ _ 77 [some (.ref 27), some (.int (nI o)), some (.int (sgX (sg g n p))), some (.int (nmI (sg g n p)))] [.int (nI p), .ref 27] (E X y)
              refine PW_iconst (v := 1) c_T_readOperand_77 (by decide) ?_
              refine PW_iadd c_T_readOperand_78 ?_
              refine PW_put (w2 := E (sI X 220 ((nI p) + 1)) y) c_T_readOperand_79 fp_T_readOperand_28 rfl (pf_27_4 _ _ _) ?_
              rw [nI_1 (p)]
              show PW _ _ _ 82 [some (.ref 27), some (.int (nI o)), some (.int (sgX (sg g n p))), some (.int (nmI (sg g n p)))] [] (E (sI X 220 (nI (p + 1))) y)
              refine PW_iload_n c_T_readOperand_82 rfl ?_
              refine PW_bipush (v := 40) c_T_readOperand_83 (by decide) ?_
              refine PW_icmp_ne c_T_readOperand_85 (fun h6 => ?_) (fun h6 => absurd h6 (fun w => n40 ((sgX_k (tpX_sg hT) (by decide) (k := 40)).mp w)))
              refine PW_aload_n c_T_readOperand_98 rfl ?_
              refine PW_iload_n c_T_readOperand_99 rfl ?_
              refine PW_iload_n c_T_readOperand_100 rfl ?_
              refine PW_iconst (v := 1) c_T_readOperand_101 (by decide) ?_
              refine PW_iadd c_T_readOperand_102 ?_
              rw [nI_1 o]
              show PW _ _ _ 103 [some (.ref 27), some (.int (nI o)), some (.int (sgX (sg g n p))), some (.int (nmI (sg g n p)))] [.int (nI (o + 1)), .int (sgX (sg g n p)), .ref 27] (E (sI X 220 (nI (p + 1))) y)
              refine PW_V0 (d2 := fu + 2 * (6 - o) + 1) (st := []) [.int (sgX (sg g n p)), .int (nI (o + 1))] c_T_readOperand_103 lk_T_readOperand_67 (po_27 _ _) rfl rfl rfl (Nat.le_of_ble_eq_true rfl) (by first | decide | omega) (Nat.le_of_ble_eq_true rfl) ?_
              show PW _ _ _ 0 [some (.ref 27), some (.int (sgX (sg g n p))), some (.int (nI (o + 1)))] [] (E (sI X 220 (nI (p + 1))) y)
              refine PW_aload_n c_T_readPrefixed_0 rfl ?_
              refine PW_iload_n c_T_readPrefixed_1 rfl ?_
              refine PW_V0 (d2 := fu + 2 * (6 - (o + 1)) + 1) (st := []) [.int (nI (o + 1))] c_T_readPrefixed_2 lk_T_readPrefixed_47 (po_27 _ _) rfl rfl rfl (Nat.le_of_ble_eq_true rfl) (by first | decide | omega) (Nat.le_of_ble_eq_true rfl) ?_
              refine H5 ?_
              show PW _ _ _ 5 [some (.ref 27), some (.int (sgX (sg g n p))), some (.int (nI (o + 1)))] [.int (b2i ((pF g n fu 5 (o + 1) (p + 1)).1 = true))] (E X5 y)
              refine PW_if_ne c_T_readPrefixed_5 (fun h7 => absurd (b2i_n0.mp h7) r5) (fun _ => ?_)
              refine PW_iconst (v := 0) c_T_readPrefixed_8 (by decide) ?_
              refine PW_ireturn (ty := .boolean) c_T_readPrefixed_9 rfl (by decide +kernel) ?_
              show PW _ _ _ 106 [some (.ref 27), some (.int (nI o)), some (.int (sgX (sg g n p))), some (.int (nmI (sg g n p)))] [.int 0] (E X5 y)
              refine PW_ireturn (ty := .boolean) c_T_readOperand_106 rfl (by decide +kernel) ?_
              exact pq0 h (fun w => Bool.noConfusion w)
        · rw [if_pos (fun w => h6 w.2)]
          refine ⟨X, ⟨frT_0 X, hp, fun w => Bool.noConfusion w⟩, fun {z post} h => ?_⟩
          rcases h3 with e | e | e
          · skip
            refine PW_aload_n c_T_readOperand_0 rfl ?_
            refine PW_V0 (d2 := 0) (st := []) [] c_T_readOperand_1 lk_T_readOperand_35 (po_27 _ _) rfl rfl rfl (Nat.le_of_ble_eq_true rfl) (by first | decide | omega) (Nat.le_of_ble_eq_true rfl) ?_
            refine sp_T_sign hT hp hpn ?_
            show PW _ _ _ 4 [some (.ref 27), some (.int (nI o)), none, none] [.int (sgX (sg g n p))] (E X y)
            refine PW_istore_n (i := 2) (L2 := [some (.ref 27), some (.int (nI o)), some (.int (sgX (sg g n p))), none]) c_T_readOperand_4 rfl (Nat.le_of_ble_eq_true rfl) rfl rfl ?_
            refine PW_iload_n c_T_readOperand_5 rfl ?_
            refine PW_S0 (d2 := 0) (st := []) [.int (sgX (sg g n p))] c_T_readOperand_6 lk_T_readOperand_55 rfl rfl rfl (Nat.le_of_ble_eq_true rfl) (by first | decide | omega) (Nat.le_of_ble_eq_true rfl) ?_
            refine sp_L_nameOf (tpX_sg hT) ?_
            show PW _ _ _ 9 [some (.ref 27), some (.int (nI o)), some (.int (sgX (sg g n p))), none] [.int (nmI (sg g n p))] (E X y)
            refine PW_istore_n (i := 3) (L2 := [some (.ref 27), some (.int (nI o)), some (.int (sgX (sg g n p))), some (.int (nmI (sg g n p)))]) c_T_readOperand_9 rfl (Nat.le_of_ble_eq_true rfl) rfl rfl ?_
            refine PW_iload_n c_T_readOperand_10 rfl ?_
            refine PW_if_lt c_T_readOperand_11 (fun h0 => ?_) (fun h0 => absurd (by rw [show nmI (sg g n p) = -1 from if_neg h1]; decide) h0)
            refine PW_iload_n c_T_readOperand_33 rfl ?_
            refine PW_S0 (d2 := 0) (st := []) [.int (sgX (sg g n p))] c_T_readOperand_34 lk_T_readOperand_58 rfl rfl rfl (Nat.le_of_ble_eq_true rfl) (by first | decide | omega) (Nat.le_of_ble_eq_true rfl) ?_
            refine sp_T_isDigit  ?_
            show PW _ _ _ 37 [some (.ref 27), some (.int (nI o)), some (.int (sgX (sg g n p))), some (.int (nmI (sg g n p)))] [.int (b2i (48 ≤ (sgX (sg g n p)) ∧ (sgX (sg g n p)) ≤ 57))] (E X y)
            refine PW_if_eq c_T_readOperand_37 (fun _ => ?_) (fun h1 => absurd (b2i_n0.mp h1) (fun w => h2 ((sgX_D (tpX_sg hT)).mp w)))
            refine PW_iload_n c_T_readOperand_46 rfl ?_
            refine PW_bipush (v := 40) c_T_readOperand_47 (by decide) ?_
            refine PW_icmp_eq c_T_readOperand_49 (fun h2 => ?_) (fun h2 => absurd ((sgX_k (tpX_sg hT) (by decide) (k := 40)).mpr e) h2)
            refine PW_iload_n c_T_readOperand_64 rfl ?_
            refine PW_bipush (v := 6) c_T_readOperand_65 (by decide) ?_
            refine PW_icmp_lt c_T_readOperand_67 (fun h3 => absurd h3 (fun w => absurd ((nI_ltI (b := 6) (by omega) (by decide)).mp w) (by omega))) (fun h3 => ?_)
            refine PW_iconst (v := 0) c_T_readOperand_70 (by decide) ?_
            refine PW_ireturn (ty := .boolean) c_T_readOperand_71 rfl (by decide +kernel) ?_
            exact pq0 h (fun w => Bool.noConfusion w)
          · have n40 : ¬ sg g n p = 40 := by omega
            refine PW_aload_n c_T_readOperand_0 rfl ?_
            refine PW_V0 (d2 := 0) (st := []) [] c_T_readOperand_1 lk_T_readOperand_35 (po_27 _ _) rfl rfl rfl (Nat.le_of_ble_eq_true rfl) (by first | decide | omega) (Nat.le_of_ble_eq_true rfl) ?_
            refine sp_T_sign hT hp hpn ?_
            show PW _ _ _ 4 [some (.ref 27), some (.int (nI o)), none, none] [.int (sgX (sg g n p))] (E X y)
            refine PW_istore_n (i := 2) (L2 := [some (.ref 27), some (.int (nI o)), some (.int (sgX (sg g n p))), none]) c_T_readOperand_4 rfl (Nat.le_of_ble_eq_true rfl) rfl rfl ?_
            refine PW_iload_n c_T_readOperand_5 rfl ?_
            refine PW_S0 (d2 := 0) (st := []) [.int (sgX (sg g n p))] c_T_readOperand_6 lk_T_readOperand_55 rfl rfl rfl (Nat.le_of_ble_eq_true rfl) (by first | decide | omega) (Nat.le_of_ble_eq_true rfl) ?_
            refine sp_L_nameOf (tpX_sg hT) ?_
            show PW _ _ _ 9 [some (.ref 27), some (.int (nI o)), some (.int (sgX (sg g n p))), none] [.int (nmI (sg g n p))] (E X y)
            refine PW_istore_n (i := 3) (L2 := [some (.ref 27), some (.int (nI o)), some (.int (sgX (sg g n p))), some (.int (nmI (sg g n p)))]) c_T_readOperand_9 rfl (Nat.le_of_ble_eq_true rfl) rfl rfl ?_
            refine PW_iload_n c_T_readOperand_10 rfl ?_
            refine PW_if_lt c_T_readOperand_11 (fun h0 => ?_) (fun h0 => absurd (by rw [show nmI (sg g n p) = -1 from if_neg h1]; decide) h0)
            refine PW_iload_n c_T_readOperand_33 rfl ?_
            refine PW_S0 (d2 := 0) (st := []) [.int (sgX (sg g n p))] c_T_readOperand_34 lk_T_readOperand_58 rfl rfl rfl (Nat.le_of_ble_eq_true rfl) (by first | decide | omega) (Nat.le_of_ble_eq_true rfl) ?_
            refine sp_T_isDigit  ?_
            show PW _ _ _ 37 [some (.ref 27), some (.int (nI o)), some (.int (sgX (sg g n p))), some (.int (nmI (sg g n p)))] [.int (b2i (48 ≤ (sgX (sg g n p)) ∧ (sgX (sg g n p)) ≤ 57))] (E X y)
            refine PW_if_eq c_T_readOperand_37 (fun _ => ?_) (fun h1 => absurd (b2i_n0.mp h1) (fun w => h2 ((sgX_D (tpX_sg hT)).mp w)))
            refine PW_iload_n c_T_readOperand_46 rfl ?_
            refine PW_bipush (v := 40) c_T_readOperand_47 (by decide) ?_
            refine PW_icmp_eq c_T_readOperand_49 (fun h2 => absurd h2 (fun w => n40 ((sgX_k (tpX_sg hT) (by decide) (k := 40)).mp w))) (fun h2 => ?_)
            refine PW_iload_n c_T_readOperand_52 rfl ?_
            refine PW_bipush (v := 33) c_T_readOperand_53 (by decide) ?_
            refine PW_icmp_eq c_T_readOperand_55 (fun h3 => ?_) (fun h3 => absurd ((sgX_k (tpX_sg hT) (by decide) (k := 33)).mpr e) h3)
            refine PW_iload_n c_T_readOperand_64 rfl ?_
            refine PW_bipush (v := 6) c_T_readOperand_65 (by decide) ?_
            refine PW_icmp_lt c_T_readOperand_67 (fun h4 => absurd h4 (fun w => absurd ((nI_ltI (b := 6) (by omega) (by decide)).mp w) (by omega))) (fun h4 => ?_)
            refine PW_iconst (v := 0) c_T_readOperand_70 (by decide) ?_
            refine PW_ireturn (ty := .boolean) c_T_readOperand_71 rfl (by decide +kernel) ?_
            exact pq0 h (fun w => Bool.noConfusion w)
          · have n40 : ¬ sg g n p = 40 := by omega
            have n33 : ¬ sg g n p = 33 := by omega
            refine PW_aload_n c_T_readOperand_0 rfl ?_
            refine PW_V0 (d2 := 0) (st := []) [] c_T_readOperand_1 lk_T_readOperand_35 (po_27 _ _) rfl rfl rfl (Nat.le_of_ble_eq_true rfl) (by first | decide | omega) (Nat.le_of_ble_eq_true rfl) ?_
            refine sp_T_sign hT hp hpn ?_
            show PW _ _ _ 4 [some (.ref 27), some (.int (nI o)), none, none] [.int (sgX (sg g n p))] (E X y)
            refine PW_istore_n (i := 2) (L2 := [some (.ref 27), some (.int (nI o)), some (.int (sgX (sg g n p))), none]) c_T_readOperand_4 rfl (Nat.le_of_ble_eq_true rfl) rfl rfl ?_
            refine PW_iload_n c_T_readOperand_5 rfl ?_
            refine PW_S0 (d2 := 0) (st := []) [.int (sgX (sg g n p))] c_T_readOperand_6 lk_T_readOperand_55 rfl rfl rfl (Nat.le_of_ble_eq_true rfl) (by first | decide | omega) (Nat.le_of_ble_eq_true rfl) ?_
            refine sp_L_nameOf (tpX_sg hT) ?_
            show PW _ _ _ 9 [some (.ref 27), some (.int (nI o)), some (.int (sgX (sg g n p))), none] [.int (nmI (sg g n p))] (E X y)
            refine PW_istore_n (i := 3) (L2 := [some (.ref 27), some (.int (nI o)), some (.int (sgX (sg g n p))), some (.int (nmI (sg g n p)))]) c_T_readOperand_9 rfl (Nat.le_of_ble_eq_true rfl) rfl rfl ?_
            refine PW_iload_n c_T_readOperand_10 rfl ?_
            refine PW_if_lt c_T_readOperand_11 (fun h0 => ?_) (fun h0 => absurd (by rw [show nmI (sg g n p) = -1 from if_neg h1]; decide) h0)
            refine PW_iload_n c_T_readOperand_33 rfl ?_
            refine PW_S0 (d2 := 0) (st := []) [.int (sgX (sg g n p))] c_T_readOperand_34 lk_T_readOperand_58 rfl rfl rfl (Nat.le_of_ble_eq_true rfl) (by first | decide | omega) (Nat.le_of_ble_eq_true rfl) ?_
            refine sp_T_isDigit  ?_
            show PW _ _ _ 37 [some (.ref 27), some (.int (nI o)), some (.int (sgX (sg g n p))), some (.int (nmI (sg g n p)))] [.int (b2i (48 ≤ (sgX (sg g n p)) ∧ (sgX (sg g n p)) ≤ 57))] (E X y)
            refine PW_if_eq c_T_readOperand_37 (fun _ => ?_) (fun h1 => absurd (b2i_n0.mp h1) (fun w => h2 ((sgX_D (tpX_sg hT)).mp w)))
            refine PW_iload_n c_T_readOperand_46 rfl ?_
            refine PW_bipush (v := 40) c_T_readOperand_47 (by decide) ?_
            refine PW_icmp_eq c_T_readOperand_49 (fun h2 => absurd h2 (fun w => n40 ((sgX_k (tpX_sg hT) (by decide) (k := 40)).mp w))) (fun h2 => ?_)
            refine PW_iload_n c_T_readOperand_52 rfl ?_
            refine PW_bipush (v := 33) c_T_readOperand_53 (by decide) ?_
            refine PW_icmp_eq c_T_readOperand_55 (fun h3 => absurd h3 (fun w => n33 ((sgX_k (tpX_sg hT) (by decide) (k := 33)).mp w))) (fun h3 => ?_)
            refine PW_iload_n c_T_readOperand_58 rfl ?_
            refine PW_bipush (v := 45) c_T_readOperand_59 (by decide) ?_
            refine PW_icmp_ne c_T_readOperand_61 (fun h4 => absurd h4 (not_not_intro ((sgX_k (tpX_sg hT) (by decide) (k := 45)).mpr e))) (fun h4 => ?_)
            refine PW_iload_n c_T_readOperand_64 rfl ?_
            refine PW_bipush (v := 6) c_T_readOperand_65 (by decide) ?_
            refine PW_icmp_lt c_T_readOperand_67 (fun h5 => absurd h5 (fun w => absurd ((nI_ltI (b := 6) (by omega) (by decide)).mp w) (by omega))) (fun h5 => ?_)
            refine PW_iconst (v := 0) c_T_readOperand_70 (by decide) ?_
            refine PW_ireturn (ty := .boolean) c_T_readOperand_71 rfl (by decide +kernel) ?_
            exact pq0 h (fun w => Bool.noConfusion w)
      · rw [if_pos (fun w => h3 w.1)]
        have n40 : ¬ sg g n p = 40 := by omega
        have n33 : ¬ sg g n p = 33 := by omega
        have n45 : ¬ sg g n p = 45 := by omega
        refine ⟨X, ⟨frT_0 X, hp, fun w => Bool.noConfusion w⟩, fun {z post} h => ?_⟩
        refine PW_aload_n c_T_readOperand_0 rfl ?_
        refine PW_V0 (d2 := 0) (st := []) [] c_T_readOperand_1 lk_T_readOperand_35 (po_27 _ _) rfl rfl rfl (Nat.le_of_ble_eq_true rfl) (by first | decide | omega) (Nat.le_of_ble_eq_true rfl) ?_
        refine sp_T_sign hT hp hpn ?_
        show PW _ _ _ 4 [some (.ref 27), some (.int (nI o)), none, none] [.int (sgX (sg g n p))] (E X y)
        refine PW_istore_n (i := 2) (L2 := [some (.ref 27), some (.int (nI o)), some (.int (sgX (sg g n p))), none]) c_T_readOperand_4 rfl (Nat.le_of_ble_eq_true rfl) rfl rfl ?_
        refine PW_iload_n c_T_readOperand_5 rfl ?_
        refine PW_S0 (d2 := 0) (st := []) [.int (sgX (sg g n p))] c_T_readOperand_6 lk_T_readOperand_55 rfl rfl rfl (Nat.le_of_ble_eq_true rfl) (by first | decide | omega) (Nat.le_of_ble_eq_true rfl) ?_
        refine sp_L_nameOf (tpX_sg hT) ?_
        show PW _ _ _ 9 [some (.ref 27), some (.int (nI o)), some (.int (sgX (sg g n p))), none] [.int (nmI (sg g n p))] (E X y)
        refine PW_istore_n (i := 3) (L2 := [some (.ref 27), some (.int (nI o)), some (.int (sgX (sg g n p))), some (.int (nmI (sg g n p)))]) c_T_readOperand_9 rfl (Nat.le_of_ble_eq_true rfl) rfl rfl ?_
        refine PW_iload_n c_T_readOperand_10 rfl ?_
        refine PW_if_lt c_T_readOperand_11 (fun h0 => ?_) (fun h0 => absurd (by rw [show nmI (sg g n p) = -1 from if_neg h1]; decide) h0)
        refine PW_iload_n c_T_readOperand_33 rfl ?_
        refine PW_S0 (d2 := 0) (st := []) [.int (sgX (sg g n p))] c_T_readOperand_34 lk_T_readOperand_58 rfl rfl rfl (Nat.le_of_ble_eq_true rfl) (by first | decide | omega) (Nat.le_of_ble_eq_true rfl) ?_
        refine sp_T_isDigit  ?_
        show PW _ _ _ 37 [some (.ref 27), some (.int (nI o)), some (.int (sgX (sg g n p))), some (.int (nmI (sg g n p)))] [.int (b2i (48 ≤ (sgX (sg g n p)) ∧ (sgX (sg g n p)) ≤ 57))] (E X y)
        refine PW_if_eq c_T_readOperand_37 (fun _ => ?_) (fun h1 => absurd (b2i_n0.mp h1) (fun w => h2 ((sgX_D (tpX_sg hT)).mp w)))
        refine PW_iload_n c_T_readOperand_46 rfl ?_
        refine PW_bipush (v := 40) c_T_readOperand_47 (by decide) ?_
        refine PW_icmp_eq c_T_readOperand_49 (fun h2 => absurd h2 (fun w => n40 ((sgX_k (tpX_sg hT) (by decide) (k := 40)).mp w))) (fun h2 => ?_)
        refine PW_iload_n c_T_readOperand_52 rfl ?_
        refine PW_bipush (v := 33) c_T_readOperand_53 (by decide) ?_
        refine PW_icmp_eq c_T_readOperand_55 (fun h3 => absurd h3 (fun w => n33 ((sgX_k (tpX_sg hT) (by decide) (k := 33)).mp w))) (fun h3 => ?_)
        refine PW_iload_n c_T_readOperand_58 rfl ?_
        refine PW_bipush (v := 45) c_T_readOperand_59 (by decide) ?_
        refine PW_icmp_ne c_T_readOperand_61 (fun h4 => ?_) (fun h4 => absurd h4 (fun w => n45 ((sgX_k (tpX_sg hT) (by decide) (k := 45)).mp w)))
        refine PW_iconst (v := 0) c_T_readOperand_70 (by decide) ?_
        refine PW_ireturn (ty := .boolean) c_T_readOperand_71 rfl (by decide +kernel) ?_
        exact pq0 h (fun w => Bool.noConfusion w)
theorem T_all {g : Nat → Nat} {n : Nat} {y : XS} : ∀ fu : Nat, (∀ lev, lev ≤ 5 → TOK g n y fu lev) ∧ OOK g n y fu := by
  intro fu
  induction fu with
  | zero => exact ⟨fun lev hl o p k X ho hfu => absurd hfu (by omega), fun o p k X ho hfu => absurd hfu (by omega)⟩
  | succ fu ih =>
    have h5 : OOK g n y (fu + 1) := O_step (ih.1 0 (by omega)) ih.2
    refine ⟨fun lev hl => ?_, h5⟩
    by_cases e : lev = 5
    · subst e; exact T_lev5 h5
    · exact T_lev (by omega) (ih.1 (lev + 1) (by omega))
