/-! the one side reads lines, a text; the law takes it -/
def resLX (X X' : XS) (k : Nat) (r : Bool × Nat × Ln) : Prop := frT X X' ∧ X'.1 220 = nI r.2.1 ∧ (r.1 = true → X'.1 221 = nI (k + (lineX r.2.2).length) ∧ wrA (X'.2.1 29) (X'.2.1 30) k (lineX r.2.2) ∧ lowA (X.2.1 29) (X.2.1 30) (X'.2.1 29) (X'.2.1 30) k)
theorem sp_T_line {g : Nat → Nat} {n p k : Nat} {X y : XS} (hT : tpX X g n) (hp : X.1 220 = nI p) (hs : X.1 221 = nI k) (hpn : p ≤ n) (hk : k ≤ p) : ∃ X' : XS, resLX X X' k (rdL g n p) ∧ ∀ {z : ZS} {post : Option Value → List PE → Prop}, post (some (.int (b2i ((rdL g n p).1 = true)))) (E X' y) → PW (57, 0, 0, z) m_T_readLine post 0 [some (.ref 27)] [] (E X y) := by
  have hn := hT.2.1
  have TK : TOK g n y 42 0 := (T_all 42).1 0 (by decide)
  obtain ⟨X1, ⟨f1, p1, c1⟩, H1⟩ := TK 0 p k X (by decide) (by decide) hT hp hs hpn hk
  have w1 := pF_p (g := g) 42 0 0 p hpn
  have hT1 := tpX_fr hT f1
  unfold rdL
  by_cases q1 : (pF g n 42 0 0 p).1 = true
  · obtain ⟨s1, v1, o1⟩ := c1 q1
    obtain ⟨z1, z2, z3⟩ := w1.2.2 q1
    have z0 := w1.2.1
    rw [if_pos q1]
    by_cases c63 : sg g n (pF g n 42 0 0 p).2.1 = 63
    · have hq : (pF g n 42 0 0 p).2.1 < n := sg_lt (g := g) (by omega)
      rw [if_pos c63]
      obtain ⟨X2, ⟨f2, p2, c2⟩, H2⟩ := TK 0 ((pF g n 42 0 0 p).2.1 + 1) ((k + (pF g n 42 0 0 p).2.2.length) + 1) (wrt (sI X1 220 (nI ((pF g n 42 0 0 p).2.1 + 1))) (k + (pF g n 42 0 0 p).2.2.length) 63 0) (by decide) (by decide) (tpX_fr hT1 (frT_t frT_p frT_w)) ((sI_n (by decide)).trans (show (sI X1 220 (nI ((pF g n 42 0 0 p).2.1 + 1))).1 220 = nI ((pF g n 42 0 0 p).2.1 + 1) from sI_s)) sI_s hq (by omega)
      have w2 := pF_p (g := g) 42 0 0 ((pF g n 42 0 0 p).2.1 + 1) hq
      by_cases q2 : (pF g n 42 0 0 ((pF g n 42 0 0 p).2.1 + 1)).1 = true
      · obtain ⟨s2, v2, o2⟩ := c2 q2
        obtain ⟨y1, y2, y3⟩ := w2.2.2 q2
        have y0 := w2.2.1
        rw [if_pos q2]
        refine ⟨wrt X2 ((k + (pF g n 42 0 0 p).2.2.length) + 1 + (pF g n 42 0 0 ((pF g n 42 0 0 p).2.1 + 1)).2.2.length) 59 0, ⟨frT_t (frT_t f1 (frT_t (frT_t frT_p frT_w) f2)) frT_w, (sI_n (by decide)).trans p2, fun _ => ⟨sI_s.trans ?_, ?_, ?_⟩⟩, fun {z post} h => ?_⟩
        · rw [lineX_len, if_neg (dep_ne (by have := z3.1 0 []; rwa [List.append_nil, depS] at this))]
          exact congrArg nI (by show _ = k + ((pF g n 42 0 0 p).2.2.length + 1 + (pF g n 42 0 0 ((pF g n 42 0 0 p).2.1 + 1)).2.2.length + 1); omega)
        · rw [wrt_29, wrt_30]
          unfold lineX
          rw [if_neg (dep_ne (by have := z3.1 0 []; rwa [List.append_nil, depS] at this))]
          refine wrA_snoc ?_ (wrA_app (wrA_low (show wrA (((wrt (sI X1 220 (nI ((pF g n 42 0 0 p).2.1 + 1))) (k + (pF g n 42 0 0 p).2.2.length) 63 0)).2.1 29) (((wrt (sI X1 220 (nI ((pF g n 42 0 0 p).2.1 + 1))) (k + (pF g n 42 0 0 p).2.2.length) 63 0)).2.1 30) k ((pF g n 42 0 0 p).2.2.map stX ++ [(63, 0)]) from by rw [wrt_29, wrt_30]; exact wrA_snoc (by rw [List.length_map]) v1) o2 ?_) ?_)
          · rw [List.length_append, List.length_append, List.length_map, List.length_map, List.length_singleton]
            show ((k + (pF g n 42 0 0 p).2.2.length) + 1 + (pF g n 42 0 0 ((pF g n 42 0 0 p).2.1 + 1)).2.2.length) = k + ((pF g n 42 0 0 p).2.2.length + 1 + (pF g n 42 0 0 ((pF g n 42 0 0 p).2.1 + 1)).2.2.length)
            omega
          · rw [List.length_append, List.length_map, List.length_singleton]
            show k + ((pF g n 42 0 0 p).2.2.length + 1) ≤ (k + (pF g n 42 0 0 p).2.2.length) + 1
            omega
          · rw [List.length_append, List.length_map, List.length_singleton]
            exact v2
        · rw [wrt_29, wrt_30]
          exact lowA_t (lowA_t (lowA_t o1 (lowA_u (a := 63) (v := 0) (Nat.le_refl (k + (pF g n 42 0 0 p).2.2.length))) (by omega)) o2 (by omega)) (lowA_u (Nat.le_refl ((k + (pF g n 42 0 0 p).2.2.length) + 1 + (pF g n 42 0 0 ((pF g n 42 0 0 p).2.1 + 1)).2.2.length))) (by omega)
        · skip
          refine PW_aload_n c_T_readLine_0 rfl ?_
          refine PW_iconst (v := 0) c_T_readLine_1 (by decide) ?_
          refine PW_iconst (v := 0) c_T_readLine_2 (by decide) ?_
          refine PW_V0 (d2 := 42 + 2 * (6 - 0) + 2) (st := []) [.int 0, .int 0] c_T_readLine_3 lk_T_readLine_39 (po_27 _ _) rfl rfl rfl (Nat.le_of_ble_eq_true rfl) (by first | decide | omega) (Nat.le_of_ble_eq_true rfl) ?_
          refine H1 ?_
          show PW _ _ _ 6 [some (.ref 27)] [.int (b2i ((pF g n 42 0 0 p).1 = true))] (E X1 y)
          refine PW_if_ne c_T_readLine_6 (fun _ => ?_) (fun h0 => absurd q1 (b2i_0.mp h0))
          refine PW_aload_n c_T_readLine_11 rfl ?_
          refine PW_V0 (d2 := 0) (st := []) [] c_T_readLine_12 lk_T_readLine_35 (po_27 _ _) rfl rfl rfl (Nat.le_of_ble_eq_true rfl) (by first | decide | omega) (Nat.le_of_ble_eq_true rfl) ?_
          refine sp_T_sign hT1 p1 w1.2.1 ?_
          show PW _ _ _ 15 [some (.ref 27)] [.int (sgX (sg g n (pF g n 42 0 0 p).2.1))] (E X1 y)
          refine PW_bipush (v := 63) c_T_readLine_15 (by decide) ?_
          refine PW_icmp_ne c_T_readLine_17 (fun h1 => absurd h1 (not_not_intro ((sgX_k (tpX_sg hT) (by decide) (k := 63)).mpr c63))) (fun h1 => ?_)
          refine PW_aload_n c_T_readLine_20 rfl ?_
          refine PW_dup c_T_readLine_21 rfl ?_
          refine PW_get (v := .int (X1.1 220)) c_T_readLine_22 fl_T_28 (gf_27_4 _ _) ?_
          rw [p1]
          show PW _ _ _ 25 [some (.ref 27)] [.int (nI (pF g n 42 0 0 p).2.1), .ref 27] (E X1 y)
          refine PW_iconst (v := 1) c_T_readLine_25 (by decide) ?_
          refine PW_iadd c_T_readLine_26 ?_
          refine PW_put (w2 := E (sI X1 220 ((nI (pF g n 42 0 0 p).2.1) + 1)) y) c_T_readLine_27 fp_T_readLine_28 rfl (pf_27_4 _ _ _) ?_
          rw [nI_1 ((pF g n 42 0 0 p).2.1)]
          show PW _ _ _ 30 [some (.ref 27)] [] (E (sI X1 220 (nI ((pF g n 42 0 0 p).2.1 + 1))) y)
          refine PW_aload_n c_T_readLine_30 rfl ?_
          refine PW_bipush (v := 63) c_T_readLine_31 (by decide) ?_
          refine PW_iconst (v := 0) c_T_readLine_33 (by decide) ?_
          refine PW_V0 (d2 := 0) (st := []) [.int 63, .int 0] c_T_readLine_34 lk_T_readLine_43 (po_27 _ _) rfl rfl rfl (Nat.le_of_ble_eq_true rfl) (by first | decide | omega) (Nat.le_of_ble_eq_true rfl) ?_
          refine sp_T_write (X := sI X1 220 (nI ((pF g n 42 0 0 p).2.1 + 1))) (k := (k + (pF g n 42 0 0 p).2.2.length)) ((sI_n (by decide)).trans s1) (by omega) ?_
          show PW _ _ _ 37 [some (.ref 27)] [] (E (wrt (sI X1 220 (nI ((pF g n 42 0 0 p).2.1 + 1))) (k + (pF g n 42 0 0 p).2.2.length) 63 0) y)
          refine PW_aload_n c_T_readLine_37 rfl ?_
          refine PW_iconst (v := 0) c_T_readLine_38 (by decide) ?_
          refine PW_iconst (v := 0) c_T_readLine_39 (by decide) ?_
          refine PW_V0 (d2 := 42 + 2 * (6 - 0) + 2) (st := []) [.int 0, .int 0] c_T_readLine_40 lk_T_readLine_39 (po_27 _ _) rfl rfl rfl (Nat.le_of_ble_eq_true rfl) (by first | decide | omega) (Nat.le_of_ble_eq_true rfl) ?_
          refine H2 ?_
          show PW _ _ _ 43 [some (.ref 27)] [.int (b2i ((pF g n 42 0 0 ((pF g n 42 0 0 p).2.1 + 1)).1 = true))] (E X2 y)
          refine PW_if_ne c_T_readLine_43 (fun _ => ?_) (fun h2 => absurd q2 (b2i_0.mp h2))
          refine PW_aload_n c_T_readLine_48 rfl ?_
          refine PW_bipush (v := 59) c_T_readLine_49 (by decide) ?_
          refine PW_iconst (v := 0) c_T_readLine_51 (by decide) ?_
          refine PW_V0 (d2 := 0) (st := []) [.int 59, .int 0] c_T_readLine_52 lk_T_readLine_43 (po_27 _ _) rfl rfl rfl (Nat.le_of_ble_eq_true rfl) (by first | decide | omega) (Nat.le_of_ble_eq_true rfl) ?_
          refine sp_T_write (k := ((k + (pF g n 42 0 0 p).2.2.length) + 1 + (pF g n 42 0 0 ((pF g n 42 0 0 p).2.1 + 1)).2.2.length)) s2 (by omega) ?_
          show PW _ _ _ 55 [some (.ref 27)] [] (E (wrt X2 ((k + (pF g n 42 0 0 p).2.2.length) + 1 + (pF g n 42 0 0 ((pF g n 42 0 0 p).2.1 + 1)).2.2.length) 59 0) y)
          refine PW_iconst (v := 1) c_T_readLine_55 (by decide) ?_
          refine PW_ireturn (ty := .boolean) c_T_readLine_56 rfl (by decide +kernel) ?_
          exact pq1 h rfl
      · rw [if_neg q2]
        refine ⟨X2, ⟨frT_t f1 (frT_t (frT_t frT_p frT_w) f2), p2, fun w => Bool.noConfusion w⟩, fun {z post} h => ?_⟩
        refine PW_aload_n c_T_readLine_0 rfl ?_
        refine PW_iconst (v := 0) c_T_readLine_1 (by decide) ?_
        refine PW_iconst (v := 0) c_T_readLine_2 (by decide) ?_
        refine PW_V0 (d2 := 42 + 2 * (6 - 0) + 2) (st := []) [.int 0, .int 0] c_T_readLine_3 lk_T_readLine_39 (po_27 _ _) rfl rfl rfl (Nat.le_of_ble_eq_true rfl) (by first | decide | omega) (Nat.le_of_ble_eq_true rfl) ?_
        refine H1 ?_
        show PW _ _ _ 6 [some (.ref 27)] [.int (b2i ((pF g n 42 0 0 p).1 = true))] (E X1 y)
        refine PW_if_ne c_T_readLine_6 (fun _ => ?_) (fun h0 => absurd q1 (b2i_0.mp h0))
        refine PW_aload_n c_T_readLine_11 rfl ?_
        refine PW_V0 (d2 := 0) (st := []) [] c_T_readLine_12 lk_T_readLine_35 (po_27 _ _) rfl rfl rfl (Nat.le_of_ble_eq_true rfl) (by first | decide | omega) (Nat.le_of_ble_eq_true rfl) ?_
        refine sp_T_sign hT1 p1 w1.2.1 ?_
        show PW _ _ _ 15 [some (.ref 27)] [.int (sgX (sg g n (pF g n 42 0 0 p).2.1))] (E X1 y)
        refine PW_bipush (v := 63) c_T_readLine_15 (by decide) ?_
        refine PW_icmp_ne c_T_readLine_17 (fun h1 => absurd h1 (not_not_intro ((sgX_k (tpX_sg hT) (by decide) (k := 63)).mpr c63))) (fun h1 => ?_)
        refine PW_aload_n c_T_readLine_20 rfl ?_
        refine PW_dup c_T_readLine_21 rfl ?_
        refine PW_get (v := .int (X1.1 220)) c_T_readLine_22 fl_T_28 (gf_27_4 _ _) ?_
        rw [p1]
        show PW _ _ _ 25 [some (.ref 27)] [.int (nI (pF g n 42 0 0 p).2.1), .ref 27] (E X1 y)
        refine PW_iconst (v := 1) c_T_readLine_25 (by decide) ?_
        refine PW_iadd c_T_readLine_26 ?_
        refine PW_put (w2 := E (sI X1 220 ((nI (pF g n 42 0 0 p).2.1) + 1)) y) c_T_readLine_27 fp_T_readLine_28 rfl (pf_27_4 _ _ _) ?_
        rw [nI_1 ((pF g n 42 0 0 p).2.1)]
        show PW _ _ _ 30 [some (.ref 27)] [] (E (sI X1 220 (nI ((pF g n 42 0 0 p).2.1 + 1))) y)
        refine PW_aload_n c_T_readLine_30 rfl ?_
        refine PW_bipush (v := 63) c_T_readLine_31 (by decide) ?_
        refine PW_iconst (v := 0) c_T_readLine_33 (by decide) ?_
        refine PW_V0 (d2 := 0) (st := []) [.int 63, .int 0] c_T_readLine_34 lk_T_readLine_43 (po_27 _ _) rfl rfl rfl (Nat.le_of_ble_eq_true rfl) (by first | decide | omega) (Nat.le_of_ble_eq_true rfl) ?_
        refine sp_T_write (X := sI X1 220 (nI ((pF g n 42 0 0 p).2.1 + 1))) (k := (k + (pF g n 42 0 0 p).2.2.length)) ((sI_n (by decide)).trans s1) (by omega) ?_
        show PW _ _ _ 37 [some (.ref 27)] [] (E (wrt (sI X1 220 (nI ((pF g n 42 0 0 p).2.1 + 1))) (k + (pF g n 42 0 0 p).2.2.length) 63 0) y)
        refine PW_aload_n c_T_readLine_37 rfl ?_
        refine PW_iconst (v := 0) c_T_readLine_38 (by decide) ?_
        refine PW_iconst (v := 0) c_T_readLine_39 (by decide) ?_
        refine PW_V0 (d2 := 42 + 2 * (6 - 0) + 2) (st := []) [.int 0, .int 0] c_T_readLine_40 lk_T_readLine_39 (po_27 _ _) rfl rfl rfl (Nat.le_of_ble_eq_true rfl) (by first | decide | omega) (Nat.le_of_ble_eq_true rfl) ?_
        refine H2 ?_
        show PW _ _ _ 43 [some (.ref 27)] [.int (b2i ((pF g n 42 0 0 ((pF g n 42 0 0 p).2.1 + 1)).1 = true))] (E X2 y)
        refine PW_if_ne c_T_readLine_43 (fun h2 => absurd (b2i_n0.mp h2) q2) (fun _ => ?_)
        refine PW_iconst (v := 0) c_T_readLine_46 (by decide) ?_
        refine PW_ireturn (ty := .boolean) c_T_readLine_47 rfl (by decide +kernel) ?_
        exact pq0 h (fun w => Bool.noConfusion w)
    · rw [if_neg c63]
      refine ⟨wrt X1 (k + (pF g n 42 0 0 p).2.2.length) 59 0, ⟨frT_t f1 frT_w, (sI_n (by decide)).trans p1, fun _ => ⟨sI_s.trans ?_, ?_, ?_⟩⟩, fun {z post} h => ?_⟩
      · rw [lineX_len, if_pos rfl]
        exact congrArg nI (by show _ = k + (0 + (pF g n 42 0 0 p).2.2.length + 1); omega)
      · rw [wrt_29, wrt_30]
        unfold lineX
        rw [if_pos rfl, List.nil_append]
        exact wrA_snoc (by rw [List.length_map]) v1
      · rw [wrt_29, wrt_30]
        exact lowA_t o1 (lowA_u (Nat.le_refl (k + (pF g n 42 0 0 p).2.2.length))) (by omega)
      · skip
        refine PW_aload_n c_T_readLine_0 rfl ?_
        refine PW_iconst (v := 0) c_T_readLine_1 (by decide) ?_
        refine PW_iconst (v := 0) c_T_readLine_2 (by decide) ?_
        refine PW_V0 (d2 := 42 + 2 * (6 - 0) + 2) (st := []) [.int 0, .int 0] c_T_readLine_3 lk_T_readLine_39 (po_27 _ _) rfl rfl rfl (Nat.le_of_ble_eq_true rfl) (by first | decide | omega) (Nat.le_of_ble_eq_true rfl) ?_
        refine H1 ?_
        show PW _ _ _ 6 [some (.ref 27)] [.int (b2i ((pF g n 42 0 0 p).1 = true))] (E X1 y)
        refine PW_if_ne c_T_readLine_6 (fun _ => ?_) (fun h0 => absurd q1 (b2i_0.mp h0))
        refine PW_aload_n c_T_readLine_11 rfl ?_
        refine PW_V0 (d2 := 0) (st := []) [] c_T_readLine_12 lk_T_readLine_35 (po_27 _ _) rfl rfl rfl (Nat.le_of_ble_eq_true rfl) (by first | decide | omega) (Nat.le_of_ble_eq_true rfl) ?_
        refine sp_T_sign hT1 p1 w1.2.1 ?_
        show PW _ _ _ 15 [some (.ref 27)] [.int (sgX (sg g n (pF g n 42 0 0 p).2.1))] (E X1 y)
        refine PW_bipush (v := 63) c_T_readLine_15 (by decide) ?_
        refine PW_icmp_ne c_T_readLine_17 (fun h1 => ?_) (fun h1 => absurd h1 (fun w => c63 ((sgX_k (tpX_sg hT) (by decide) (k := 63)).mp w)))
        refine PW_aload_n c_T_readLine_48 rfl ?_
        refine PW_bipush (v := 59) c_T_readLine_49 (by decide) ?_
        refine PW_iconst (v := 0) c_T_readLine_51 (by decide) ?_
        refine PW_V0 (d2 := 0) (st := []) [.int 59, .int 0] c_T_readLine_52 lk_T_readLine_43 (po_27 _ _) rfl rfl rfl (Nat.le_of_ble_eq_true rfl) (by first | decide | omega) (Nat.le_of_ble_eq_true rfl) ?_
        refine sp_T_write (k := (k + (pF g n 42 0 0 p).2.2.length)) s1 (by omega) ?_
        show PW _ _ _ 55 [some (.ref 27)] [] (E (wrt X1 (k + (pF g n 42 0 0 p).2.2.length) 59 0) y)
        refine PW_iconst (v := 1) c_T_readLine_55 (by decide) ?_
        refine PW_ireturn (ty := .boolean) c_T_readLine_56 rfl (by decide +kernel) ?_
        exact pq1 h rfl
  · rw [if_neg q1]
    refine ⟨X1, ⟨f1, p1, fun w => Bool.noConfusion w⟩, fun {z post} h => ?_⟩
    refine PW_aload_n c_T_readLine_0 rfl ?_
    refine PW_iconst (v := 0) c_T_readLine_1 (by decide) ?_
    refine PW_iconst (v := 0) c_T_readLine_2 (by decide) ?_
    refine PW_V0 (d2 := 42 + 2 * (6 - 0) + 2) (st := []) [.int 0, .int 0] c_T_readLine_3 lk_T_readLine_39 (po_27 _ _) rfl rfl rfl (Nat.le_of_ble_eq_true rfl) (by first | decide | omega) (Nat.le_of_ble_eq_true rfl) ?_
    refine H1 ?_
    show PW _ _ _ 6 [some (.ref 27)] [.int (b2i ((pF g n 42 0 0 p).1 = true))] (E X1 y)
    refine PW_if_ne c_T_readLine_6 (fun h0 => absurd (b2i_n0.mp h0) q1) (fun _ => ?_)
    refine PW_iconst (v := 0) c_T_readLine_9 (by decide) ?_
    refine PW_ireturn (ty := .boolean) c_T_readLine_10 rfl (by decide +kernel) ?_
    exact pq0 h (fun w => Bool.noConfusion w)
theorem txX_snoc (a : Txt) (l : Ln) : txX (a ++ [l]) = txX a ++ lineX l := by
  unfold txX
  rw [List.flatMap_append, List.flatMap_singleton]
def rdV (r : Bool × Nat × Txt) : Int32 := if r.1 = true then -1 else nI r.2.1
theorem lp_T_read {g : Nat → Nat} {n : Nat} {X0 y : XS} : ∀ (m i p : Nat) (acc : Txt) (X : XS), i + m = 121 → tpX X g n → frT X0 X → X.1 220 = nI p → X.1 221 = nI (txX acc).length → wrA (X.2.1 29) (X.2.1 30) 0 (txX acc) → p ≤ n → (txX acc).length ≤ p → ∃ X' : XS, (frT X0 X' ∧ ((rdT g n m p acc).1 = true → X'.1 221 = nI (txX (rdT g n m p acc).2.2).length ∧ wrA (X'.2.1 29) (X'.2.1 30) 0 (txX (rdT g n m p acc).2.2) ∧ (txX (rdT g n m p acc).2.2).length ≤ 121)) ∧ ∀ {z : ZS} {post : Option Value → List PE → Prop}, post (some (.int (rdV (rdT g n m p acc)))) (E X' y) → PW (58, 0, 0, z) m_T_read post 12 [some (.ref 27), some (.int (nI i))] [] (E X y) := by
  intro m
  induction m with
  | zero =>
    intro i p acc X hi hT hf hp hs hw hpn hk
    rw [rdT]
    refine ⟨X, ⟨hf, fun w => Bool.noConfusion w⟩, fun {z post} h => ?_⟩
    refine PW_iload_n c_T_read_12 rfl ?_
    refine PW_bipush (v := 120) c_T_read_13 (by decide) ?_
    refine PW_icmp_gt c_T_read_15 (fun h0 => ?_) (fun h0 => absurd ((nI_ltI (a := 120) (by decide) (by omega)).mpr (by omega)) h0)
    refine PW_aload_n c_T_read_73 rfl ?_
    refine PW_get (v := .int (X.1 220)) c_T_read_74 fl_T_28 (gf_27_4 _ _) ?_
    rw [hp]
    show PW _ _ _ 77 [some (.ref 27), some (.int (nI i))] [.int (nI p)] (E X y)
    refine PW_ireturn (ty := .int) c_T_read_77 rfl rfl ?_
    exact pqi h (if_neg (fun w => Bool.noConfusion w))
  | succ m ih =>
    intro i p acc X hi hT hf hp hs hw hpn hk
    have hn := hT.2.1
    obtain ⟨X1, ⟨f1, p1, c1⟩, H1⟩ := sp_T_line (y := y) hT hp hs hpn hk
    have hT1 := tpX_fr hT f1
    have w1 := rdL_p (g := g) hpn
    rw [rdT]
    by_cases q1 : (rdL g n p).1 = true
    · obtain ⟨s1, v1, o1⟩ := c1 q1
      obtain ⟨z1, z2, z3, z4⟩ := w1.2.2 q1
      have z0 := w1.2.1
      have wA : wrA (X1.2.1 29) (X1.2.1 30) 0 (txX (acc ++ [(rdL g n p).2.2])) := by
        rw [txX_snoc]
        exact wrA_app (wrA_low hw o1 (by omega)) (by rw [Nat.zero_add]; exact v1)
      have sA_ : X1.1 221 = nI (txX (acc ++ [(rdL g n p).2.2])).length := by rw [s1, txX_snoc, List.length_append]
      have lA : (txX (acc ++ [(rdL g n p).2.2])).length ≤ (rdL g n p).2.1 + 1 := by rw [txX_snoc, List.length_append]; omega
      rw [if_pos q1]
      by_cases hq : n ≤ (rdL g n p).2.1
      · rw [if_pos hq]
        refine ⟨X1, ⟨frT_t hf f1, fun _ => ⟨sA_, wA, by show (txX (acc ++ [(rdL g n p).2.2])).length ≤ 121; omega⟩⟩, fun {z post} h => ?_⟩
        refine PW_iload_n c_T_read_12 rfl ?_
        refine PW_bipush (v := 120) c_T_read_13 (by decide) ?_
        refine PW_icmp_gt c_T_read_15 (fun h0 => absurd h0 (fun w => absurd ((nI_ltI (a := 120) (by decide) (by omega)).mp w) (by omega))) (fun h0 => ?_)
        refine PW_aload_n c_T_read_18 rfl ?_
        refine PW_V0 (d2 := 57) (st := []) [] c_T_read_19 lk_T_read_31 (po_27 _ _) rfl rfl rfl (Nat.le_of_ble_eq_true rfl) (by first | decide | omega) (Nat.le_of_ble_eq_true rfl) ?_
        refine H1 ?_
        show PW _ _ _ 22 [some (.ref 27), some (.int (nI i))] [.int (b2i ((rdL g n p).1 = true))] (E X1 y)
        refine PW_if_ne c_T_read_22 (fun _ => ?_) (fun h1 => absurd q1 (b2i_0.mp h1))
        refine PW_aload_n c_T_read_30 rfl ?_
        refine PW_get (v := .int (X1.1 220)) c_T_read_31 fl_T_28 (gf_27_4 _ _) ?_
        rw [p1]
        show PW _ _ _ 34 [some (.ref 27), some (.int (nI i))] [.int (nI (rdL g n p).2.1)] (E X1 y)
        refine PW_aload_n c_T_read_34 rfl ?_
        refine PW_get (v := .int (X1.1 219)) c_T_read_35 fl_T_21 (gf_27_3 _ _) ?_
        rw [hT1.1]
        show PW _ _ _ 38 [some (.ref 27), some (.int (nI i))] [.int (nI n), .int (nI (rdL g n p).2.1)] (E X1 y)
        refine PW_icmp_lt c_T_read_38 (fun h2 => absurd h2 (fun w => absurd ((nI_ltI (by omega) (by omega)).mp w) (by omega))) (fun h2 => ?_)
        refine PW_iconst (v := -1) c_T_read_41 (by decide) ?_
        refine PW_ireturn (ty := .int) c_T_read_42 rfl rfl ?_
        exact pqi h (if_pos rfl)
      · rw [if_neg hq]
        by_cases c59 : sg g n (rdL g n p).2.1 = 59
        · rw [if_neg (not_not_intro c59)]
          obtain ⟨X', hR, H⟩ := ih (i + 1) ((rdL g n p).2.1 + 1) (acc ++ [(rdL g n p).2.2]) (sI X1 220 (nI ((rdL g n p).2.1 + 1))) (by omega) (tpX_fr hT1 frT_p) (frT_t (frT_t hf f1) frT_p) sI_s ((sI_n (by decide)).trans sA_) wA (by omega) lA
          refine ⟨X', hR, fun {z post} h => ?_⟩
          refine PW_iload_n c_T_read_12 rfl ?_
          refine PW_bipush (v := 120) c_T_read_13 (by decide) ?_
          refine PW_icmp_gt c_T_read_15 (fun h0 => absurd h0 (fun w => absurd ((nI_ltI (a := 120) (by decide) (by omega)).mp w) (by omega))) (fun h0 => ?_)
          refine PW_aload_n c_T_read_18 rfl ?_
          refine PW_V0 (d2 := 57) (st := []) [] c_T_read_19 lk_T_read_31 (po_27 _ _) rfl rfl rfl (Nat.le_of_ble_eq_true rfl) (by first | decide | omega) (Nat.le_of_ble_eq_true rfl) ?_
          refine H1 ?_
          show PW _ _ _ 22 [some (.ref 27), some (.int (nI i))] [.int (b2i ((rdL g n p).1 = true))] (E X1 y)
          refine PW_if_ne c_T_read_22 (fun _ => ?_) (fun h1 => absurd q1 (b2i_0.mp h1))
          refine PW_aload_n c_T_read_30 rfl ?_
          refine PW_get (v := .int (X1.1 220)) c_T_read_31 fl_T_28 (gf_27_4 _ _) ?_
          rw [p1]
          show PW _ _ _ 34 [some (.ref 27), some (.int (nI i))] [.int (nI (rdL g n p).2.1)] (E X1 y)
          refine PW_aload_n c_T_read_34 rfl ?_
          refine PW_get (v := .int (X1.1 219)) c_T_read_35 fl_T_21 (gf_27_3 _ _) ?_
          rw [hT1.1]
          show PW _ _ _ 38 [some (.ref 27), some (.int (nI i))] [.int (nI n), .int (nI (rdL g n p).2.1)] (E X1 y)
          refine PW_icmp_lt c_T_read_38 (fun h2 => ?_) (fun h2 => absurd ((nI_ltI (by omega) (by omega)).mpr (by omega)) h2)
          refine PW_aload_n c_T_read_43 rfl ?_
          refine PW_V0 (d2 := 0) (st := []) [] c_T_read_44 lk_T_read_35 (po_27 _ _) rfl rfl rfl (Nat.le_of_ble_eq_true rfl) (by first | decide | omega) (Nat.le_of_ble_eq_true rfl) ?_
          refine sp_T_sign hT1 p1 w1.2.1 ?_
          show PW _ _ _ 47 [some (.ref 27), some (.int (nI i))] [.int (sgX (sg g n (rdL g n p).2.1))] (E X1 y)
          refine PW_bipush (v := 59) c_T_read_47 (by decide) ?_
          refine PW_icmp_eq c_T_read_49 (fun h3 => ?_) (fun h3 => absurd ((sgX_k (tpX_sg hT) (by decide) (k := 59)).mpr c59) h3)
          refine PW_aload_n c_T_read_57 rfl ?_
          refine PW_dup c_T_read_58 rfl ?_
          refine PW_get (v := .int (X1.1 220)) c_T_read_59 fl_T_28 (gf_27_4 _ _) ?_
          rw [p1]
          show PW _ _ _ 62 [some (.ref 27), some (.int (nI i))] [.int (nI (rdL g n p).2.1), .ref 27] (E X1 y)
          refine PW_iconst (v := 1) c_T_read_62 (by decide) ?_
          refine PW_iadd c_T_read_63 ?_
          refine PW_put (w2 := E (sI X1 220 ((nI (rdL g n p).2.1) + 1)) y) c_T_read_64 fp_T_read_28 rfl (pf_27_4 _ _ _) ?_
          rw [nI_1 ((rdL g n p).2.1)]
          show PW _ _ _ 67 [some (.ref 27), some (.int (nI i))] [] (E (sI X1 220 (nI ((rdL g n p).2.1 + 1))) y)
          refine PW_iinc (i := 1) (v := (nI i) + 1) (L2 := [some (.ref 27), some (.int ((nI i) + 1))]) c_T_read_67 rfl (iinc_v (by decide)) (Nat.le_of_ble_eq_true rfl) rfl rfl ?_
          refine PW_goto c_T_read_70 ?_
          refine PW.eqL ?_ rfl rfl (H h)
          show ([some (.ref 27), some (.int ((nI i) + 1))] : List (Option Value)) = [some (.ref 27), some (.int (nI (i + 1)))]
          rw [nI_1]
        · rw [if_pos c59]
          refine ⟨X1, ⟨frT_t hf f1, fun w => Bool.noConfusion w⟩, fun {z post} h => ?_⟩
          refine PW_iload_n c_T_read_12 rfl ?_
          refine PW_bipush (v := 120) c_T_read_13 (by decide) ?_
          refine PW_icmp_gt c_T_read_15 (fun h0 => absurd h0 (fun w => absurd ((nI_ltI (a := 120) (by decide) (by omega)).mp w) (by omega))) (fun h0 => ?_)
          refine PW_aload_n c_T_read_18 rfl ?_
          refine PW_V0 (d2 := 57) (st := []) [] c_T_read_19 lk_T_read_31 (po_27 _ _) rfl rfl rfl (Nat.le_of_ble_eq_true rfl) (by first | decide | omega) (Nat.le_of_ble_eq_true rfl) ?_
          refine H1 ?_
          show PW _ _ _ 22 [some (.ref 27), some (.int (nI i))] [.int (b2i ((rdL g n p).1 = true))] (E X1 y)
          refine PW_if_ne c_T_read_22 (fun _ => ?_) (fun h1 => absurd q1 (b2i_0.mp h1))
          refine PW_aload_n c_T_read_30 rfl ?_
          refine PW_get (v := .int (X1.1 220)) c_T_read_31 fl_T_28 (gf_27_4 _ _) ?_
          rw [p1]
          show PW _ _ _ 34 [some (.ref 27), some (.int (nI i))] [.int (nI (rdL g n p).2.1)] (E X1 y)
          refine PW_aload_n c_T_read_34 rfl ?_
          refine PW_get (v := .int (X1.1 219)) c_T_read_35 fl_T_21 (gf_27_3 _ _) ?_
          rw [hT1.1]
          show PW _ _ _ 38 [some (.ref 27), some (.int (nI i))] [.int (nI n), .int (nI (rdL g n p).2.1)] (E X1 y)
          refine PW_icmp_lt c_T_read_38 (fun h2 => ?_) (fun h2 => absurd ((nI_ltI (by omega) (by omega)).mpr (by omega)) h2)
          refine PW_aload_n c_T_read_43 rfl ?_
          refine PW_V0 (d2 := 0) (st := []) [] c_T_read_44 lk_T_read_35 (po_27 _ _) rfl rfl rfl (Nat.le_of_ble_eq_true rfl) (by first | decide | omega) (Nat.le_of_ble_eq_true rfl) ?_
          refine sp_T_sign hT1 p1 w1.2.1 ?_
          show PW _ _ _ 47 [some (.ref 27), some (.int (nI i))] [.int (sgX (sg g n (rdL g n p).2.1))] (E X1 y)
          refine PW_bipush (v := 59) c_T_read_47 (by decide) ?_
          refine PW_icmp_eq c_T_read_49 (fun h3 => absurd h3 (fun w => c59 ((sgX_k (tpX_sg hT) (by decide) (k := 59)).mp w))) (fun h3 => ?_)
          refine PW_aload_n c_T_read_52 rfl ?_
          refine PW_get (v := .int (X1.1 220)) c_T_read_53 fl_T_28 (gf_27_4 _ _) ?_
          rw [p1]
          show PW _ _ _ 56 [some (.ref 27), some (.int (nI i))] [.int (nI (rdL g n p).2.1)] (E X1 y)
          refine PW_ireturn (ty := .int) c_T_read_56 rfl rfl ?_
          exact pqi h (if_neg (fun w => Bool.noConfusion w))
    · rw [if_neg q1]
      refine ⟨X1, ⟨frT_t hf f1, fun w => Bool.noConfusion w⟩, fun {z post} h => ?_⟩
      refine PW_iload_n c_T_read_12 rfl ?_
      refine PW_bipush (v := 120) c_T_read_13 (by decide) ?_
      refine PW_icmp_gt c_T_read_15 (fun h0 => absurd h0 (fun w => absurd ((nI_ltI (a := 120) (by decide) (by omega)).mp w) (by omega))) (fun h0 => ?_)
      refine PW_aload_n c_T_read_18 rfl ?_
      refine PW_V0 (d2 := 57) (st := []) [] c_T_read_19 lk_T_read_31 (po_27 _ _) rfl rfl rfl (Nat.le_of_ble_eq_true rfl) (by first | decide | omega) (Nat.le_of_ble_eq_true rfl) ?_
      refine H1 ?_
      show PW _ _ _ 22 [some (.ref 27), some (.int (nI i))] [.int (b2i ((rdL g n p).1 = true))] (E X1 y)
      refine PW_if_ne c_T_read_22 (fun h1 => absurd (b2i_n0.mp h1) q1) (fun _ => ?_)
      refine PW_aload_n c_T_read_25 rfl ?_
      refine PW_get (v := .int (X1.1 220)) c_T_read_26 fl_T_28 (gf_27_4 _ _) ?_
      rw [p1]
      show PW _ _ _ 29 [some (.ref 27), some (.int (nI i))] [.int (nI (rdL g n p).2.1)] (E X1 y)
      refine PW_ireturn (ty := .int) c_T_read_29 rfl rfl ?_
      exact pqi h (if_neg (fun w => Bool.noConfusion w))
theorem sp_T_read {g : Nat → Nat} {n : Nat} {X y : XS} (hT : tpX X g n) : ∃ X' : XS, (frT X X' ∧ ((rdT g n 121 0 []).1 = true → X'.1 221 = nI (txX (rdT g n 121 0 []).2.2).length ∧ wrA (X'.2.1 29) (X'.2.1 30) 0 (txX (rdT g n 121 0 []).2.2) ∧ (txX (rdT g n 121 0 []).2.2).length ≤ 121)) ∧ ∀ {z : ZS} {post : Option Value → List PE → Prop}, post (some (.int (rdV (rdT g n 121 0 [])))) (E X' y) → PW (58, 0, 0, z) m_T_read post 0 [some (.ref 27), none] [] (E X y) := by
  obtain ⟨X', ⟨hR, hR2⟩, H⟩ := lp_T_read (y := y) (X0 := sI (sI X 220 0) 221 0) 121 0 0 [] (sI (sI X 220 0) 221 0) rfl (tpX_fr hT ⟨fun m p q => by rw [sI_n q, sI_n p], fun _ _ _ => rfl, rfl⟩) (frT_0 _) (by rw [sI_n (by decide), sI_s]; rfl) (by rw [sI_s]; rfl) wrA_nil (Nat.zero_le _) (Nat.le_refl _)
  refine ⟨X', ⟨frT_t (show frT X (sI (sI X 220 0) 221 0) from ⟨fun m p q => by rw [sI_n q, sI_n p], fun _ _ _ => rfl, rfl⟩) hR, hR2⟩, fun {z post} h => ?_⟩
  refine PW_aload_n c_T_read_0 rfl ?_
  refine PW_iconst (v := 0) c_T_read_1 (by decide) ?_
  refine PW_put (w2 := E (sI X 220 0) y) c_T_read_2 fp_T_read_28 rfl (pf_27_4 _ _ _) ?_
  refine PW_aload_n c_T_read_5 rfl ?_
  refine PW_iconst (v := 0) c_T_read_6 (by decide) ?_
  refine PW_put (w2 := E (sI (sI X 220 0) 221 0) y) c_T_read_7 fp_T_read_25 rfl (pf_27_5 _ _ _) ?_
  refine PW_iconst (v := 0) c_T_read_10 (by decide) ?_
  refine PW_istore_n (i := 1) (L2 := [some (.ref 27), some (.int 0)]) c_T_read_11 rfl (Nat.le_of_ble_eq_true rfl) rfl rfl ?_
  refine PW.eqL ?_ rfl rfl (H h)
  rfl
theorem lp_L_take {N : Nat} {y : XS} (hN : N ≤ 256) : ∀ (j i : Nat) (X : XS), i + j = N → X.1 221 = nI N → X.1 180 = nI N → ∃ X' : XS, ((∀ q, X'.1 q = X.1 q) ∧ (∀ a, a ≠ 23 → a ≠ 24 → X'.2.1 a = X.2.1 a) ∧ X'.2.2 = X.2.2 ∧ (∀ q, q < i → X'.2.1 23 q = X.2.1 23 q ∧ X'.2.1 24 q = X.2.1 24 q) ∧ (∀ q, i ≤ q → q < N → X'.2.1 23 q = X.2.1 29 q ∧ X'.2.1 24 q = X.2.1 30 q)) ∧ ∀ {z : ZS} {post : Option Value → List PE → Prop}, post none (E X' y) → PW (1, 0, 0, z) m_L_take post 16 [some (.ref 22), some (.ref 27), some (.int (nI i))] [] (E X y) := by
  intro j
  induction j with
  | zero =>
    intro i X hi h221 h180
    refine ⟨X, ⟨fun _ => rfl, fun _ _ _ => rfl, rfl, fun _ _ => ⟨rfl, rfl⟩, fun q h1 h2 => absurd h1 (by omega)⟩, fun {z post} h => ?_⟩
    refine PW_iload_n c_L_take_16 rfl ?_
    refine PW_aload_n c_L_take_17 rfl ?_
    refine PW_get (v := .int (X.1 180)) c_L_take_18 fl_L_34 (gf_22_4 _ _) ?_
    rw [h180]
    show PW _ _ _ 21 [some (.ref 22), some (.ref 27), some (.int (nI i))] [.int (nI N), .int (nI i)] (E X y)
    refine PW_icmp_ge c_L_take_21 (fun h0 => ?_) (fun h0 => absurd ((nI_leI (by omega) (by omega)).mpr (by omega)) h0)
    refine PW_vreturn c_L_take_52 rfl ?_
    exact h
  | succ j ih =>
    intro i X hi h221 h180
    obtain ⟨X', ⟨f1, f2, f3, f4, f5⟩, H⟩ := ih (i + 1) (sA (sA X 23 (upd (X.2.1 23) i (X.2.1 29 i))) 24 (upd (X.2.1 24) i (X.2.1 30 i))) (by omega) h221 h180
    refine ⟨X', ⟨f1, fun a ha hb => (f2 a ha hb).trans (by rw [sA_A, if_neg hb, sA_A, if_neg ha]), f3, fun q hq => ?_, fun q h1 h2 => ?_⟩, fun {z post} h => ?_⟩
    · have w := f4 q (by omega)
      exact ⟨w.1.trans (upd_n (by omega)), w.2.trans (upd_n (by omega))⟩
    · by_cases e : q = i
      · have w := f4 q (by omega)
        subst e
        exact ⟨w.1.trans upd_s, w.2.trans upd_s⟩
      · have w := f5 q (by omega) h2
        exact w
    · skip
      refine PW_iload_n c_L_take_16 rfl ?_
      refine PW_aload_n c_L_take_17 rfl ?_
      refine PW_get (v := .int (X.1 180)) c_L_take_18 fl_L_34 (gf_22_4 _ _) ?_
      rw [h180]
      show PW _ _ _ 21 [some (.ref 22), some (.ref 27), some (.int (nI i))] [.int (nI N), .int (nI i)] (E X y)
      refine PW_icmp_ge c_L_take_21 (fun h0 => absurd h0 (fun w => absurd ((nI_leI (by omega) (by omega)).mp w) (by omega))) (fun h0 => ?_)
      refine PW_aload_n c_L_take_24 rfl ?_
      refine PW_get (v := .ref 23) c_L_take_25 fl_L_9 (gf_22_0 _ _) ?_
      refine PW_iload_n c_L_take_28 rfl ?_
      refine PW_aload_n c_L_take_29 rfl ?_
      refine PW_iload_n c_L_take_30 rfl ?_
      refine PW_V0 (d2 := 0) (st := [.int (nI i), .ref 23]) [.int (nI i)] c_L_take_31 lk_L_take_38 (po_27 _ _) rfl rfl rfl (Nat.le_of_ble_eq_true rfl) (by first | decide | omega) (Nat.le_of_ble_eq_true rfl) ?_
      show PW _ _ _ 0 [some (.ref 27), some (.int (nI i))] [] (E X y)
      refine PW_iload_n c_T_stepAt_0 rfl ?_
      refine PW_if_lt c_T_stepAt_1 (fun h1 => absurd h1 (nI_pos (by omega))) (fun h1 => ?_)
      refine PW_iload_n c_T_stepAt_4 rfl ?_
      refine PW_aload_n c_T_stepAt_5 rfl ?_
      refine PW_get (v := .int (X.1 221)) c_T_stepAt_6 fl_T_25 (gf_27_5 _ _) ?_
      rw [h221]
      show PW _ _ _ 9 [some (.ref 27), some (.int (nI i))] [.int (nI N), .int (nI i)] (E X y)
      refine PW_icmp_ge c_T_stepAt_9 (fun h2 => absurd h2 (fun w => absurd ((nI_leI (by omega) (by omega)).mp w) (by omega))) (fun h2 => ?_)
      refine PW_iload_n c_T_stepAt_12 rfl ?_
      refine PW_sipush (v := 256) c_T_stepAt_13 (by decide) ?_
      refine PW_icmp_ge c_T_stepAt_16 (fun h3 => absurd h3 (fun w => absurd ((nI_leI (a := 256) (by decide) (by omega)).mp w) (by omega))) (fun h3 => ?_)
      refine PW_aload_n c_T_stepAt_19 rfl ?_
      refine PW_get (v := .ref 29) c_T_stepAt_20 fl_T_15 (gf_27_1 _ _) ?_
      refine PW_iload_n c_T_stepAt_23 rfl ?_
      refine PW_iald (j := i) c_T_stepAt_24 (ar_29 _ _) (vp_in_nI (by omega) (by decide)) (nI_clamp (by omega)) ?_
      show PW _ _ _ 25 [some (.ref 27), some (.int (nI i))] [.int ((X.2.1 29) i)] (E X y)
      refine PW_goto c_T_stepAt_25 ?_
      refine PW_ireturn (ty := .int) c_T_stepAt_29 rfl rfl ?_
      show PW _ _ _ 34 [some (.ref 22), some (.ref 27), some (.int (nI i))] [.int ((X.2.1 29) i), .int (nI i), .ref 23] (E X y)
      refine PW_iast (j := i) (w2 := E (sA X 23 (upd (X.2.1 23) i ((X.2.1 29) i))) y) c_L_take_34 (ar_23 _ _) (vp_in_nI (by omega) (by decide)) (nI_clamp (by omega)) (aw_23 _ _ _) ?_
      refine PW_aload_n c_L_take_35 rfl ?_
      refine PW_get (v := .ref 24) c_L_take_36 fl_L_13 (gf_22_1 _ _) ?_
      refine PW_iload_n c_L_take_39 rfl ?_
      refine PW_aload_n c_L_take_40 rfl ?_
      refine PW_iload_n c_L_take_41 rfl ?_
      refine PW_V0 (d2 := 0) (st := [.int (nI i), .ref 24]) [.int (nI i)] c_L_take_42 lk_L_take_42 (po_27 _ _) rfl rfl rfl (Nat.le_of_ble_eq_true rfl) (by first | decide | omega) (Nat.le_of_ble_eq_true rfl) ?_
      show PW _ _ _ 0 [some (.ref 27), some (.int (nI i))] [] (E (sA X 23 (upd (X.2.1 23) i ((X.2.1 29) i))) y)
      refine PW_iload_n c_T_valueAt_0 rfl ?_
      refine PW_if_lt c_T_valueAt_1 (fun h4 => absurd h4 (nI_pos (by omega))) (fun h4 => ?_)
      refine PW_iload_n c_T_valueAt_4 rfl ?_
      refine PW_aload_n c_T_valueAt_5 rfl ?_
      refine PW_get (v := .int (X.1 221)) c_T_valueAt_6 fl_T_25 (gf_27_5 _ _) ?_
      rw [h221]
      show PW _ _ _ 9 [some (.ref 27), some (.int (nI i))] [.int (nI N), .int (nI i)] (E (sA X 23 (upd (X.2.1 23) i ((X.2.1 29) i))) y)
      refine PW_icmp_ge c_T_valueAt_9 (fun h5 => absurd h5 (fun w => absurd ((nI_leI (by omega) (by omega)).mp w) (by omega))) (fun h5 => ?_)
      refine PW_iload_n c_T_valueAt_12 rfl ?_
      refine PW_sipush (v := 256) c_T_valueAt_13 (by decide) ?_
      refine PW_icmp_ge c_T_valueAt_16 (fun h6 => absurd h6 (fun w => absurd ((nI_leI (a := 256) (by decide) (by omega)).mp w) (by omega))) (fun h6 => ?_)
      refine PW_aload_n c_T_valueAt_19 rfl ?_
      refine PW_get (v := .ref 30) c_T_valueAt_20 fl_T_18 (gf_27_2 _ _) ?_
      refine PW_iload_n c_T_valueAt_23 rfl ?_
      refine PW_iald (j := i) c_T_valueAt_24 (ar_30 _ _) (vp_in_nI (by omega) (by decide)) (nI_clamp (by omega)) ?_
      show PW _ _ _ 25 [some (.ref 27), some (.int (nI i))] [.int ((X.2.1 30) i)] (E (sA X 23 (upd (X.2.1 23) i ((X.2.1 29) i))) y)
      refine PW_goto c_T_valueAt_25 ?_
      refine PW_ireturn (ty := .int) c_T_valueAt_29 rfl rfl ?_
      show PW _ _ _ 45 [some (.ref 22), some (.ref 27), some (.int (nI i))] [.int ((X.2.1 30) i), .int (nI i), .ref 24] (E (sA X 23 (upd (X.2.1 23) i ((X.2.1 29) i))) y)
      refine PW_iast (j := i) (w2 := E (sA (sA X 23 (upd (X.2.1 23) i ((X.2.1 29) i))) 24 (upd (X.2.1 24) i ((X.2.1 30) i))) y) c_L_take_45 (ar_24 _ _) (vp_in_nI (by omega) (by decide)) (nI_clamp (by omega)) (aw_24 _ _ _) ?_
      refine PW_iinc (i := 2) (v := (nI i) + 1) (L2 := [some (.ref 22), some (.ref 27), some (.int ((nI i) + 1))]) c_L_take_46 rfl (iinc_v (by decide)) (Nat.le_of_ble_eq_true rfl) rfl rfl ?_
      refine PW_goto c_L_take_49 ?_
      refine PW.eqL ?_ rfl rfl (H h)
      show ([some (.ref 22), some (.ref 27), some (.int ((nI i) + 1))] : List (Option Value)) = [some (.ref 22), some (.ref 27), some (.int (nI (i + 1)))]
      rw [nI_1]
theorem sp_L_take {N : Nat} {X y : XS} (h221 : X.1 221 = nI N) (hN : N ≤ 256) : ∃ X' : XS, ((∀ q, q ≠ 180 → X'.1 q = X.1 q) ∧ X'.1 180 = nI N ∧ (∀ a, a ≠ 23 → a ≠ 24 → X'.2.1 a = X.2.1 a) ∧ X'.2.2 = X.2.2 ∧ ∀ q, q < N → X'.2.1 23 q = X.2.1 29 q ∧ X'.2.1 24 q = X.2.1 30 q) ∧ ∀ {z : ZS} {post : Option Value → List PE → Prop}, post none (E X' y) → PW (1, 0, 0, z) m_L_take post 0 [some (.ref 22), some (.ref 27), none] [] (E X y) := by
  have hN2 : ¬ (256 < nI N) := fun w => absurd ((nI_ltI (a := 256) (by decide) (by omega)).mp w) (by omega)
  obtain ⟨X', ⟨f1, f2, f3, f4, f5⟩, H⟩ := lp_L_take (y := y) hN N 0 (sI X 180 (nI N)) (Nat.zero_add _) ((sI_n (by decide)).trans h221) sI_s
  refine ⟨X', ⟨fun q hq => (f1 q).trans (sI_n hq), (f1 180).trans sI_s, f2, f3, fun q hq => f5 q (Nat.zero_le _) hq⟩, fun {z post} h => ?_⟩
  refine PW_aload_n c_L_take_0 rfl ?_
  refine PW_aload_n c_L_take_1 rfl ?_
  refine PW_V0 (d2 := 0) (st := [.ref 22]) [] c_L_take_2 lk_L_take_22 (po_27 _ _) rfl rfl rfl (Nat.le_of_ble_eq_true rfl) (by first | decide | omega) (Nat.le_of_ble_eq_true rfl) ?_
  show PW _ _ _ 0 [some (.ref 27)] [] (E X y)
  refine PW_aload_n c_T_stepCount_0 rfl ?_
  refine PW_get (v := .int (X.1 221)) c_T_stepCount_1 fl_T_25 (gf_27_5 _ _) ?_
  refine PW_ireturn (ty := .int) c_T_stepCount_4 rfl rfl ?_
  show PW _ _ _ 5 [some (.ref 22), some (.ref 27), none] [.int (X.1 221), .ref 22] (E X y)
  rw [h221]
  show PW _ _ _ 5 [some (.ref 22), some (.ref 27), none] [.int (nI N), .ref 22] (E X y)
  refine PW_sipush (v := 256) c_L_take_5 (by decide) ?_
  refine PW_mmin c_L_take_8 mk_L_take_28 (by decide) (by first | decide | exact Nat.le_of_ble_eq_true rfl) ?_
  rw [if_neg hN2]
  show PW _ _ _ 11 [some (.ref 22), some (.ref 27), none] [.int (nI N), .ref 22] (E X y)
  refine PW_put (w2 := E (sI X 180 (nI N)) y) c_L_take_11 fp_L_take_34 rfl (pf_22_4 _ _ _) ?_
  refine PW_iconst (v := 0) c_L_take_14 (by decide) ?_
  refine PW_istore_n (i := 2) (L2 := [some (.ref 22), some (.ref 27), some (.int 0)]) c_L_take_15 rfl (Nat.le_of_ble_eq_true rfl) rfl rfl ?_
  exact H h
