/-! the other side reads a level, an operand -/
def goodM (Y' : XS) (o k : Nat) (s : List Stp0) : Prop := Y'.1 579 = -1 ∧ Y'.1 580 = nI o ∧ Y'.1 581 = nI (k + s.length) ∧ wrA (Y'.2.1 84) (Y'.2.1 85) (130 + k) (s.map stM)
def badM (Y' : XS) (k p q : Nat) : Prop := Y'.1 579 = nI q ∧ ∃ l, Y'.1 581 = nI l ∧ k ≤ l ∧ l + p ≤ k + q + 1
def resM (g : Nat → Nat) (n : Nat) (Y Y' : XS) (o k p : Nat) (r : PRs) : Prop := frM Y Y' ∧ lowA (Y.2.1 84) (Y.2.1 85) (Y'.2.1 84) (Y'.2.1 85) (130 + k) ∧ Y'.1 578 = nI r.2.1 ∧ ((r.1 = true ∧ goodM Y' o k r.2.2) ∨ ((r.1 = true → isD (sg g n r.2.1)) ∧ badM Y' k p r.2.1))
def MOK (g : Nat → Nat) (n : Nat) (mi : MI) (L0 : List (Option Value)) (fu lev : Nat) : Prop := ∀ (o p k : Nat) (Y : XS), o ≤ 6 → (6 - o) * 6 + (6 - lev) ≤ fu → tpM Y g n → Y.1 578 = nI p → Y.1 579 = -1 → Y.1 580 = nI o → Y.1 581 = nI k → p ≤ n → k ≤ p → ∃ Y' : XS, resM g n Y Y' o k p (pF g n fu lev o p) ∧ ∀ {x : XS} {z : ZS} {post : Option Value → List PE → Prop}, post none (E x Y') → PW (fu + 1, 0, 0, z) mi post 0 L0 [] (E x Y)
theorem lpF_stop {G : Nat → PRs} {g : Nat → Nat} {n lev j p : Nat} {acc : List Stp0} (h : ¬ lvO (sg g n p) = lev) : lpF G g n lev j p acc = (true, p, acc) := by
  cases j with
  | zero => rw [lpF]
  | succ j => rw [lpF, if_neg h]
theorem lv_0 {c : Nat} : lvO c = 0 ↔ c = 124 := by
  unfold lvO
  repeat' split
  all_goals omega
theorem lv_1 {c : Nat} : lvO c = 1 ↔ c = 38 := by
  unfold lvO
  repeat' split
  all_goals omega
theorem lv_2 {c : Nat} : lvO c = 2 ↔ (c = 60 ∨ c = 61 ∨ c = 62) := by
  unfold lvO
  repeat' split
  all_goals omega
theorem lv_3 {c : Nat} : lvO c = 3 ↔ (c = 43 ∨ c = 45) := by
  unfold lvO
  repeat' split
  all_goals omega
theorem lv_4 {c : Nat} : lvO c = 4 ↔ (c = 42 ∨ c = 47 ∨ c = 37) := by
  unfold lvO
  repeat' split
  all_goals omega
theorem ti_m1 : ¬ (0 : Int32) ≤ -1 := by decide
theorem stM_op {c : Nat} : stM (c, 0) = (nI c, 0) := rfl
theorem lp_either {g : Nat → Nat} {n fu o k p0 : Nat} {Y0 : XS} (ih : MOK g n m_M_both [some (.ref 70)] fu 1) (ho : o ≤ 6) (hfu : (6 - o) * 6 + (6 - 1) ≤ fu) (hk : k ≤ p0) : ∀ (j q : Nat) (acc : List Stp0) (Y : XS), 121 ≤ q + j → tpM Y g n → frM Y0 Y → lowA (Y0.2.1 84) (Y0.2.1 85) (Y.2.1 84) (Y.2.1 85) (130 + k) → Y.1 578 = nI q → goodM Y o k acc → okP p0 n (true, q, acc) → ∃ Y' : XS, resM g n Y0 Y' o k p0 (lpF (pF g n fu 1 o) g n 0 j q acc) ∧ ∀ {x : XS} {z : ZS} {post : Option Value → List PE → Prop}, post none (E x Y') → PW (fu + 2, 0, 0, z) m_M_either post 4 [some (.ref 70)] [] (E x Y) := by
  intro j
  induction j with
  | zero =>
    intro q acc Y hj hT hf hlo hp hg hok
    have hq : q ≤ n := hok.2.1
    have hn := hT.2.1
    omega
  | succ j ihj =>
    intro q acc Y hj hT hf hlo hp hg hok
    have hq : q ≤ n := hok.2.1
    have hn := hT.2.1
    have ha : acc.length + p0 ≤ q := (hok.2.2 rfl).2.1
    obtain ⟨hF, hO, hS, hw⟩ := id hg
    by_cases hlv : lvO (sg g n q) = 0
    · have hop := lvO_op (c := sg g n q) (by omega)
      have hc := op_cd hop
      have hqn : q < n := sg_lt (g := g) (by omega)
      have he := lv_0.mp hlv
      have e := he
      have hlk : lkM (sg g n q) = nI (sg g n q) := lkM_lo (by omega)
      obtain ⟨Y2, ⟨f2, u2, p2, c2⟩, H2⟩ := ih o (q + 1) (k + acc.length) (sI Y 578 (nI (q + 1))) ho hfu (tpM_fr hT (frM_i (by decide))) sI_s ((sI_n (by decide)).trans hF) ((sI_n (by decide)).trans hO) ((sI_n (by decide)).trans hS) hqn (by omega)
      have w2 := pF_p (g := g) fu 1 o (q + 1) hqn
      have w2n := w2.2.1
      have w2p := w2.1
      have ff := frM_t hf (frM_t (frM_i (m := 578) (v := nI (q + 1)) (by decide)) f2)
      rcases c2 with ⟨r2, b2, o2, s2, v2⟩ | ⟨r2, b2, l2, s2, hk2, hl2⟩
      · obtain ⟨z4, z5, z6, z7⟩ := w2.2.2 r2
        have s2 : Y2.1 581 = nI (k + (acc.length + (pF g n fu 1 o (q + 1)).2.2.length)) := by rw [s2]; congr 1; omega
        have wA : wrA (Y2.2.1 84) (Y2.2.1 85) (130 + k) ((acc ++ (pF g n fu 1 o (q + 1)).2.2).map stM) := by
          rw [List.map_append]
          refine wrA_app (wrA_low hw u2 (by rw [List.length_map]; omega)) ?_
          rw [List.length_map, show 130 + k + acc.length = 130 + (k + acc.length) by omega]
          exact v2
        have hacc : okP p0 n (true, (pF g n fu 1 o (q + 1)).2.1, acc ++ (pF g n fu 1 o (q + 1)).2.2 ++ [(sg g n q, 0)]) := by
          have := lpF_p (g := g) (n := n) (G := pF g n fu 1 o) (lev := 0) (by decide) (fun r hr => pF_p fu 1 o r hr) 1 q acc hok
          rw [lpF, if_pos hlv, if_pos r2, lpF] at this
          exact this
        obtain ⟨Y', hR, H3⟩ := ihj (pF g n fu 1 o (q + 1)).2.1 (acc ++ (pF g n fu 1 o (q + 1)).2.2 ++ [(sg g n q, 0)]) (adS Y2 (k + (acc.length + (pF g n fu 1 o (q + 1)).2.2.length)) (nI (sg g n q)) 0) (by omega) (tpM_fr (tpM_fr (tpM_fr hT (frM_i (by decide))) f2) frM_a) (frM_t ff frM_a) (by
            rw [adS_84, adS_85]
            exact lowA_t (lowA_t hlo u2 (by omega)) (lowA_u (Nat.le_refl (130 + (k + (acc.length + (pF g n fu 1 o (q + 1)).2.2.length))))) (by omega)) ((adS_1 (by decide)).trans p2) ⟨(adS_1 (by decide)).trans b2, (adS_1 (by decide)).trans o2, by
            refine adS_s.trans ?_
            rw [List.length_append, List.length_append, List.length_singleton]
            exact congrArg nI (by omega), by
            rw [adS_84, adS_85, List.map_append, List.map_singleton, stM_op]
            exact wrA_snoc (by rw [List.length_map, List.length_append]; omega) wA⟩ hacc
        rw [lpF, if_pos hlv, if_pos r2]
        refine ⟨Y', hR, fun {x z post} h => ?_⟩
        refine PW_aload_n c_M_either_4 rfl ?_
        refine PW_get (v := .int (Y.1 579)) c_M_either_5 fl_M_188 (gf_70_19 _ _) ?_
        rw [hF]
        show PW _ _ _ 8 [some (.ref 70)] [.int (-1)] (E x Y)
        refine PW_if_ge c_M_either_8 (fun h0 => absurd h0 (by decide)) (fun _ => ?_)
        refine PW_aload_n c_M_either_11 rfl ?_
        refine PW_V0 (d2 := 0) (st := []) [] c_M_either_12 lk_M_either_200 (po_70 _ _) rfl rfl rfl (Nat.le_of_ble_eq_true rfl) (by first | decide | omega) (Nat.le_of_ble_eq_true rfl) ?_
        refine sp_M_look hT hp hq ?_
        show PW _ _ _ 15 [some (.ref 70)] [.int (lkM (sg g n q))] (E x Y)
        refine PW_bipush (v := 124) c_M_either_15 (by decide) ?_
        refine PW_icmp_ne c_M_either_17 (fun h1 => absurd h1 (not_not_intro ((lkM_k (tpM_sg hT) (by decide) (k := 124)).mpr e))) (fun h1 => ?_)
        refine PW_aload_n c_M_either_20 rfl ?_
        refine PW_dup c_M_either_21 rfl ?_
        refine PW_get (v := .int (Y.1 578)) c_M_either_22 fl_M_185 (gf_70_18 _ _) ?_
        rw [hp]
        show PW _ _ _ 25 [some (.ref 70)] [.int (nI q), .ref 70] (E x Y)
        refine PW_iconst (v := 1) c_M_either_25 (by decide) ?_
        refine PW_iadd c_M_either_26 ?_
        refine PW_put (w2 := E x (sI Y 578 ((nI q) + 1))) c_M_either_27 fp_M_either_185 rfl (pf_70_18 _ _ _) ?_
        rw [nI_1 (q)]
        show PW _ _ _ 30 [some (.ref 70)] [] (E x (sI Y 578 (nI (q + 1))))
        refine PW_aload_n c_M_either_30 rfl ?_
        refine PW_V0 (d2 := fu + 1) (st := []) [] c_M_either_31 lk_M_either_234 (po_70 _ _) rfl rfl rfl (Nat.le_of_ble_eq_true rfl) (by first | decide | omega) (Nat.le_of_ble_eq_true rfl) ?_
        refine H2 ?_
        show PW _ _ _ 34 [some (.ref 70)] [] (E x Y2)
        refine PW_aload_n c_M_either_34 rfl ?_
        refine PW_bipush (v := 124) c_M_either_35 (by decide) ?_
        refine PW_iconst (v := 0) c_M_either_37 (by decide) ?_
        refine PW_V0 (d2 := 0) (st := []) [.int 124, .int 0] c_M_either_38 lk_M_either_204 (po_70 _ _) rfl rfl rfl (Nat.le_of_ble_eq_true rfl) (by first | decide | omega) (Nat.le_of_ble_eq_true rfl) ?_
        refine sp_M_addStep (a := sg g n q) (k := (k + (acc.length + (pF g n fu 1 o (q + 1)).2.2.length))) (show (124 : Int32) = nI (sg g n q) by rw [e]; rfl) (by omega) s2 (by omega) ?_
        show PW _ _ _ 41 [some (.ref 70)] [] (E x (adS Y2 (k + (acc.length + (pF g n fu 1 o (q + 1)).2.2.length)) (nI (sg g n q)) 0))
        refine PW_goto c_M_either_41 ?_
        refine PW.eqL ?_ rfl rfl (H3 h)
        rfl
      · refine ⟨adS Y2 l2 (nI (sg g n q)) 0, ⟨frM_t ff frM_a, ?_, ?_, Or.inr ?_⟩, fun {x z post} h => ?_⟩
        · rw [adS_84, adS_85]
          exact lowA_t (lowA_t hlo u2 (by omega)) (lowA_u (Nat.le_refl (130 + l2))) (by omega)
        · rw [lpF, if_pos hlv]
          by_cases r : (pF g n fu 1 o (q + 1)).1 = true
          · rw [if_pos r, lpF_stop (lvO_D (by decide) (r2 r))]
            exact (adS_1 (by decide)).trans p2
          · rw [if_neg r]
            exact (adS_1 (by decide)).trans p2
        · rw [lpF, if_pos hlv]
          by_cases r : (pF g n fu 1 o (q + 1)).1 = true
          · rw [if_pos r, lpF_stop (lvO_D (by decide) (r2 r))]
            exact ⟨fun _ => r2 r, (adS_1 (by decide)).trans b2, l2 + 1, adS_s, by omega, by show l2 + 1 + p0 ≤ k + (pF g n fu 1 o (q + 1)).2.1 + 1; omega⟩
          · rw [if_neg r]
            exact ⟨fun w => Bool.noConfusion w, (adS_1 (by decide)).trans b2, l2 + 1, adS_s, by omega, by show l2 + 1 + p0 ≤ k + (pF g n fu 1 o (q + 1)).2.1 + 1; omega⟩
        · skip
          refine PW_aload_n c_M_either_4 rfl ?_
          refine PW_get (v := .int (Y.1 579)) c_M_either_5 fl_M_188 (gf_70_19 _ _) ?_
          rw [hF]
          show PW _ _ _ 8 [some (.ref 70)] [.int (-1)] (E x Y)
          refine PW_if_ge c_M_either_8 (fun h0 => absurd h0 (by decide)) (fun _ => ?_)
          refine PW_aload_n c_M_either_11 rfl ?_
          refine PW_V0 (d2 := 0) (st := []) [] c_M_either_12 lk_M_either_200 (po_70 _ _) rfl rfl rfl (Nat.le_of_ble_eq_true rfl) (by first | decide | omega) (Nat.le_of_ble_eq_true rfl) ?_
          refine sp_M_look hT hp hq ?_
          show PW _ _ _ 15 [some (.ref 70)] [.int (lkM (sg g n q))] (E x Y)
          refine PW_bipush (v := 124) c_M_either_15 (by decide) ?_
          refine PW_icmp_ne c_M_either_17 (fun h1 => absurd h1 (not_not_intro ((lkM_k (tpM_sg hT) (by decide) (k := 124)).mpr e))) (fun h1 => ?_)
          refine PW_aload_n c_M_either_20 rfl ?_
          refine PW_dup c_M_either_21 rfl ?_
          refine PW_get (v := .int (Y.1 578)) c_M_either_22 fl_M_185 (gf_70_18 _ _) ?_
          rw [hp]
          show PW _ _ _ 25 [some (.ref 70)] [.int (nI q), .ref 70] (E x Y)
          refine PW_iconst (v := 1) c_M_either_25 (by decide) ?_
          refine PW_iadd c_M_either_26 ?_
          refine PW_put (w2 := E x (sI Y 578 ((nI q) + 1))) c_M_either_27 fp_M_either_185 rfl (pf_70_18 _ _ _) ?_
          rw [nI_1 (q)]
          show PW _ _ _ 30 [some (.ref 70)] [] (E x (sI Y 578 (nI (q + 1))))
          refine PW_aload_n c_M_either_30 rfl ?_
          refine PW_V0 (d2 := fu + 1) (st := []) [] c_M_either_31 lk_M_either_234 (po_70 _ _) rfl rfl rfl (Nat.le_of_ble_eq_true rfl) (by first | decide | omega) (Nat.le_of_ble_eq_true rfl) ?_
          refine H2 ?_
          show PW _ _ _ 34 [some (.ref 70)] [] (E x Y2)
          refine PW_aload_n c_M_either_34 rfl ?_
          refine PW_bipush (v := 124) c_M_either_35 (by decide) ?_
          refine PW_iconst (v := 0) c_M_either_37 (by decide) ?_
          refine PW_V0 (d2 := 0) (st := []) [.int 124, .int 0] c_M_either_38 lk_M_either_204 (po_70 _ _) rfl rfl rfl (Nat.le_of_ble_eq_true rfl) (by first | decide | omega) (Nat.le_of_ble_eq_true rfl) ?_
          refine sp_M_addStep (a := sg g n q) (k := l2) (show (124 : Int32) = nI (sg g n q) by rw [e]; rfl) (by omega) s2 (by omega) ?_
          show PW _ _ _ 41 [some (.ref 70)] [] (E x (adS Y2 l2 (nI (sg g n q)) 0))
          refine PW_goto c_M_either_41 ?_
          refine PW_aload_n c_M_either_4 rfl ?_
          refine PW_get (v := .int ((adS Y2 l2 (nI (sg g n q)) 0).1 579)) c_M_either_5 fl_M_188 (gf_70_19 _ _) ?_
          rw [(adS_1 (by decide)).trans b2]
          show PW _ _ _ 8 [some (.ref 70)] [.int (nI (pF g n fu 1 o (q + 1)).2.1)] (E x (adS Y2 l2 (nI (sg g n q)) 0))
          refine PW_if_ge c_M_either_8 (fun h2 => ?_) (fun h2 => absurd (nI_pos' (by omega)) h2)
          refine PW_vreturn c_M_either_44 rfl ?_
          exact h
    · rw [lpF, if_neg hlv]
      refine ⟨Y, ⟨hf, hlo, hp, Or.inl ⟨rfl, hg⟩⟩, fun {x z post} h => ?_⟩
      have n124 : ¬ sg g n q = 124 := fun w => hlv (lv_0.mpr (by omega))
      refine PW_aload_n c_M_either_4 rfl ?_
      refine PW_get (v := .int (Y.1 579)) c_M_either_5 fl_M_188 (gf_70_19 _ _) ?_
      rw [hF]
      show PW _ _ _ 8 [some (.ref 70)] [.int (-1)] (E x Y)
      refine PW_if_ge c_M_either_8 (fun h0 => absurd h0 (by decide)) (fun _ => ?_)
      refine PW_aload_n c_M_either_11 rfl ?_
      refine PW_V0 (d2 := 0) (st := []) [] c_M_either_12 lk_M_either_200 (po_70 _ _) rfl rfl rfl (Nat.le_of_ble_eq_true rfl) (by first | decide | omega) (Nat.le_of_ble_eq_true rfl) ?_
      refine sp_M_look hT hp hq ?_
      show PW _ _ _ 15 [some (.ref 70)] [.int (lkM (sg g n q))] (E x Y)
      refine PW_bipush (v := 124) c_M_either_15 (by decide) ?_
      refine PW_icmp_ne c_M_either_17 (fun h1 => ?_) (fun h1 => absurd h1 (fun w => n124 ((lkM_k (tpM_sg hT) (by decide) (k := 124)).mp w)))
      refine PW_vreturn c_M_either_44 rfl ?_
      exact h
theorem M_either_step {g : Nat → Nat} {n fu : Nat} (ih : MOK g n m_M_both [some (.ref 70)] fu 1) : MOK g n m_M_either [some (.ref 70)] (fu + 1) 0 := by
  intro o p k Y ho hfu hT hp hF hO hS hpn hk
  have hn := hT.2.1
  obtain ⟨Y1, ⟨f1, u1, p1, c1⟩, H1⟩ := ih o p k Y ho (by omega) hT hp hF hO hS hpn hk
  have w1 := pF_p (g := g) fu 1 o p hpn
  have w1n := w1.2.1
  rw [pF_lev (by decide : 0 < 5)]
  rcases c1 with ⟨r1, b1⟩ | ⟨r1, b1, l1, s1, hk1, hl1⟩
  · rw [if_pos r1, if_neg (by decide : ¬ 0 = 2)]
    have hok : okP p n (true, (pF g n fu 1 o p).2.1, (pF g n fu 1 o p).2.2) := ⟨w1.1, w1.2.1, fun _ => w1.2.2 r1⟩
    obtain ⟨Y', hR, HL⟩ := lp_either ih ho (by omega) hk 120 _ _ Y1 (by have := (w1.2.2 r1).1; omega) (tpM_fr hT f1) f1 u1 p1 b1 hok
    refine ⟨Y', hR, fun {x z post} h => ?_⟩
    refine PW_aload_n c_M_either_0 rfl ?_
    refine PW_V0 (d2 := fu + 1) (st := []) [] c_M_either_1 lk_M_either_234 (po_70 _ _) rfl rfl rfl (Nat.le_of_ble_eq_true rfl) (by first | decide | omega) (Nat.le_of_ble_eq_true rfl) ?_
    refine H1 ?_
    show PW _ _ _ 4 [some (.ref 70)] [] (E x Y1)
    refine PW.eqL ?_ rfl rfl (HL h)
    rfl
  · refine ⟨Y1, ⟨f1, u1, ?_, Or.inr ?_⟩, fun {x z post} h => ?_⟩
    · by_cases r : (pF g n fu 1 o p).1 = true
      · rw [if_pos r, lpF_stop (lvO_D (by decide) (r1 r))]; exact p1
      · rw [if_neg r]; exact p1
    · by_cases r : (pF g n fu 1 o p).1 = true
      · rw [if_pos r, lpF_stop (lvO_D (by decide) (r1 r))]; exact ⟨fun _ => r1 r, b1, l1, s1, hk1, hl1⟩
      · rw [if_neg r]; exact ⟨fun w => Bool.noConfusion w, b1, l1, s1, hk1, hl1⟩
    · skip
      refine PW_aload_n c_M_either_0 rfl ?_
      refine PW_V0 (d2 := fu + 1) (st := []) [] c_M_either_1 lk_M_either_234 (po_70 _ _) rfl rfl rfl (Nat.le_of_ble_eq_true rfl) (by first | decide | omega) (Nat.le_of_ble_eq_true rfl) ?_
      refine H1 ?_
      show PW _ _ _ 4 [some (.ref 70)] [] (E x Y1)
      refine PW_aload_n c_M_either_4 rfl ?_
      refine PW_get (v := .int (Y1.1 579)) c_M_either_5 fl_M_188 (gf_70_19 _ _) ?_
      rw [b1]
      show PW _ _ _ 8 [some (.ref 70)] [.int (nI (pF g n fu 1 o p).2.1)] (E x Y1)
      refine PW_if_ge c_M_either_8 (fun h0 => ?_) (fun h0 => absurd (nI_pos' (by omega)) h0)
      refine PW_vreturn c_M_either_44 rfl ?_
      exact h
theorem lp_both {g : Nat → Nat} {n fu o k p0 : Nat} {Y0 : XS} (ih : MOK g n m_M_compared [some (.ref 70), none] fu 2) (ho : o ≤ 6) (hfu : (6 - o) * 6 + (6 - 2) ≤ fu) (hk : k ≤ p0) : ∀ (j q : Nat) (acc : List Stp0) (Y : XS), 121 ≤ q + j → tpM Y g n → frM Y0 Y → lowA (Y0.2.1 84) (Y0.2.1 85) (Y.2.1 84) (Y.2.1 85) (130 + k) → Y.1 578 = nI q → goodM Y o k acc → okP p0 n (true, q, acc) → ∃ Y' : XS, resM g n Y0 Y' o k p0 (lpF (pF g n fu 2 o) g n 1 j q acc) ∧ ∀ {x : XS} {z : ZS} {post : Option Value → List PE → Prop}, post none (E x Y') → PW (fu + 2, 0, 0, z) m_M_both post 4 [some (.ref 70)] [] (E x Y) := by
  intro j
  induction j with
  | zero =>
    intro q acc Y hj hT hf hlo hp hg hok
    have hq : q ≤ n := hok.2.1
    have hn := hT.2.1
    omega
  | succ j ihj =>
    intro q acc Y hj hT hf hlo hp hg hok
    have hq : q ≤ n := hok.2.1
    have hn := hT.2.1
    have ha : acc.length + p0 ≤ q := (hok.2.2 rfl).2.1
    obtain ⟨hF, hO, hS, hw⟩ := id hg
    by_cases hlv : lvO (sg g n q) = 1
    · have hop := lvO_op (c := sg g n q) (by omega)
      have hc := op_cd hop
      have hqn : q < n := sg_lt (g := g) (by omega)
      have he := lv_1.mp hlv
      have e := he
      have hlk : lkM (sg g n q) = nI (sg g n q) := lkM_lo (by omega)
      obtain ⟨Y2, ⟨f2, u2, p2, c2⟩, H2⟩ := ih o (q + 1) (k + acc.length) (sI Y 578 (nI (q + 1))) ho hfu (tpM_fr hT (frM_i (by decide))) sI_s ((sI_n (by decide)).trans hF) ((sI_n (by decide)).trans hO) ((sI_n (by decide)).trans hS) hqn (by omega)
      have w2 := pF_p (g := g) fu 2 o (q + 1) hqn
      have w2n := w2.2.1
      have w2p := w2.1
      have ff := frM_t hf (frM_t (frM_i (m := 578) (v := nI (q + 1)) (by decide)) f2)
      rcases c2 with ⟨r2, b2, o2, s2, v2⟩ | ⟨r2, b2, l2, s2, hk2, hl2⟩
      · obtain ⟨z4, z5, z6, z7⟩ := w2.2.2 r2
        have s2 : Y2.1 581 = nI (k + (acc.length + (pF g n fu 2 o (q + 1)).2.2.length)) := by rw [s2]; congr 1; omega
        have wA : wrA (Y2.2.1 84) (Y2.2.1 85) (130 + k) ((acc ++ (pF g n fu 2 o (q + 1)).2.2).map stM) := by
          rw [List.map_append]
          refine wrA_app (wrA_low hw u2 (by rw [List.length_map]; omega)) ?_
          rw [List.length_map, show 130 + k + acc.length = 130 + (k + acc.length) by omega]
          exact v2
        have hacc : okP p0 n (true, (pF g n fu 2 o (q + 1)).2.1, acc ++ (pF g n fu 2 o (q + 1)).2.2 ++ [(sg g n q, 0)]) := by
          have := lpF_p (g := g) (n := n) (G := pF g n fu 2 o) (lev := 1) (by decide) (fun r hr => pF_p fu 2 o r hr) 1 q acc hok
          rw [lpF, if_pos hlv, if_pos r2, lpF] at this
          exact this
        obtain ⟨Y', hR, H3⟩ := ihj (pF g n fu 2 o (q + 1)).2.1 (acc ++ (pF g n fu 2 o (q + 1)).2.2 ++ [(sg g n q, 0)]) (adS Y2 (k + (acc.length + (pF g n fu 2 o (q + 1)).2.2.length)) (nI (sg g n q)) 0) (by omega) (tpM_fr (tpM_fr (tpM_fr hT (frM_i (by decide))) f2) frM_a) (frM_t ff frM_a) (by
            rw [adS_84, adS_85]
            exact lowA_t (lowA_t hlo u2 (by omega)) (lowA_u (Nat.le_refl (130 + (k + (acc.length + (pF g n fu 2 o (q + 1)).2.2.length))))) (by omega)) ((adS_1 (by decide)).trans p2) ⟨(adS_1 (by decide)).trans b2, (adS_1 (by decide)).trans o2, by
            refine adS_s.trans ?_
            rw [List.length_append, List.length_append, List.length_singleton]
            exact congrArg nI (by omega), by
            rw [adS_84, adS_85, List.map_append, List.map_singleton, stM_op]
            exact wrA_snoc (by rw [List.length_map, List.length_append]; omega) wA⟩ hacc
        rw [lpF, if_pos hlv, if_pos r2]
        refine ⟨Y', hR, fun {x z post} h => ?_⟩
        refine PW_aload_n c_M_both_4 rfl ?_
        refine PW_get (v := .int (Y.1 579)) c_M_both_5 fl_M_188 (gf_70_19 _ _) ?_
        rw [hF]
        show PW _ _ _ 8 [some (.ref 70)] [.int (-1)] (E x Y)
        refine PW_if_ge c_M_both_8 (fun h0 => absurd h0 (by decide)) (fun _ => ?_)
        refine PW_aload_n c_M_both_11 rfl ?_
        refine PW_V0 (d2 := 0) (st := []) [] c_M_both_12 lk_M_both_200 (po_70 _ _) rfl rfl rfl (Nat.le_of_ble_eq_true rfl) (by first | decide | omega) (Nat.le_of_ble_eq_true rfl) ?_
        refine sp_M_look hT hp hq ?_
        show PW _ _ _ 15 [some (.ref 70)] [.int (lkM (sg g n q))] (E x Y)
        refine PW_bipush (v := 38) c_M_both_15 (by decide) ?_
        refine PW_icmp_ne c_M_both_17 (fun h1 => absurd h1 (not_not_intro ((lkM_k (tpM_sg hT) (by decide) (k := 38)).mpr e))) (fun h1 => ?_)
        refine PW_aload_n c_M_both_20 rfl ?_
        refine PW_dup c_M_both_21 rfl ?_
        refine PW_get (v := .int (Y.1 578)) c_M_both_22 fl_M_185 (gf_70_18 _ _) ?_
        rw [hp]
        show PW _ _ _ 25 [some (.ref 70)] [.int (nI q), .ref 70] (E x Y)
        refine PW_iconst (v := 1) c_M_both_25 (by decide) ?_
        refine PW_iadd c_M_both_26 ?_
        refine PW_put (w2 := E x (sI Y 578 ((nI q) + 1))) c_M_both_27 fp_M_both_185 rfl (pf_70_18 _ _ _) ?_
        rw [nI_1 (q)]
        show PW _ _ _ 30 [some (.ref 70)] [] (E x (sI Y 578 (nI (q + 1))))
        refine PW_aload_n c_M_both_30 rfl ?_
        refine PW_V0 (d2 := fu + 1) (st := []) [] c_M_both_31 lk_M_both_231 (po_70 _ _) rfl rfl rfl (Nat.le_of_ble_eq_true rfl) (by first | decide | omega) (Nat.le_of_ble_eq_true rfl) ?_
        refine H2 ?_
        show PW _ _ _ 34 [some (.ref 70)] [] (E x Y2)
        refine PW_aload_n c_M_both_34 rfl ?_
        refine PW_bipush (v := 38) c_M_both_35 (by decide) ?_
        refine PW_iconst (v := 0) c_M_both_37 (by decide) ?_
        refine PW_V0 (d2 := 0) (st := []) [.int 38, .int 0] c_M_both_38 lk_M_both_204 (po_70 _ _) rfl rfl rfl (Nat.le_of_ble_eq_true rfl) (by first | decide | omega) (Nat.le_of_ble_eq_true rfl) ?_
        refine sp_M_addStep (a := sg g n q) (k := (k + (acc.length + (pF g n fu 2 o (q + 1)).2.2.length))) (show (38 : Int32) = nI (sg g n q) by rw [e]; rfl) (by omega) s2 (by omega) ?_
        show PW _ _ _ 41 [some (.ref 70)] [] (E x (adS Y2 (k + (acc.length + (pF g n fu 2 o (q + 1)).2.2.length)) (nI (sg g n q)) 0))
        refine PW_goto c_M_both_41 ?_
        refine PW.eqL ?_ rfl rfl (H3 h)
        rfl
      · refine ⟨adS Y2 l2 (nI (sg g n q)) 0, ⟨frM_t ff frM_a, ?_, ?_, Or.inr ?_⟩, fun {x z post} h => ?_⟩
        · rw [adS_84, adS_85]
          exact lowA_t (lowA_t hlo u2 (by omega)) (lowA_u (Nat.le_refl (130 + l2))) (by omega)
        · rw [lpF, if_pos hlv]
          by_cases r : (pF g n fu 2 o (q + 1)).1 = true
          · rw [if_pos r, lpF_stop (lvO_D (by decide) (r2 r))]
            exact (adS_1 (by decide)).trans p2
          · rw [if_neg r]
            exact (adS_1 (by decide)).trans p2
        · rw [lpF, if_pos hlv]
          by_cases r : (pF g n fu 2 o (q + 1)).1 = true
          · rw [if_pos r, lpF_stop (lvO_D (by decide) (r2 r))]
            exact ⟨fun _ => r2 r, (adS_1 (by decide)).trans b2, l2 + 1, adS_s, by omega, by show l2 + 1 + p0 ≤ k + (pF g n fu 2 o (q + 1)).2.1 + 1; omega⟩
          · rw [if_neg r]
            exact ⟨fun w => Bool.noConfusion w, (adS_1 (by decide)).trans b2, l2 + 1, adS_s, by omega, by show l2 + 1 + p0 ≤ k + (pF g n fu 2 o (q + 1)).2.1 + 1; omega⟩
        · skip
          refine PW_aload_n c_M_both_4 rfl ?_
          refine PW_get (v := .int (Y.1 579)) c_M_both_5 fl_M_188 (gf_70_19 _ _) ?_
          rw [hF]
          show PW _ _ _ 8 [some (.ref 70)] [.int (-1)] (E x Y)
          refine PW_if_ge c_M_both_8 (fun h0 => absurd h0 (by decide)) (fun _ => ?_)
          refine PW_aload_n c_M_both_11 rfl ?_
          refine PW_V0 (d2 := 0) (st := []) [] c_M_both_12 lk_M_both_200 (po_70 _ _) rfl rfl rfl (Nat.le_of_ble_eq_true rfl) (by first | decide | omega) (Nat.le_of_ble_eq_true rfl) ?_
          refine sp_M_look hT hp hq ?_
          show PW _ _ _ 15 [some (.ref 70)] [.int (lkM (sg g n q))] (E x Y)
          refine PW_bipush (v := 38) c_M_both_15 (by decide) ?_
          refine PW_icmp_ne c_M_both_17 (fun h1 => absurd h1 (not_not_intro ((lkM_k (tpM_sg hT) (by decide) (k := 38)).mpr e))) (fun h1 => ?_)
          refine PW_aload_n c_M_both_20 rfl ?_
          refine PW_dup c_M_both_21 rfl ?_
          refine PW_get (v := .int (Y.1 578)) c_M_both_22 fl_M_185 (gf_70_18 _ _) ?_
          rw [hp]
          show PW _ _ _ 25 [some (.ref 70)] [.int (nI q), .ref 70] (E x Y)
          refine PW_iconst (v := 1) c_M_both_25 (by decide) ?_
          refine PW_iadd c_M_both_26 ?_
          refine PW_put (w2 := E x (sI Y 578 ((nI q) + 1))) c_M_both_27 fp_M_both_185 rfl (pf_70_18 _ _ _) ?_
          rw [nI_1 (q)]
          show PW _ _ _ 30 [some (.ref 70)] [] (E x (sI Y 578 (nI (q + 1))))
          refine PW_aload_n c_M_both_30 rfl ?_
          refine PW_V0 (d2 := fu + 1) (st := []) [] c_M_both_31 lk_M_both_231 (po_70 _ _) rfl rfl rfl (Nat.le_of_ble_eq_true rfl) (by first | decide | omega) (Nat.le_of_ble_eq_true rfl) ?_
          refine H2 ?_
          show PW _ _ _ 34 [some (.ref 70)] [] (E x Y2)
          refine PW_aload_n c_M_both_34 rfl ?_
          refine PW_bipush (v := 38) c_M_both_35 (by decide) ?_
          refine PW_iconst (v := 0) c_M_both_37 (by decide) ?_
          refine PW_V0 (d2 := 0) (st := []) [.int 38, .int 0] c_M_both_38 lk_M_both_204 (po_70 _ _) rfl rfl rfl (Nat.le_of_ble_eq_true rfl) (by first | decide | omega) (Nat.le_of_ble_eq_true rfl) ?_
          refine sp_M_addStep (a := sg g n q) (k := l2) (show (38 : Int32) = nI (sg g n q) by rw [e]; rfl) (by omega) s2 (by omega) ?_
          show PW _ _ _ 41 [some (.ref 70)] [] (E x (adS Y2 l2 (nI (sg g n q)) 0))
          refine PW_goto c_M_both_41 ?_
          refine PW_aload_n c_M_both_4 rfl ?_
          refine PW_get (v := .int ((adS Y2 l2 (nI (sg g n q)) 0).1 579)) c_M_both_5 fl_M_188 (gf_70_19 _ _) ?_
          rw [(adS_1 (by decide)).trans b2]
          show PW _ _ _ 8 [some (.ref 70)] [.int (nI (pF g n fu 2 o (q + 1)).2.1)] (E x (adS Y2 l2 (nI (sg g n q)) 0))
          refine PW_if_ge c_M_both_8 (fun h2 => ?_) (fun h2 => absurd (nI_pos' (by omega)) h2)
          refine PW_vreturn c_M_both_44 rfl ?_
          exact h
    · rw [lpF, if_neg hlv]
      refine ⟨Y, ⟨hf, hlo, hp, Or.inl ⟨rfl, hg⟩⟩, fun {x z post} h => ?_⟩
      have n38 : ¬ sg g n q = 38 := fun w => hlv (lv_1.mpr (by omega))
      refine PW_aload_n c_M_both_4 rfl ?_
      refine PW_get (v := .int (Y.1 579)) c_M_both_5 fl_M_188 (gf_70_19 _ _) ?_
      rw [hF]
      show PW _ _ _ 8 [some (.ref 70)] [.int (-1)] (E x Y)
      refine PW_if_ge c_M_both_8 (fun h0 => absurd h0 (by decide)) (fun _ => ?_)
      refine PW_aload_n c_M_both_11 rfl ?_
      refine PW_V0 (d2 := 0) (st := []) [] c_M_both_12 lk_M_both_200 (po_70 _ _) rfl rfl rfl (Nat.le_of_ble_eq_true rfl) (by first | decide | omega) (Nat.le_of_ble_eq_true rfl) ?_
      refine sp_M_look hT hp hq ?_
      show PW _ _ _ 15 [some (.ref 70)] [.int (lkM (sg g n q))] (E x Y)
      refine PW_bipush (v := 38) c_M_both_15 (by decide) ?_
      refine PW_icmp_ne c_M_both_17 (fun h1 => ?_) (fun h1 => absurd h1 (fun w => n38 ((lkM_k (tpM_sg hT) (by decide) (k := 38)).mp w)))
      refine PW_vreturn c_M_both_44 rfl ?_
      exact h
theorem M_both_step {g : Nat → Nat} {n fu : Nat} (ih : MOK g n m_M_compared [some (.ref 70), none] fu 2) : MOK g n m_M_both [some (.ref 70)] (fu + 1) 1 := by
  intro o p k Y ho hfu hT hp hF hO hS hpn hk
  have hn := hT.2.1
  obtain ⟨Y1, ⟨f1, u1, p1, c1⟩, H1⟩ := ih o p k Y ho (by omega) hT hp hF hO hS hpn hk
  have w1 := pF_p (g := g) fu 2 o p hpn
  have w1n := w1.2.1
  rw [pF_lev (by decide : 1 < 5)]
  rcases c1 with ⟨r1, b1⟩ | ⟨r1, b1, l1, s1, hk1, hl1⟩
  · rw [if_pos r1, if_neg (by decide : ¬ 1 = 2)]
    have hok : okP p n (true, (pF g n fu 2 o p).2.1, (pF g n fu 2 o p).2.2) := ⟨w1.1, w1.2.1, fun _ => w1.2.2 r1⟩
    obtain ⟨Y', hR, HL⟩ := lp_both ih ho (by omega) hk 120 _ _ Y1 (by have := (w1.2.2 r1).1; omega) (tpM_fr hT f1) f1 u1 p1 b1 hok
    refine ⟨Y', hR, fun {x z post} h => ?_⟩
    refine PW_aload_n c_M_both_0 rfl ?_
    refine PW_V0 (d2 := fu + 1) (st := []) [] c_M_both_1 lk_M_both_231 (po_70 _ _) rfl rfl rfl (Nat.le_of_ble_eq_true rfl) (by first | decide | omega) (Nat.le_of_ble_eq_true rfl) ?_
    refine H1 ?_
    show PW _ _ _ 4 [some (.ref 70)] [] (E x Y1)
    refine PW.eqL ?_ rfl rfl (HL h)
    rfl
  · refine ⟨Y1, ⟨f1, u1, ?_, Or.inr ?_⟩, fun {x z post} h => ?_⟩
    · by_cases r : (pF g n fu 2 o p).1 = true
      · rw [if_pos r, lpF_stop (lvO_D (by decide) (r1 r))]; exact p1
      · rw [if_neg r]; exact p1
    · by_cases r : (pF g n fu 2 o p).1 = true
      · rw [if_pos r, lpF_stop (lvO_D (by decide) (r1 r))]; exact ⟨fun _ => r1 r, b1, l1, s1, hk1, hl1⟩
      · rw [if_neg r]; exact ⟨fun w => Bool.noConfusion w, b1, l1, s1, hk1, hl1⟩
    · skip
      refine PW_aload_n c_M_both_0 rfl ?_
      refine PW_V0 (d2 := fu + 1) (st := []) [] c_M_both_1 lk_M_both_231 (po_70 _ _) rfl rfl rfl (Nat.le_of_ble_eq_true rfl) (by first | decide | omega) (Nat.le_of_ble_eq_true rfl) ?_
      refine H1 ?_
      show PW _ _ _ 4 [some (.ref 70)] [] (E x Y1)
      refine PW_aload_n c_M_both_4 rfl ?_
      refine PW_get (v := .int (Y1.1 579)) c_M_both_5 fl_M_188 (gf_70_19 _ _) ?_
      rw [b1]
      show PW _ _ _ 8 [some (.ref 70)] [.int (nI (pF g n fu 2 o p).2.1)] (E x Y1)
      refine PW_if_ge c_M_both_8 (fun h0 => ?_) (fun h0 => absurd (nI_pos' (by omega)) h0)
      refine PW_vreturn c_M_both_44 rfl ?_
      exact h
theorem lp_sum {g : Nat → Nat} {n fu o k p0 : Nat} {Y0 : XS} (ih : MOK g n m_M_product [some (.ref 70), none] fu 4) (ho : o ≤ 6) (hfu : (6 - o) * 6 + (6 - 4) ≤ fu) (hk : k ≤ p0) : ∀ (j q : Nat) (acc : List Stp0) (Y : XS), 121 ≤ q + j → tpM Y g n → frM Y0 Y → lowA (Y0.2.1 84) (Y0.2.1 85) (Y.2.1 84) (Y.2.1 85) (130 + k) → Y.1 578 = nI q → goodM Y o k acc → okP p0 n (true, q, acc) → ∃ Y' : XS, resM g n Y0 Y' o k p0 (lpF (pF g n fu 4 o) g n 3 j q acc) ∧ ∀ {x : XS} {z : ZS} {post : Option Value → List PE → Prop} {l1 : Option Value}, post none (E x Y') → PW (fu + 2, 0, 0, z) m_M_sum post 4 [some (.ref 70), l1] [] (E x Y) := by
  intro j
  induction j with
  | zero =>
    intro q acc Y hj hT hf hlo hp hg hok
    have hq : q ≤ n := hok.2.1
    have hn := hT.2.1
    omega
  | succ j ihj =>
    intro q acc Y hj hT hf hlo hp hg hok
    have hq : q ≤ n := hok.2.1
    have hn := hT.2.1
    have ha : acc.length + p0 ≤ q := (hok.2.2 rfl).2.1
    obtain ⟨hF, hO, hS, hw⟩ := id hg
    by_cases hlv : lvO (sg g n q) = 3
    · have hop := lvO_op (c := sg g n q) (by omega)
      have hc := op_cd hop
      have hqn : q < n := sg_lt (g := g) (by omega)
      have he := lv_3.mp hlv
      have hlk : lkM (sg g n q) = nI (sg g n q) := lkM_lo (by omega)
      obtain ⟨Y2, ⟨f2, u2, p2, c2⟩, H2⟩ := ih o (q + 1) (k + acc.length) (sI Y 578 (nI (q + 1))) ho hfu (tpM_fr hT (frM_i (by decide))) sI_s ((sI_n (by decide)).trans hF) ((sI_n (by decide)).trans hO) ((sI_n (by decide)).trans hS) hqn (by omega)
      have w2 := pF_p (g := g) fu 4 o (q + 1) hqn
      have w2n := w2.2.1
      have w2p := w2.1
      have ff := frM_t hf (frM_t (frM_i (m := 578) (v := nI (q + 1)) (by decide)) f2)
      rcases c2 with ⟨r2, b2, o2, s2, v2⟩ | ⟨r2, b2, l2, s2, hk2, hl2⟩
      · obtain ⟨z4, z5, z6, z7⟩ := w2.2.2 r2
        have s2 : Y2.1 581 = nI (k + (acc.length + (pF g n fu 4 o (q + 1)).2.2.length)) := by rw [s2]; congr 1; omega
        have wA : wrA (Y2.2.1 84) (Y2.2.1 85) (130 + k) ((acc ++ (pF g n fu 4 o (q + 1)).2.2).map stM) := by
          rw [List.map_append]
          refine wrA_app (wrA_low hw u2 (by rw [List.length_map]; omega)) ?_
          rw [List.length_map, show 130 + k + acc.length = 130 + (k + acc.length) by omega]
          exact v2
        have hacc : okP p0 n (true, (pF g n fu 4 o (q + 1)).2.1, acc ++ (pF g n fu 4 o (q + 1)).2.2 ++ [(sg g n q, 0)]) := by
          have := lpF_p (g := g) (n := n) (G := pF g n fu 4 o) (lev := 3) (by decide) (fun r hr => pF_p fu 4 o r hr) 1 q acc hok
          rw [lpF, if_pos hlv, if_pos r2, lpF] at this
          exact this
        obtain ⟨Y', hR, H3⟩ := ihj (pF g n fu 4 o (q + 1)).2.1 (acc ++ (pF g n fu 4 o (q + 1)).2.2 ++ [(sg g n q, 0)]) (adS Y2 (k + (acc.length + (pF g n fu 4 o (q + 1)).2.2.length)) (nI (sg g n q)) 0) (by omega) (tpM_fr (tpM_fr (tpM_fr hT (frM_i (by decide))) f2) frM_a) (frM_t ff frM_a) (by
            rw [adS_84, adS_85]
            exact lowA_t (lowA_t hlo u2 (by omega)) (lowA_u (Nat.le_refl (130 + (k + (acc.length + (pF g n fu 4 o (q + 1)).2.2.length))))) (by omega)) ((adS_1 (by decide)).trans p2) ⟨(adS_1 (by decide)).trans b2, (adS_1 (by decide)).trans o2, by
            refine adS_s.trans ?_
            rw [List.length_append, List.length_append, List.length_singleton]
            exact congrArg nI (by omega), by
            rw [adS_84, adS_85, List.map_append, List.map_singleton, stM_op]
            exact wrA_snoc (by rw [List.length_map, List.length_append]; omega) wA⟩ hacc
        rw [lpF, if_pos hlv, if_pos r2]
        refine ⟨Y', hR, fun {x z post l1} h => ?_⟩
        rcases he with e | e
        · skip
          refine PW_aload_n c_M_sum_4 rfl ?_
          refine PW_get (v := .int (Y.1 579)) c_M_sum_5 fl_M_188 (gf_70_19 _ _) ?_
          rw [hF]
          show PW _ _ _ 8 [some (.ref 70), l1] [.int (-1)] (E x Y)
          refine PW_if_ge c_M_sum_8 (fun h0 => absurd h0 (by decide)) (fun _ => ?_)
          refine PW_aload_n c_M_sum_11 rfl ?_
          refine PW_V0 (d2 := 0) (st := []) [] c_M_sum_12 lk_M_sum_200 (po_70 _ _) rfl rfl rfl (Nat.le_of_ble_eq_true rfl) (by first | decide | omega) (Nat.le_of_ble_eq_true rfl) ?_
          refine sp_M_look hT hp hq ?_
          show PW _ _ _ 15 [some (.ref 70), l1] [.int (lkM (sg g n q))] (E x Y)
          refine PW_bipush (v := 43) c_M_sum_15 (by decide) ?_
          refine PW_icmp_eq c_M_sum_17 (fun h1 => ?_) (fun h1 => absurd ((lkM_k (tpM_sg hT) (by decide) (k := 43)).mpr e) h1)
          refine PW_aload_n c_M_sum_29 rfl ?_
          refine PW_V0 (d2 := 0) (st := []) [] c_M_sum_30 lk_M_sum_200 (po_70 _ _) rfl rfl rfl (Nat.le_of_ble_eq_true rfl) (by first | decide | omega) (Nat.le_of_ble_eq_true rfl) ?_
          refine sp_M_look hT hp hq ?_
          show PW _ _ _ 33 [some (.ref 70), l1] [.int (lkM (sg g n q))] (E x Y)
          refine PW_istore_n (i := 1) (L2 := [some (.ref 70), some (.int (lkM (sg g n q)))]) c_M_sum_33 rfl (Nat.le_of_ble_eq_true rfl) rfl rfl ?_
          refine PW_aload_n c_M_sum_34 rfl ?_
          refine PW_dup c_M_sum_35 rfl ?_
          refine PW_get (v := .int (Y.1 578)) c_M_sum_36 fl_M_185 (gf_70_18 _ _) ?_
          rw [hp]
          show PW _ _ _ 39 [some (.ref 70), some (.int (lkM (sg g n q)))] [.int (nI q), .ref 70] (E x Y)
          refine PW_iconst (v := 1) c_M_sum_39 (by decide) ?_
          refine PW_iadd c_M_sum_40 ?_
          refine PW_put (w2 := E x (sI Y 578 ((nI q) + 1))) c_M_sum_41 fp_M_sum_185 rfl (pf_70_18 _ _ _) ?_
          rw [nI_1 (q)]
          show PW _ _ _ 44 [some (.ref 70), some (.int (lkM (sg g n q)))] [] (E x (sI Y 578 (nI (q + 1))))
          refine PW_aload_n c_M_sum_44 rfl ?_
          refine PW_V0 (d2 := fu + 1) (st := []) [] c_M_sum_45 lk_M_sum_225 (po_70 _ _) rfl rfl rfl (Nat.le_of_ble_eq_true rfl) (by first | decide | omega) (Nat.le_of_ble_eq_true rfl) ?_
          refine H2 ?_
          show PW _ _ _ 48 [some (.ref 70), some (.int (lkM (sg g n q)))] [] (E x Y2)
          refine PW_aload_n c_M_sum_48 rfl ?_
          refine PW_iload_n c_M_sum_49 rfl ?_
          refine PW_iconst (v := 0) c_M_sum_50 (by decide) ?_
          refine PW_V0 (d2 := 0) (st := []) [.int (lkM (sg g n q)), .int 0] c_M_sum_51 lk_M_sum_204 (po_70 _ _) rfl rfl rfl (Nat.le_of_ble_eq_true rfl) (by first | decide | omega) (Nat.le_of_ble_eq_true rfl) ?_
          refine sp_M_addStep (a := sg g n q) (k := (k + (acc.length + (pF g n fu 4 o (q + 1)).2.2.length))) hlk (by omega) s2 (by omega) ?_
          show PW _ _ _ 54 [some (.ref 70), some (.int (lkM (sg g n q)))] [] (E x (adS Y2 (k + (acc.length + (pF g n fu 4 o (q + 1)).2.2.length)) (nI (sg g n q)) 0))
          refine PW_goto c_M_sum_54 ?_
          refine PW.eqL ?_ rfl rfl (H3 (l1 := some (.int (lkM (sg g n q)))) h)
          rfl
        · have n43 : ¬ sg g n q = 43 := by omega
          refine PW_aload_n c_M_sum_4 rfl ?_
          refine PW_get (v := .int (Y.1 579)) c_M_sum_5 fl_M_188 (gf_70_19 _ _) ?_
          rw [hF]
          show PW _ _ _ 8 [some (.ref 70), l1] [.int (-1)] (E x Y)
          refine PW_if_ge c_M_sum_8 (fun h0 => absurd h0 (by decide)) (fun _ => ?_)
          refine PW_aload_n c_M_sum_11 rfl ?_
          refine PW_V0 (d2 := 0) (st := []) [] c_M_sum_12 lk_M_sum_200 (po_70 _ _) rfl rfl rfl (Nat.le_of_ble_eq_true rfl) (by first | decide | omega) (Nat.le_of_ble_eq_true rfl) ?_
          refine sp_M_look hT hp hq ?_
          show PW _ _ _ 15 [some (.ref 70), l1] [.int (lkM (sg g n q))] (E x Y)
          refine PW_bipush (v := 43) c_M_sum_15 (by decide) ?_
          refine PW_icmp_eq c_M_sum_17 (fun h1 => absurd h1 (fun w => n43 ((lkM_k (tpM_sg hT) (by decide) (k := 43)).mp w))) (fun h1 => ?_)
          refine PW_aload_n c_M_sum_20 rfl ?_
          refine PW_V0 (d2 := 0) (st := []) [] c_M_sum_21 lk_M_sum_200 (po_70 _ _) rfl rfl rfl (Nat.le_of_ble_eq_true rfl) (by first | decide | omega) (Nat.le_of_ble_eq_true rfl) ?_
          refine sp_M_look hT hp hq ?_
          show PW _ _ _ 24 [some (.ref 70), l1] [.int (lkM (sg g n q))] (E x Y)
          refine PW_bipush (v := 45) c_M_sum_24 (by decide) ?_
          refine PW_icmp_ne c_M_sum_26 (fun h2 => absurd h2 (not_not_intro ((lkM_k (tpM_sg hT) (by decide) (k := 45)).mpr e))) (fun h2 => ?_)
          refine PW_aload_n c_M_sum_29 rfl ?_
          refine PW_V0 (d2 := 0) (st := []) [] c_M_sum_30 lk_M_sum_200 (po_70 _ _) rfl rfl rfl (Nat.le_of_ble_eq_true rfl) (by first | decide | omega) (Nat.le_of_ble_eq_true rfl) ?_
          refine sp_M_look hT hp hq ?_
          show PW _ _ _ 33 [some (.ref 70), l1] [.int (lkM (sg g n q))] (E x Y)
          refine PW_istore_n (i := 1) (L2 := [some (.ref 70), some (.int (lkM (sg g n q)))]) c_M_sum_33 rfl (Nat.le_of_ble_eq_true rfl) rfl rfl ?_
          refine PW_aload_n c_M_sum_34 rfl ?_
          refine PW_dup c_M_sum_35 rfl ?_
          refine PW_get (v := .int (Y.1 578)) c_M_sum_36 fl_M_185 (gf_70_18 _ _) ?_
          rw [hp]
          show PW _ _ _ 39 [some (.ref 70), some (.int (lkM (sg g n q)))] [.int (nI q), .ref 70] (E x Y)
          refine PW_iconst (v := 1) c_M_sum_39 (by decide) ?_
          refine PW_iadd c_M_sum_40 ?_
          refine PW_put (w2 := E x (sI Y 578 ((nI q) + 1))) c_M_sum_41 fp_M_sum_185 rfl (pf_70_18 _ _ _) ?_
          rw [nI_1 (q)]
          show PW _ _ _ 44 [some (.ref 70), some (.int (lkM (sg g n q)))] [] (E x (sI Y 578 (nI (q + 1))))
          refine PW_aload_n c_M_sum_44 rfl ?_
          refine PW_V0 (d2 := fu + 1) (st := []) [] c_M_sum_45 lk_M_sum_225 (po_70 _ _) rfl rfl rfl (Nat.le_of_ble_eq_true rfl) (by first | decide | omega) (Nat.le_of_ble_eq_true rfl) ?_
          refine H2 ?_
          show PW _ _ _ 48 [some (.ref 70), some (.int (lkM (sg g n q)))] [] (E x Y2)
          refine PW_aload_n c_M_sum_48 rfl ?_
          refine PW_iload_n c_M_sum_49 rfl ?_
          refine PW_iconst (v := 0) c_M_sum_50 (by decide) ?_
          refine PW_V0 (d2 := 0) (st := []) [.int (lkM (sg g n q)), .int 0] c_M_sum_51 lk_M_sum_204 (po_70 _ _) rfl rfl rfl (Nat.le_of_ble_eq_true rfl) (by first | decide | omega) (Nat.le_of_ble_eq_true rfl) ?_
          refine sp_M_addStep (a := sg g n q) (k := (k + (acc.length + (pF g n fu 4 o (q + 1)).2.2.length))) hlk (by omega) s2 (by omega) ?_
          show PW _ _ _ 54 [some (.ref 70), some (.int (lkM (sg g n q)))] [] (E x (adS Y2 (k + (acc.length + (pF g n fu 4 o (q + 1)).2.2.length)) (nI (sg g n q)) 0))
          refine PW_goto c_M_sum_54 ?_
          refine PW.eqL ?_ rfl rfl (H3 (l1 := some (.int (lkM (sg g n q)))) h)
          rfl
      · refine ⟨adS Y2 l2 (nI (sg g n q)) 0, ⟨frM_t ff frM_a, ?_, ?_, Or.inr ?_⟩, fun {x z post l1} h => ?_⟩
        · rw [adS_84, adS_85]
          exact lowA_t (lowA_t hlo u2 (by omega)) (lowA_u (Nat.le_refl (130 + l2))) (by omega)
        · rw [lpF, if_pos hlv]
          by_cases r : (pF g n fu 4 o (q + 1)).1 = true
          · rw [if_pos r, lpF_stop (lvO_D (by decide) (r2 r))]
            exact (adS_1 (by decide)).trans p2
          · rw [if_neg r]
            exact (adS_1 (by decide)).trans p2
        · rw [lpF, if_pos hlv]
          by_cases r : (pF g n fu 4 o (q + 1)).1 = true
          · rw [if_pos r, lpF_stop (lvO_D (by decide) (r2 r))]
            exact ⟨fun _ => r2 r, (adS_1 (by decide)).trans b2, l2 + 1, adS_s, by omega, by show l2 + 1 + p0 ≤ k + (pF g n fu 4 o (q + 1)).2.1 + 1; omega⟩
          · rw [if_neg r]
            exact ⟨fun w => Bool.noConfusion w, (adS_1 (by decide)).trans b2, l2 + 1, adS_s, by omega, by show l2 + 1 + p0 ≤ k + (pF g n fu 4 o (q + 1)).2.1 + 1; omega⟩
        · skip
          rcases he with e | e
          · skip
            refine PW_aload_n c_M_sum_4 rfl ?_
            refine PW_get (v := .int (Y.1 579)) c_M_sum_5 fl_M_188 (gf_70_19 _ _) ?_
            rw [hF]
            show PW _ _ _ 8 [some (.ref 70), l1] [.int (-1)] (E x Y)
            refine PW_if_ge c_M_sum_8 (fun h0 => absurd h0 (by decide)) (fun _ => ?_)
            refine PW_aload_n c_M_sum_11 rfl ?_
            refine PW_V0 (d2 := 0) (st := []) [] c_M_sum_12 lk_M_sum_200 (po_70 _ _) rfl rfl rfl (Nat.le_of_ble_eq_true rfl) (by first | decide | omega) (Nat.le_of_ble_eq_true rfl) ?_
            refine sp_M_look hT hp hq ?_
            show PW _ _ _ 15 [some (.ref 70), l1] [.int (lkM (sg g n q))] (E x Y)
            refine PW_bipush (v := 43) c_M_sum_15 (by decide) ?_
            refine PW_icmp_eq c_M_sum_17 (fun h1 => ?_) (fun h1 => absurd ((lkM_k (tpM_sg hT) (by decide) (k := 43)).mpr e) h1)
            refine PW_aload_n c_M_sum_29 rfl ?_
            refine PW_V0 (d2 := 0) (st := []) [] c_M_sum_30 lk_M_sum_200 (po_70 _ _) rfl rfl rfl (Nat.le_of_ble_eq_true rfl) (by first | decide | omega) (Nat.le_of_ble_eq_true rfl) ?_
            refine sp_M_look hT hp hq ?_
            show PW _ _ _ 33 [some (.ref 70), l1] [.int (lkM (sg g n q))] (E x Y)
            refine PW_istore_n (i := 1) (L2 := [some (.ref 70), some (.int (lkM (sg g n q)))]) c_M_sum_33 rfl (Nat.le_of_ble_eq_true rfl) rfl rfl ?_
            refine PW_aload_n c_M_sum_34 rfl ?_
            refine PW_dup c_M_sum_35 rfl ?_
            refine PW_get (v := .int (Y.1 578)) c_M_sum_36 fl_M_185 (gf_70_18 _ _) ?_
            rw [hp]
            show PW _ _ _ 39 [some (.ref 70), some (.int (lkM (sg g n q)))] [.int (nI q), .ref 70] (E x Y)
            refine PW_iconst (v := 1) c_M_sum_39 (by decide) ?_
            refine PW_iadd c_M_sum_40 ?_
            refine PW_put (w2 := E x (sI Y 578 ((nI q) + 1))) c_M_sum_41 fp_M_sum_185 rfl (pf_70_18 _ _ _) ?_
            rw [nI_1 (q)]
            show PW _ _ _ 44 [some (.ref 70), some (.int (lkM (sg g n q)))] [] (E x (sI Y 578 (nI (q + 1))))
            refine PW_aload_n c_M_sum_44 rfl ?_
            refine PW_V0 (d2 := fu + 1) (st := []) [] c_M_sum_45 lk_M_sum_225 (po_70 _ _) rfl rfl rfl (Nat.le_of_ble_eq_true rfl) (by first | decide | omega) (Nat.le_of_ble_eq_true rfl) ?_
            refine H2 ?_
            show PW _ _ _ 48 [some (.ref 70), some (.int (lkM (sg g n q)))] [] (E x Y2)
            refine PW_aload_n c_M_sum_48 rfl ?_
            refine PW_iload_n c_M_sum_49 rfl ?_
            refine PW_iconst (v := 0) c_M_sum_50 (by decide) ?_
            refine PW_V0 (d2 := 0) (st := []) [.int (lkM (sg g n q)), .int 0] c_M_sum_51 lk_M_sum_204 (po_70 _ _) rfl rfl rfl (Nat.le_of_ble_eq_true rfl) (by first | decide | omega) (Nat.le_of_ble_eq_true rfl) ?_
            refine sp_M_addStep (a := sg g n q) (k := l2) hlk (by omega) s2 (by omega) ?_
            show PW _ _ _ 54 [some (.ref 70), some (.int (lkM (sg g n q)))] [] (E x (adS Y2 l2 (nI (sg g n q)) 0))
            refine PW_goto c_M_sum_54 ?_
            refine PW_aload_n c_M_sum_4 rfl ?_
            refine PW_get (v := .int ((adS Y2 l2 (nI (sg g n q)) 0).1 579)) c_M_sum_5 fl_M_188 (gf_70_19 _ _) ?_
            rw [(adS_1 (by decide)).trans b2]
            show PW _ _ _ 8 [some (.ref 70), some (.int (lkM (sg g n q)))] [.int (nI (pF g n fu 4 o (q + 1)).2.1)] (E x (adS Y2 l2 (nI (sg g n q)) 0))
            refine PW_if_ge c_M_sum_8 (fun h2 => ?_) (fun h2 => absurd (nI_pos' (by omega)) h2)
            refine PW_vreturn c_M_sum_57 rfl ?_
            exact h
          · have n43 : ¬ sg g n q = 43 := by omega
            refine PW_aload_n c_M_sum_4 rfl ?_
            refine PW_get (v := .int (Y.1 579)) c_M_sum_5 fl_M_188 (gf_70_19 _ _) ?_
            rw [hF]
            show PW _ _ _ 8 [some (.ref 70), l1] [.int (-1)] (E x Y)
            refine PW_if_ge c_M_sum_8 (fun h0 => absurd h0 (by decide)) (fun _ => ?_)
            refine PW_aload_n c_M_sum_11 rfl ?_
            refine PW_V0 (d2 := 0) (st := []) [] c_M_sum_12 lk_M_sum_200 (po_70 _ _) rfl rfl rfl (Nat.le_of_ble_eq_true rfl) (by first | decide | omega) (Nat.le_of_ble_eq_true rfl) ?_
            refine sp_M_look hT hp hq ?_
            show PW _ _ _ 15 [some (.ref 70), l1] [.int (lkM (sg g n q))] (E x Y)
            refine PW_bipush (v := 43) c_M_sum_15 (by decide) ?_
            refine PW_icmp_eq c_M_sum_17 (fun h1 => absurd h1 (fun w => n43 ((lkM_k (tpM_sg hT) (by decide) (k := 43)).mp w))) (fun h1 => ?_)
            refine PW_aload_n c_M_sum_20 rfl ?_
            refine PW_V0 (d2 := 0) (st := []) [] c_M_sum_21 lk_M_sum_200 (po_70 _ _) rfl rfl rfl (Nat.le_of_ble_eq_true rfl) (by first | decide | omega) (Nat.le_of_ble_eq_true rfl) ?_
            refine sp_M_look hT hp hq ?_
            show PW _ _ _ 24 [some (.ref 70), l1] [.int (lkM (sg g n q))] (E x Y)
            refine PW_bipush (v := 45) c_M_sum_24 (by decide) ?_
            refine PW_icmp_ne c_M_sum_26 (fun h2 => absurd h2 (not_not_intro ((lkM_k (tpM_sg hT) (by decide) (k := 45)).mpr e))) (fun h2 => ?_)
            refine PW_aload_n c_M_sum_29 rfl ?_
            refine PW_V0 (d2 := 0) (st := []) [] c_M_sum_30 lk_M_sum_200 (po_70 _ _) rfl rfl rfl (Nat.le_of_ble_eq_true rfl) (by first | decide | omega) (Nat.le_of_ble_eq_true rfl) ?_
            refine sp_M_look hT hp hq ?_
            show PW _ _ _ 33 [some (.ref 70), l1] [.int (lkM (sg g n q))] (E x Y)
            refine PW_istore_n (i := 1) (L2 := [some (.ref 70), some (.int (lkM (sg g n q)))]) c_M_sum_33 rfl (Nat.le_of_ble_eq_true rfl) rfl rfl ?_
            refine PW_aload_n c_M_sum_34 rfl ?_
            refine PW_dup c_M_sum_35 rfl ?_
            refine PW_get (v := .int (Y.1 578)) c_M_sum_36 fl_M_185 (gf_70_18 _ _) ?_
            rw [hp]
            show PW _ _ _ 39 [some (.ref 70), some (.int (lkM (sg g n q)))] [.int (nI q), .ref 70] (E x Y)
            refine PW_iconst (v := 1) c_M_sum_39 (by decide) ?_
            refine PW_iadd c_M_sum_40 ?_
            refine PW_put (w2 := E x (sI Y 578 ((nI q) + 1))) c_M_sum_41 fp_M_sum_185 rfl (pf_70_18 _ _ _) ?_
            rw [nI_1 (q)]
            show PW _ _ _ 44 [some (.ref 70), some (.int (lkM (sg g n q)))] [] (E x (sI Y 578 (nI (q + 1))))
            refine PW_aload_n c_M_sum_44 rfl ?_
            refine PW_V0 (d2 := fu + 1) (st := []) [] c_M_sum_45 lk_M_sum_225 (po_70 _ _) rfl rfl rfl (Nat.le_of_ble_eq_true rfl) (by first | decide | omega) (Nat.le_of_ble_eq_true rfl) ?_
            refine H2 ?_
            show PW _ _ _ 48 [some (.ref 70), some (.int (lkM (sg g n q)))] [] (E x Y2)
            refine PW_aload_n c_M_sum_48 rfl ?_
            refine PW_iload_n c_M_sum_49 rfl ?_
            refine PW_iconst (v := 0) c_M_sum_50 (by decide) ?_
            refine PW_V0 (d2 := 0) (st := []) [.int (lkM (sg g n q)), .int 0] c_M_sum_51 lk_M_sum_204 (po_70 _ _) rfl rfl rfl (Nat.le_of_ble_eq_true rfl) (by first | decide | omega) (Nat.le_of_ble_eq_true rfl) ?_
            refine sp_M_addStep (a := sg g n q) (k := l2) hlk (by omega) s2 (by omega) ?_
            show PW _ _ _ 54 [some (.ref 70), some (.int (lkM (sg g n q)))] [] (E x (adS Y2 l2 (nI (sg g n q)) 0))
            refine PW_goto c_M_sum_54 ?_
            refine PW_aload_n c_M_sum_4 rfl ?_
            refine PW_get (v := .int ((adS Y2 l2 (nI (sg g n q)) 0).1 579)) c_M_sum_5 fl_M_188 (gf_70_19 _ _) ?_
            rw [(adS_1 (by decide)).trans b2]
            show PW _ _ _ 8 [some (.ref 70), some (.int (lkM (sg g n q)))] [.int (nI (pF g n fu 4 o (q + 1)).2.1)] (E x (adS Y2 l2 (nI (sg g n q)) 0))
            refine PW_if_ge c_M_sum_8 (fun h3 => ?_) (fun h3 => absurd (nI_pos' (by omega)) h3)
            refine PW_vreturn c_M_sum_57 rfl ?_
            exact h
    · rw [lpF, if_neg hlv]
      refine ⟨Y, ⟨hf, hlo, hp, Or.inl ⟨rfl, hg⟩⟩, fun {x z post l1} h => ?_⟩
      have n43 : ¬ sg g n q = 43 := fun w => hlv (lv_3.mpr (by omega))
      have n45 : ¬ sg g n q = 45 := fun w => hlv (lv_3.mpr (by omega))
      refine PW_aload_n c_M_sum_4 rfl ?_
      refine PW_get (v := .int (Y.1 579)) c_M_sum_5 fl_M_188 (gf_70_19 _ _) ?_
      rw [hF]
      show PW _ _ _ 8 [some (.ref 70), l1] [.int (-1)] (E x Y)
      refine PW_if_ge c_M_sum_8 (fun h0 => absurd h0 (by decide)) (fun _ => ?_)
      refine PW_aload_n c_M_sum_11 rfl ?_
      refine PW_V0 (d2 := 0) (st := []) [] c_M_sum_12 lk_M_sum_200 (po_70 _ _) rfl rfl rfl (Nat.le_of_ble_eq_true rfl) (by first | decide | omega) (Nat.le_of_ble_eq_true rfl) ?_
      refine sp_M_look hT hp hq ?_
      show PW _ _ _ 15 [some (.ref 70), l1] [.int (lkM (sg g n q))] (E x Y)
      refine PW_bipush (v := 43) c_M_sum_15 (by decide) ?_
      refine PW_icmp_eq c_M_sum_17 (fun h1 => absurd h1 (fun w => n43 ((lkM_k (tpM_sg hT) (by decide) (k := 43)).mp w))) (fun h1 => ?_)
      refine PW_aload_n c_M_sum_20 rfl ?_
      refine PW_V0 (d2 := 0) (st := []) [] c_M_sum_21 lk_M_sum_200 (po_70 _ _) rfl rfl rfl (Nat.le_of_ble_eq_true rfl) (by first | decide | omega) (Nat.le_of_ble_eq_true rfl) ?_
      refine sp_M_look hT hp hq ?_
      show PW _ _ _ 24 [some (.ref 70), l1] [.int (lkM (sg g n q))] (E x Y)
      refine PW_bipush (v := 45) c_M_sum_24 (by decide) ?_
      refine PW_icmp_ne c_M_sum_26 (fun h2 => ?_) (fun h2 => absurd h2 (fun w => n45 ((lkM_k (tpM_sg hT) (by decide) (k := 45)).mp w)))
      refine PW_vreturn c_M_sum_57 rfl ?_
      exact h
theorem M_sum_step {g : Nat → Nat} {n fu : Nat} (ih : MOK g n m_M_product [some (.ref 70), none] fu 4) : MOK g n m_M_sum [some (.ref 70), none] (fu + 1) 3 := by
  intro o p k Y ho hfu hT hp hF hO hS hpn hk
  have hn := hT.2.1
  obtain ⟨Y1, ⟨f1, u1, p1, c1⟩, H1⟩ := ih o p k Y ho (by omega) hT hp hF hO hS hpn hk
  have w1 := pF_p (g := g) fu 4 o p hpn
  have w1n := w1.2.1
  rw [pF_lev (by decide : 3 < 5)]
  rcases c1 with ⟨r1, b1⟩ | ⟨r1, b1, l1, s1, hk1, hl1⟩
  · rw [if_pos r1, if_neg (by decide : ¬ 3 = 2)]
    have hok : okP p n (true, (pF g n fu 4 o p).2.1, (pF g n fu 4 o p).2.2) := ⟨w1.1, w1.2.1, fun _ => w1.2.2 r1⟩
    obtain ⟨Y', hR, HL⟩ := lp_sum ih ho (by omega) hk 120 _ _ Y1 (by have := (w1.2.2 r1).1; omega) (tpM_fr hT f1) f1 u1 p1 b1 hok
    refine ⟨Y', hR, fun {x z post} h => ?_⟩
    refine PW_aload_n c_M_sum_0 rfl ?_
    refine PW_V0 (d2 := fu + 1) (st := []) [] c_M_sum_1 lk_M_sum_225 (po_70 _ _) rfl rfl rfl (Nat.le_of_ble_eq_true rfl) (by first | decide | omega) (Nat.le_of_ble_eq_true rfl) ?_
    refine H1 ?_
    show PW _ _ _ 4 [some (.ref 70), none] [] (E x Y1)
    refine PW.eqL ?_ rfl rfl (HL (l1 := none) h)
    rfl
  · refine ⟨Y1, ⟨f1, u1, ?_, Or.inr ?_⟩, fun {x z post} h => ?_⟩
    · by_cases r : (pF g n fu 4 o p).1 = true
      · rw [if_pos r, lpF_stop (lvO_D (by decide) (r1 r))]; exact p1
      · rw [if_neg r]; exact p1
    · by_cases r : (pF g n fu 4 o p).1 = true
      · rw [if_pos r, lpF_stop (lvO_D (by decide) (r1 r))]; exact ⟨fun _ => r1 r, b1, l1, s1, hk1, hl1⟩
      · rw [if_neg r]; exact ⟨fun w => Bool.noConfusion w, b1, l1, s1, hk1, hl1⟩
    · skip
      refine PW_aload_n c_M_sum_0 rfl ?_
      refine PW_V0 (d2 := fu + 1) (st := []) [] c_M_sum_1 lk_M_sum_225 (po_70 _ _) rfl rfl rfl (Nat.le_of_ble_eq_true rfl) (by first | decide | omega) (Nat.le_of_ble_eq_true rfl) ?_
      refine H1 ?_
      show PW _ _ _ 4 [some (.ref 70), none] [] (E x Y1)
      refine PW_aload_n c_M_sum_4 rfl ?_
      refine PW_get (v := .int (Y1.1 579)) c_M_sum_5 fl_M_188 (gf_70_19 _ _) ?_
      rw [b1]
      show PW _ _ _ 8 [some (.ref 70), none] [.int (nI (pF g n fu 4 o p).2.1)] (E x Y1)
      refine PW_if_ge c_M_sum_8 (fun h0 => ?_) (fun h0 => absurd (nI_pos' (by omega)) h0)
      refine PW_vreturn c_M_sum_57 rfl ?_
      exact h
theorem lp_product {g : Nat → Nat} {n fu o k p0 : Nat} {Y0 : XS} (ih : MOK g n m_M_operand [some (.ref 70), none] fu 5) (ho : o ≤ 6) (hfu : (6 - o) * 6 + (6 - 5) ≤ fu) (hk : k ≤ p0) : ∀ (j q : Nat) (acc : List Stp0) (Y : XS), 121 ≤ q + j → tpM Y g n → frM Y0 Y → lowA (Y0.2.1 84) (Y0.2.1 85) (Y.2.1 84) (Y.2.1 85) (130 + k) → Y.1 578 = nI q → goodM Y o k acc → okP p0 n (true, q, acc) → ∃ Y' : XS, resM g n Y0 Y' o k p0 (lpF (pF g n fu 5 o) g n 4 j q acc) ∧ ∀ {x : XS} {z : ZS} {post : Option Value → List PE → Prop} {l1 : Option Value}, post none (E x Y') → PW (fu + 2, 0, 0, z) m_M_product post 4 [some (.ref 70), l1] [] (E x Y) := by
  intro j
  induction j with
  | zero =>
    intro q acc Y hj hT hf hlo hp hg hok
    have hq : q ≤ n := hok.2.1
    have hn := hT.2.1
    omega
  | succ j ihj =>
    intro q acc Y hj hT hf hlo hp hg hok
    have hq : q ≤ n := hok.2.1
    have hn := hT.2.1
    have ha : acc.length + p0 ≤ q := (hok.2.2 rfl).2.1
    obtain ⟨hF, hO, hS, hw⟩ := id hg
    by_cases hlv : lvO (sg g n q) = 4
    · have hop := lvO_op (c := sg g n q) (by omega)
      have hc := op_cd hop
      have hqn : q < n := sg_lt (g := g) (by omega)
      have he := lv_4.mp hlv
      have hlk : lkM (sg g n q) = nI (sg g n q) := lkM_lo (by omega)
      obtain ⟨Y2, ⟨f2, u2, p2, c2⟩, H2⟩ := ih o (q + 1) (k + acc.length) (sI Y 578 (nI (q + 1))) ho hfu (tpM_fr hT (frM_i (by decide))) sI_s ((sI_n (by decide)).trans hF) ((sI_n (by decide)).trans hO) ((sI_n (by decide)).trans hS) hqn (by omega)
      have w2 := pF_p (g := g) fu 5 o (q + 1) hqn
      have w2n := w2.2.1
      have w2p := w2.1
      have ff := frM_t hf (frM_t (frM_i (m := 578) (v := nI (q + 1)) (by decide)) f2)
      rcases c2 with ⟨r2, b2, o2, s2, v2⟩ | ⟨r2, b2, l2, s2, hk2, hl2⟩
      · obtain ⟨z4, z5, z6, z7⟩ := w2.2.2 r2
        have s2 : Y2.1 581 = nI (k + (acc.length + (pF g n fu 5 o (q + 1)).2.2.length)) := by rw [s2]; congr 1; omega
        have wA : wrA (Y2.2.1 84) (Y2.2.1 85) (130 + k) ((acc ++ (pF g n fu 5 o (q + 1)).2.2).map stM) := by
          rw [List.map_append]
          refine wrA_app (wrA_low hw u2 (by rw [List.length_map]; omega)) ?_
          rw [List.length_map, show 130 + k + acc.length = 130 + (k + acc.length) by omega]
          exact v2
        have hacc : okP p0 n (true, (pF g n fu 5 o (q + 1)).2.1, acc ++ (pF g n fu 5 o (q + 1)).2.2 ++ [(sg g n q, 0)]) := by
          have := lpF_p (g := g) (n := n) (G := pF g n fu 5 o) (lev := 4) (by decide) (fun r hr => pF_p fu 5 o r hr) 1 q acc hok
          rw [lpF, if_pos hlv, if_pos r2, lpF] at this
          exact this
        obtain ⟨Y', hR, H3⟩ := ihj (pF g n fu 5 o (q + 1)).2.1 (acc ++ (pF g n fu 5 o (q + 1)).2.2 ++ [(sg g n q, 0)]) (adS Y2 (k + (acc.length + (pF g n fu 5 o (q + 1)).2.2.length)) (nI (sg g n q)) 0) (by omega) (tpM_fr (tpM_fr (tpM_fr hT (frM_i (by decide))) f2) frM_a) (frM_t ff frM_a) (by
            rw [adS_84, adS_85]
            exact lowA_t (lowA_t hlo u2 (by omega)) (lowA_u (Nat.le_refl (130 + (k + (acc.length + (pF g n fu 5 o (q + 1)).2.2.length))))) (by omega)) ((adS_1 (by decide)).trans p2) ⟨(adS_1 (by decide)).trans b2, (adS_1 (by decide)).trans o2, by
            refine adS_s.trans ?_
            rw [List.length_append, List.length_append, List.length_singleton]
            exact congrArg nI (by omega), by
            rw [adS_84, adS_85, List.map_append, List.map_singleton, stM_op]
            exact wrA_snoc (by rw [List.length_map, List.length_append]; omega) wA⟩ hacc
        rw [lpF, if_pos hlv, if_pos r2]
        refine ⟨Y', hR, fun {x z post l1} h => ?_⟩
        rcases he with e | e | e
        · skip
          refine PW_aload_n c_M_product_4 rfl ?_
          refine PW_get (v := .int (Y.1 579)) c_M_product_5 fl_M_188 (gf_70_19 _ _) ?_
          rw [hF]
          show PW _ _ _ 8 [some (.ref 70), l1] [.int (-1)] (E x Y)
          refine PW_if_ge c_M_product_8 (fun h0 => absurd h0 (by decide)) (fun _ => ?_)
          refine PW_aload_n c_M_product_11 rfl ?_
          refine PW_V0 (d2 := 0) (st := []) [] c_M_product_12 lk_M_product_200 (po_70 _ _) rfl rfl rfl (Nat.le_of_ble_eq_true rfl) (by first | decide | omega) (Nat.le_of_ble_eq_true rfl) ?_
          refine sp_M_look hT hp hq ?_
          show PW _ _ _ 15 [some (.ref 70), l1] [.int (lkM (sg g n q))] (E x Y)
          refine PW_bipush (v := 42) c_M_product_15 (by decide) ?_
          refine PW_icmp_eq c_M_product_17 (fun h1 => ?_) (fun h1 => absurd ((lkM_k (tpM_sg hT) (by decide) (k := 42)).mpr e) h1)
          refine PW_aload_n c_M_product_38 rfl ?_
          refine PW_V0 (d2 := 0) (st := []) [] c_M_product_39 lk_M_product_200 (po_70 _ _) rfl rfl rfl (Nat.le_of_ble_eq_true rfl) (by first | decide | omega) (Nat.le_of_ble_eq_true rfl) ?_
          refine sp_M_look hT hp hq ?_
          show PW _ _ _ 42 [some (.ref 70), l1] [.int (lkM (sg g n q))] (E x Y)
          refine PW_istore_n (i := 1) (L2 := [some (.ref 70), some (.int (lkM (sg g n q)))]) c_M_product_42 rfl (Nat.le_of_ble_eq_true rfl) rfl rfl ?_
          refine PW_aload_n c_M_product_43 rfl ?_
          refine PW_dup c_M_product_44 rfl ?_
          refine PW_get (v := .int (Y.1 578)) c_M_product_45 fl_M_185 (gf_70_18 _ _) ?_
          rw [hp]
          show PW _ _ _ 48 [some (.ref 70), some (.int (lkM (sg g n q)))] [.int (nI q), .ref 70] (E x Y)
          refine PW_iconst (v := 1) c_M_product_48 (by decide) ?_
          refine PW_iadd c_M_product_49 ?_
          refine PW_put (w2 := E x (sI Y 578 ((nI q) + 1))) c_M_product_50 fp_M_product_185 rfl (pf_70_18 _ _ _) ?_
          rw [nI_1 (q)]
          show PW _ _ _ 53 [some (.ref 70), some (.int (lkM (sg g n q)))] [] (E x (sI Y 578 (nI (q + 1))))
          refine PW_aload_n c_M_product_53 rfl ?_
          refine PW_V0 (d2 := fu + 1) (st := []) [] c_M_product_54 lk_M_product_216 (po_70 _ _) rfl rfl rfl (Nat.le_of_ble_eq_true rfl) (by first | decide | omega) (Nat.le_of_ble_eq_true rfl) ?_
          refine H2 ?_
          show PW _ _ _ 57 [some (.ref 70), some (.int (lkM (sg g n q)))] [] (E x Y2)
          refine PW_aload_n c_M_product_57 rfl ?_
          refine PW_iload_n c_M_product_58 rfl ?_
          refine PW_iconst (v := 0) c_M_product_59 (by decide) ?_
          refine PW_V0 (d2 := 0) (st := []) [.int (lkM (sg g n q)), .int 0] c_M_product_60 lk_M_product_204 (po_70 _ _) rfl rfl rfl (Nat.le_of_ble_eq_true rfl) (by first | decide | omega) (Nat.le_of_ble_eq_true rfl) ?_
          refine sp_M_addStep (a := sg g n q) (k := (k + (acc.length + (pF g n fu 5 o (q + 1)).2.2.length))) hlk (by omega) s2 (by omega) ?_
          show PW _ _ _ 63 [some (.ref 70), some (.int (lkM (sg g n q)))] [] (E x (adS Y2 (k + (acc.length + (pF g n fu 5 o (q + 1)).2.2.length)) (nI (sg g n q)) 0))
          refine PW_goto c_M_product_63 ?_
          refine PW.eqL ?_ rfl rfl (H3 (l1 := some (.int (lkM (sg g n q)))) h)
          rfl
        · have n42 : ¬ sg g n q = 42 := by omega
          refine PW_aload_n c_M_product_4 rfl ?_
          refine PW_get (v := .int (Y.1 579)) c_M_product_5 fl_M_188 (gf_70_19 _ _) ?_
          rw [hF]
          show PW _ _ _ 8 [some (.ref 70), l1] [.int (-1)] (E x Y)
          refine PW_if_ge c_M_product_8 (fun h0 => absurd h0 (by decide)) (fun _ => ?_)
          refine PW_aload_n c_M_product_11 rfl ?_
          refine PW_V0 (d2 := 0) (st := []) [] c_M_product_12 lk_M_product_200 (po_70 _ _) rfl rfl rfl (Nat.le_of_ble_eq_true rfl) (by first | decide | omega) (Nat.le_of_ble_eq_true rfl) ?_
          refine sp_M_look hT hp hq ?_
          show PW _ _ _ 15 [some (.ref 70), l1] [.int (lkM (sg g n q))] (E x Y)
          refine PW_bipush (v := 42) c_M_product_15 (by decide) ?_
          refine PW_icmp_eq c_M_product_17 (fun h1 => absurd h1 (fun w => n42 ((lkM_k (tpM_sg hT) (by decide) (k := 42)).mp w))) (fun h1 => ?_)
          refine PW_aload_n c_M_product_20 rfl ?_
          refine PW_V0 (d2 := 0) (st := []) [] c_M_product_21 lk_M_product_200 (po_70 _ _) rfl rfl rfl (Nat.le_of_ble_eq_true rfl) (by first | decide | omega) (Nat.le_of_ble_eq_true rfl) ?_
          refine sp_M_look hT hp hq ?_
          show PW _ _ _ 24 [some (.ref 70), l1] [.int (lkM (sg g n q))] (E x Y)
          refine PW_bipush (v := 47) c_M_product_24 (by decide) ?_
          refine PW_icmp_eq c_M_product_26 (fun h2 => ?_) (fun h2 => absurd ((lkM_k (tpM_sg hT) (by decide) (k := 47)).mpr e) h2)
          refine PW_aload_n c_M_product_38 rfl ?_
          refine PW_V0 (d2 := 0) (st := []) [] c_M_product_39 lk_M_product_200 (po_70 _ _) rfl rfl rfl (Nat.le_of_ble_eq_true rfl) (by first | decide | omega) (Nat.le_of_ble_eq_true rfl) ?_
          refine sp_M_look hT hp hq ?_
          show PW _ _ _ 42 [some (.ref 70), l1] [.int (lkM (sg g n q))] (E x Y)
          refine PW_istore_n (i := 1) (L2 := [some (.ref 70), some (.int (lkM (sg g n q)))]) c_M_product_42 rfl (Nat.le_of_ble_eq_true rfl) rfl rfl ?_
          refine PW_aload_n c_M_product_43 rfl ?_
          refine PW_dup c_M_product_44 rfl ?_
          refine PW_get (v := .int (Y.1 578)) c_M_product_45 fl_M_185 (gf_70_18 _ _) ?_
          rw [hp]
          show PW _ _ _ 48 [some (.ref 70), some (.int (lkM (sg g n q)))] [.int (nI q), .ref 70] (E x Y)
          refine PW_iconst (v := 1) c_M_product_48 (by decide) ?_
          refine PW_iadd c_M_product_49 ?_
          refine PW_put (w2 := E x (sI Y 578 ((nI q) + 1))) c_M_product_50 fp_M_product_185 rfl (pf_70_18 _ _ _) ?_
          rw [nI_1 (q)]
          show PW _ _ _ 53 [some (.ref 70), some (.int (lkM (sg g n q)))] [] (E x (sI Y 578 (nI (q + 1))))
          refine PW_aload_n c_M_product_53 rfl ?_
          refine PW_V0 (d2 := fu + 1) (st := []) [] c_M_product_54 lk_M_product_216 (po_70 _ _) rfl rfl rfl (Nat.le_of_ble_eq_true rfl) (by first | decide | omega) (Nat.le_of_ble_eq_true rfl) ?_
          refine H2 ?_
          show PW _ _ _ 57 [some (.ref 70), some (.int (lkM (sg g n q)))] [] (E x Y2)
          refine PW_aload_n c_M_product_57 rfl ?_
          refine PW_iload_n c_M_product_58 rfl ?_
          refine PW_iconst (v := 0) c_M_product_59 (by decide) ?_
          refine PW_V0 (d2 := 0) (st := []) [.int (lkM (sg g n q)), .int 0] c_M_product_60 lk_M_product_204 (po_70 _ _) rfl rfl rfl (Nat.le_of_ble_eq_true rfl) (by first | decide | omega) (Nat.le_of_ble_eq_true rfl) ?_
          refine sp_M_addStep (a := sg g n q) (k := (k + (acc.length + (pF g n fu 5 o (q + 1)).2.2.length))) hlk (by omega) s2 (by omega) ?_
          show PW _ _ _ 63 [some (.ref 70), some (.int (lkM (sg g n q)))] [] (E x (adS Y2 (k + (acc.length + (pF g n fu 5 o (q + 1)).2.2.length)) (nI (sg g n q)) 0))
          refine PW_goto c_M_product_63 ?_
          refine PW.eqL ?_ rfl rfl (H3 (l1 := some (.int (lkM (sg g n q)))) h)
          rfl
        · have n42 : ¬ sg g n q = 42 := by omega
          have n47 : ¬ sg g n q = 47 := by omega
          refine PW_aload_n c_M_product_4 rfl ?_
          refine PW_get (v := .int (Y.1 579)) c_M_product_5 fl_M_188 (gf_70_19 _ _) ?_
          rw [hF]
          show PW _ _ _ 8 [some (.ref 70), l1] [.int (-1)] (E x Y)
          refine PW_if_ge c_M_product_8 (fun h0 => absurd h0 (by decide)) (fun _ => ?_)
          refine PW_aload_n c_M_product_11 rfl ?_
          refine PW_V0 (d2 := 0) (st := []) [] c_M_product_12 lk_M_product_200 (po_70 _ _) rfl rfl rfl (Nat.le_of_ble_eq_true rfl) (by first | decide | omega) (Nat.le_of_ble_eq_true rfl) ?_
          refine sp_M_look hT hp hq ?_
          show PW _ _ _ 15 [some (.ref 70), l1] [.int (lkM (sg g n q))] (E x Y)
          refine PW_bipush (v := 42) c_M_product_15 (by decide) ?_
          refine PW_icmp_eq c_M_product_17 (fun h1 => absurd h1 (fun w => n42 ((lkM_k (tpM_sg hT) (by decide) (k := 42)).mp w))) (fun h1 => ?_)
          refine PW_aload_n c_M_product_20 rfl ?_
          refine PW_V0 (d2 := 0) (st := []) [] c_M_product_21 lk_M_product_200 (po_70 _ _) rfl rfl rfl (Nat.le_of_ble_eq_true rfl) (by first | decide | omega) (Nat.le_of_ble_eq_true rfl) ?_
          refine sp_M_look hT hp hq ?_
          show PW _ _ _ 24 [some (.ref 70), l1] [.int (lkM (sg g n q))] (E x Y)
          refine PW_bipush (v := 47) c_M_product_24 (by decide) ?_
          refine PW_icmp_eq c_M_product_26 (fun h2 => absurd h2 (fun w => n47 ((lkM_k (tpM_sg hT) (by decide) (k := 47)).mp w))) (fun h2 => ?_)
          refine PW_aload_n c_M_product_29 rfl ?_
          refine PW_V0 (d2 := 0) (st := []) [] c_M_product_30 lk_M_product_200 (po_70 _ _) rfl rfl rfl (Nat.le_of_ble_eq_true rfl) (by first | decide | omega) (Nat.le_of_ble_eq_true rfl) ?_
          refine sp_M_look hT hp hq ?_
          show PW _ _ _ 33 [some (.ref 70), l1] [.int (lkM (sg g n q))] (E x Y)
          refine PW_bipush (v := 37) c_M_product_33 (by decide) ?_
          refine PW_icmp_ne c_M_product_35 (fun h3 => absurd h3 (not_not_intro ((lkM_k (tpM_sg hT) (by decide) (k := 37)).mpr e))) (fun h3 => ?_)
          refine PW_aload_n c_M_product_38 rfl ?_
          refine PW_V0 (d2 := 0) (st := []) [] c_M_product_39 lk_M_product_200 (po_70 _ _) rfl rfl rfl (Nat.le_of_ble_eq_true rfl) (by first | decide | omega) (Nat.le_of_ble_eq_true rfl) ?_
          refine sp_M_look hT hp hq ?_
          show PW _ _ _ 42 [some (.ref 70), l1] [.int (lkM (sg g n q))] (E x Y)
          refine PW_istore_n (i := 1) (L2 := [some (.ref 70), some (.int (lkM (sg g n q)))]) c_M_product_42 rfl (Nat.le_of_ble_eq_true rfl) rfl rfl ?_
          refine PW_aload_n c_M_product_43 rfl ?_
          refine PW_dup c_M_product_44 rfl ?_
          refine PW_get (v := .int (Y.1 578)) c_M_product_45 fl_M_185 (gf_70_18 _ _) ?_
          rw [hp]
          show PW _ _ _ 48 [some (.ref 70), some (.int (lkM (sg g n q)))] [.int (nI q), .ref 70] (E x Y)
          refine PW_iconst (v := 1) c_M_product_48 (by decide) ?_
          refine PW_iadd c_M_product_49 ?_
          refine PW_put (w2 := E x (sI Y 578 ((nI q) + 1))) c_M_product_50 fp_M_product_185 rfl (pf_70_18 _ _ _) ?_
          rw [nI_1 (q)]
          show PW _ _ _ 53 [some (.ref 70), some (.int (lkM (sg g n q)))] [] (E x (sI Y 578 (nI (q + 1))))
          refine PW_aload_n c_M_product_53 rfl ?_
          refine PW_V0 (d2 := fu + 1) (st := []) [] c_M_product_54 lk_M_product_216 (po_70 _ _) rfl rfl rfl (Nat.le_of_ble_eq_true rfl) (by first | decide | omega) (Nat.le_of_ble_eq_true rfl) ?_
          refine H2 ?_
          show PW _ _ _ 57 [some (.ref 70), some (.int (lkM (sg g n q)))] [] (E x Y2)
          refine PW_aload_n c_M_product_57 rfl ?_
          refine PW_iload_n c_M_product_58 rfl ?_
          refine PW_iconst (v := 0) c_M_product_59 (by decide) ?_
          refine PW_V0 (d2 := 0) (st := []) [.int (lkM (sg g n q)), .int 0] c_M_product_60 lk_M_product_204 (po_70 _ _) rfl rfl rfl (Nat.le_of_ble_eq_true rfl) (by first | decide | omega) (Nat.le_of_ble_eq_true rfl) ?_
          refine sp_M_addStep (a := sg g n q) (k := (k + (acc.length + (pF g n fu 5 o (q + 1)).2.2.length))) hlk (by omega) s2 (by omega) ?_
          show PW _ _ _ 63 [some (.ref 70), some (.int (lkM (sg g n q)))] [] (E x (adS Y2 (k + (acc.length + (pF g n fu 5 o (q + 1)).2.2.length)) (nI (sg g n q)) 0))
          refine PW_goto c_M_product_63 ?_
          refine PW.eqL ?_ rfl rfl (H3 (l1 := some (.int (lkM (sg g n q)))) h)
          rfl
      · refine ⟨adS Y2 l2 (nI (sg g n q)) 0, ⟨frM_t ff frM_a, ?_, ?_, Or.inr ?_⟩, fun {x z post l1} h => ?_⟩
        · rw [adS_84, adS_85]
          exact lowA_t (lowA_t hlo u2 (by omega)) (lowA_u (Nat.le_refl (130 + l2))) (by omega)
        · rw [lpF, if_pos hlv]
          by_cases r : (pF g n fu 5 o (q + 1)).1 = true
          · rw [if_pos r, lpF_stop (lvO_D (by decide) (r2 r))]
            exact (adS_1 (by decide)).trans p2
          · rw [if_neg r]
            exact (adS_1 (by decide)).trans p2
        · rw [lpF, if_pos hlv]
          by_cases r : (pF g n fu 5 o (q + 1)).1 = true
          · rw [if_pos r, lpF_stop (lvO_D (by decide) (r2 r))]
            exact ⟨fun _ => r2 r, (adS_1 (by decide)).trans b2, l2 + 1, adS_s, by omega, by show l2 + 1 + p0 ≤ k + (pF g n fu 5 o (q + 1)).2.1 + 1; omega⟩
          · rw [if_neg r]
            exact ⟨fun w => Bool.noConfusion w, (adS_1 (by decide)).trans b2, l2 + 1, adS_s, by omega, by show l2 + 1 + p0 ≤ k + (pF g n fu 5 o (q + 1)).2.1 + 1; omega⟩
        · skip
          rcases he with e | e | e
          · skip
            refine PW_aload_n c_M_product_4 rfl ?_
            refine PW_get (v := .int (Y.1 579)) c_M_product_5 fl_M_188 (gf_70_19 _ _) ?_
            rw [hF]
            show PW _ _ _ 8 [some (.ref 70), l1] [.int (-1)] (E x Y)
            refine PW_if_ge c_M_product_8 (fun h0 => absurd h0 (by decide)) (fun _ => ?_)
            refine PW_aload_n c_M_product_11 rfl ?_
            refine PW_V0 (d2 := 0) (st := []) [] c_M_product_12 lk_M_product_200 (po_70 _ _) rfl rfl rfl (Nat.le_of_ble_eq_true rfl) (by first | decide | omega) (Nat.le_of_ble_eq_true rfl) ?_
            refine sp_M_look hT hp hq ?_
            show PW _ _ _ 15 [some (.ref 70), l1] [.int (lkM (sg g n q))] (E x Y)
            refine PW_bipush (v := 42) c_M_product_15 (by decide) ?_
            refine PW_icmp_eq c_M_product_17 (fun h1 => ?_) (fun h1 => absurd ((lkM_k (tpM_sg hT) (by decide) (k := 42)).mpr e) h1)
            refine PW_aload_n c_M_product_38 rfl ?_
            refine PW_V0 (d2 := 0) (st := []) [] c_M_product_39 lk_M_product_200 (po_70 _ _) rfl rfl rfl (Nat.le_of_ble_eq_true rfl) (by first | decide | omega) (Nat.le_of_ble_eq_true rfl) ?_
            refine sp_M_look hT hp hq ?_
            show PW _ _ _ 42 [some (.ref 70), l1] [.int (lkM (sg g n q))] (E x Y)
            refine PW_istore_n (i := 1) (L2 := [some (.ref 70), some (.int (lkM (sg g n q)))]) c_M_product_42 rfl (Nat.le_of_ble_eq_true rfl) rfl rfl ?_
            refine PW_aload_n c_M_product_43 rfl ?_
            refine PW_dup c_M_product_44 rfl ?_
            refine PW_get (v := .int (Y.1 578)) c_M_product_45 fl_M_185 (gf_70_18 _ _) ?_
            rw [hp]
            show PW _ _ _ 48 [some (.ref 70), some (.int (lkM (sg g n q)))] [.int (nI q), .ref 70] (E x Y)
            refine PW_iconst (v := 1) c_M_product_48 (by decide) ?_
            refine PW_iadd c_M_product_49 ?_
            refine PW_put (w2 := E x (sI Y 578 ((nI q) + 1))) c_M_product_50 fp_M_product_185 rfl (pf_70_18 _ _ _) ?_
            rw [nI_1 (q)]
            show PW _ _ _ 53 [some (.ref 70), some (.int (lkM (sg g n q)))] [] (E x (sI Y 578 (nI (q + 1))))
            refine PW_aload_n c_M_product_53 rfl ?_
            refine PW_V0 (d2 := fu + 1) (st := []) [] c_M_product_54 lk_M_product_216 (po_70 _ _) rfl rfl rfl (Nat.le_of_ble_eq_true rfl) (by first | decide | omega) (Nat.le_of_ble_eq_true rfl) ?_
            refine H2 ?_
            show PW _ _ _ 57 [some (.ref 70), some (.int (lkM (sg g n q)))] [] (E x Y2)
            refine PW_aload_n c_M_product_57 rfl ?_
            refine PW_iload_n c_M_product_58 rfl ?_
            refine PW_iconst (v := 0) c_M_product_59 (by decide) ?_
            refine PW_V0 (d2 := 0) (st := []) [.int (lkM (sg g n q)), .int 0] c_M_product_60 lk_M_product_204 (po_70 _ _) rfl rfl rfl (Nat.le_of_ble_eq_true rfl) (by first | decide | omega) (Nat.le_of_ble_eq_true rfl) ?_
            refine sp_M_addStep (a := sg g n q) (k := l2) hlk (by omega) s2 (by omega) ?_
            show PW _ _ _ 63 [some (.ref 70), some (.int (lkM (sg g n q)))] [] (E x (adS Y2 l2 (nI (sg g n q)) 0))
            refine PW_goto c_M_product_63 ?_
            refine PW_aload_n c_M_product_4 rfl ?_
            refine PW_get (v := .int ((adS Y2 l2 (nI (sg g n q)) 0).1 579)) c_M_product_5 fl_M_188 (gf_70_19 _ _) ?_
            rw [(adS_1 (by decide)).trans b2]
            show PW _ _ _ 8 [some (.ref 70), some (.int (lkM (sg g n q)))] [.int (nI (pF g n fu 5 o (q + 1)).2.1)] (E x (adS Y2 l2 (nI (sg g n q)) 0))
            refine PW_if_ge c_M_product_8 (fun h2 => ?_) (fun h2 => absurd (nI_pos' (by omega)) h2)
            refine PW_vreturn c_M_product_66 rfl ?_
            exact h
          · have n42 : ¬ sg g n q = 42 := by omega
            refine PW_aload_n c_M_product_4 rfl ?_
            refine PW_get (v := .int (Y.1 579)) c_M_product_5 fl_M_188 (gf_70_19 _ _) ?_
            rw [hF]
            show PW _ _ _ 8 [some (.ref 70), l1] [.int (-1)] (E x Y)
            refine PW_if_ge c_M_product_8 (fun h0 => absurd h0 (by decide)) (fun _ => ?_)
            refine PW_aload_n c_M_product_11 rfl ?_
            refine PW_V0 (d2 := 0) (st := []) [] c_M_product_12 lk_M_product_200 (po_70 _ _) rfl rfl rfl (Nat.le_of_ble_eq_true rfl) (by first | decide | omega) (Nat.le_of_ble_eq_true rfl) ?_
            refine sp_M_look hT hp hq ?_
            show PW _ _ _ 15 [some (.ref 70), l1] [.int (lkM (sg g n q))] (E x Y)
            refine PW_bipush (v := 42) c_M_product_15 (by decide) ?_
            refine PW_icmp_eq c_M_product_17 (fun h1 => absurd h1 (fun w => n42 ((lkM_k (tpM_sg hT) (by decide) (k := 42)).mp w))) (fun h1 => ?_)
            refine PW_aload_n c_M_product_20 rfl ?_
            refine PW_V0 (d2 := 0) (st := []) [] c_M_product_21 lk_M_product_200 (po_70 _ _) rfl rfl rfl (Nat.le_of_ble_eq_true rfl) (by first | decide | omega) (Nat.le_of_ble_eq_true rfl) ?_
            refine sp_M_look hT hp hq ?_
            show PW _ _ _ 24 [some (.ref 70), l1] [.int (lkM (sg g n q))] (E x Y)
            refine PW_bipush (v := 47) c_M_product_24 (by decide) ?_
            refine PW_icmp_eq c_M_product_26 (fun h2 => ?_) (fun h2 => absurd ((lkM_k (tpM_sg hT) (by decide) (k := 47)).mpr e) h2)
            refine PW_aload_n c_M_product_38 rfl ?_
            refine PW_V0 (d2 := 0) (st := []) [] c_M_product_39 lk_M_product_200 (po_70 _ _) rfl rfl rfl (Nat.le_of_ble_eq_true rfl) (by first | decide | omega) (Nat.le_of_ble_eq_true rfl) ?_
            refine sp_M_look hT hp hq ?_
            show PW _ _ _ 42 [some (.ref 70), l1] [.int (lkM (sg g n q))] (E x Y)
            refine PW_istore_n (i := 1) (L2 := [some (.ref 70), some (.int (lkM (sg g n q)))]) c_M_product_42 rfl (Nat.le_of_ble_eq_true rfl) rfl rfl ?_
            refine PW_aload_n c_M_product_43 rfl ?_
            refine PW_dup c_M_product_44 rfl ?_
            refine PW_get (v := .int (Y.1 578)) c_M_product_45 fl_M_185 (gf_70_18 _ _) ?_
            rw [hp]
            show PW _ _ _ 48 [some (.ref 70), some (.int (lkM (sg g n q)))] [.int (nI q), .ref 70] (E x Y)
            refine PW_iconst (v := 1) c_M_product_48 (by decide) ?_
            refine PW_iadd c_M_product_49 ?_
            refine PW_put (w2 := E x (sI Y 578 ((nI q) + 1))) c_M_product_50 fp_M_product_185 rfl (pf_70_18 _ _ _) ?_
            rw [nI_1 (q)]
            show PW _ _ _ 53 [some (.ref 70), some (.int (lkM (sg g n q)))] [] (E x (sI Y 578 (nI (q + 1))))
            refine PW_aload_n c_M_product_53 rfl ?_
            refine PW_V0 (d2 := fu + 1) (st := []) [] c_M_product_54 lk_M_product_216 (po_70 _ _) rfl rfl rfl (Nat.le_of_ble_eq_true rfl) (by first | decide | omega) (Nat.le_of_ble_eq_true rfl) ?_
            refine H2 ?_
            show PW _ _ _ 57 [some (.ref 70), some (.int (lkM (sg g n q)))] [] (E x Y2)
            refine PW_aload_n c_M_product_57 rfl ?_
            refine PW_iload_n c_M_product_58 rfl ?_
            refine PW_iconst (v := 0) c_M_product_59 (by decide) ?_
            refine PW_V0 (d2 := 0) (st := []) [.int (lkM (sg g n q)), .int 0] c_M_product_60 lk_M_product_204 (po_70 _ _) rfl rfl rfl (Nat.le_of_ble_eq_true rfl) (by first | decide | omega) (Nat.le_of_ble_eq_true rfl) ?_
            refine sp_M_addStep (a := sg g n q) (k := l2) hlk (by omega) s2 (by omega) ?_
            show PW _ _ _ 63 [some (.ref 70), some (.int (lkM (sg g n q)))] [] (E x (adS Y2 l2 (nI (sg g n q)) 0))
            refine PW_goto c_M_product_63 ?_
            refine PW_aload_n c_M_product_4 rfl ?_
            refine PW_get (v := .int ((adS Y2 l2 (nI (sg g n q)) 0).1 579)) c_M_product_5 fl_M_188 (gf_70_19 _ _) ?_
            rw [(adS_1 (by decide)).trans b2]
            show PW _ _ _ 8 [some (.ref 70), some (.int (lkM (sg g n q)))] [.int (nI (pF g n fu 5 o (q + 1)).2.1)] (E x (adS Y2 l2 (nI (sg g n q)) 0))
            refine PW_if_ge c_M_product_8 (fun h3 => ?_) (fun h3 => absurd (nI_pos' (by omega)) h3)
            refine PW_vreturn c_M_product_66 rfl ?_
            exact h
          · have n42 : ¬ sg g n q = 42 := by omega
            have n47 : ¬ sg g n q = 47 := by omega
            refine PW_aload_n c_M_product_4 rfl ?_
            refine PW_get (v := .int (Y.1 579)) c_M_product_5 fl_M_188 (gf_70_19 _ _) ?_
            rw [hF]
            show PW _ _ _ 8 [some (.ref 70), l1] [.int (-1)] (E x Y)
            refine PW_if_ge c_M_product_8 (fun h0 => absurd h0 (by decide)) (fun _ => ?_)
            refine PW_aload_n c_M_product_11 rfl ?_
            refine PW_V0 (d2 := 0) (st := []) [] c_M_product_12 lk_M_product_200 (po_70 _ _) rfl rfl rfl (Nat.le_of_ble_eq_true rfl) (by first | decide | omega) (Nat.le_of_ble_eq_true rfl) ?_
            refine sp_M_look hT hp hq ?_
            show PW _ _ _ 15 [some (.ref 70), l1] [.int (lkM (sg g n q))] (E x Y)
            refine PW_bipush (v := 42) c_M_product_15 (by decide) ?_
            refine PW_icmp_eq c_M_product_17 (fun h1 => absurd h1 (fun w => n42 ((lkM_k (tpM_sg hT) (by decide) (k := 42)).mp w))) (fun h1 => ?_)
            refine PW_aload_n c_M_product_20 rfl ?_
            refine PW_V0 (d2 := 0) (st := []) [] c_M_product_21 lk_M_product_200 (po_70 _ _) rfl rfl rfl (Nat.le_of_ble_eq_true rfl) (by first | decide | omega) (Nat.le_of_ble_eq_true rfl) ?_
            refine sp_M_look hT hp hq ?_
            show PW _ _ _ 24 [some (.ref 70), l1] [.int (lkM (sg g n q))] (E x Y)
            refine PW_bipush (v := 47) c_M_product_24 (by decide) ?_
            refine PW_icmp_eq c_M_product_26 (fun h2 => absurd h2 (fun w => n47 ((lkM_k (tpM_sg hT) (by decide) (k := 47)).mp w))) (fun h2 => ?_)
            refine PW_aload_n c_M_product_29 rfl ?_
            refine PW_V0 (d2 := 0) (st := []) [] c_M_product_30 lk_M_product_200 (po_70 _ _) rfl rfl rfl (Nat.le_of_ble_eq_true rfl) (by first | decide | omega) (Nat.le_of_ble_eq_true rfl) ?_
            refine sp_M_look hT hp hq ?_
            show PW _ _ _ 33 [some (.ref 70), l1] [.int (lkM (sg g n q))] (E x Y)
            refine PW_bipush (v := 37) c_M_product_33 (by decide) ?_
            refine PW_icmp_ne c_M_product_35 (fun h3 => absurd h3 (not_not_intro ((lkM_k (tpM_sg hT) (by decide) (k := 37)).mpr e))) (fun h3 => ?_)
            refine PW_aload_n c_M_product_38 rfl ?_
            refine PW_V0 (d2 := 0) (st := []) [] c_M_product_39 lk_M_product_200 (po_70 _ _) rfl rfl rfl (Nat.le_of_ble_eq_true rfl) (by first | decide | omega) (Nat.le_of_ble_eq_true rfl) ?_
            refine sp_M_look hT hp hq ?_
            show PW _ _ _ 42 [some (.ref 70), l1] [.int (lkM (sg g n q))] (E x Y)
            refine PW_istore_n (i := 1) (L2 := [some (.ref 70), some (.int (lkM (sg g n q)))]) c_M_product_42 rfl (Nat.le_of_ble_eq_true rfl) rfl rfl ?_
            refine PW_aload_n c_M_product_43 rfl ?_
            refine PW_dup c_M_product_44 rfl ?_
            refine PW_get (v := .int (Y.1 578)) c_M_product_45 fl_M_185 (gf_70_18 _ _) ?_
            rw [hp]
            show PW _ _ _ 48 [some (.ref 70), some (.int (lkM (sg g n q)))] [.int (nI q), .ref 70] (E x Y)
            refine PW_iconst (v := 1) c_M_product_48 (by decide) ?_
            refine PW_iadd c_M_product_49 ?_
            refine PW_put (w2 := E x (sI Y 578 ((nI q) + 1))) c_M_product_50 fp_M_product_185 rfl (pf_70_18 _ _ _) ?_
            rw [nI_1 (q)]
            show PW _ _ _ 53 [some (.ref 70), some (.int (lkM (sg g n q)))] [] (E x (sI Y 578 (nI (q + 1))))
            refine PW_aload_n c_M_product_53 rfl ?_
            refine PW_V0 (d2 := fu + 1) (st := []) [] c_M_product_54 lk_M_product_216 (po_70 _ _) rfl rfl rfl (Nat.le_of_ble_eq_true rfl) (by first | decide | omega) (Nat.le_of_ble_eq_true rfl) ?_
            refine H2 ?_
            show PW _ _ _ 57 [some (.ref 70), some (.int (lkM (sg g n q)))] [] (E x Y2)
            refine PW_aload_n c_M_product_57 rfl ?_
            refine PW_iload_n c_M_product_58 rfl ?_
            refine PW_iconst (v := 0) c_M_product_59 (by decide) ?_
            refine PW_V0 (d2 := 0) (st := []) [.int (lkM (sg g n q)), .int 0] c_M_product_60 lk_M_product_204 (po_70 _ _) rfl rfl rfl (Nat.le_of_ble_eq_true rfl) (by first | decide | omega) (Nat.le_of_ble_eq_true rfl) ?_
            refine sp_M_addStep (a := sg g n q) (k := l2) hlk (by omega) s2 (by omega) ?_
            show PW _ _ _ 63 [some (.ref 70), some (.int (lkM (sg g n q)))] [] (E x (adS Y2 l2 (nI (sg g n q)) 0))
            refine PW_goto c_M_product_63 ?_
            refine PW_aload_n c_M_product_4 rfl ?_
            refine PW_get (v := .int ((adS Y2 l2 (nI (sg g n q)) 0).1 579)) c_M_product_5 fl_M_188 (gf_70_19 _ _) ?_
            rw [(adS_1 (by decide)).trans b2]
            show PW _ _ _ 8 [some (.ref 70), some (.int (lkM (sg g n q)))] [.int (nI (pF g n fu 5 o (q + 1)).2.1)] (E x (adS Y2 l2 (nI (sg g n q)) 0))
            refine PW_if_ge c_M_product_8 (fun h4 => ?_) (fun h4 => absurd (nI_pos' (by omega)) h4)
            refine PW_vreturn c_M_product_66 rfl ?_
            exact h
    · rw [lpF, if_neg hlv]
      refine ⟨Y, ⟨hf, hlo, hp, Or.inl ⟨rfl, hg⟩⟩, fun {x z post l1} h => ?_⟩
      have n42 : ¬ sg g n q = 42 := fun w => hlv (lv_4.mpr (by omega))
      have n47 : ¬ sg g n q = 47 := fun w => hlv (lv_4.mpr (by omega))
      have n37 : ¬ sg g n q = 37 := fun w => hlv (lv_4.mpr (by omega))
      refine PW_aload_n c_M_product_4 rfl ?_
      refine PW_get (v := .int (Y.1 579)) c_M_product_5 fl_M_188 (gf_70_19 _ _) ?_
      rw [hF]
      show PW _ _ _ 8 [some (.ref 70), l1] [.int (-1)] (E x Y)
      refine PW_if_ge c_M_product_8 (fun h0 => absurd h0 (by decide)) (fun _ => ?_)
      refine PW_aload_n c_M_product_11 rfl ?_
      refine PW_V0 (d2 := 0) (st := []) [] c_M_product_12 lk_M_product_200 (po_70 _ _) rfl rfl rfl (Nat.le_of_ble_eq_true rfl) (by first | decide | omega) (Nat.le_of_ble_eq_true rfl) ?_
      refine sp_M_look hT hp hq ?_
      show PW _ _ _ 15 [some (.ref 70), l1] [.int (lkM (sg g n q))] (E x Y)
      refine PW_bipush (v := 42) c_M_product_15 (by decide) ?_
      refine PW_icmp_eq c_M_product_17 (fun h1 => absurd h1 (fun w => n42 ((lkM_k (tpM_sg hT) (by decide) (k := 42)).mp w))) (fun h1 => ?_)
      refine PW_aload_n c_M_product_20 rfl ?_
      refine PW_V0 (d2 := 0) (st := []) [] c_M_product_21 lk_M_product_200 (po_70 _ _) rfl rfl rfl (Nat.le_of_ble_eq_true rfl) (by first | decide | omega) (Nat.le_of_ble_eq_true rfl) ?_
      refine sp_M_look hT hp hq ?_
      show PW _ _ _ 24 [some (.ref 70), l1] [.int (lkM (sg g n q))] (E x Y)
      refine PW_bipush (v := 47) c_M_product_24 (by decide) ?_
      refine PW_icmp_eq c_M_product_26 (fun h2 => absurd h2 (fun w => n47 ((lkM_k (tpM_sg hT) (by decide) (k := 47)).mp w))) (fun h2 => ?_)
      refine PW_aload_n c_M_product_29 rfl ?_
      refine PW_V0 (d2 := 0) (st := []) [] c_M_product_30 lk_M_product_200 (po_70 _ _) rfl rfl rfl (Nat.le_of_ble_eq_true rfl) (by first | decide | omega) (Nat.le_of_ble_eq_true rfl) ?_
      refine sp_M_look hT hp hq ?_
      show PW _ _ _ 33 [some (.ref 70), l1] [.int (lkM (sg g n q))] (E x Y)
      refine PW_bipush (v := 37) c_M_product_33 (by decide) ?_
      refine PW_icmp_ne c_M_product_35 (fun h3 => ?_) (fun h3 => absurd h3 (fun w => n37 ((lkM_k (tpM_sg hT) (by decide) (k := 37)).mp w)))
      refine PW_vreturn c_M_product_66 rfl ?_
      exact h
theorem M_product_step {g : Nat → Nat} {n fu : Nat} (ih : MOK g n m_M_operand [some (.ref 70), none] fu 5) : MOK g n m_M_product [some (.ref 70), none] (fu + 1) 4 := by
  intro o p k Y ho hfu hT hp hF hO hS hpn hk
  have hn := hT.2.1
  obtain ⟨Y1, ⟨f1, u1, p1, c1⟩, H1⟩ := ih o p k Y ho (by omega) hT hp hF hO hS hpn hk
  have w1 := pF_p (g := g) fu 5 o p hpn
  have w1n := w1.2.1
  rw [pF_lev (by decide : 4 < 5)]
  rcases c1 with ⟨r1, b1⟩ | ⟨r1, b1, l1, s1, hk1, hl1⟩
  · rw [if_pos r1, if_neg (by decide : ¬ 4 = 2)]
    have hok : okP p n (true, (pF g n fu 5 o p).2.1, (pF g n fu 5 o p).2.2) := ⟨w1.1, w1.2.1, fun _ => w1.2.2 r1⟩
    obtain ⟨Y', hR, HL⟩ := lp_product ih ho (by omega) hk 120 _ _ Y1 (by have := (w1.2.2 r1).1; omega) (tpM_fr hT f1) f1 u1 p1 b1 hok
    refine ⟨Y', hR, fun {x z post} h => ?_⟩
    refine PW_aload_n c_M_product_0 rfl ?_
    refine PW_V0 (d2 := fu + 1) (st := []) [] c_M_product_1 lk_M_product_216 (po_70 _ _) rfl rfl rfl (Nat.le_of_ble_eq_true rfl) (by first | decide | omega) (Nat.le_of_ble_eq_true rfl) ?_
    refine H1 ?_
    show PW _ _ _ 4 [some (.ref 70), none] [] (E x Y1)
    refine PW.eqL ?_ rfl rfl (HL (l1 := none) h)
    rfl
  · refine ⟨Y1, ⟨f1, u1, ?_, Or.inr ?_⟩, fun {x z post} h => ?_⟩
    · by_cases r : (pF g n fu 5 o p).1 = true
      · rw [if_pos r, lpF_stop (lvO_D (by decide) (r1 r))]; exact p1
      · rw [if_neg r]; exact p1
    · by_cases r : (pF g n fu 5 o p).1 = true
      · rw [if_pos r, lpF_stop (lvO_D (by decide) (r1 r))]; exact ⟨fun _ => r1 r, b1, l1, s1, hk1, hl1⟩
      · rw [if_neg r]; exact ⟨fun w => Bool.noConfusion w, b1, l1, s1, hk1, hl1⟩
    · skip
      refine PW_aload_n c_M_product_0 rfl ?_
      refine PW_V0 (d2 := fu + 1) (st := []) [] c_M_product_1 lk_M_product_216 (po_70 _ _) rfl rfl rfl (Nat.le_of_ble_eq_true rfl) (by first | decide | omega) (Nat.le_of_ble_eq_true rfl) ?_
      refine H1 ?_
      show PW _ _ _ 4 [some (.ref 70), none] [] (E x Y1)
      refine PW_aload_n c_M_product_4 rfl ?_
      refine PW_get (v := .int (Y1.1 579)) c_M_product_5 fl_M_188 (gf_70_19 _ _) ?_
      rw [b1]
      show PW _ _ _ 8 [some (.ref 70), none] [.int (nI (pF g n fu 5 o p).2.1)] (E x Y1)
      refine PW_if_ge c_M_product_8 (fun h0 => ?_) (fun h0 => absurd (nI_pos' (by omega)) h0)
      refine PW_vreturn c_M_product_66 rfl ?_
      exact h
