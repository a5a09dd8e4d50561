/-! the other side reads a text -/
theorem txM_snoc (a : Txt) (l : Ln) : txM (a ++ [l]) = txM a ++ (l.1 ++ l.2) := by
  unfold txM
  rw [List.flatMap_append, List.flatMap_singleton]
def endA (Y : XS) (T : Txt) : Prop := ∀ (i : Nat) (l : Ln), T[i]? = some l → Y.2.1 87 (61 + i) = nI ((txM (T.take i)).length + l.1.length) ∧ Y.2.1 88 (61 + i) = nI ((txM (T.take i)).length + l.1.length + l.2.length)
def txtM (Y : XS) (T : Txt) : Prop := Y.1 581 = nI (txM T).length ∧ wrA (Y.2.1 84) (Y.2.1 85) 130 ((txM T).map stM) ∧ Y.2.1 86 1 = nI T.length ∧ endA Y T
def keepM (Y0 Y : XS) : Prop := frN Y0 Y ∧ lowA (Y0.2.1 84) (Y0.2.1 85) (Y.2.1 84) (Y.2.1 85) 130 ∧ Y.2.1 86 0 = Y0.2.1 86 0 ∧ lowA (Y0.2.1 87) (Y0.2.1 88) (Y.2.1 87) (Y.2.1 88) 61
theorem keepM_t {Y0 Y Y2 : XS} (a : keepM Y0 Y) (b : keepM Y Y2) : keepM Y0 Y2 := ⟨frN_t a.1 b.1, lowA_t a.2.1 b.2.1 (Nat.le_refl _), b.2.2.1.trans a.2.2.1, lowA_t a.2.2.2 b.2.2.2 (Nat.le_refl _)⟩
theorem endA_snoc {Y Y2 : XS} {T : Txt} {l : Ln} (h : endA Y T) (b : lowA (Y.2.1 87) (Y.2.1 88) (Y2.2.1 87) (Y2.2.1 88) (61 + T.length)) (e1 : Y2.2.1 87 (61 + T.length) = nI ((txM T).length + l.1.length)) (e2 : Y2.2.1 88 (61 + T.length) = nI ((txM T).length + l.1.length + l.2.length)) : endA Y2 (T ++ [l]) := fun i m hm => by
  rcases Nat.lt_or_ge i T.length with w | w
  · rw [List.getElem?_append_left w] at hm
    rw [List.take_append_of_le_length (by omega)]
    have q := h i m hm
    exact ⟨(b (61 + i) (by omega)).1.trans q.1, (b (61 + i) (by omega)).2.trans q.2⟩
  · rw [List.getElem?_append_right w] at hm
    have hi : i = T.length := by
      rcases Nat.lt_or_ge (i - T.length) 1 with z | z
      · omega
      · rw [List.getElem?_eq_none (by rw [List.length_singleton]; exact z)] at hm; exact absurd hm (by simp)
    subst hi
    rw [Nat.sub_self] at hm
    have hm : some l = some m := hm
    rw [← Option.some.inj hm, List.take_append_of_le_length (Nat.le_refl _), List.take_length]
    exact ⟨e1, e2⟩
theorem lp_M_text {g : Nat → Nat} {n : Nat} : ∀ (m p : Nat) (acc : Txt) (Y : XS), 121 ≤ p + m → tpM Y g n → Y.1 578 = nI p → Y.1 579 = -1 → Y.1 580 = nI 0 → txtM Y acc → p ≤ n → (txM acc).length ≤ p → 2 * acc.length ≤ p → ∃ Y1 Y' : XS, (keepM Y Y' ∧ (((rdT g n m p acc).1 = true ∧ Y'.1 579 = -1 ∧ txtM Y' (rdT g n m p acc).2.2) ∨ ((rdT g n m p acc).1 = false ∧ Y'.1 579 = nI (rdT g n m p acc).2.1 ∧ (rdT g n m p acc).2.1 ≤ n))) ∧ (∀ {x : XS} {z : ZS} {post : Option Value → List PE → Prop}, post none (E x Y1) → PW (44, 0, 0, z) m_M_line post 0 [some (.ref 70), none] [] (E x Y)) ∧ ∀ {x : XS} {z : ZS} {post : Option Value → List PE → Prop} {l2 : Option Value}, PW (45, 0, 0, z) m_M_readText post 86 [some (.ref 70), some (.int 0), l2] [] (E x Y') → PW (45, 0, 0, z) m_M_readText post 31 [some (.ref 70), some (.int 0), l2] [] (E x Y1) := by
  intro m
  induction m with
  | zero =>
    intro p acc Y hm hT hp hF hO ht hpn
    have hn := hT.2.1
    exact absurd hm (by omega)
  | succ m ih =>
    intro p acc Y hm hT hp hF hO ht hpn hk h2
    have hn := hT.2.1
    obtain ⟨t1, t2, t3, t4⟩ := id ht
    obtain ⟨Y1, ⟨f1, u1, ⟨e86, e860⟩, uE, q1, c1⟩, H1⟩ := sp_M_line hT hp hF hO t1 hpn hk t3 (by omega)
    have w1 := rdL_p (g := g) hpn
    have w1n := w1.2.1
    have hT1 := tpM_frN hT f1
    have kY : keepM Y Y1 := ⟨f1, fun i hi => u1 i (by omega), e860, fun i hi => uE i (by omega)⟩
    rw [rdT]
    rcases c1 with ⟨r1, b1, o1, s1, v1, g1, g2⟩ | ⟨r1, b1⟩
    · obtain ⟨z1, z2, z3, z4⟩ := w1.2.2 r1
      have tx : txtM Y1 (acc ++ [(rdL g n p).2.2]) := by
        refine ⟨?_, ?_, ?_, endA_snoc t4 uE g1 g2⟩
        · rw [s1, txM_snoc, List.length_append, List.length_append, Nat.add_assoc]
        · rw [txM_snoc, List.map_append]
          exact wrA_app (wrA_low t2 u1 (by rw [List.length_map]; omega)) (by rw [List.length_map]; exact v1)
        · rw [e86, List.length_append, List.length_singleton]
      have lA : (txM (acc ++ [(rdL g n p).2.2])).length ≤ (rdL g n p).2.1 := by rw [txM_snoc, List.length_append, List.length_append]; omega
      have lB : 2 * (acc ++ [(rdL g n p).2.2]).length ≤ (rdL g n p).2.1 + 1 := by rw [List.length_append, List.length_singleton]; omega
      rw [if_pos r1]
      by_cases hq : n ≤ (rdL g n p).2.1
      · rw [if_pos hq]
        have c59 : ¬ sg g n (rdL g n p).2.1 = 59 := fun w => by have : (rdL g n p).2.1 < n := sg_lt (g := g) (by omega); omega
        refine ⟨Y1, Y1, ⟨kY, Or.inl ⟨rfl, b1, tx⟩⟩, H1, fun {x z post l2} h => ?_⟩
        refine PW_aload_n c_M_readText_31 rfl ?_
        refine PW_get (v := .int (Y1.1 579)) c_M_readText_32 fl_M_188 (gf_70_19 _ _) ?_
        rw [b1]
        show PW _ _ _ 35 [some (.ref 70), some (.int 0), l2] [.int (-1)] (E x Y1)
        refine PW_if_ge c_M_readText_35 (fun h0 => absurd h0 (by decide)) (fun _ => ?_)
        refine PW_aload_n c_M_readText_38 rfl ?_
        refine PW_V0 (d2 := 0) (st := []) [] c_M_readText_39 lk_M_readText_200 (po_70 _ _) rfl rfl rfl (Nat.le_of_ble_eq_true rfl) (by first | decide | omega) (Nat.le_of_ble_eq_true rfl) ?_
        refine sp_M_look hT1 q1 w1n ?_
        show PW _ _ _ 42 [some (.ref 70), some (.int 0), l2] [.int (lkM (sg g n (rdL g n p).2.1))] (E x Y1)
        refine PW_bipush (v := 59) c_M_readText_42 (by decide) ?_
        refine PW_icmp_ne c_M_readText_44 (fun h1 => ?_) (fun h1 => absurd h1 (fun w => c59 ((lkM_k (tpM_sg hT1) (by decide) (k := 59)).mp w)))
        refine PW_aload_n c_M_readText_64 rfl ?_
        refine PW_get (v := .int (Y1.1 579)) c_M_readText_65 fl_M_188 (gf_70_19 _ _) ?_
        rw [b1]
        show PW _ _ _ 68 [some (.ref 70), some (.int 0), l2] [.int (-1)] (E x Y1)
        refine PW_if_ge c_M_readText_68 (fun h2 => absurd h2 (by decide)) (fun _ => ?_)
        refine PW_aload_n c_M_readText_71 rfl ?_
        refine PW_get (v := .int (Y1.1 578)) c_M_readText_72 fl_M_185 (gf_70_18 _ _) ?_
        rw [q1]
        show PW _ _ _ 75 [some (.ref 70), some (.int 0), l2] [.int (nI (rdL g n p).2.1)] (E x Y1)
        refine PW_aload_n c_M_readText_75 rfl ?_
        refine PW_get (v := .int (Y1.1 577)) c_M_readText_76 fl_M_182 (gf_70_17 _ _) ?_
        rw [hT1.1]
        show PW _ _ _ 79 [some (.ref 70), some (.int 0), l2] [.int (nI n), .int (nI (rdL g n p).2.1)] (E x Y1)
        refine PW_icmp_ge c_M_readText_79 (fun h3 => ?_) (fun h3 => absurd ((nI_leI (by omega) (by omega)).mpr (by omega)) h3)
        exact h
      · rw [if_neg hq]
        by_cases c59 : sg g n (rdL g n p).2.1 = 59
        · rw [if_neg (not_not_intro c59)]
          obtain ⟨Y2, Y', ⟨k2, c2⟩, H2, HL⟩ := ih ((rdL g n p).2.1 + 1) (acc ++ [(rdL g n p).2.2]) (sI Y1 578 (nI ((rdL g n p).2.1 + 1))) (by omega) (tpM_frN hT1 (frN_M (frM_i (by decide)))) sI_s ((sI_n (by decide)).trans b1) ((sI_n (by decide)).trans o1) ⟨(sI_n (by decide)).trans tx.1, tx.2.1, tx.2.2.1, tx.2.2.2⟩ (by omega) (by omega) lB
          refine ⟨Y1, Y', ⟨keepM_t kY (keepM_t ⟨frN_M (frM_i (by decide)), lowA_0, rfl, lowA_0⟩ k2), c2⟩, H1, fun {x z post l2} h => ?_⟩
          refine PW_aload_n c_M_readText_31 rfl ?_
          refine PW_get (v := .int (Y1.1 579)) c_M_readText_32 fl_M_188 (gf_70_19 _ _) ?_
          rw [b1]
          show PW _ _ _ 35 [some (.ref 70), some (.int 0), l2] [.int (-1)] (E x Y1)
          refine PW_if_ge c_M_readText_35 (fun h0 => absurd h0 (by decide)) (fun _ => ?_)
          refine PW_aload_n c_M_readText_38 rfl ?_
          refine PW_V0 (d2 := 0) (st := []) [] c_M_readText_39 lk_M_readText_200 (po_70 _ _) rfl rfl rfl (Nat.le_of_ble_eq_true rfl) (by first | decide | omega) (Nat.le_of_ble_eq_true rfl) ?_
          refine sp_M_look hT1 q1 w1n ?_
          show PW _ _ _ 42 [some (.ref 70), some (.int 0), l2] [.int (lkM (sg g n (rdL g n p).2.1))] (E x Y1)
          refine PW_bipush (v := 59) c_M_readText_42 (by decide) ?_
          refine PW_icmp_ne c_M_readText_44 (fun h1 => absurd h1 (not_not_intro ((lkM_k (tpM_sg hT1) (by decide) (k := 59)).mpr c59))) (fun h1 => ?_)
          refine PW_aload_n c_M_readText_47 rfl ?_
          refine PW_dup c_M_readText_48 rfl ?_
          refine PW_get (v := .int (Y1.1 578)) c_M_readText_49 fl_M_185 (gf_70_18 _ _) ?_
          rw [q1]
          show PW _ _ _ 52 [some (.ref 70), some (.int 0), l2] [.int (nI (rdL g n p).2.1), .ref 70] (E x Y1)
          refine PW_iconst (v := 1) c_M_readText_52 (by decide) ?_
          refine PW_iadd c_M_readText_53 ?_
          refine PW_put (w2 := E x (sI Y1 578 ((nI (rdL g n p).2.1) + 1))) c_M_readText_54 fp_M_readText_185 rfl (pf_70_18 _ _ _) ?_
          rw [nI_1 ((rdL g n p).2.1)]
          show PW _ _ _ 57 [some (.ref 70), some (.int 0), l2] [] (E x (sI Y1 578 (nI ((rdL g n p).2.1 + 1))))
          refine PW_aload_n c_M_readText_57 rfl ?_
          refine PW_V0 (d2 := 44) (st := []) [] c_M_readText_58 lk_M_readText_237 (po_70 _ _) rfl rfl rfl (Nat.le_of_ble_eq_true rfl) (by first | decide | omega) (Nat.le_of_ble_eq_true rfl) ?_
          refine H2 ?_
          show PW _ _ _ 61 [some (.ref 70), some (.int 0), l2] [] (E x Y2)
          refine PW_goto c_M_readText_61 ?_
          exact HL h
        · rw [if_pos c59]
          refine ⟨Y1, sI Y1 579 (nI (rdL g n p).2.1), ⟨keepM_t kY ⟨frN_M (frM_i (by decide)), lowA_0, rfl, lowA_0⟩, Or.inr ⟨rfl, sI_s, w1n⟩⟩, H1, fun {x z post l2} h => ?_⟩
          refine PW_aload_n c_M_readText_31 rfl ?_
          refine PW_get (v := .int (Y1.1 579)) c_M_readText_32 fl_M_188 (gf_70_19 _ _) ?_
          rw [b1]
          show PW _ _ _ 35 [some (.ref 70), some (.int 0), l2] [.int (-1)] (E x Y1)
          refine PW_if_ge c_M_readText_35 (fun h0 => absurd h0 (by decide)) (fun _ => ?_)
          refine PW_aload_n c_M_readText_38 rfl ?_
          refine PW_V0 (d2 := 0) (st := []) [] c_M_readText_39 lk_M_readText_200 (po_70 _ _) rfl rfl rfl (Nat.le_of_ble_eq_true rfl) (by first | decide | omega) (Nat.le_of_ble_eq_true rfl) ?_
          refine sp_M_look hT1 q1 w1n ?_
          show PW _ _ _ 42 [some (.ref 70), some (.int 0), l2] [.int (lkM (sg g n (rdL g n p).2.1))] (E x Y1)
          refine PW_bipush (v := 59) c_M_readText_42 (by decide) ?_
          refine PW_icmp_ne c_M_readText_44 (fun h1 => ?_) (fun h1 => absurd h1 (fun w => c59 ((lkM_k (tpM_sg hT1) (by decide) (k := 59)).mp w)))
          refine PW_aload_n c_M_readText_64 rfl ?_
          refine PW_get (v := .int (Y1.1 579)) c_M_readText_65 fl_M_188 (gf_70_19 _ _) ?_
          rw [b1]
          show PW _ _ _ 68 [some (.ref 70), some (.int 0), l2] [.int (-1)] (E x Y1)
          refine PW_if_ge c_M_readText_68 (fun h2 => absurd h2 (by decide)) (fun _ => ?_)
          refine PW_aload_n c_M_readText_71 rfl ?_
          refine PW_get (v := .int (Y1.1 578)) c_M_readText_72 fl_M_185 (gf_70_18 _ _) ?_
          rw [q1]
          show PW _ _ _ 75 [some (.ref 70), some (.int 0), l2] [.int (nI (rdL g n p).2.1)] (E x Y1)
          refine PW_aload_n c_M_readText_75 rfl ?_
          refine PW_get (v := .int (Y1.1 577)) c_M_readText_76 fl_M_182 (gf_70_17 _ _) ?_
          rw [hT1.1]
          show PW _ _ _ 79 [some (.ref 70), some (.int 0), l2] [.int (nI n), .int (nI (rdL g n p).2.1)] (E x Y1)
          refine PW_icmp_ge c_M_readText_79 (fun h3 => absurd h3 (fun w => absurd ((nI_leI (by omega) (by omega)).mp w) (by omega))) (fun h3 => ?_)
          refine PW_aload_n c_M_readText_82 rfl ?_
          refine PW_V0 (d2 := 0) (st := []) [] c_M_readText_83 lk_M_readText_197 (po_70 _ _) rfl rfl rfl (Nat.le_of_ble_eq_true rfl) (by first | decide | omega) (Nat.le_of_ble_eq_true rfl) ?_
          show PW _ _ _ 0 [some (.ref 70)] [] (E x Y1)
          refine PW_aload_n c_M_faulty_0 rfl ?_
          refine PW_get (v := .int (Y1.1 579)) c_M_faulty_1 fl_M_188 (gf_70_19 _ _) ?_
          rw [b1]
          show PW _ _ _ 4 [some (.ref 70)] [.int (-1)] (E x Y1)
          refine PW_if_ge c_M_faulty_4 (fun h4 => absurd h4 (by decide)) (fun _ => ?_)
          refine PW_aload_n c_M_faulty_7 rfl ?_
          refine PW_aload_n c_M_faulty_8 rfl ?_
          refine PW_get (v := .int (Y1.1 578)) c_M_faulty_9 fl_M_185 (gf_70_18 _ _) ?_
          rw [q1]
          show PW _ _ _ 12 [some (.ref 70)] [.int (nI (rdL g n p).2.1), .ref 70] (E x Y1)
          refine PW_put (w2 := E x (sI Y1 579 (nI (rdL g n p).2.1))) c_M_faulty_12 fp_M_faulty_188 rfl (pf_70_19 _ _ _) ?_
          refine PW_vreturn c_M_faulty_15 rfl ?_
          show PW _ _ _ 86 [some (.ref 70), some (.int 0), l2] [] (E x (sI Y1 579 (nI (rdL g n p).2.1)))
          exact h
    · have eR : (if (rdL g n p).1 = true then (if n ≤ (rdL g n p).2.1 then (true, (rdL g n p).2.1, acc ++ [(rdL g n p).2.2]) else if ¬ sg g n (rdL g n p).2.1 = 59 then (false, (rdL g n p).2.1, ([] : Txt)) else rdT g n m ((rdL g n p).2.1 + 1) (acc ++ [(rdL g n p).2.2])) else (false, (rdL g n p).2.1, [])) = (false, (rdL g n p).2.1, ([] : Txt)) := by
        by_cases w : (rdL g n p).1 = true
        · have d := r1 w
          have hq : (rdL g n p).2.1 < n := sg_lt (g := g) (by unfold isD at d; omega)
          rw [if_pos w, if_neg (by omega), if_pos (by unfold isD at d; omega)]
        · rw [if_neg w]
      rw [eR]
      refine ⟨Y1, Y1, ⟨kY, Or.inr ⟨rfl, b1, w1n⟩⟩, H1, fun {x z post l2} h => ?_⟩
      refine PW_aload_n c_M_readText_31 rfl ?_
      refine PW_get (v := .int (Y1.1 579)) c_M_readText_32 fl_M_188 (gf_70_19 _ _) ?_
      rw [b1]
      show PW _ _ _ 35 [some (.ref 70), some (.int 0), l2] [.int (nI (rdL g n p).2.1)] (E x Y1)
      refine PW_if_ge c_M_readText_35 (fun h0 => ?_) (fun h0 => absurd (nI_pos' (by omega)) h0)
      refine PW_aload_n c_M_readText_64 rfl ?_
      refine PW_get (v := .int (Y1.1 579)) c_M_readText_65 fl_M_188 (gf_70_19 _ _) ?_
      rw [b1]
      show PW _ _ _ 68 [some (.ref 70), some (.int 0), l2] [.int (nI (rdL g n p).2.1)] (E x Y1)
      refine PW_if_ge c_M_readText_68 (fun h1 => ?_) (fun h1 => absurd (nI_pos' (by omega)) h1)
      exact h
theorem lp_cp1 {N : Nat} (hN : N ≤ 130) : ∀ (j i : Nat) (Y : XS), i + j = N → Y.1 581 = nI N → (∀ q, q < N → vp_nar .byte (Y.2.1 84 (130 + q)) = Y.2.1 84 (130 + q)) → ∃ Y' : XS, ((∀ m, Y'.1 m = Y.1 m) ∧ (∀ a, a ≠ 84 → a ≠ 85 → Y'.2.1 a = Y.2.1 a) ∧ Y'.2.2 = Y.2.2 ∧ (∀ q, q < i → Y'.2.1 84 q = Y.2.1 84 q ∧ Y'.2.1 85 q = Y.2.1 85 q) ∧ ∀ q, i ≤ q → q < N → Y'.2.1 84 q = Y.2.1 84 (130 + q) ∧ Y'.2.1 85 q = Y.2.1 85 (130 + q)) ∧ ∀ {x : XS} {z : ZS} {post : Option Value → List PE → Prop}, (∀ {l2 : Option Value}, PW (45, 0, 0, z) m_M_readText post 163 [some (.ref 70), some (.int 0), l2] [] (E x Y')) → PW (45, 0, 0, z) m_M_readText post 105 [some (.ref 70), some (.int 0), some (.int (nI i))] [] (E x Y) := by
  intro j
  induction j with
  | zero =>
    intro i Y hi hS hC
    refine ⟨Y, ⟨fun _ => rfl, fun _ _ _ => rfl, rfl, fun _ _ => ⟨rfl, rfl⟩, fun q h1 h2 => absurd h1 (by omega)⟩, fun {x z post} h => ?_⟩
    refine PW_iload_n c_M_readText_105 rfl ?_
    refine PW_aload_n c_M_readText_106 rfl ?_
    refine PW_get (v := .int (Y.1 581)) c_M_readText_107 fl_M_191 (gf_70_21 _ _) ?_
    rw [hS]
    show PW _ _ _ 110 [some (.ref 70), some (.int 0), some (.int (nI i))] [.int (nI N), .int (nI i)] (E x Y)
    refine PW_icmp_ge c_M_readText_110 (fun h0 => ?_) (fun h0 => absurd ((nI_leI (by omega) (by omega)).mpr (by omega)) h0)
    exact h
  | succ j ih =>
    intro i Y hi hS hC
    obtain ⟨Y', ⟨f1, f2, f3, f4, f5⟩, H⟩ := ih (i + 1) (sA (sA Y 84 (upd (Y.2.1 84) i (Y.2.1 84 (130 + i)))) 85 (upd (Y.2.1 85) i (Y.2.1 85 (130 + i)))) (by omega) hS (fun q hq => by
      show vp_nar .byte (upd (Y.2.1 84) i (Y.2.1 84 (130 + i)) (130 + q)) = upd (Y.2.1 84) i (Y.2.1 84 (130 + i)) (130 + q)
      rw [upd_n (by omega)]
      exact hC q hq)
    refine ⟨Y', ⟨f1, fun a ha hb => (f2 a ha hb).trans (by rw [sA_A, if_neg hb, sA_A, if_neg ha]), f3, fun q hq => ?_, fun q h1 h2 => ?_⟩, fun {x z post} h => ?_⟩
    · have w := f4 q (by omega)
      exact ⟨w.1.trans (upd_n (by omega)), w.2.trans (upd_n (by omega))⟩
    · by_cases e : q = i
      · have w := f4 q (by omega)
        subst e
        exact ⟨w.1.trans upd_s, w.2.trans upd_s⟩
      · have w := f5 q (by omega) h2
        exact ⟨w.1.trans (upd_n (by omega)), w.2.trans (upd_n (by omega))⟩
    · skip
      refine PW_iload_n c_M_readText_105 rfl ?_
      refine PW_aload_n c_M_readText_106 rfl ?_
      refine PW_get (v := .int (Y.1 581)) c_M_readText_107 fl_M_191 (gf_70_21 _ _) ?_
      rw [hS]
      show PW _ _ _ 110 [some (.ref 70), some (.int 0), some (.int (nI i))] [.int (nI N), .int (nI i)] (E x Y)
      refine PW_icmp_ge c_M_readText_110 (fun h0 => absurd h0 (fun w => absurd ((nI_leI (by omega) (by omega)).mp w) (by omega))) (fun h0 => ?_)
      refine PW_aload_n c_M_readText_113 rfl ?_
      refine PW_get (v := .ref 84) c_M_readText_114 fl_M_50 (gf_70_22 _ _) ?_
      refine PW_sipush (v := 130) c_M_readText_117 (by decide) ?_
      refine PW_iload_n c_M_readText_120 rfl ?_
      refine PW_imul c_M_readText_121 ?_
      refine PW_iload_n c_M_readText_122 rfl ?_
      refine PW_iadd c_M_readText_123 ?_
      refine PW_aload_n c_M_readText_124 rfl ?_
      refine PW_get (v := .ref 84) c_M_readText_125 fl_M_50 (gf_70_22 _ _) ?_
      refine PW_sipush (v := 130) c_M_readText_128 (by decide) ?_
      refine PW_iload_n c_M_readText_131 rfl ?_
      refine PW_iadd c_M_readText_132 ?_
      refine PW_bald (j := 130 + i) c_M_readText_133 (ar_84 _ _) (by rw [show (130 : Int32) = nI 130 from rfl, nI_add]; exact vp_in_nI (by omega) (by decide)) (by rw [show (130 : Int32) = nI 130 from rfl, nI_add]; exact nI_clamp (by omega)) ?_
      show PW _ _ _ 134 [some (.ref 70), some (.int 0), some (.int (nI i))] [.int ((Y.2.1 84) (130 + i)), .int ((130 * 0) + (nI i)), .ref 84] (E x Y)
      refine PW_bast (j := i) (w2 := E x (sA Y 84 (upd (Y.2.1 84) i (vp_nar .byte ((Y.2.1 84) (130 + i)))))) c_M_readText_134 (ar_84 _ _) (by rw [show (130 : Int32) * 0 = 0 from rfl, Int32.zero_add]; exact vp_in_nI (by omega) (by decide)) (by rw [show (130 : Int32) * 0 = 0 from rfl, Int32.zero_add]; exact nI_clamp (by omega)) (aw_84 _ _ _) ?_
      refine PW_aload_n c_M_readText_135 rfl ?_
      refine PW_get (v := .ref 85) c_M_readText_136 fl_M_53 (gf_70_23 _ _) ?_
      refine PW_sipush (v := 130) c_M_readText_139 (by decide) ?_
      refine PW_iload_n c_M_readText_142 rfl ?_
      refine PW_imul c_M_readText_143 ?_
      refine PW_iload_n c_M_readText_144 rfl ?_
      refine PW_iadd c_M_readText_145 ?_
      refine PW_aload_n c_M_readText_146 rfl ?_
      refine PW_get (v := .ref 85) c_M_readText_147 fl_M_53 (gf_70_23 _ _) ?_
      refine PW_sipush (v := 130) c_M_readText_150 (by decide) ?_
      refine PW_iload_n c_M_readText_153 rfl ?_
      refine PW_iadd c_M_readText_154 ?_
      refine PW_iald (j := 130 + i) c_M_readText_155 (ar_85 _ _) (by rw [show (130 : Int32) = nI 130 from rfl, nI_add]; exact vp_in_nI (by omega) (by decide)) (by rw [show (130 : Int32) = nI 130 from rfl, nI_add]; exact nI_clamp (by omega)) ?_
      show PW _ _ _ 156 [some (.ref 70), some (.int 0), some (.int (nI i))] [.int ((Y.2.1 85) (130 + i)), .int ((130 * 0) + (nI i)), .ref 85] (E x (sA Y 84 (upd (Y.2.1 84) i (vp_nar .byte ((Y.2.1 84) (130 + i))))))
      refine PW_iast (j := i) (w2 := E x (sA (sA Y 84 (upd (Y.2.1 84) i (vp_nar .byte ((Y.2.1 84) (130 + i))))) 85 (upd (Y.2.1 85) i ((Y.2.1 85) (130 + i))))) c_M_readText_156 (ar_85 _ _) (by rw [show (130 : Int32) * 0 = 0 from rfl, Int32.zero_add]; exact vp_in_nI (by omega) (by decide)) (by rw [show (130 : Int32) * 0 = 0 from rfl, Int32.zero_add]; exact nI_clamp (by omega)) (aw_85 _ _ _) ?_
      refine PW_iinc (i := 2) (v := (nI i) + 1) (L2 := [some (.ref 70), some (.int 0), some (.int ((nI i) + 1))]) c_M_readText_157 rfl (iinc_v (by decide)) (Nat.le_of_ble_eq_true rfl) rfl rfl ?_
      refine PW_goto c_M_readText_160 ?_
      rw [hC i (by omega)]
      refine PW.eqL ?_ rfl rfl (H h)
      show ([some (.ref 70), some (.int 0), some (.int ((nI i) + 1))] : List (Option Value)) = [some (.ref 70), some (.int 0), some (.int (nI (i + 1)))]
      rw [nI_1]
theorem lp_cp2 {N : Nat} (hN : N ≤ 61) : ∀ (j i : Nat) (Y : XS), i + j = N → Y.2.1 86 0 = nI N → (∀ q, q < N → vp_nar .short (Y.2.1 87 (61 + q)) = Y.2.1 87 (61 + q) ∧ vp_nar .short (Y.2.1 88 (61 + q)) = Y.2.1 88 (61 + q)) → ∃ Y' : XS, ((∀ m, Y'.1 m = Y.1 m) ∧ (∀ a, a ≠ 87 → a ≠ 88 → Y'.2.1 a = Y.2.1 a) ∧ Y'.2.2 = Y.2.2 ∧ (∀ q, q < i → Y'.2.1 87 q = Y.2.1 87 q ∧ Y'.2.1 88 q = Y.2.1 88 q) ∧ ∀ q, i ≤ q → q < N → Y'.2.1 87 q = Y.2.1 87 (61 + q) ∧ Y'.2.1 88 q = Y.2.1 88 (61 + q)) ∧ ∀ {x : XS} {z : ZS} {post : Option Value → List PE → Prop}, (∀ {l2 : Option Value}, PW (45, 0, 0, z) m_M_readText post 233 [some (.ref 70), some (.int 0), l2] [] (E x Y')) → PW (45, 0, 0, z) m_M_readText post 177 [some (.ref 70), some (.int 0), some (.int (nI i))] [] (E x Y) := by
  intro j
  induction j with
  | zero =>
    intro i Y hi hS hC
    refine ⟨Y, ⟨fun _ => rfl, fun _ _ _ => rfl, rfl, fun _ _ => ⟨rfl, rfl⟩, fun q h1 h2 => absurd h1 (by omega)⟩, fun {x z post} h => ?_⟩
    refine PW_iload_n c_M_readText_177 rfl ?_
    refine PW_aload_n c_M_readText_178 rfl ?_
    refine PW_get (v := .ref 86) c_M_readText_179 fl_M_56 (gf_70_24 _ _) ?_
    refine PW_iload_n c_M_readText_182 rfl ?_
    refine PW_iald (j := 0) c_M_readText_183 (ar_86 _ _) (vp_in_iff.mpr (by decide)) rfl ?_
    show PW _ _ _ 184 [some (.ref 70), some (.int 0), some (.int (nI i))] [.int ((Y.2.1 86) 0), .int (nI i)] (E x Y)
    rw [hS]
    show PW _ _ _ 184 [some (.ref 70), some (.int 0), some (.int (nI i))] [.int (nI N), .int (nI i)] (E x Y)
    refine PW_icmp_ge c_M_readText_184 (fun h0 => ?_) (fun h0 => absurd ((nI_leI (by omega) (by omega)).mpr (by omega)) h0)
    exact h
  | succ j ih =>
    intro i Y hi hS hC
    obtain ⟨Y', ⟨f1, f2, f3, f4, f5⟩, H⟩ := ih (i + 1) (sA (sA Y 87 (upd (Y.2.1 87) i (Y.2.1 87 (61 + i)))) 88 (upd (Y.2.1 88) i (Y.2.1 88 (61 + i)))) (by omega) hS (fun q hq => by
      show vp_nar .short (upd (Y.2.1 87) i (Y.2.1 87 (61 + i)) (61 + q)) = upd (Y.2.1 87) i (Y.2.1 87 (61 + i)) (61 + q) ∧ vp_nar .short (upd (Y.2.1 88) i (Y.2.1 88 (61 + i)) (61 + q)) = upd (Y.2.1 88) i (Y.2.1 88 (61 + i)) (61 + q)
      rw [upd_n (by omega), upd_n (by omega)]
      exact hC q hq)
    refine ⟨Y', ⟨f1, fun a ha hb => (f2 a ha hb).trans (by rw [sA_A, if_neg hb, sA_A, if_neg ha]), f3, fun q hq => ?_, fun q h1 h2 => ?_⟩, fun {x z post} h => ?_⟩
    · have w := f4 q (by omega)
      exact ⟨w.1.trans (upd_n (by omega)), w.2.trans (upd_n (by omega))⟩
    · by_cases e : q = i
      · have w := f4 q (by omega)
        subst e
        exact ⟨w.1.trans upd_s, w.2.trans upd_s⟩
      · have w := f5 q (by omega) h2
        exact ⟨w.1.trans (upd_n (by omega)), w.2.trans (upd_n (by omega))⟩
    · skip
      refine PW_iload_n c_M_readText_177 rfl ?_
      refine PW_aload_n c_M_readText_178 rfl ?_
      refine PW_get (v := .ref 86) c_M_readText_179 fl_M_56 (gf_70_24 _ _) ?_
      refine PW_iload_n c_M_readText_182 rfl ?_
      refine PW_iald (j := 0) c_M_readText_183 (ar_86 _ _) (vp_in_iff.mpr (by decide)) rfl ?_
      show PW _ _ _ 184 [some (.ref 70), some (.int 0), some (.int (nI i))] [.int ((Y.2.1 86) 0), .int (nI i)] (E x Y)
      rw [hS]
      show PW _ _ _ 184 [some (.ref 70), some (.int 0), some (.int (nI i))] [.int (nI N), .int (nI i)] (E x Y)
      refine PW_icmp_ge c_M_readText_184 (fun h0 => absurd h0 (fun w => absurd ((nI_leI (by omega) (by omega)).mp w) (by omega))) (fun h0 => ?_)
      refine PW_aload_n c_M_readText_187 rfl ?_
      refine PW_get (v := .ref 87) c_M_readText_188 fl_M_59 (gf_70_25 _ _) ?_
      refine PW_bipush (v := 61) c_M_readText_191 (by decide) ?_
      refine PW_iload_n c_M_readText_193 rfl ?_
      refine PW_imul c_M_readText_194 ?_
      refine PW_iload_n c_M_readText_195 rfl ?_
      refine PW_iadd c_M_readText_196 ?_
      refine PW_aload_n c_M_readText_197 rfl ?_
      refine PW_get (v := .ref 87) c_M_readText_198 fl_M_59 (gf_70_25 _ _) ?_
      refine PW_bipush (v := 61) c_M_readText_201 (by decide) ?_
      refine PW_iload_n c_M_readText_203 rfl ?_
      refine PW_iadd c_M_readText_204 ?_
      refine PW_sald (j := 61 + i) c_M_readText_205 (ar_87 _ _) (by rw [show (61 : Int32) = nI 61 from rfl, nI_add]; exact vp_in_nI (by omega) (by decide)) (by rw [show (61 : Int32) = nI 61 from rfl, nI_add]; exact nI_clamp (by omega)) ?_
      show PW _ _ _ 206 [some (.ref 70), some (.int 0), some (.int (nI i))] [.int ((Y.2.1 87) (61 + i)), .int ((61 * 0) + (nI i)), .ref 87] (E x Y)
      refine PW_sast (j := i) (w2 := E x (sA Y 87 (upd (Y.2.1 87) i (vp_nar .short ((Y.2.1 87) (61 + i)))))) c_M_readText_206 (ar_87 _ _) (by rw [show (61 : Int32) * 0 = 0 from rfl, Int32.zero_add]; exact vp_in_nI (by omega) (by decide)) (by rw [show (61 : Int32) * 0 = 0 from rfl, Int32.zero_add]; exact nI_clamp (by omega)) (aw_87 _ _ _) ?_
      refine PW_aload_n c_M_readText_207 rfl ?_
      refine PW_get (v := .ref 88) c_M_readText_208 fl_M_63 (gf_70_26 _ _) ?_
      refine PW_bipush (v := 61) c_M_readText_211 (by decide) ?_
      refine PW_iload_n c_M_readText_213 rfl ?_
      refine PW_imul c_M_readText_214 ?_
      refine PW_iload_n c_M_readText_215 rfl ?_
      refine PW_iadd c_M_readText_216 ?_
      refine PW_aload_n c_M_readText_217 rfl ?_
      refine PW_get (v := .ref 88) c_M_readText_218 fl_M_63 (gf_70_26 _ _) ?_
      refine PW_bipush (v := 61) c_M_readText_221 (by decide) ?_
      refine PW_iload_n c_M_readText_223 rfl ?_
      refine PW_iadd c_M_readText_224 ?_
      refine PW_sald (j := 61 + i) c_M_readText_225 (ar_88 _ _) (by rw [show (61 : Int32) = nI 61 from rfl, nI_add]; exact vp_in_nI (by omega) (by decide)) (by rw [show (61 : Int32) = nI 61 from rfl, nI_add]; exact nI_clamp (by omega)) ?_
      show PW _ _ _ 226 [some (.ref 70), some (.int 0), some (.int (nI i))] [.int ((Y.2.1 88) (61 + i)), .int ((61 * 0) + (nI i)), .ref 88] (E x (sA Y 87 (upd (Y.2.1 87) i (vp_nar .short ((Y.2.1 87) (61 + i))))))
      refine PW_sast (j := i) (w2 := E x (sA (sA Y 87 (upd (Y.2.1 87) i (vp_nar .short ((Y.2.1 87) (61 + i))))) 88 (upd (Y.2.1 88) i (vp_nar .short ((Y.2.1 88) (61 + i)))))) c_M_readText_226 (ar_88 _ _) (by rw [show (61 : Int32) * 0 = 0 from rfl, Int32.zero_add]; exact vp_in_nI (by omega) (by decide)) (by rw [show (61 : Int32) * 0 = 0 from rfl, Int32.zero_add]; exact nI_clamp (by omega)) (aw_88 _ _ _) ?_
      refine PW_iinc (i := 2) (v := (nI i) + 1) (L2 := [some (.ref 70), some (.int 0), some (.int ((nI i) + 1))]) c_M_readText_227 rfl (iinc_v (by decide)) (Nat.le_of_ble_eq_true rfl) rfl rfl ?_
      refine PW_goto c_M_readText_230 ?_
      rw [(hC i (by omega)).1, (hC i (by omega)).2]
      refine PW.eqL ?_ rfl rfl (H h)
      show ([some (.ref 70), some (.int 0), some (.int ((nI i) + 1))] : List (Option Value)) = [some (.ref 70), some (.int 0), some (.int (nI (i + 1)))]
      rw [nI_1]
