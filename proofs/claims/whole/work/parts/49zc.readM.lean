/-! the text that both find -/
def okTx (T : Txt) : Prop := T ≠ [] ∧ (∀ l ∈ T, okL l) ∧ (txM T).length ≤ 120 ∧ T.length ≤ 60
theorem rdT_p {g : Nat → Nat} {n : Nat} (hn : n ≤ 120) : ∀ (m p : Nat) (acc : Txt), p ≤ n → (∀ l ∈ acc, okL l) → (txM acc).length ≤ p → 2 * acc.length ≤ p → (rdT g n m p acc).1 = true → okTx (rdT g n m p acc).2.2
  | 0, p, acc, _, _, _, _, h => absurd h (fun w => by rw [rdT] at w; exact Bool.noConfusion w)
  | m + 1, p, acc, hp, ho, h1, h2, h => by
    have w1 := rdL_p (g := g) hp
    have w1n := w1.2.1
    rw [rdT] at h ⊢
    by_cases r1 : (rdL g n p).1 = true
    · obtain ⟨z1, z2, z3, z4⟩ := w1.2.2 r1
      have lA : (txM (acc ++ [(rdL g n p).2.2])).length ≤ (rdL g n p).2.1 := by rw [txM_snoc, List.length_append, List.length_append]; omega
      have lB : 2 * (acc ++ [(rdL g n p).2.2]).length ≤ (rdL g n p).2.1 + 1 := by rw [List.length_append, List.length_singleton]; omega
      have ho2 : ∀ l ∈ acc ++ [(rdL g n p).2.2], okL l := fun l hl => by
        rcases List.mem_append.mp hl with hl | hl
        · exact ho l hl
        · rw [List.mem_singleton] at hl; rw [hl]; exact z4
      rw [if_pos r1] at h ⊢
      by_cases hq : n ≤ (rdL g n p).2.1
      · rw [if_pos hq]
        exact ⟨by simp, ho2, (by show (txM (acc ++ [(rdL g n p).2.2])).length ≤ 120; omega), (by show (acc ++ [(rdL g n p).2.2]).length ≤ 60; omega)⟩
      · rw [if_neg hq] at h ⊢
        by_cases c59 : sg g n (rdL g n p).2.1 = 59
        · rw [if_neg (not_not_intro c59)] at h ⊢
          exact rdT_p hn m _ _ (by omega) ho2 (by omega) lB h
        · rw [if_pos c59] at h
          exact Bool.noConfusion h
    · rw [if_neg r1] at h
      exact Bool.noConfusion h
theorem rdT_n {g : Nat → Nat} {n : Nat} : ∀ (m p : Nat) (acc : Txt), p ≤ n → (rdT g n m p acc).1 = false → 121 ≤ p + m → n ≤ 120 → (rdT g n m p acc).2.1 ≤ n
  | 0, p, acc, hp, _, hm, hn => absurd hm (by omega)
  | m + 1, p, acc, hp, h, hm, hn => by
    have w1 := rdL_p (g := g) hp
    have w1n := w1.2.1
    rw [rdT] at h ⊢
    by_cases r1 : (rdL g n p).1 = true
    · rw [if_pos r1] at h ⊢
      by_cases hq : n ≤ (rdL g n p).2.1
      · rw [if_pos hq] at h
        exact Bool.noConfusion h
      · rw [if_neg hq] at h ⊢
        by_cases c59 : sg g n (rdL g n p).2.1 = 59
        · rw [if_neg (not_not_intro c59)] at h ⊢
          have := (w1.2.2 r1).1
          exact rdT_n m _ _ (by omega) h (by omega) hn
        · rw [if_pos c59]
          exact w1n
    · rw [if_neg r1]
      exact w1n
theorem txM_take {T : Txt} {q : Nat} {l : Ln} (h : T[q]? = some l) : (txM (T.take q)).length + l.1.length + l.2.length ≤ (txM T).length := by
  have hq : q < T.length := by
    rcases Nat.lt_or_ge q T.length with z | z
    · exact z
    · rw [List.getElem?_eq_none z] at h; exact absurd h (by simp)
  have e : T = T.take q ++ (l :: T.drop (q + 1)) := by
    have e1 : T.drop q = l :: T.drop (q + 1) := by
      rw [List.drop_eq_getElem_cons hq]
      rw [List.getElem?_eq_getElem hq] at h
      rw [Option.some.inj h]
    rw [← e1, List.take_append_drop]
  have e2 : (txM T).length = (txM (T.take q)).length + (l.1.length + l.2.length + (txM (T.drop (q + 1))).length) := by
    have : (txM T).length = (txM (T.take q ++ (l :: T.drop (q + 1)))).length := congrArg (fun v => (txM v).length) e
    rw [this, txM_app, List.length_append]
    congr 1
    unfold txM
    rw [List.flatMap_cons, List.length_append, List.length_append]
  omega
theorem okS_lt {s : Stp0} (h : okS s) : s.1 < 128 := by
  rcases h with h | h | h | h | h
  · omega
  · omega
  · omega
  · omega
  · exact (op_cd h).2
def lowM (Y Y' : XS) : Prop := lowA (Y.2.1 84) (Y.2.1 85) (Y'.2.1 84) (Y'.2.1 85) 130 ∧ Y'.2.1 86 0 = Y.2.1 86 0 ∧ lowA (Y.2.1 87) (Y.2.1 88) (Y'.2.1 87) (Y'.2.1 88) 61
theorem LawM_low {T : Txt} {Y Y' : XS} (h : LawM T Y) (b : lowM Y Y') : LawM T Y' := by
  obtain ⟨h1, h2, h3, h4, h5⟩ := h
  obtain ⟨b1, b2, b3⟩ := b
  refine ⟨b2.trans h1, h2, h3, fun i s hs => ?_, fun k l hl => ?_⟩
  · have hi : i < (txM T).length := by
      rcases Nat.lt_or_ge i (txM T).length with z | z
      · exact z
      · rw [List.getElem?_eq_none z] at hs; exact absurd hs (by simp)
    have q := h4 i s hs
    exact ⟨(b1 i (by omega)).1.trans q.1, (b1 i (by omega)).2.trans q.2⟩
  · have hi : k < T.length := by
      rcases Nat.lt_or_ge k T.length with z | z
      · exact z
      · rw [List.getElem?_eq_none z] at hl; exact absurd hl (by simp)
    have q := h5 k l hl
    exact ⟨(b3 k (by omega)).1.trans q.1, (b3 k (by omega)).2.trans q.2⟩
def frR (Y Y' : XS) : Prop := (∀ m, (m < 577 ∨ 581 < m) → Y'.1 m = Y.1 m) ∧ (∀ a, (a < 84 ∨ 88 < a) → Y'.2.1 a = Y.2.1 a) ∧ Y'.2.2 = Y.2.2 ∧ Y'.1 577 = 0
set_option maxHeartbeats 1000000 in
theorem sp_M_readText {g : Nat → Nat} {n : Nat} {Y : XS} (hT : tpM Y g n) : ∃ Y2 : XS, frR Y Y2 ∧ (((rdT g n 121 0 []).1 = true ∧ LawM (rdT g n 121 0 []).2.2 Y2) ∨ ((rdT g n 121 0 []).1 = false ∧ lowM Y Y2)) ∧ ∀ {x : XS} {z : ZS} {post : Option Value → List PE → Prop}, post (some (.int (rdV (rdT g n 121 0 [])))) (E x Y2) → PW (45, 0, 0, z) m_M_readText post 0 [some (.ref 70), some (.int 0), none] [] (E x Y) := by
  have hn := hT.2.1
  have kI : keepM Y (sA (sI (sI (sI (sI Y 578 0) 579 (-1)) 580 0) 581 0) 86 (upd (Y.2.1 86) 1 0)) := ⟨⟨fun m p => by show (sI (sI (sI (sI Y 578 0) 579 (-1)) 580 0) 581 0).1 m = _; rw [sI_n (by omega), sI_n (by omega), sI_n (by omega), sI_n (by omega)], fun a p => by rw [sA_A, if_neg (by omega)]; rfl, rfl⟩, lowA_0, (by rw [sA_A, if_pos rfl]; exact upd_n (by decide)), lowA_0⟩
  obtain ⟨Y1, Y', ⟨kk, cc⟩, H1, HL⟩ := lp_M_text (g := g) (n := n) 121 0 [] (sA (sI (sI (sI (sI Y 578 0) 579 (-1)) 580 0) 581 0) 86 (upd (Y.2.1 86) 1 0)) (by decide) (tpM_frN hT kI.1) rfl rfl rfl ⟨rfl, wrA_nil, by rw [sA_A, if_pos rfl]; exact upd_s, fun i l hl => by rw [List.getElem?_nil] at hl; exact absurd hl (by simp)⟩ (Nat.zero_le _) (Nat.le_refl _) (Nat.le_refl _)
  have kY := keepM_t kI kk
  have hTF := rdT_p (g := g) hn 121 0 [] (Nat.zero_le _) (fun l hl => absurd hl List.not_mem_nil) (Nat.le_refl _) (Nat.le_refl _)
  rcases cc with ⟨r1, bF, t1, t2, t3, t4⟩ | ⟨r1, bF, hqn⟩
  · obtain ⟨k1, k2, k3, k4⟩ := hTF r1
    generalize hTT : (rdT g n 121 0 []).2.2 = T at t1 t2 t3 t4 k1 k2 k3 k4 ⊢
    have at1 : ∀ (i : Nat) (s : Stp0), (txM T)[i]? = some s → Y'.2.1 84 (130 + i) = nI s.1 ∧ Y'.2.1 85 (130 + i) = s.2 := fun i s hs => t2 i (stM s) (by rw [List.getElem?_map, hs]; rfl)
    obtain ⟨Z1, ⟨f1, f2, f3, f4, f5⟩, HC1⟩ := lp_cp1 (N := (txM T).length) (by omega) (txM T).length 0 (sI Y' 577 0) (Nat.zero_add _) ((sI_n (by decide)).trans t1) (fun q hq => by
      have e := List.getElem?_eq_getElem hq
      have a := (at1 q _ e).1
      have hm : (txM T)[q] ∈ txM T := List.getElem_mem hq
      have ok : okS (txM T)[q] := by
        unfold txM at hm
        rw [List.mem_flatMap] at hm
        obtain ⟨l, hl, hs⟩ := hm
        exact (k2 l hl).2.2 _ hs
      show vp_nar .byte (Y'.2.1 84 (130 + q)) = Y'.2.1 84 (130 + q)
      rw [a]
      exact lkM_a _ (okS_lt ok))
    have g86 : Z1.2.1 86 = Y'.2.1 86 := f2 86 (by decide) (by decide)
    have g87 : Z1.2.1 87 = Y'.2.1 87 := f2 87 (by decide) (by decide)
    have g88 : Z1.2.1 88 = Y'.2.1 88 := f2 88 (by decide) (by decide)
    obtain ⟨Z2, ⟨e1, e2, e3, e4, e5⟩, HC2⟩ := lp_cp2 (N := T.length) (by omega) T.length 0 (sA Z1 86 (upd (Z1.2.1 86) 0 (Z1.2.1 86 1))) (Nat.zero_add _) (by show upd (Z1.2.1 86) 0 (Z1.2.1 86 1) 0 = _; rw [upd_s, g86]; exact t3) (fun q hq => by
      have e := List.getElem?_eq_getElem hq
      have a := t4 q _ e
      have b := txM_take e
      show vp_nar .short (Z1.2.1 87 (61 + q)) = Z1.2.1 87 (61 + q) ∧ vp_nar .short (Z1.2.1 88 (61 + q)) = Z1.2.1 88 (61 + q)
      rw [g87, g88, a.1, a.2]
      exact ⟨nar_sh2 _ (by omega), nar_sh2 _ (by omega)⟩)
    refine ⟨Z2, ⟨fun m p => ?_, fun a p => ?_, ?_, ?_⟩, Or.inl ⟨r1, ?_⟩, fun {x z post} h => ?_⟩
    · rw [e1 m]
      show Z1.1 m = _
      rw [f1 m, sI_n (by omega)]
      exact kY.1.1 m (by omega)
    · rw [e2 a (by omega) (by omega), sA_A, if_neg (by omega), f2 a (by omega) (by omega)]
      exact kY.1.2.1 a p
    · rw [e3]
      show Z1.2.2 = _
      rw [f3]
      exact kY.1.2.2
    · rw [e1 577]
      show Z1.1 577 = _
      rw [f1 577]
      exact sI_s
    · refine ⟨?_, by omega, by omega, fun i s hs => ?_, fun k l hl => ?_⟩
      · rw [e2 86 (by decide) (by decide), sA_A, if_pos rfl, upd_s, g86]
        exact t3
      · have hi : i < (txM T).length := by
          rcases Nat.lt_or_ge i (txM T).length with z | z
          · exact z
          · rw [List.getElem?_eq_none z] at hs; exact absurd hs (by simp)
        have a := at1 i s hs
        have b := f5 i (Nat.zero_le _) hi
        rw [e2 84 (by decide) (by decide), e2 85 (by decide) (by decide), sA_A, sA_A, if_neg (by decide), if_neg (by decide)]
        exact ⟨b.1.trans a.1, b.2.trans a.2⟩
      · have hi : k < T.length := by
          rcases Nat.lt_or_ge k T.length with z | z
          · exact z
          · rw [List.getElem?_eq_none z] at hl; exact absurd hl (by simp)
        have a := t4 k l hl
        have b := e5 k (Nat.zero_le _) hi
        rw [sA_A, sA_A, if_neg (by decide), if_neg (by decide), g87, g88] at b
        exact ⟨b.1.trans a.1, b.2.trans a.2⟩
    · skip
      refine PW_aload_n c_M_readText_0 rfl ?_
      refine PW_iconst (v := 0) c_M_readText_1 (by decide) ?_
      refine PW_put (w2 := E x (sI Y 578 0)) c_M_readText_2 fp_M_readText_185 rfl (pf_70_18 _ _ _) ?_
      refine PW_aload_n c_M_readText_5 rfl ?_
      refine PW_iconst (v := -1) c_M_readText_6 (by decide) ?_
      refine PW_put (w2 := E x (sI (sI Y 578 0) 579 (-1))) c_M_readText_7 fp_M_readText_188 rfl (pf_70_19 _ _ _) ?_
      refine PW_aload_n c_M_readText_10 rfl ?_
      refine PW_iconst (v := 0) c_M_readText_11 (by decide) ?_
      refine PW_put (w2 := E x (sI (sI (sI Y 578 0) 579 (-1)) 580 0)) c_M_readText_12 fp_M_readText_194 rfl (pf_70_20 _ _ _) ?_
      refine PW_aload_n c_M_readText_15 rfl ?_
      refine PW_iconst (v := 0) c_M_readText_16 (by decide) ?_
      refine PW_put (w2 := E x (sI (sI (sI (sI Y 578 0) 579 (-1)) 580 0) 581 0)) c_M_readText_17 fp_M_readText_191 rfl (pf_70_21 _ _ _) ?_
      refine PW_aload_n c_M_readText_20 rfl ?_
      refine PW_get (v := .ref 86) c_M_readText_21 fl_M_56 (gf_70_24 _ _) ?_
      refine PW_iconst (v := 1) c_M_readText_24 (by decide) ?_
      refine PW_iconst (v := 0) c_M_readText_25 (by decide) ?_
      refine PW_iast (j := 1) (w2 := E x (sA (sI (sI (sI (sI Y 578 0) 579 (-1)) 580 0) 581 0) 86 (upd (Y.2.1 86) 1 0))) c_M_readText_26 (ar_86 _ _) (vp_in_iff.mpr (by decide)) rfl (aw_86 _ _ _) ?_
      refine PW_aload_n c_M_readText_27 rfl ?_
      refine PW_V0 (d2 := 44) (st := []) [] c_M_readText_28 lk_M_readText_237 (po_70 _ _) rfl rfl rfl (Nat.le_of_ble_eq_true rfl) (by first | decide | omega) (Nat.le_of_ble_eq_true rfl) ?_
      refine H1 ?_
      show PW _ _ _ 31 [some (.ref 70), some (.int 0), none] [] (E x Y1)
      refine PW.eqL ?_ rfl rfl (HL (l2 := none) ?_)
      · rfl
      · show PW _ _ _ 86 [some (.ref 70), some (.int 0), none] [] (E x Y')
        refine PW_aload_n c_M_readText_86 rfl ?_
        refine PW_iconst (v := 0) c_M_readText_87 (by decide) ?_
        refine PW_put (w2 := E x (sI (Y') 577 0)) c_M_readText_88 fp_M_readText_182 rfl (pf_70_17 _ _ _) ?_
        refine PW_aload_n c_M_readText_91 rfl ?_
        refine PW_get (v := .int ((Y').1 579)) c_M_readText_92 fl_M_188 (gf_70_19 _ _) ?_
        rw [bF]
        show PW _ _ _ 95 [some (.ref 70), some (.int 0), none] [.int (-1)] (E x (sI (Y') 577 0))
        refine PW_if_lt c_M_readText_95 (fun _ => ?_) (fun h0 => absurd (by decide) h0)
        refine PW_iconst (v := 0) c_M_readText_103 (by decide) ?_
        refine PW_istore_n (i := 2) (L2 := [some (.ref 70), some (.int 0), some (.int 0)]) c_M_readText_104 rfl (Nat.le_of_ble_eq_true rfl) rfl rfl ?_
        refine PW.eqL ?_ rfl rfl (HC1 (fun {l3} => ?_))
        · rfl
        · skip
          refine PW_aload_n c_M_readText_163 rfl ?_
          refine PW_get (v := .ref 86) c_M_readText_164 fl_M_56 (gf_70_24 _ _) ?_
          refine PW_iload_n c_M_readText_167 rfl ?_
          refine PW_aload_n c_M_readText_168 rfl ?_
          refine PW_get (v := .ref 86) c_M_readText_169 fl_M_56 (gf_70_24 _ _) ?_
          refine PW_iconst (v := 1) c_M_readText_172 (by decide) ?_
          refine PW_iald (j := 1) c_M_readText_173 (ar_86 _ _) (vp_in_iff.mpr (by decide)) rfl ?_
          show PW _ _ _ 174 [some (.ref 70), some (.int 0), l3] [.int ((Z1.2.1 86) 1), .int 0, .ref 86] (E x Z1)
          refine PW_iast (j := 0) (w2 := E x (sA Z1 86 (upd (Z1.2.1 86) 0 ((Z1.2.1 86) 1)))) c_M_readText_174 (ar_86 _ _) (vp_in_iff.mpr (by decide)) rfl (aw_86 _ _ _) ?_
          refine PW_iconst (v := 0) c_M_readText_175 (by decide) ?_
          refine PW_istore_n (i := 2) (L2 := [some (.ref 70), some (.int 0), some (.int 0)]) c_M_readText_176 rfl (Nat.le_of_ble_eq_true rfl) rfl rfl ?_
          refine PW.eqL ?_ rfl rfl (HC2 (fun {l4} => ?_))
          · rfl
          · skip
            refine PW_iconst (v := -1) c_M_readText_233 (by decide) ?_
            refine PW_ireturn (ty := .int) c_M_readText_234 rfl rfl ?_
            exact pqi h (if_pos r1)
  · have hq := rdT_n (g := g) 121 0 [] (Nat.zero_le n) r1 (by decide) hn
    refine ⟨sI Y' 577 0, ⟨fun m p => ?_, fun a p => kY.1.2.1 a p, kY.1.2.2, sI_s⟩, Or.inr ⟨r1, kY.2.1, kY.2.2.1, kY.2.2.2⟩, fun {x z post} h => ?_⟩
    · rw [sI_n (by omega)]
      exact kY.1.1 m (by omega)
    · skip
      refine PW_aload_n c_M_readText_0 rfl ?_
      refine PW_iconst (v := 0) c_M_readText_1 (by decide) ?_
      refine PW_put (w2 := E x (sI Y 578 0)) c_M_readText_2 fp_M_readText_185 rfl (pf_70_18 _ _ _) ?_
      refine PW_aload_n c_M_readText_5 rfl ?_
      refine PW_iconst (v := -1) c_M_readText_6 (by decide) ?_
      refine PW_put (w2 := E x (sI (sI Y 578 0) 579 (-1))) c_M_readText_7 fp_M_readText_188 rfl (pf_70_19 _ _ _) ?_
      refine PW_aload_n c_M_readText_10 rfl ?_
      refine PW_iconst (v := 0) c_M_readText_11 (by decide) ?_
      refine PW_put (w2 := E x (sI (sI (sI Y 578 0) 579 (-1)) 580 0)) c_M_readText_12 fp_M_readText_194 rfl (pf_70_20 _ _ _) ?_
      refine PW_aload_n c_M_readText_15 rfl ?_
      refine PW_iconst (v := 0) c_M_readText_16 (by decide) ?_
      refine PW_put (w2 := E x (sI (sI (sI (sI Y 578 0) 579 (-1)) 580 0) 581 0)) c_M_readText_17 fp_M_readText_191 rfl (pf_70_21 _ _ _) ?_
      refine PW_aload_n c_M_readText_20 rfl ?_
      refine PW_get (v := .ref 86) c_M_readText_21 fl_M_56 (gf_70_24 _ _) ?_
      refine PW_iconst (v := 1) c_M_readText_24 (by decide) ?_
      refine PW_iconst (v := 0) c_M_readText_25 (by decide) ?_
      refine PW_iast (j := 1) (w2 := E x (sA (sI (sI (sI (sI Y 578 0) 579 (-1)) 580 0) 581 0) 86 (upd (Y.2.1 86) 1 0))) c_M_readText_26 (ar_86 _ _) (vp_in_iff.mpr (by decide)) rfl (aw_86 _ _ _) ?_
      refine PW_aload_n c_M_readText_27 rfl ?_
      refine PW_V0 (d2 := 44) (st := []) [] c_M_readText_28 lk_M_readText_237 (po_70 _ _) rfl rfl rfl (Nat.le_of_ble_eq_true rfl) (by first | decide | omega) (Nat.le_of_ble_eq_true rfl) ?_
      refine H1 ?_
      show PW _ _ _ 31 [some (.ref 70), some (.int 0), none] [] (E x Y1)
      refine PW.eqL ?_ rfl rfl (HL (l2 := none) ?_)
      · rfl
      · show PW _ _ _ 86 [some (.ref 70), some (.int 0), none] [] (E x Y')
        refine PW_aload_n c_M_readText_86 rfl ?_
        refine PW_iconst (v := 0) c_M_readText_87 (by decide) ?_
        refine PW_put (w2 := E x (sI (Y') 577 0)) c_M_readText_88 fp_M_readText_182 rfl (pf_70_17 _ _ _) ?_
        refine PW_aload_n c_M_readText_91 rfl ?_
        refine PW_get (v := .int ((Y').1 579)) c_M_readText_92 fl_M_188 (gf_70_19 _ _) ?_
        rw [bF]
        show PW _ _ _ 95 [some (.ref 70), some (.int 0), none] [.int (nI (rdT g n 121 0 []).2.1)] (E x (sI (Y') 577 0))
        refine PW_if_lt c_M_readText_95 (fun h0 => absurd h0 (nI_pos (by omega))) (fun h0 => ?_)
        refine PW_aload_n c_M_readText_98 rfl ?_
        refine PW_get (v := .int ((Y').1 579)) c_M_readText_99 fl_M_188 (gf_70_19 _ _) ?_
        rw [bF]
        show PW _ _ _ 102 [some (.ref 70), some (.int 0), none] [.int (nI (rdT g n 121 0 []).2.1)] (E x (sI (Y') 577 0))
        refine PW_ireturn (ty := .int) c_M_readText_102 rfl rfl ?_
        exact pqi h (if_neg (fun w => by rw [r1] at w; exact Bool.noConfusion w))
