theorem sp_M_goRows {T : Option Txt} {x x0 y : XS} (C : CPg x0 y) (hT : lawIs T x0 y) : ∀ (j k a : Nat) (m t : Int32) (row : Nat → Int32) (B : Cd) (Y : XS) (Bd : Nat), k + j = 6 → yS y Y → roS Y a m t → a < 5 → 0 ≤ m.toInt ∧ m.toInt ≤ Bd → Bd + 66 * j < 900000 → rwY Y row k → bsY Y B → ∃ Y' : XS, (yS y Y' ∧ rwY Y' row k ∧ bsY Y' ((cL T y j k (a, m, t) row).foldl btr B)) ∧ ∀ {z : ZS} {post : Option Value → List PE → Prop}, post none (E x Y') → PW (j + 5, 0, 0, z) m_M_goRows post 0 [some (.ref 70), some (.int (nI k)), none, none, none, none] [] (E x Y) := by
  intro j
  induction j with
  | zero =>
    intro k a m t row B Y Bd hk hY s ha hm hB hr hb
    refine gr_head C (by omega) (by omega) hY s ha hm hB hr hb (fun h => by rw [cL, if_pos h]) (fun hn => ⟨Y, ⟨hY, hr, by rw [cL, if_neg hn]; exact hb⟩, fun {z post} h => ?_⟩)
    refine PW_iload_n c_M_goRows_87 rfl ?_
    refine PW_bipush (v := 6) c_M_goRows_88 (by decide) ?_
    refine PW_icmp_ne c_M_goRows_90 (fun h0 => absurd h0 (not_not_intro (by rw [show k = 6 by omega]; rfl))) (fun h0 => ?_)
    refine PW_vreturn c_M_goRows_93 rfl ?_
    exact h
  | succ j ih =>
    intro k a m t row B Y Bd hk hY s ha hm hB hr hb
    have lp : ∀ (n b : Nat) (B : Cd) (Y : XS), b + n = 5 → yS y Y → roS Y a m t → rwY Y row k → bsY Y B → ∃ Y' : XS, (yS y Y' ∧ rwY Y' row k ∧ bsY Y' ((cLs (fun b => if 0 < k ∧ b = a then [] else cL T y j (k + 1) (stp T y b (a, m, t)) (upd row k (nI b))) n b).foldl btr B)) ∧ ∀ {z : ZS} {post : Option Value → List PE → Prop}, post none (E x Y') → PW (j + 1 + 5, 0, 0, z) m_M_goRows post 113 [some (.ref 70), some (.int (nI k)), some (.int (nI a)), some (.int m), some (.int t), some (.int (nI b))] [] (E x Y) := by
      intro n
      induction n with
      | zero =>
        intro b B Y hn hY s hr hb
        refine ⟨Y, ⟨hY, hr, hb⟩, fun {z post} h => ?_⟩
        refine PW_iload c_M_goRows_113 rfl ?_
        refine PW_iconst (v := 5) c_M_goRows_115 (by decide) ?_
        refine PW_icmp_ge c_M_goRows_116 (fun h0 => ?_) (fun h0 => absurd (by rw [show b = 5 by omega]; decide : (5 : Int32) ≤ nI b) h0)
        refine PW_vreturn c_M_goRows_175 rfl ?_
        exact h
      | succ n ihn =>
        intro b B Y hn hY s hr hb
        by_cases hs : 0 < k ∧ b = a
        · obtain ⟨Y', hP, H⟩ := ihn (b + 1) B Y (by omega) hY s hr hb
          refine ⟨Y', ?_, fun {z post} h => ?_⟩
          · rw [cLs, if_pos hs, List.nil_append]; exact hP
          · skip
            refine PW_iload c_M_goRows_113 rfl ?_
            refine PW_iconst (v := 5) c_M_goRows_115 (by decide) ?_
            refine PW_icmp_ge c_M_goRows_116 (fun h0 => absurd h0 (fun q => absurd ((nI_leI (by decide) (by omega)).mp (show nI 5 ≤ nI b from q)) (by omega))) (fun h0 => ?_)
            refine PW_iload_n c_M_goRows_119 rfl ?_
            refine PW_if_le c_M_goRows_120 (fun h1 => absurd h1 (fun q => absurd ((nI_leI (b := 0) (by omega) (by decide)).mp q) (by omega))) (fun h1 => ?_)
            refine PW_iload c_M_goRows_123 rfl ?_
            refine PW_iload_n c_M_goRows_125 rfl ?_
            refine PW_icmp_ne c_M_goRows_126 (fun h2 => absurd h2 (not_not_intro (by rw [hs.2]))) (fun h2 => ?_)
            refine PW_goto c_M_goRows_129 ?_
            refine PW_iinc (i := 5) (v := (nI b) + 1) (L2 := [some (.ref 70), some (.int (nI k)), some (.int (nI a)), some (.int m), some (.int t), some (.int ((nI b) + 1))]) c_M_goRows_169 rfl (iinc_v (by decide)) (Nat.le_of_ble_eq_true rfl) rfl rfl ?_
            refine PW_goto c_M_goRows_172 ?_
            refine PW.eqL ?_ rfl rfl (H h)
            show ([some (.ref 70), some (.int (nI k)), some (.int (nI a)), some (.int m), some (.int t), some (.int ((nI b) + 1))] : List (Option Value)) = [some (.ref 70), some (.int (nI k)), some (.int (nI a)), some (.int m), some (.int t), some (.int (nI (b + 1)))]
            rw [nI_1]
        · have hb5 : b < 5 := by omega
          have hY1 : yS y (sA Y 91 (upd (Y.2.1 91) k (nI b))) := yS_t hY ⟨fun _ _ => rfl, fun q hq => by rw [sA_A, if_neg (by omega)], rfl⟩
          obtain ⟨Y2, s2, f2, H1⟩ := sp_M_goTo (T := T) (x := x) (x0 := x0) (Y := sA Y 91 (upd (Y.2.1 91) k (nI b))) (CPg_S C (xS_0 x0) hY1).1 (law_S hT (xS_0 x0) hY1) (show roS (sA Y 91 (upd (Y.2.1 91) k (nI b))) a m t from s) ha hb5
          have s2 : roS Y2 b (stp T (sA Y 91 (upd (Y.2.1 91) k (nI b))) b (a, m, t)).2.1 (stp T (sA Y 91 (upd (Y.2.1 91) k (nI b))) b (a, m, t)).2.2 := s2
          rw [stp_gE (gE_S hY1)] at s2
          obtain ⟨q1, q2, q3, q4⟩ := stp_b (T := T) (t := t) C ha hb5 hm (by omega)
          obtain ⟨Y3, ⟨hY3, hr3, hb3⟩, H2⟩ := ih (k + 1) b (stp T y b (a, m, t)).2.1 (stp T y b (a, m, t)).2.2 (upd row k (nI b)) B Y2 (Bd + 66) (by omega) (yS_t hY1 (yS_frG f2)) s2 hb5 ⟨q3, by omega⟩ (by omega) (fun i hi => by
            rw [f2.2.1 91 (by decide) (by decide), sA_A, if_pos rfl]
            by_cases e : i = k
            · rw [e, upd_s, upd_s]
            · rw [upd_n e, upd_n e]; exact hr i (by omega)) ⟨by rw [f2.1 596 (by decide) (by decide) (by decide)]; exact hb.1, by rw [f2.1 595 (by decide) (by decide) (by decide)]; exact hb.2.1, hb.2.2.1, fun i h1 h2 => by rw [f2.2.1 92 (by decide) (by decide), sA_A, if_neg (by decide)]; exact hb.2.2.2 i h1 h2⟩
          obtain ⟨Y', hP, H⟩ := ihn (b + 1) _ (sI (sI (sI Y3 590 (nI a)) 591 m) 592 t) (by omega) (yS_t hY3 ⟨fun n q => by rw [sI_n (by omega), sI_n (by omega), sI_n (by omega)], fun _ _ => rfl, rfl⟩) ⟨by rw [sI_n (by decide), sI_n (by decide), sI_s], by rw [sI_n (by decide), sI_s], sI_s⟩ (fun i hi => (hr3 i (by omega)).trans (upd_n (by omega))) ⟨by rw [sI_n (by decide), sI_n (by decide), sI_n (by decide)]; exact hb3.1, by rw [sI_n (by decide), sI_n (by decide), sI_n (by decide)]; exact hb3.2.1, hb3.2.2.1, hb3.2.2.2⟩
          refine ⟨Y', ?_, fun {z post} h => ?_⟩
          · rw [cLs, if_neg hs, List.foldl_append]; exact hP
          · by_cases hk0 : 0 < k
            · skip
              refine PW_iload c_M_goRows_113 rfl ?_
              refine PW_iconst (v := 5) c_M_goRows_115 (by decide) ?_
              refine PW_icmp_ge c_M_goRows_116 (fun h0 => absurd h0 (fun q => absurd ((nI_leI (by decide) (by omega)).mp (show nI 5 ≤ nI b from q)) (by omega))) (fun h0 => ?_)
              refine PW_iload_n c_M_goRows_119 rfl ?_
              refine PW_if_le c_M_goRows_120 (fun h1 => absurd h1 (fun q => absurd ((nI_leI (b := 0) (by omega) (by decide)).mp q) (by omega))) (fun h1 => ?_)
              refine PW_iload c_M_goRows_123 rfl ?_
              refine PW_iload_n c_M_goRows_125 rfl ?_
              refine PW_icmp_ne c_M_goRows_126 (fun h2 => ?_) (fun h2 => absurd h2 (fun q => hs ⟨hk0, (nI_eq (by omega) (by omega)).mp q⟩))
              refine PW_aload_n c_M_goRows_132 rfl ?_
              refine PW_get (v := .ref 91) c_M_goRows_133 fl_M_72 (gf_70_33 _ _) ?_
              refine PW_iload_n c_M_goRows_136 rfl ?_
              refine PW_iload c_M_goRows_137 rfl ?_
              refine PW_iast (j := k) (w2 := E x (sA Y 91 (upd (Y.2.1 91) k (nI b)))) c_M_goRows_139 (ar_91 _ _) (vp_in_nI (by omega) (by decide)) (nI_clamp (by omega)) (aw_91 _ _ _) ?_
              refine PW_aload_n c_M_goRows_140 rfl ?_
              refine PW_iload c_M_goRows_141 rfl ?_
              refine PW_V0 (d2 := 4) (st := []) [.int (nI b)] c_M_goRows_143 lk_M_goRows_295 (po_70 _ _) rfl rfl rfl (Nat.le_of_ble_eq_true rfl) (by first | decide | omega) (Nat.le_of_ble_eq_true rfl) ?_
              refine H1 ?_
              show PW _ _ _ 146 [some (.ref 70), some (.int (nI k)), some (.int (nI a)), some (.int m), some (.int t), some (.int (nI b))] [] (E x Y2)
              refine PW_aload_n c_M_goRows_146 rfl ?_
              refine PW_iload_n c_M_goRows_147 rfl ?_
              refine PW_iconst (v := 1) c_M_goRows_148 (by decide) ?_
              refine PW_iadd c_M_goRows_149 ?_
              refine PW_V0 (d2 := j + 5) (st := []) [.int ((nI k) + 1)] c_M_goRows_150 lk_M_goRows_311 (po_70 _ _) rfl rfl rfl (Nat.le_of_ble_eq_true rfl) (by first | decide | omega) (Nat.le_of_ble_eq_true rfl) ?_
              rw [nI_1]
              refine H2 ?_
              show PW _ _ _ 153 [some (.ref 70), some (.int (nI k)), some (.int (nI a)), some (.int m), some (.int t), some (.int (nI b))] [] (E x Y3)
              refine PW_aload_n c_M_goRows_153 rfl ?_
              refine PW_iload_n c_M_goRows_154 rfl ?_
              refine PW_put (w2 := E x (sI Y3 590 (nI a))) c_M_goRows_155 fp_M_goRows_265 rfl (pf_70_30 _ _ _) ?_
              refine PW_aload_n c_M_goRows_158 rfl ?_
              refine PW_iload_n c_M_goRows_159 rfl ?_
              refine PW_put (w2 := E x (sI (sI Y3 590 (nI a)) 591 m)) c_M_goRows_160 fp_M_goRows_268 rfl (pf_70_31 _ _ _) ?_
              refine PW_aload_n c_M_goRows_163 rfl ?_
              refine PW_iload c_M_goRows_164 rfl ?_
              refine PW_put (w2 := E x (sI (sI (sI Y3 590 (nI a)) 591 m) 592 t)) c_M_goRows_166 fp_M_goRows_271 rfl (pf_70_32 _ _ _) ?_
              refine PW_iinc (i := 5) (v := (nI b) + 1) (L2 := [some (.ref 70), some (.int (nI k)), some (.int (nI a)), some (.int m), some (.int t), some (.int ((nI b) + 1))]) c_M_goRows_169 rfl (iinc_v (by decide)) (Nat.le_of_ble_eq_true rfl) rfl rfl ?_
              refine PW_goto c_M_goRows_172 ?_
              refine PW.eqL ?_ rfl rfl (H h)
              show ([some (.ref 70), some (.int (nI k)), some (.int (nI a)), some (.int m), some (.int t), some (.int ((nI b) + 1))] : List (Option Value)) = [some (.ref 70), some (.int (nI k)), some (.int (nI a)), some (.int m), some (.int t), some (.int (nI (b + 1)))]
              rw [nI_1]
            · skip
              refine PW_iload c_M_goRows_113 rfl ?_
              refine PW_iconst (v := 5) c_M_goRows_115 (by decide) ?_
              refine PW_icmp_ge c_M_goRows_116 (fun h0 => absurd h0 (fun q => absurd ((nI_leI (by decide) (by omega)).mp (show nI 5 ≤ nI b from q)) (by omega))) (fun h0 => ?_)
              refine PW_iload_n c_M_goRows_119 rfl ?_
              refine PW_if_le c_M_goRows_120 (fun h1 => ?_) (fun h1 => absurd ((nI_leI (b := 0) (by omega) (by decide)).mpr (by omega)) h1)
              refine PW_aload_n c_M_goRows_132 rfl ?_
              refine PW_get (v := .ref 91) c_M_goRows_133 fl_M_72 (gf_70_33 _ _) ?_
              refine PW_iload_n c_M_goRows_136 rfl ?_
              refine PW_iload c_M_goRows_137 rfl ?_
              refine PW_iast (j := k) (w2 := E x (sA Y 91 (upd (Y.2.1 91) k (nI b)))) c_M_goRows_139 (ar_91 _ _) (vp_in_nI (by omega) (by decide)) (nI_clamp (by omega)) (aw_91 _ _ _) ?_
              refine PW_aload_n c_M_goRows_140 rfl ?_
              refine PW_iload c_M_goRows_141 rfl ?_
              refine PW_V0 (d2 := 4) (st := []) [.int (nI b)] c_M_goRows_143 lk_M_goRows_295 (po_70 _ _) rfl rfl rfl (Nat.le_of_ble_eq_true rfl) (by first | decide | omega) (Nat.le_of_ble_eq_true rfl) ?_
              refine H1 ?_
              show PW _ _ _ 146 [some (.ref 70), some (.int (nI k)), some (.int (nI a)), some (.int m), some (.int t), some (.int (nI b))] [] (E x Y2)
              refine PW_aload_n c_M_goRows_146 rfl ?_
              refine PW_iload_n c_M_goRows_147 rfl ?_
              refine PW_iconst (v := 1) c_M_goRows_148 (by decide) ?_
              refine PW_iadd c_M_goRows_149 ?_
              refine PW_V0 (d2 := j + 5) (st := []) [.int ((nI k) + 1)] c_M_goRows_150 lk_M_goRows_311 (po_70 _ _) rfl rfl rfl (Nat.le_of_ble_eq_true rfl) (by first | decide | omega) (Nat.le_of_ble_eq_true rfl) ?_
              rw [nI_1]
              refine H2 ?_
              show PW _ _ _ 153 [some (.ref 70), some (.int (nI k)), some (.int (nI a)), some (.int m), some (.int t), some (.int (nI b))] [] (E x Y3)
              refine PW_aload_n c_M_goRows_153 rfl ?_
              refine PW_iload_n c_M_goRows_154 rfl ?_
              refine PW_put (w2 := E x (sI Y3 590 (nI a))) c_M_goRows_155 fp_M_goRows_265 rfl (pf_70_30 _ _ _) ?_
              refine PW_aload_n c_M_goRows_158 rfl ?_
              refine PW_iload_n c_M_goRows_159 rfl ?_
              refine PW_put (w2 := E x (sI (sI Y3 590 (nI a)) 591 m)) c_M_goRows_160 fp_M_goRows_268 rfl (pf_70_31 _ _ _) ?_
              refine PW_aload_n c_M_goRows_163 rfl ?_
              refine PW_iload c_M_goRows_164 rfl ?_
              refine PW_put (w2 := E x (sI (sI (sI Y3 590 (nI a)) 591 m) 592 t)) c_M_goRows_166 fp_M_goRows_271 rfl (pf_70_32 _ _ _) ?_
              refine PW_iinc (i := 5) (v := (nI b) + 1) (L2 := [some (.ref 70), some (.int (nI k)), some (.int (nI a)), some (.int m), some (.int t), some (.int ((nI b) + 1))]) c_M_goRows_169 rfl (iinc_v (by decide)) (Nat.le_of_ble_eq_true rfl) rfl rfl ?_
              refine PW_goto c_M_goRows_172 ?_
              refine PW.eqL ?_ rfl rfl (H h)
              show ([some (.ref 70), some (.int (nI k)), some (.int (nI a)), some (.int m), some (.int t), some (.int ((nI b) + 1))] : List (Option Value)) = [some (.ref 70), some (.int (nI k)), some (.int (nI a)), some (.int m), some (.int t), some (.int (nI (b + 1)))]
              rw [nI_1]
    refine gr_head C (by omega) (by omega) hY s ha hm hB hr hb (fun h => by rw [cL, if_pos h]) (fun hn => ?_)
    obtain ⟨Y', hP, H⟩ := lp 5 0 B Y rfl hY s hr hb
    refine ⟨Y', ?_, fun {z post} h => ?_⟩
    · rw [cL, if_neg hn]; exact hP
    · skip
      refine PW_iload_n c_M_goRows_87 rfl ?_
      refine PW_bipush (v := 6) c_M_goRows_88 (by decide) ?_
      refine PW_icmp_ne c_M_goRows_90 (fun h0 => ?_) (fun h0 => absurd h0 (fun q => absurd ((nI_eq (by omega) (by decide)).mp (show nI k = nI 6 from q)) (by omega)))
      refine PW_aload_n c_M_goRows_94 rfl ?_
      refine PW_get (v := .int (Y.1 590)) c_M_goRows_95 fl_M_265 (gf_70_30 _ _) ?_
      refine PW_istore_n (i := 2) (L2 := [some (.ref 70), some (.int (nI k)), some (.int (Y.1 590)), none, none, none]) c_M_goRows_98 rfl (Nat.le_of_ble_eq_true rfl) rfl rfl ?_
      refine PW_aload_n c_M_goRows_99 rfl ?_
      refine PW_get (v := .int (Y.1 591)) c_M_goRows_100 fl_M_268 (gf_70_31 _ _) ?_
      refine PW_istore_n (i := 3) (L2 := [some (.ref 70), some (.int (nI k)), some (.int (Y.1 590)), some (.int (Y.1 591)), none, none]) c_M_goRows_103 rfl (Nat.le_of_ble_eq_true rfl) rfl rfl ?_
      refine PW_aload_n c_M_goRows_104 rfl ?_
      refine PW_get (v := .int (Y.1 592)) c_M_goRows_105 fl_M_271 (gf_70_32 _ _) ?_
      refine PW_istore (i := 4) (L2 := [some (.ref 70), some (.int (nI k)), some (.int (Y.1 590)), some (.int (Y.1 591)), some (.int (Y.1 592)), none]) c_M_goRows_108 (Nat.le_of_ble_eq_true rfl) rfl rfl ?_
      refine PW_iconst (v := 0) c_M_goRows_110 (by decide) ?_
      refine PW_istore (i := 5) (L2 := [some (.ref 70), some (.int (nI k)), some (.int (Y.1 590)), some (.int (Y.1 591)), some (.int (Y.1 592)), some (.int 0)]) c_M_goRows_111 (Nat.le_of_ble_eq_true rfl) rfl rfl ?_
      refine PW.eqL ?_ rfl rfl (H h)
      show ([some (.ref 70), some (.int (nI k)), some (.int (Y.1 590)), some (.int (Y.1 591)), some (.int (Y.1 592)), some (.int 0)] : List (Option Value)) = _
      rw [s.1, s.2.1, s.2.2] <;> rfl
