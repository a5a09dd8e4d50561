/-! the other side reads a line -/
def tlM (Y : XS) (L l : Nat) : XS := sA (sA Y 88 (upd (Y.2.1 88) (61 + L) (nI l))) 86 (upd (Y.2.1 86) 1 (nI (L + 1)))
theorem lp_M_tail {Y : XS} {L l d : Nat} (hL : Y.2.1 86 1 = nI L) (hL6 : L ≤ 60) (hs : Y.1 581 = nI l) (hl : l < 131) {x : XS} {z : ZS} {post : Option Value → List PE → Prop} (h : post none (E x (tlM Y L l))) : PW (d, 0, 0, z) m_M_line post 66 [some (.ref 70), some (.int (nI (61 + L)))] [] (E x Y) := by
  refine PW_aload_n c_M_line_66 rfl ?_
  refine PW_get (v := .ref 88) c_M_line_67 fl_M_63 (gf_70_26 _ _) ?_
  refine PW_iload_n c_M_line_70 rfl ?_
  refine PW_aload_n c_M_line_71 rfl ?_
  refine PW_get (v := .int (Y.1 581)) c_M_line_72 fl_M_191 (gf_70_21 _ _) ?_
  rw [hs]
  show PW _ _ _ 75 [some (.ref 70), some (.int (nI (61 + L)))] [.int (nI l), .int (nI (61 + L)), .ref 88] (E x Y)
  refine PW_i2s c_M_line_75 ?_
  refine PW_sast (j := 61 + L) (w2 := E x (sA Y 88 (upd (Y.2.1 88) (61 + L) (vp_nar .short ((nI l).toInt16.toInt32))))) c_M_line_76 (ar_88 _ _) (vp_in_nI (by omega) (by decide)) (nI_clamp (by omega)) (aw_88 _ _ _) ?_
  rw [nar_sh l (by omega)]
  show PW _ _ _ 77 [some (.ref 70), some (.int (nI (61 + L)))] [] (E x (sA Y 88 (upd (Y.2.1 88) (61 + L) (nI l))))
  refine PW_aload_n c_M_line_77 rfl ?_
  refine PW_get (v := .ref 86) c_M_line_78 fl_M_56 (gf_70_24 _ _) ?_
  refine PW_iconst (v := 1) c_M_line_81 (by decide) ?_
  refine PW_dup2 c_M_line_82 rfl rfl ?_
  refine PW_iald (j := 1) c_M_line_83 (ar_86 _ _) (vp_in_iff.mpr (by decide)) rfl ?_
  show PW _ _ _ 84 [some (.ref 70), some (.int (nI (61 + L)))] [.int ((Y.2.1 86) 1), .int 1, .ref 86] (E x (sA Y 88 (upd (Y.2.1 88) (61 + L) (nI l))))
  rw [hL]
  show PW _ _ _ 84 [some (.ref 70), some (.int (nI (61 + L)))] [.int (nI L), .int 1, .ref 86] (E x (sA Y 88 (upd (Y.2.1 88) (61 + L) (nI l))))
  refine PW_iconst (v := 1) c_M_line_84 (by decide) ?_
  refine PW_iadd c_M_line_85 ?_
  refine PW_iast (j := 1) (w2 := E x (sA (sA Y 88 (upd (Y.2.1 88) (61 + L) (nI l))) 86 (upd (Y.2.1 86) 1 ((nI L) + 1)))) c_M_line_86 (ar_86 _ _) (vp_in_iff.mpr (by decide)) rfl (aw_86 _ _ _) ?_
  refine PW_vreturn c_M_line_87 rfl ?_
  rw [nI_1 L]
  exact h
def frN (Y Y' : XS) : Prop := (∀ m, (m < 578 ∨ 581 < m) → Y'.1 m = Y.1 m) ∧ (∀ a, (a < 84 ∨ 88 < a) → Y'.2.1 a = Y.2.1 a) ∧ Y'.2.2 = Y.2.2
theorem frN_0 (Y : XS) : frN Y Y := ⟨fun _ _ => rfl, fun _ _ => rfl, rfl⟩
theorem frN_t {Y Y' Y2 : XS} (a : frN Y Y') (b : frN Y' Y2) : frN Y Y2 := ⟨fun m p => (b.1 m p).trans (a.1 m p), fun m p => (b.2.1 m p).trans (a.2.1 m p), b.2.2.trans a.2.2⟩
theorem frN_M {Y Y' : XS} (a : frM Y Y') : frN Y Y' := ⟨a.1, fun m p => a.2.1 m (by omega) (by omega), a.2.2⟩
theorem frN_A {Y : XS} {a : Nat} {f : Nat → Int32} (h : 84 ≤ a ∧ a ≤ 88) : frN Y (sA Y a f) := ⟨fun _ _ => rfl, fun m p => by rw [sA_A, if_neg (by omega)], rfl⟩
theorem frN_tl {Y : XS} {L l : Nat} : frN Y (tlM Y L l) := frN_t (frN_A (by decide)) (frN_A (by decide))
theorem tpM_frN {Y Y' : XS} {g : Nat → Nat} {n : Nat} (h : tpM Y g n) (f : frN Y Y') : tpM Y' g n := ⟨(f.1 577 (by decide)).trans h.1, h.2.1, fun i hi => by rw [f.2.1 83 (by decide)]; exact h.2.2 i hi⟩
theorem tl_84 {Y : XS} {L l : Nat} : (tlM Y L l).2.1 84 = Y.2.1 84 := rfl
theorem tl_85 {Y : XS} {L l : Nat} : (tlM Y L l).2.1 85 = Y.2.1 85 := rfl
theorem tl_86 {Y : XS} {L l : Nat} : (tlM Y L l).2.1 86 = upd (Y.2.1 86) 1 (nI (L + 1)) := rfl
theorem tl_87 {Y : XS} {L l : Nat} : (tlM Y L l).2.1 87 = Y.2.1 87 := rfl
theorem tl_88 {Y : XS} {L l : Nat} : (tlM Y L l).2.1 88 = upd (Y.2.1 88) (61 + L) (nI l) := rfl
theorem tl_1 {Y : XS} {L l m : Nat} : (tlM Y L l).1 m = Y.1 m := rfl
def lnG (Y' : XS) (L k : Nat) (l : Ln) : Prop := Y'.1 579 = -1 ∧ Y'.1 580 = nI 0 ∧ Y'.1 581 = nI (k + l.1.length + l.2.length) ∧ wrA (Y'.2.1 84) (Y'.2.1 85) (130 + k) ((l.1 ++ l.2).map stM) ∧ Y'.2.1 87 (61 + L) = nI (k + l.1.length) ∧ Y'.2.1 88 (61 + L) = nI (k + l.1.length + l.2.length)
def resLM (g : Nat → Nat) (n : Nat) (Y Y' : XS) (L k : Nat) (r : Bool × Nat × Ln) : Prop := frN Y Y' ∧ lowA (Y.2.1 84) (Y.2.1 85) (Y'.2.1 84) (Y'.2.1 85) (130 + k) ∧ (Y'.2.1 86 1 = nI (L + 1) ∧ Y'.2.1 86 0 = Y.2.1 86 0) ∧ lowA (Y.2.1 87) (Y.2.1 88) (Y'.2.1 87) (Y'.2.1 88) (61 + L) ∧ Y'.1 578 = nI r.2.1 ∧ ((r.1 = true ∧ lnG Y' L k r.2.2) ∨ ((r.1 = true → isD (sg g n r.2.1)) ∧ Y'.1 579 = nI r.2.1))
theorem sp_M_line {g : Nat → Nat} {n p k L : Nat} {Y : XS} (hT : tpM Y g n) (hp : Y.1 578 = nI p) (hF : Y.1 579 = -1) (hO : Y.1 580 = nI 0) (hS : Y.1 581 = nI k) (hpn : p ≤ n) (hk : k ≤ p) (hL : Y.2.1 86 1 = nI L) (hL6 : L ≤ 60) : ∃ Y' : XS, resLM g n Y Y' L k (rdL g n p) ∧ ∀ {x : XS} {z : ZS} {post : Option Value → List PE → Prop}, post none (E x Y') → PW (44, 0, 0, z) m_M_line post 0 [some (.ref 70), none] [] (E x Y) := by
  have hn := hT.2.1
  have h61 : (61 : Int32) + nI L = nI (61 + L) := nI_add 61 L
  have MK : MOK g n m_M_either [some (.ref 70)] 42 0 := (M_all 42).1
  obtain ⟨Y1, ⟨f1, u1, p1, c1⟩, H1⟩ := MK 0 p k (sA Y 87 (upd (Y.2.1 87) (61 + L) (nI k))) (by decide) (by decide) (tpM_frN hT (frN_A (by decide))) hp hF hO hS hpn hk
  have w1 := pF_p (g := g) 42 0 0 p hpn
  have w1n := w1.2.1
  have w1p := w1.1
  have hT1 : tpM Y1 g n := tpM_fr (tpM_frN hT (frN_A (by decide))) f1
  have e87 : Y1.2.1 87 = upd (Y.2.1 87) (61 + L) (nI k) := (f1.2.1 87 (by decide) (by decide)).trans (by rw [sA_A, if_pos rfl])
  have e88 : Y1.2.1 88 = Y.2.1 88 := (f1.2.1 88 (by decide) (by decide)).trans (by rw [sA_A, if_neg (by decide)])
  have e86 : Y1.2.1 86 = Y.2.1 86 := (f1.2.1 86 (by decide) (by decide)).trans (by rw [sA_A, if_neg (by decide)])
  have hL1 : Y1.2.1 86 1 = nI L := by rw [e86]; exact hL
  have fA : frN Y Y1 := frN_t (frN_A (by decide)) (frN_M f1)
  have u1 : lowA (Y.2.1 84) (Y.2.1 85) (Y1.2.1 84) (Y1.2.1 85) (130 + k) := u1
  unfold rdL
  rcases c1 with ⟨r1, b1, o1, s1, v1⟩ | ⟨r1, b1, l1, s1, hk1, hl1⟩
  · obtain ⟨z1, z2, z3, z4⟩ := w1.2.2 r1
    rw [if_pos r1]
    by_cases c63 : sg g n (pF g n 42 0 0 p).2.1 = 63
    · have hq : (pF g n 42 0 0 p).2.1 < n := sg_lt (g := g) (by omega)
      rw [if_pos c63]
      obtain ⟨Y2, ⟨f2, u2, p2, c2⟩, H2⟩ := MK 0 ((pF g n 42 0 0 p).2.1 + 1) (k + (pF g n 42 0 0 p).2.2.length) (sA (sI Y1 578 (nI ((pF g n 42 0 0 p).2.1 + 1))) 87 (upd (Y1.2.1 87) (61 + L) (nI (k + (pF g n 42 0 0 p).2.2.length)))) (by decide) (by decide) (tpM_frN (tpM_fr hT1 (frM_i (by decide))) (frN_A (by decide))) (show (sI Y1 578 (nI ((pF g n 42 0 0 p).2.1 + 1))).1 578 = nI ((pF g n 42 0 0 p).2.1 + 1) from sI_s) (show (sI Y1 578 (nI ((pF g n 42 0 0 p).2.1 + 1))).1 579 = -1 from (sI_n (by decide)).trans b1) (show (sI Y1 578 (nI ((pF g n 42 0 0 p).2.1 + 1))).1 580 = nI 0 from (sI_n (by decide)).trans o1) (show (sI Y1 578 (nI ((pF g n 42 0 0 p).2.1 + 1))).1 581 = nI (k + (pF g n 42 0 0 p).2.2.length) from (sI_n (by decide)).trans s1) hq (by omega)
      have w2 := pF_p (g := g) 42 0 0 ((pF g n 42 0 0 p).2.1 + 1) hq
      have w2n := w2.2.1
      have w2p := w2.1
      have g87 : Y2.2.1 87 = upd (upd (Y.2.1 87) (61 + L) (nI k)) (61 + L) (nI (k + (pF g n 42 0 0 p).2.2.length)) := (f2.2.1 87 (by decide) (by decide)).trans (by rw [sA_A, if_pos rfl, e87])
      have g88 : Y2.2.1 88 = Y.2.1 88 := (f2.2.1 88 (by decide) (by decide)).trans (by rw [sA_A, if_neg (by decide), sI_A, e88])
      have g86 : Y2.2.1 86 = Y.2.1 86 := (f2.2.1 86 (by decide) (by decide)).trans (by rw [sA_A, if_neg (by decide), sI_A, e86])
      have hL2 : Y2.2.1 86 1 = nI L := by rw [g86]; exact hL
      have fB : frN Y Y2 := frN_t fA (frN_t (frN_M (frM_i (m := 578) (by decide))) (frN_t (frN_A (a := 87) (by decide)) (frN_M f2)))
      have u2 : lowA (Y1.2.1 84) (Y1.2.1 85) (Y2.2.1 84) (Y2.2.1 85) (130 + (k + (pF g n 42 0 0 p).2.2.length)) := u2
      rcases c2 with ⟨r2, b2, o2, s2, v2⟩ | ⟨r2, b2, l2, s2, hk2, hl2⟩
      · obtain ⟨y1, y2, y3, y4⟩ := w2.2.2 r2
        rw [if_pos r2]
        refine ⟨tlM Y2 L (k + (pF g n 42 0 0 p).2.2.length + (pF g n 42 0 0 ((pF g n 42 0 0 p).2.1 + 1)).2.2.length), ⟨frN_t fB frN_tl, ?_, ⟨?_, ?_⟩, ?_, tl_1.trans p2, Or.inl ⟨rfl, tl_1.trans b2, tl_1.trans o2, tl_1.trans s2, ?_, ?_, ?_⟩⟩, fun {x z post} h => ?_⟩
        · rw [tl_84, tl_85]; exact lowA_t u1 u2 (by omega)
        · rw [tl_86, upd_s]
        · rw [tl_86, upd_n (by decide), g86]
        · rw [tl_87, tl_88, g87, g88]
          exact fun i hi => ⟨(upd_n (by omega)).trans (upd_n (by omega)), upd_n (by omega)⟩
        · rw [tl_84, tl_85]
          show wrA (Y2.2.1 84) (Y2.2.1 85) (130 + k) (((pF g n 42 0 0 p).2.2 ++ (pF g n 42 0 0 ((pF g n 42 0 0 p).2.1 + 1)).2.2).map stM)
          rw [List.map_append]
          refine wrA_app (wrA_low v1 u2 (by rw [List.length_map]; omega)) ?_
          rw [List.length_map, show 130 + k + (pF g n 42 0 0 p).2.2.length = 130 + (k + (pF g n 42 0 0 p).2.2.length) by omega]
          exact v2
        · rw [tl_87, g87]; exact upd_s
        · rw [tl_88]; exact upd_s
        · skip
          refine PW_bipush (v := 61) c_M_line_0 (by decide) ?_
          refine PW_aload_n c_M_line_2 rfl ?_
          refine PW_get (v := .ref 86) c_M_line_3 fl_M_56 (gf_70_24 _ _) ?_
          refine PW_iconst (v := 1) c_M_line_6 (by decide) ?_
          refine PW_iald (j := 1) c_M_line_7 (ar_86 _ _) (vp_in_iff.mpr (by decide)) rfl ?_
          show PW _ _ _ 8 [some (.ref 70), none] [.int ((Y.2.1 86) 1), .int 61] (E x Y)
          rw [hL]
          show PW _ _ _ 8 [some (.ref 70), none] [.int (nI L), .int 61] (E x Y)
          refine PW_iadd c_M_line_8 ?_
          rw [h61]
          show PW _ _ _ 9 [some (.ref 70), none] [.int (nI (61 + L))] (E x Y)
          refine PW_istore_n (i := 1) (L2 := [some (.ref 70), some (.int (nI (61 + L)))]) c_M_line_9 rfl (Nat.le_of_ble_eq_true rfl) rfl rfl ?_
          refine PW_aload_n c_M_line_10 rfl ?_
          refine PW_get (v := .ref 87) c_M_line_11 fl_M_59 (gf_70_25 _ _) ?_
          refine PW_iload_n c_M_line_14 rfl ?_
          refine PW_aload_n c_M_line_15 rfl ?_
          refine PW_get (v := .int (Y.1 581)) c_M_line_16 fl_M_191 (gf_70_21 _ _) ?_
          rw [hS]
          show PW _ _ _ 19 [some (.ref 70), some (.int (nI (61 + L)))] [.int (nI k), .int (nI (61 + L)), .ref 87] (E x Y)
          refine PW_i2s c_M_line_19 ?_
          refine PW_sast (j := 61 + L) (w2 := E x (sA Y 87 (upd (Y.2.1 87) (61 + L) (vp_nar .short ((nI k).toInt16.toInt32))))) c_M_line_20 (ar_87 _ _) (vp_in_nI (by omega) (by decide)) (nI_clamp (by omega)) (aw_87 _ _ _) ?_
          rw [nar_sh k (by omega)]
          show PW _ _ _ 21 [some (.ref 70), some (.int (nI (61 + L)))] [] (E x (sA Y 87 (upd (Y.2.1 87) (61 + L) (nI k))))
          refine PW_aload_n c_M_line_21 rfl ?_
          refine PW_V0 (d2 := 42 + 1) (st := []) [] c_M_line_22 lk_M_line_219 (po_70 _ _) rfl rfl rfl (Nat.le_of_ble_eq_true rfl) (by first | decide | omega) (Nat.le_of_ble_eq_true rfl) ?_
          refine H1 ?_
          show PW _ _ _ 25 [some (.ref 70), some (.int (nI (61 + L)))] [] (E x Y1)
          refine PW_aload_n c_M_line_25 rfl ?_
          refine PW_get (v := .int (Y1.1 579)) c_M_line_26 fl_M_188 (gf_70_19 _ _) ?_
          rw [b1]
          show PW _ _ _ 29 [some (.ref 70), some (.int (nI (61 + L)))] [.int (-1)] (E x Y1)
          refine PW_if_ge c_M_line_29 (fun h0 => absurd h0 (by decide)) (fun _ => ?_)
          refine PW_aload_n c_M_line_32 rfl ?_
          refine PW_V0 (d2 := 0) (st := []) [] c_M_line_33 lk_M_line_200 (po_70 _ _) rfl rfl rfl (Nat.le_of_ble_eq_true rfl) (by first | decide | omega) (Nat.le_of_ble_eq_true rfl) ?_
          refine sp_M_look hT1 p1 w1n ?_
          show PW _ _ _ 36 [some (.ref 70), some (.int (nI (61 + L)))] [.int (lkM (sg g n (pF g n 42 0 0 p).2.1))] (E x Y1)
          refine PW_bipush (v := 63) c_M_line_36 (by decide) ?_
          refine PW_icmp_ne c_M_line_38 (fun h1 => absurd h1 (not_not_intro ((lkM_k (tpM_sg hT) (by decide) (k := 63)).mpr c63))) (fun h1 => ?_)
          refine PW_aload_n c_M_line_41 rfl ?_
          refine PW_dup c_M_line_42 rfl ?_
          refine PW_get (v := .int (Y1.1 578)) c_M_line_43 fl_M_185 (gf_70_18 _ _) ?_
          rw [p1]
          show PW _ _ _ 46 [some (.ref 70), some (.int (nI (61 + L)))] [.int (nI (pF g n 42 0 0 p).2.1), .ref 70] (E x Y1)
          refine PW_iconst (v := 1) c_M_line_46 (by decide) ?_
          refine PW_iadd c_M_line_47 ?_
          refine PW_put (w2 := E x (sI Y1 578 ((nI (pF g n 42 0 0 p).2.1) + 1))) c_M_line_48 fp_M_line_185 rfl (pf_70_18 _ _ _) ?_
          rw [nI_1 ((pF g n 42 0 0 p).2.1)]
          show PW _ _ _ 51 [some (.ref 70), some (.int (nI (61 + L)))] [] (E x (sI Y1 578 (nI ((pF g n 42 0 0 p).2.1 + 1))))
          refine PW_aload_n c_M_line_51 rfl ?_
          refine PW_get (v := .ref 87) c_M_line_52 fl_M_59 (gf_70_25 _ _) ?_
          refine PW_iload_n c_M_line_55 rfl ?_
          refine PW_aload_n c_M_line_56 rfl ?_
          refine PW_get (v := .int (Y1.1 581)) c_M_line_57 fl_M_191 (gf_70_21 _ _) ?_
          rw [s1]
          show PW _ _ _ 60 [some (.ref 70), some (.int (nI (61 + L)))] [.int (nI (k + (pF g n 42 0 0 p).2.2.length)), .int (nI (61 + L)), .ref 87] (E x (sI Y1 578 (nI ((pF g n 42 0 0 p).2.1 + 1))))
          refine PW_i2s c_M_line_60 ?_
          refine PW_sast (j := 61 + L) (w2 := E x (sA (sI Y1 578 (nI ((pF g n 42 0 0 p).2.1 + 1))) 87 (upd (Y1.2.1 87) (61 + L) (vp_nar .short ((nI (k + (pF g n 42 0 0 p).2.2.length)).toInt16.toInt32))))) c_M_line_61 (ar_87 _ _) (vp_in_nI (by omega) (by decide)) (nI_clamp (by omega)) (aw_87 _ _ _) ?_
          rw [nar_sh (k + (pF g n 42 0 0 p).2.2.length) (by omega)]
          show PW _ _ _ 62 [some (.ref 70), some (.int (nI (61 + L)))] [] (E x (sA (sI Y1 578 (nI ((pF g n 42 0 0 p).2.1 + 1))) 87 (upd (Y1.2.1 87) (61 + L) (nI (k + (pF g n 42 0 0 p).2.2.length)))))
          refine PW_aload_n c_M_line_62 rfl ?_
          refine PW_V0 (d2 := 42 + 1) (st := []) [] c_M_line_63 lk_M_line_219 (po_70 _ _) rfl rfl rfl (Nat.le_of_ble_eq_true rfl) (by first | decide | omega) (Nat.le_of_ble_eq_true rfl) ?_
          refine H2 ?_
          show PW _ _ _ 66 [some (.ref 70), some (.int (nI (61 + L)))] [] (E x Y2)
          exact lp_M_tail hL2 hL6 s2 (by omega) h
      · refine ⟨tlM Y2 L l2, ⟨frN_t fB frN_tl, ?_, ⟨?_, ?_⟩, ?_, ?_, Or.inr ?_⟩, fun {x z post} h => ?_⟩
        · rw [tl_84, tl_85]; exact lowA_t u1 u2 (by omega)
        · rw [tl_86, upd_s]
        · rw [tl_86, upd_n (by decide), g86]
        · rw [tl_87, tl_88, g87, g88]
          exact fun i hi => ⟨(upd_n (by omega)).trans (upd_n (by omega)), upd_n (by omega)⟩
        · by_cases w : (pF g n 42 0 0 ((pF g n 42 0 0 p).2.1 + 1)).1 = true
          · rw [if_pos w]; exact tl_1.trans p2
          · rw [if_neg w]; exact tl_1.trans p2
        · by_cases w : (pF g n 42 0 0 ((pF g n 42 0 0 p).2.1 + 1)).1 = true
          · rw [if_pos w]; exact ⟨fun _ => r2 w, tl_1.trans b2⟩
          · rw [if_neg w]; exact ⟨fun w => Bool.noConfusion w, tl_1.trans b2⟩
        · skip
          refine PW_bipush (v := 61) c_M_line_0 (by decide) ?_
          refine PW_aload_n c_M_line_2 rfl ?_
          refine PW_get (v := .ref 86) c_M_line_3 fl_M_56 (gf_70_24 _ _) ?_
          refine PW_iconst (v := 1) c_M_line_6 (by decide) ?_
          refine PW_iald (j := 1) c_M_line_7 (ar_86 _ _) (vp_in_iff.mpr (by decide)) rfl ?_
          show PW _ _ _ 8 [some (.ref 70), none] [.int ((Y.2.1 86) 1), .int 61] (E x Y)
          rw [hL]
          show PW _ _ _ 8 [some (.ref 70), none] [.int (nI L), .int 61] (E x Y)
          refine PW_iadd c_M_line_8 ?_
          rw [h61]
          show PW _ _ _ 9 [some (.ref 70), none] [.int (nI (61 + L))] (E x Y)
          refine PW_istore_n (i := 1) (L2 := [some (.ref 70), some (.int (nI (61 + L)))]) c_M_line_9 rfl (Nat.le_of_ble_eq_true rfl) rfl rfl ?_
          refine PW_aload_n c_M_line_10 rfl ?_
          refine PW_get (v := .ref 87) c_M_line_11 fl_M_59 (gf_70_25 _ _) ?_
          refine PW_iload_n c_M_line_14 rfl ?_
          refine PW_aload_n c_M_line_15 rfl ?_
          refine PW_get (v := .int (Y.1 581)) c_M_line_16 fl_M_191 (gf_70_21 _ _) ?_
          rw [hS]
          show PW _ _ _ 19 [some (.ref 70), some (.int (nI (61 + L)))] [.int (nI k), .int (nI (61 + L)), .ref 87] (E x Y)
          refine PW_i2s c_M_line_19 ?_
          refine PW_sast (j := 61 + L) (w2 := E x (sA Y 87 (upd (Y.2.1 87) (61 + L) (vp_nar .short ((nI k).toInt16.toInt32))))) c_M_line_20 (ar_87 _ _) (vp_in_nI (by omega) (by decide)) (nI_clamp (by omega)) (aw_87 _ _ _) ?_
          rw [nar_sh k (by omega)]
          show PW _ _ _ 21 [some (.ref 70), some (.int (nI (61 + L)))] [] (E x (sA Y 87 (upd (Y.2.1 87) (61 + L) (nI k))))
          refine PW_aload_n c_M_line_21 rfl ?_
          refine PW_V0 (d2 := 42 + 1) (st := []) [] c_M_line_22 lk_M_line_219 (po_70 _ _) rfl rfl rfl (Nat.le_of_ble_eq_true rfl) (by first | decide | omega) (Nat.le_of_ble_eq_true rfl) ?_
          refine H1 ?_
          show PW _ _ _ 25 [some (.ref 70), some (.int (nI (61 + L)))] [] (E x Y1)
          refine PW_aload_n c_M_line_25 rfl ?_
          refine PW_get (v := .int (Y1.1 579)) c_M_line_26 fl_M_188 (gf_70_19 _ _) ?_
          rw [b1]
          show PW _ _ _ 29 [some (.ref 70), some (.int (nI (61 + L)))] [.int (-1)] (E x Y1)
          refine PW_if_ge c_M_line_29 (fun h0 => absurd h0 (by decide)) (fun _ => ?_)
          refine PW_aload_n c_M_line_32 rfl ?_
          refine PW_V0 (d2 := 0) (st := []) [] c_M_line_33 lk_M_line_200 (po_70 _ _) rfl rfl rfl (Nat.le_of_ble_eq_true rfl) (by first | decide | omega) (Nat.le_of_ble_eq_true rfl) ?_
          refine sp_M_look hT1 p1 w1n ?_
          show PW _ _ _ 36 [some (.ref 70), some (.int (nI (61 + L)))] [.int (lkM (sg g n (pF g n 42 0 0 p).2.1))] (E x Y1)
          refine PW_bipush (v := 63) c_M_line_36 (by decide) ?_
          refine PW_icmp_ne c_M_line_38 (fun h1 => absurd h1 (not_not_intro ((lkM_k (tpM_sg hT) (by decide) (k := 63)).mpr c63))) (fun h1 => ?_)
          refine PW_aload_n c_M_line_41 rfl ?_
          refine PW_dup c_M_line_42 rfl ?_
          refine PW_get (v := .int (Y1.1 578)) c_M_line_43 fl_M_185 (gf_70_18 _ _) ?_
          rw [p1]
          show PW _ _ _ 46 [some (.ref 70), some (.int (nI (61 + L)))] [.int (nI (pF g n 42 0 0 p).2.1), .ref 70] (E x Y1)
          refine PW_iconst (v := 1) c_M_line_46 (by decide) ?_
          refine PW_iadd c_M_line_47 ?_
          refine PW_put (w2 := E x (sI Y1 578 ((nI (pF g n 42 0 0 p).2.1) + 1))) c_M_line_48 fp_M_line_185 rfl (pf_70_18 _ _ _) ?_
          rw [nI_1 ((pF g n 42 0 0 p).2.1)]
          show PW _ _ _ 51 [some (.ref 70), some (.int (nI (61 + L)))] [] (E x (sI Y1 578 (nI ((pF g n 42 0 0 p).2.1 + 1))))
          refine PW_aload_n c_M_line_51 rfl ?_
          refine PW_get (v := .ref 87) c_M_line_52 fl_M_59 (gf_70_25 _ _) ?_
          refine PW_iload_n c_M_line_55 rfl ?_
          refine PW_aload_n c_M_line_56 rfl ?_
          refine PW_get (v := .int (Y1.1 581)) c_M_line_57 fl_M_191 (gf_70_21 _ _) ?_
          rw [s1]
          show PW _ _ _ 60 [some (.ref 70), some (.int (nI (61 + L)))] [.int (nI (k + (pF g n 42 0 0 p).2.2.length)), .int (nI (61 + L)), .ref 87] (E x (sI Y1 578 (nI ((pF g n 42 0 0 p).2.1 + 1))))
          refine PW_i2s c_M_line_60 ?_
          refine PW_sast (j := 61 + L) (w2 := E x (sA (sI Y1 578 (nI ((pF g n 42 0 0 p).2.1 + 1))) 87 (upd (Y1.2.1 87) (61 + L) (vp_nar .short ((nI (k + (pF g n 42 0 0 p).2.2.length)).toInt16.toInt32))))) c_M_line_61 (ar_87 _ _) (vp_in_nI (by omega) (by decide)) (nI_clamp (by omega)) (aw_87 _ _ _) ?_
          rw [nar_sh (k + (pF g n 42 0 0 p).2.2.length) (by omega)]
          show PW _ _ _ 62 [some (.ref 70), some (.int (nI (61 + L)))] [] (E x (sA (sI Y1 578 (nI ((pF g n 42 0 0 p).2.1 + 1))) 87 (upd (Y1.2.1 87) (61 + L) (nI (k + (pF g n 42 0 0 p).2.2.length)))))
          refine PW_aload_n c_M_line_62 rfl ?_
          refine PW_V0 (d2 := 42 + 1) (st := []) [] c_M_line_63 lk_M_line_219 (po_70 _ _) rfl rfl rfl (Nat.le_of_ble_eq_true rfl) (by first | decide | omega) (Nat.le_of_ble_eq_true rfl) ?_
          refine H2 ?_
          show PW _ _ _ 66 [some (.ref 70), some (.int (nI (61 + L)))] [] (E x Y2)
          exact lp_M_tail hL2 hL6 s2 (by omega) h
    · rw [if_neg c63]
      refine ⟨tlM Y1 L (k + (pF g n 42 0 0 p).2.2.length), ⟨frN_t fA frN_tl, ?_, ⟨?_, ?_⟩, ?_, tl_1.trans p1, Or.inl ⟨rfl, tl_1.trans b1, tl_1.trans o1, tl_1.trans s1, ?_, ?_, ?_⟩⟩, fun {x z post} h => ?_⟩
      · rw [tl_84, tl_85]; exact u1
      · rw [tl_86, upd_s]
      · rw [tl_86, upd_n (by decide), e86]
      · rw [tl_87, tl_88, e87, e88]
        exact fun i hi => ⟨upd_n (by omega), upd_n (by omega)⟩
      · rw [tl_84, tl_85]
        exact v1
      · rw [tl_87, e87]; exact upd_s
      · rw [tl_88]; exact upd_s
      · skip
        refine PW_bipush (v := 61) c_M_line_0 (by decide) ?_
        refine PW_aload_n c_M_line_2 rfl ?_
        refine PW_get (v := .ref 86) c_M_line_3 fl_M_56 (gf_70_24 _ _) ?_
        refine PW_iconst (v := 1) c_M_line_6 (by decide) ?_
        refine PW_iald (j := 1) c_M_line_7 (ar_86 _ _) (vp_in_iff.mpr (by decide)) rfl ?_
        show PW _ _ _ 8 [some (.ref 70), none] [.int ((Y.2.1 86) 1), .int 61] (E x Y)
        rw [hL]
        show PW _ _ _ 8 [some (.ref 70), none] [.int (nI L), .int 61] (E x Y)
        refine PW_iadd c_M_line_8 ?_
        rw [h61]
        show PW _ _ _ 9 [some (.ref 70), none] [.int (nI (61 + L))] (E x Y)
        refine PW_istore_n (i := 1) (L2 := [some (.ref 70), some (.int (nI (61 + L)))]) c_M_line_9 rfl (Nat.le_of_ble_eq_true rfl) rfl rfl ?_
        refine PW_aload_n c_M_line_10 rfl ?_
        refine PW_get (v := .ref 87) c_M_line_11 fl_M_59 (gf_70_25 _ _) ?_
        refine PW_iload_n c_M_line_14 rfl ?_
        refine PW_aload_n c_M_line_15 rfl ?_
        refine PW_get (v := .int (Y.1 581)) c_M_line_16 fl_M_191 (gf_70_21 _ _) ?_
        rw [hS]
        show PW _ _ _ 19 [some (.ref 70), some (.int (nI (61 + L)))] [.int (nI k), .int (nI (61 + L)), .ref 87] (E x Y)
        refine PW_i2s c_M_line_19 ?_
        refine PW_sast (j := 61 + L) (w2 := E x (sA Y 87 (upd (Y.2.1 87) (61 + L) (vp_nar .short ((nI k).toInt16.toInt32))))) c_M_line_20 (ar_87 _ _) (vp_in_nI (by omega) (by decide)) (nI_clamp (by omega)) (aw_87 _ _ _) ?_
        rw [nar_sh k (by omega)]
        show PW _ _ _ 21 [some (.ref 70), some (.int (nI (61 + L)))] [] (E x (sA Y 87 (upd (Y.2.1 87) (61 + L) (nI k))))
        refine PW_aload_n c_M_line_21 rfl ?_
        refine PW_V0 (d2 := 42 + 1) (st := []) [] c_M_line_22 lk_M_line_219 (po_70 _ _) rfl rfl rfl (Nat.le_of_ble_eq_true rfl) (by first | decide | omega) (Nat.le_of_ble_eq_true rfl) ?_
        refine H1 ?_
        show PW _ _ _ 25 [some (.ref 70), some (.int (nI (61 + L)))] [] (E x Y1)
        refine PW_aload_n c_M_line_25 rfl ?_
        refine PW_get (v := .int (Y1.1 579)) c_M_line_26 fl_M_188 (gf_70_19 _ _) ?_
        rw [b1]
        show PW _ _ _ 29 [some (.ref 70), some (.int (nI (61 + L)))] [.int (-1)] (E x Y1)
        refine PW_if_ge c_M_line_29 (fun h0 => absurd h0 (by decide)) (fun _ => ?_)
        refine PW_aload_n c_M_line_32 rfl ?_
        refine PW_V0 (d2 := 0) (st := []) [] c_M_line_33 lk_M_line_200 (po_70 _ _) rfl rfl rfl (Nat.le_of_ble_eq_true rfl) (by first | decide | omega) (Nat.le_of_ble_eq_true rfl) ?_
        refine sp_M_look hT1 p1 w1n ?_
        show PW _ _ _ 36 [some (.ref 70), some (.int (nI (61 + L)))] [.int (lkM (sg g n (pF g n 42 0 0 p).2.1))] (E x Y1)
        refine PW_bipush (v := 63) c_M_line_36 (by decide) ?_
        refine PW_icmp_ne c_M_line_38 (fun h1 => ?_) (fun h1 => absurd h1 (fun w => c63 ((lkM_k (tpM_sg hT) (by decide) (k := 63)).mp w)))
        exact lp_M_tail hL1 hL6 s1 (by omega) h
  · have c63 : (pF g n 42 0 0 p).1 = true → ¬ sg g n (pF g n 42 0 0 p).2.1 = 63 := fun w => by have := r1 w; unfold isD at this; omega
    refine ⟨tlM Y1 L l1, ⟨frN_t fA frN_tl, ?_, ⟨?_, ?_⟩, ?_, ?_, Or.inr ?_⟩, fun {x z post} h => ?_⟩
    · rw [tl_84, tl_85]; exact u1
    · rw [tl_86, upd_s]
    · rw [tl_86, upd_n (by decide), e86]
    · rw [tl_87, tl_88, e87, e88]
      exact fun i hi => ⟨upd_n (by omega), upd_n (by omega)⟩
    · by_cases w : (pF g n 42 0 0 p).1 = true
      · rw [if_pos w, if_neg (c63 w)]; exact tl_1.trans p1
      · rw [if_neg w]; exact tl_1.trans p1
    · by_cases w : (pF g n 42 0 0 p).1 = true
      · rw [if_pos w, if_neg (c63 w)]; exact ⟨fun _ => r1 w, tl_1.trans b1⟩
      · rw [if_neg w]; exact ⟨fun w => Bool.noConfusion w, tl_1.trans b1⟩
    · skip
      refine PW_bipush (v := 61) c_M_line_0 (by decide) ?_
      refine PW_aload_n c_M_line_2 rfl ?_
      refine PW_get (v := .ref 86) c_M_line_3 fl_M_56 (gf_70_24 _ _) ?_
      refine PW_iconst (v := 1) c_M_line_6 (by decide) ?_
      refine PW_iald (j := 1) c_M_line_7 (ar_86 _ _) (vp_in_iff.mpr (by decide)) rfl ?_
      show PW _ _ _ 8 [some (.ref 70), none] [.int ((Y.2.1 86) 1), .int 61] (E x Y)
      rw [hL]
      show PW _ _ _ 8 [some (.ref 70), none] [.int (nI L), .int 61] (E x Y)
      refine PW_iadd c_M_line_8 ?_
      rw [h61]
      show PW _ _ _ 9 [some (.ref 70), none] [.int (nI (61 + L))] (E x Y)
      refine PW_istore_n (i := 1) (L2 := [some (.ref 70), some (.int (nI (61 + L)))]) c_M_line_9 rfl (Nat.le_of_ble_eq_true rfl) rfl rfl ?_
      refine PW_aload_n c_M_line_10 rfl ?_
      refine PW_get (v := .ref 87) c_M_line_11 fl_M_59 (gf_70_25 _ _) ?_
      refine PW_iload_n c_M_line_14 rfl ?_
      refine PW_aload_n c_M_line_15 rfl ?_
      refine PW_get (v := .int (Y.1 581)) c_M_line_16 fl_M_191 (gf_70_21 _ _) ?_
      rw [hS]
      show PW _ _ _ 19 [some (.ref 70), some (.int (nI (61 + L)))] [.int (nI k), .int (nI (61 + L)), .ref 87] (E x Y)
      refine PW_i2s c_M_line_19 ?_
      refine PW_sast (j := 61 + L) (w2 := E x (sA Y 87 (upd (Y.2.1 87) (61 + L) (vp_nar .short ((nI k).toInt16.toInt32))))) c_M_line_20 (ar_87 _ _) (vp_in_nI (by omega) (by decide)) (nI_clamp (by omega)) (aw_87 _ _ _) ?_
      rw [nar_sh k (by omega)]
      show PW _ _ _ 21 [some (.ref 70), some (.int (nI (61 + L)))] [] (E x (sA Y 87 (upd (Y.2.1 87) (61 + L) (nI k))))
      refine PW_aload_n c_M_line_21 rfl ?_
      refine PW_V0 (d2 := 42 + 1) (st := []) [] c_M_line_22 lk_M_line_219 (po_70 _ _) rfl rfl rfl (Nat.le_of_ble_eq_true rfl) (by first | decide | omega) (Nat.le_of_ble_eq_true rfl) ?_
      refine H1 ?_
      show PW _ _ _ 25 [some (.ref 70), some (.int (nI (61 + L)))] [] (E x Y1)
      refine PW_aload_n c_M_line_25 rfl ?_
      refine PW_get (v := .int (Y1.1 579)) c_M_line_26 fl_M_188 (gf_70_19 _ _) ?_
      rw [b1]
      show PW _ _ _ 29 [some (.ref 70), some (.int (nI (61 + L)))] [.int (nI (pF g n 42 0 0 p).2.1)] (E x Y1)
      refine PW_if_ge c_M_line_29 (fun h0 => ?_) (fun h0 => absurd (nI_pos' (by omega)) h0)
      exact lp_M_tail hL1 hL6 s1 (by omega) h
