/-! the reference's search -/
theorem lp_M_keep {k d : Nat} (hk : k ≤ 6) : ∀ (jj i : Nat) (Y : XS), i + jj = k → ∃ Y' : XS, (∀ n, Y'.1 n = Y.1 n) ∧ (∀ a, a ≠ 92 → Y'.2.1 a = Y.2.1 a) ∧ Y'.2.2 = Y.2.2 ∧ (∀ q, q < i → Y'.2.1 92 q = Y.2.1 92 q) ∧ (∀ q, i ≤ q → q < k → Y'.2.1 92 q = Y.2.1 91 q) ∧ ∀ {x : XS} {z : ZS} {post : Option Value → List PE → Prop} {l4 l5 : Option Value}, post none (E x Y') → PW (d, 0, 0, z) m_M_goRows post 63 [some (.ref 70), some (.int (nI k)), some (.int 1), some (.int (nI i)), l4, l5] [] (E x Y) := by
  intro jj
  induction jj with
  | zero =>
    intro i Y hi
    refine ⟨Y, fun _ => rfl, fun _ _ => rfl, rfl, fun _ _ => rfl, fun q h1 h2 => by omega, fun {x z post l4 l5} h => ?_⟩
    refine PW_iload_n c_M_goRows_63 rfl ?_
    refine PW_iload_n c_M_goRows_64 rfl ?_
    refine PW_icmp_ge c_M_goRows_65 (fun h0 => ?_) (fun h0 => absurd ((nI_leI (by omega) (by omega)).mpr (by omega)) h0)
    refine PW_vreturn c_M_goRows_86 rfl ?_
    exact h
  | succ jj ih =>
    intro i Y hi
    obtain ⟨Y', f1, f2, f3, f4, f5, H⟩ := ih (i + 1) (sA Y 92 (upd (Y.2.1 92) i (Y.2.1 91 i))) (by omega)
    refine ⟨Y', f1, fun a ha => (f2 a ha).trans (by rw [sA_A, if_neg ha]), f3, fun q hq => (f4 q (by omega)).trans (by rw [sA_A, if_pos rfl, upd_n (by omega)]), fun q h1 h2 => ?_, fun {x z post l4 l5} h => ?_⟩
    · by_cases e : q = i
      · subst e; exact (f4 q (by omega)).trans (by rw [sA_A, if_pos rfl, upd_s])
      · exact (f5 q (by omega) h2).trans (by rw [sA_A, if_neg (by decide)])
    · skip
      refine PW_iload_n c_M_goRows_63 rfl ?_
      refine PW_iload_n c_M_goRows_64 rfl ?_
      refine PW_icmp_ge c_M_goRows_65 (fun h0 => absurd h0 (fun q => absurd ((nI_leI (by omega) (by omega)).mp q) (by omega))) (fun h0 => ?_)
      refine PW_aload_n c_M_goRows_68 rfl ?_
      refine PW_get (v := .ref 92) c_M_goRows_69 fl_M_75 (gf_70_34 _ _) ?_
      refine PW_iload_n c_M_goRows_72 rfl ?_
      refine PW_aload_n c_M_goRows_73 rfl ?_
      refine PW_get (v := .ref 91) c_M_goRows_74 fl_M_72 (gf_70_33 _ _) ?_
      refine PW_iload_n c_M_goRows_77 rfl ?_
      refine PW_iald (j := i) c_M_goRows_78 (ar_91 _ _) (vp_in_nI (by omega) (by decide)) (nI_clamp (by omega)) ?_
      show PW _ _ _ 79 [some (.ref 70), some (.int (nI k)), some (.int 1), some (.int (nI i)), l4, l5] [.int ((Y.2.1 91) i), .int (nI i), .ref 92] (E x Y)
      refine PW_iast (j := i) (w2 := E x (sA Y 92 (upd (Y.2.1 92) i ((Y.2.1 91) i)))) c_M_goRows_79 (ar_92 _ _) (vp_in_nI (by omega) (by decide)) (nI_clamp (by omega)) (aw_92 _ _ _) ?_
      refine PW_iinc (i := 3) (v := (nI i) + 1) (L2 := [some (.ref 70), some (.int (nI k)), some (.int 1), some (.int ((nI i) + 1)), l4, l5]) c_M_goRows_80 rfl (iinc_v (by decide)) (Nat.le_of_ble_eq_true rfl) rfl rfl ?_
      refine PW_goto c_M_goRows_83 ?_
      refine PW.eqL ?_ rfl rfl (H (l4 := l4) (l5 := l5) h)
      show ([some (.ref 70), some (.int (nI k)), some (.int 1), some (.int ((nI i) + 1)), l4, l5] : List (Option Value)) = [some (.ref 70), some (.int (nI k)), some (.int 1), some (.int (nI (i + 1))), l4, l5]
      rw [nI_1]
def bsY (Y : XS) (B : Cd) : Prop := Y.1 596 = B.1 ∧ Y.1 595 = nI B.2.1 ∧ B.2.1 ≤ 7 ∧ ∀ i, i < B.2.1 → i < 6 → Y.2.1 92 i = B.2.2 i
def rwY (Y : XS) (row : Nat → Int32) (k : Nat) : Prop := ∀ i, i < k → Y.2.1 91 i = row i
theorem gr_head {T : Option Txt} {x x0 y : XS} (C : CPg x0 y) {j k a Bd d : Nat} {m t : Int32} {row : Nat → Int32} {B : Cd} {Y : XS} (hd : 5 ≤ d) (hk6 : k ≤ 6) (hY : yS y Y) (s : roS Y a m t) (ha : a < 5) (hm : 0 ≤ m.toInt ∧ m.toInt ≤ Bd) (hB : Bd + 66 * j < 900000) (hr : rwY Y row k) (hb : bsY Y B) (hL : mustB y &&& (t ^^^ -1) = 0 → cL T y j k (a, m, t) row = [(m + wayN y a 0, k, row)]) (HR0 : ¬ mustB y &&& (t ^^^ -1) = 0 → ∃ Y' : XS, (yS y Y' ∧ rwY Y' row k ∧ bsY Y' ((cL T y j k (a, m, t) row).foldl btr B)) ∧ ∀ {z : ZS} {post : Option Value → List PE → Prop}, post none (E x Y') → PW (d, 0, 0, z) m_M_goRows post 87 [some (.ref 70), some (.int (nI k)), none, none, none, none] [] (E x Y)) : ∃ Y' : XS, (yS y Y' ∧ rwY Y' row k ∧ bsY Y' ((cL T y j k (a, m, t) row).foldl btr B)) ∧ ∀ {z : ZS} {post : Option Value → List PE → Prop}, post none (E x Y') → PW (d, 0, 0, z) m_M_goRows post 0 [some (.ref 70), some (.int (nI k)), none, none, none, none] [] (E x Y) := by
  have hWY : WG Y := (CPg_S C (xS_0 x0) hY).1
  obtain ⟨g1, g2, g3, g4, g5, g6, g7⟩ := gE_fun (gE_S hY)
  have hb7 := hb.2.2.1
  by_cases hfar : m + wayN y a 0 ≤ B.1
  · by_cases hm0 : mustB y &&& (t ^^^ -1) = 0
    · by_cases hlt : m + wayN y a 0 < B.1
      · skip
        obtain ⟨Y', f1, f2, f3, f4, f5, HK⟩ := lp_M_keep (d := d) (k := k) (by omega) k 0 (sI (sI Y 596 (m + wayN y a 0)) 595 (nI k)) (Nat.zero_add _)
        refine ⟨Y', ⟨yS_t hY ⟨fun n q => (f1 n).trans (by rw [sI_n (by omega), sI_n (by omega)]), fun a q => f2 a (by omega), f3⟩, fun i hi => by rw [f2 91 (by decide)]; exact hr i hi, ?_⟩, fun {z post} h => ?_⟩
        · rw [hL hm0, List.foldl_cons, List.foldl_nil, btr, if_pos (show beats B (m + wayN y a 0, k, row) from Or.inl (Int32.lt_iff_toInt_lt.mp hlt))]
          exact ⟨by rw [f1, sI_n (by decide), sI_s], by rw [f1, sI_s], by show k ≤ 7; omega, fun i hi _ => by rw [f5 i (Nat.zero_le _) hi]; exact hr i hi⟩
        · skip
          refine PW_aload_n c_M_goRows_0 rfl ?_
          refine PW_V0 (d2 := 1) (st := []) [] c_M_goRows_1 lk_M_goRows_299 (po_70 _ _) rfl rfl rfl (Nat.le_of_ble_eq_true rfl) (by first | decide | omega) (Nat.le_of_ble_eq_true rfl) ?_
          refine sp_M_home s ha ?_
          rw [g5]
          show PW _ _ _ 4 [some (.ref 70), some (.int (nI k)), none, none, none, none] [.int (m + wayN y a 0)] (E x Y)
          refine PW_aload_n c_M_goRows_4 rfl ?_
          refine PW_get (v := .int (Y.1 596)) c_M_goRows_5 fl_M_302 (gf_70_36 _ _) ?_
          rw [hb.1]
          show PW _ _ _ 8 [some (.ref 70), some (.int (nI k)), none, none, none, none] [.int B.1, .int (m + wayN y a 0)] (E x Y)
          refine PW_icmp_le c_M_goRows_8 (fun h0 => ?_) (fun h0 => absurd hfar h0)
          refine PW_aload_n c_M_goRows_12 rfl ?_
          refine PW_V0 (d2 := 1) (st := []) [] c_M_goRows_13 lk_M_goRows_305 (po_70 _ _) rfl rfl rfl (Nat.le_of_ble_eq_true rfl) (by first | decide | omega) (Nat.le_of_ble_eq_true rfl) ?_
          show PW _ _ _ 0 [some (.ref 70)] [] (E x Y)
          refine PW_aload_n c_M_isDone_0 rfl ?_
          refine PW_V0 (d2 := 0) (st := []) [] c_M_isDone_1 lk_M_isDone_253 (po_70 _ _) rfl rfl rfl (Nat.le_of_ble_eq_true rfl) (by first | decide | omega) (Nat.le_of_ble_eq_true rfl) ?_
          refine sp_M_allMust hWY ?_
          show PW _ _ _ 4 [some (.ref 70)] [.int (mustB Y)] (E x Y)
          refine PW_aload_n c_M_isDone_4 rfl ?_
          refine PW_get (v := .int (Y.1 592)) c_M_isDone_5 fl_M_271 (gf_70_32 _ _) ?_
          refine PW_iconst (v := -1) c_M_isDone_8 (by decide) ?_
          refine PW_ixor c_M_isDone_9 ?_
          refine PW_iand c_M_isDone_10 ?_
          refine PW_if_ne c_M_isDone_11 (fun h1 => absurd h1 (not_not_intro (by rw [show mustB Y &&& (Y.1 592 ^^^ -1) = mustB y &&& (t ^^^ -1) by rw [g3, s.2.2]]; exact hm0))) (fun h1 => ?_)
          refine PW_iconst (v := 1) c_M_isDone_14 (by decide) ?_
          refine PW_goto c_M_isDone_15 ?_
          refine PW_ireturn (ty := .boolean) c_M_isDone_19 rfl (by decide +kernel) ?_
          show PW _ _ _ 16 [some (.ref 70), some (.int (nI k)), none, none, none, none] [.int 1] (E x Y)
          refine PW_if_eq c_M_goRows_16 (fun h2 => absurd h2 (by decide)) (fun _ => ?_)
          refine PW_aload_n c_M_goRows_19 rfl ?_
          refine PW_V0 (d2 := 1) (st := []) [] c_M_goRows_20 lk_M_goRows_299 (po_70 _ _) rfl rfl rfl (Nat.le_of_ble_eq_true rfl) (by first | decide | omega) (Nat.le_of_ble_eq_true rfl) ?_
          refine sp_M_home s ha ?_
          rw [g5]
          show PW _ _ _ 23 [some (.ref 70), some (.int (nI k)), none, none, none, none] [.int (m + wayN y a 0)] (E x Y)
          refine PW_aload_n c_M_goRows_23 rfl ?_
          refine PW_get (v := .int (Y.1 596)) c_M_goRows_24 fl_M_302 (gf_70_36 _ _) ?_
          rw [hb.1]
          show PW _ _ _ 27 [some (.ref 70), some (.int (nI k)), none, none, none, none] [.int B.1, .int (m + wayN y a 0)] (E x Y)
          refine PW_icmp_lt c_M_goRows_27 (fun h3 => ?_) (fun h3 => absurd hlt h3)
          refine PW_iconst (v := 1) c_M_goRows_38 (by decide) ?_
          refine PW_goto c_M_goRows_39 ?_
          refine PW_istore_n (i := 2) (L2 := [some (.ref 70), some (.int (nI k)), some (.int 1), none, none, none]) c_M_goRows_43 rfl (Nat.le_of_ble_eq_true rfl) rfl rfl ?_
          refine PW_iload_n c_M_goRows_44 rfl ?_
          refine PW_if_eq c_M_goRows_45 (fun h4 => absurd h4 (by decide)) (fun _ => ?_)
          refine PW_aload_n c_M_goRows_48 rfl ?_
          refine PW_aload_n c_M_goRows_49 rfl ?_
          refine PW_V0 (d2 := 1) (st := [.ref 70]) [] c_M_goRows_50 lk_M_goRows_299 (po_70 _ _) rfl rfl rfl (Nat.le_of_ble_eq_true rfl) (by first | decide | omega) (Nat.le_of_ble_eq_true rfl) ?_
          refine sp_M_home s ha ?_
          rw [g5]
          show PW _ _ _ 53 [some (.ref 70), some (.int (nI k)), some (.int 1), none, none, none] [.int (m + wayN y a 0), .ref 70] (E x Y)
          refine PW_put (w2 := E x (sI Y 596 (m + wayN y a 0))) c_M_goRows_53 fp_M_goRows_302 rfl (pf_70_36 _ _ _) ?_
          refine PW_aload_n c_M_goRows_56 rfl ?_
          refine PW_iload_n c_M_goRows_57 rfl ?_
          refine PW_put (w2 := E x (sI (sI Y 596 (m + wayN y a 0)) 595 (nI k))) c_M_goRows_58 fp_M_goRows_308 rfl (pf_70_35 _ _ _) ?_
          refine PW_iconst (v := 0) c_M_goRows_61 (by decide) ?_
          refine PW_istore_n (i := 3) (L2 := [some (.ref 70), some (.int (nI k)), some (.int 1), some (.int 0), none, none]) c_M_goRows_62 rfl (Nat.le_of_ble_eq_true rfl) rfl rfl ?_
          refine PW.eqL ?_ rfl rfl (HK (l4 := none) (l5 := none) h)
          rfl
      · by_cases hk2 : k < B.2.1
        · skip
          obtain ⟨Y', f1, f2, f3, f4, f5, HK⟩ := lp_M_keep (d := d) (k := k) (by omega) k 0 (sI (sI Y 596 (m + wayN y a 0)) 595 (nI k)) (Nat.zero_add _)
          refine ⟨Y', ⟨yS_t hY ⟨fun n q => (f1 n).trans (by rw [sI_n (by omega), sI_n (by omega)]), fun a q => f2 a (by omega), f3⟩, fun i hi => by rw [f2 91 (by decide)]; exact hr i hi, ?_⟩, fun {z post} h => ?_⟩
          · rw [hL hm0, List.foldl_cons, List.foldl_nil, btr, if_pos (show beats B (m + wayN y a 0, k, row) from Or.inr ⟨Int32.toInt_inj.mp (by rw [Int32.le_iff_toInt_le] at hfar; rw [Int32.lt_iff_toInt_lt] at hlt; show (m + wayN y a 0).toInt = _; omega), hk2⟩)]
            exact ⟨by rw [f1, sI_n (by decide), sI_s], by rw [f1, sI_s], by show k ≤ 7; omega, fun i hi _ => by rw [f5 i (Nat.zero_le _) hi]; exact hr i hi⟩
          · skip
            refine PW_aload_n c_M_goRows_0 rfl ?_
            refine PW_V0 (d2 := 1) (st := []) [] c_M_goRows_1 lk_M_goRows_299 (po_70 _ _) rfl rfl rfl (Nat.le_of_ble_eq_true rfl) (by first | decide | omega) (Nat.le_of_ble_eq_true rfl) ?_
            refine sp_M_home s ha ?_
            rw [g5]
            show PW _ _ _ 4 [some (.ref 70), some (.int (nI k)), none, none, none, none] [.int (m + wayN y a 0)] (E x Y)
            refine PW_aload_n c_M_goRows_4 rfl ?_
            refine PW_get (v := .int (Y.1 596)) c_M_goRows_5 fl_M_302 (gf_70_36 _ _) ?_
            rw [hb.1]
            show PW _ _ _ 8 [some (.ref 70), some (.int (nI k)), none, none, none, none] [.int B.1, .int (m + wayN y a 0)] (E x Y)
            refine PW_icmp_le c_M_goRows_8 (fun h0 => ?_) (fun h0 => absurd hfar h0)
            refine PW_aload_n c_M_goRows_12 rfl ?_
            refine PW_V0 (d2 := 1) (st := []) [] c_M_goRows_13 lk_M_goRows_305 (po_70 _ _) rfl rfl rfl (Nat.le_of_ble_eq_true rfl) (by first | decide | omega) (Nat.le_of_ble_eq_true rfl) ?_
            show PW _ _ _ 0 [some (.ref 70)] [] (E x Y)
            refine PW_aload_n c_M_isDone_0 rfl ?_
            refine PW_V0 (d2 := 0) (st := []) [] c_M_isDone_1 lk_M_isDone_253 (po_70 _ _) rfl rfl rfl (Nat.le_of_ble_eq_true rfl) (by first | decide | omega) (Nat.le_of_ble_eq_true rfl) ?_
            refine sp_M_allMust hWY ?_
            show PW _ _ _ 4 [some (.ref 70)] [.int (mustB Y)] (E x Y)
            refine PW_aload_n c_M_isDone_4 rfl ?_
            refine PW_get (v := .int (Y.1 592)) c_M_isDone_5 fl_M_271 (gf_70_32 _ _) ?_
            refine PW_iconst (v := -1) c_M_isDone_8 (by decide) ?_
            refine PW_ixor c_M_isDone_9 ?_
            refine PW_iand c_M_isDone_10 ?_
            refine PW_if_ne c_M_isDone_11 (fun h1 => absurd h1 (not_not_intro (by rw [show mustB Y &&& (Y.1 592 ^^^ -1) = mustB y &&& (t ^^^ -1) by rw [g3, s.2.2]]; exact hm0))) (fun h1 => ?_)
            refine PW_iconst (v := 1) c_M_isDone_14 (by decide) ?_
            refine PW_goto c_M_isDone_15 ?_
            refine PW_ireturn (ty := .boolean) c_M_isDone_19 rfl (by decide +kernel) ?_
            show PW _ _ _ 16 [some (.ref 70), some (.int (nI k)), none, none, none, none] [.int 1] (E x Y)
            refine PW_if_eq c_M_goRows_16 (fun h2 => absurd h2 (by decide)) (fun _ => ?_)
            refine PW_aload_n c_M_goRows_19 rfl ?_
            refine PW_V0 (d2 := 1) (st := []) [] c_M_goRows_20 lk_M_goRows_299 (po_70 _ _) rfl rfl rfl (Nat.le_of_ble_eq_true rfl) (by first | decide | omega) (Nat.le_of_ble_eq_true rfl) ?_
            refine sp_M_home s ha ?_
            rw [g5]
            show PW _ _ _ 23 [some (.ref 70), some (.int (nI k)), none, none, none, none] [.int (m + wayN y a 0)] (E x Y)
            refine PW_aload_n c_M_goRows_23 rfl ?_
            refine PW_get (v := .int (Y.1 596)) c_M_goRows_24 fl_M_302 (gf_70_36 _ _) ?_
            rw [hb.1]
            show PW _ _ _ 27 [some (.ref 70), some (.int (nI k)), none, none, none, none] [.int B.1, .int (m + wayN y a 0)] (E x Y)
            refine PW_icmp_lt c_M_goRows_27 (fun h3 => absurd h3 hlt) (fun h3 => ?_)
            refine PW_iload_n c_M_goRows_30 rfl ?_
            refine PW_aload_n c_M_goRows_31 rfl ?_
            refine PW_get (v := .int (Y.1 595)) c_M_goRows_32 fl_M_308 (gf_70_35 _ _) ?_
            rw [hb.2.1]
            show PW _ _ _ 35 [some (.ref 70), some (.int (nI k)), none, none, none, none] [.int (nI B.2.1), .int (nI k)] (E x Y)
            refine PW_icmp_ge c_M_goRows_35 (fun h4 => absurd h4 (fun q => absurd ((nI_leI (by omega) (by omega)).mp q) (by omega))) (fun h4 => ?_)
            refine PW_iconst (v := 1) c_M_goRows_38 (by decide) ?_
            refine PW_goto c_M_goRows_39 ?_
            refine PW_istore_n (i := 2) (L2 := [some (.ref 70), some (.int (nI k)), some (.int 1), none, none, none]) c_M_goRows_43 rfl (Nat.le_of_ble_eq_true rfl) rfl rfl ?_
            refine PW_iload_n c_M_goRows_44 rfl ?_
            refine PW_if_eq c_M_goRows_45 (fun h5 => absurd h5 (by decide)) (fun _ => ?_)
            refine PW_aload_n c_M_goRows_48 rfl ?_
            refine PW_aload_n c_M_goRows_49 rfl ?_
            refine PW_V0 (d2 := 1) (st := [.ref 70]) [] c_M_goRows_50 lk_M_goRows_299 (po_70 _ _) rfl rfl rfl (Nat.le_of_ble_eq_true rfl) (by first | decide | omega) (Nat.le_of_ble_eq_true rfl) ?_
            refine sp_M_home s ha ?_
            rw [g5]
            show PW _ _ _ 53 [some (.ref 70), some (.int (nI k)), some (.int 1), none, none, none] [.int (m + wayN y a 0), .ref 70] (E x Y)
            refine PW_put (w2 := E x (sI Y 596 (m + wayN y a 0))) c_M_goRows_53 fp_M_goRows_302 rfl (pf_70_36 _ _ _) ?_
            refine PW_aload_n c_M_goRows_56 rfl ?_
            refine PW_iload_n c_M_goRows_57 rfl ?_
            refine PW_put (w2 := E x (sI (sI Y 596 (m + wayN y a 0)) 595 (nI k))) c_M_goRows_58 fp_M_goRows_308 rfl (pf_70_35 _ _ _) ?_
            refine PW_iconst (v := 0) c_M_goRows_61 (by decide) ?_
            refine PW_istore_n (i := 3) (L2 := [some (.ref 70), some (.int (nI k)), some (.int 1), some (.int 0), none, none]) c_M_goRows_62 rfl (Nat.le_of_ble_eq_true rfl) rfl rfl ?_
            refine PW.eqL ?_ rfl rfl (HK (l4 := none) (l5 := none) h)
            rfl
        · refine ⟨Y, ⟨hY, hr, ?_⟩, fun {z post} h => ?_⟩
          · rw [hL hm0, List.foldl_cons, List.foldl_nil, btr, if_neg (show ¬ beats B (m + wayN y a 0, k, row) from fun q => by
              rcases q with q | q
              · exact hlt (Int32.lt_iff_toInt_lt.mpr q)
              · exact hk2 q.2)]
            exact hb
          · skip
            refine PW_aload_n c_M_goRows_0 rfl ?_
            refine PW_V0 (d2 := 1) (st := []) [] c_M_goRows_1 lk_M_goRows_299 (po_70 _ _) rfl rfl rfl (Nat.le_of_ble_eq_true rfl) (by first | decide | omega) (Nat.le_of_ble_eq_true rfl) ?_
            refine sp_M_home s ha ?_
            rw [g5]
            show PW _ _ _ 4 [some (.ref 70), some (.int (nI k)), none, none, none, none] [.int (m + wayN y a 0)] (E x Y)
            refine PW_aload_n c_M_goRows_4 rfl ?_
            refine PW_get (v := .int (Y.1 596)) c_M_goRows_5 fl_M_302 (gf_70_36 _ _) ?_
            rw [hb.1]
            show PW _ _ _ 8 [some (.ref 70), some (.int (nI k)), none, none, none, none] [.int B.1, .int (m + wayN y a 0)] (E x Y)
            refine PW_icmp_le c_M_goRows_8 (fun h0 => ?_) (fun h0 => absurd hfar h0)
            refine PW_aload_n c_M_goRows_12 rfl ?_
            refine PW_V0 (d2 := 1) (st := []) [] c_M_goRows_13 lk_M_goRows_305 (po_70 _ _) rfl rfl rfl (Nat.le_of_ble_eq_true rfl) (by first | decide | omega) (Nat.le_of_ble_eq_true rfl) ?_
            show PW _ _ _ 0 [some (.ref 70)] [] (E x Y)
            refine PW_aload_n c_M_isDone_0 rfl ?_
            refine PW_V0 (d2 := 0) (st := []) [] c_M_isDone_1 lk_M_isDone_253 (po_70 _ _) rfl rfl rfl (Nat.le_of_ble_eq_true rfl) (by first | decide | omega) (Nat.le_of_ble_eq_true rfl) ?_
            refine sp_M_allMust hWY ?_
            show PW _ _ _ 4 [some (.ref 70)] [.int (mustB Y)] (E x Y)
            refine PW_aload_n c_M_isDone_4 rfl ?_
            refine PW_get (v := .int (Y.1 592)) c_M_isDone_5 fl_M_271 (gf_70_32 _ _) ?_
            refine PW_iconst (v := -1) c_M_isDone_8 (by decide) ?_
            refine PW_ixor c_M_isDone_9 ?_
            refine PW_iand c_M_isDone_10 ?_
            refine PW_if_ne c_M_isDone_11 (fun h1 => absurd h1 (not_not_intro (by rw [show mustB Y &&& (Y.1 592 ^^^ -1) = mustB y &&& (t ^^^ -1) by rw [g3, s.2.2]]; exact hm0))) (fun h1 => ?_)
            refine PW_iconst (v := 1) c_M_isDone_14 (by decide) ?_
            refine PW_goto c_M_isDone_15 ?_
            refine PW_ireturn (ty := .boolean) c_M_isDone_19 rfl (by decide +kernel) ?_
            show PW _ _ _ 16 [some (.ref 70), some (.int (nI k)), none, none, none, none] [.int 1] (E x Y)
            refine PW_if_eq c_M_goRows_16 (fun h2 => absurd h2 (by decide)) (fun _ => ?_)
            refine PW_aload_n c_M_goRows_19 rfl ?_
            refine PW_V0 (d2 := 1) (st := []) [] c_M_goRows_20 lk_M_goRows_299 (po_70 _ _) rfl rfl rfl (Nat.le_of_ble_eq_true rfl) (by first | decide | omega) (Nat.le_of_ble_eq_true rfl) ?_
            refine sp_M_home s ha ?_
            rw [g5]
            show PW _ _ _ 23 [some (.ref 70), some (.int (nI k)), none, none, none, none] [.int (m + wayN y a 0)] (E x Y)
            refine PW_aload_n c_M_goRows_23 rfl ?_
            refine PW_get (v := .int (Y.1 596)) c_M_goRows_24 fl_M_302 (gf_70_36 _ _) ?_
            rw [hb.1]
            show PW _ _ _ 27 [some (.ref 70), some (.int (nI k)), none, none, none, none] [.int B.1, .int (m + wayN y a 0)] (E x Y)
            refine PW_icmp_lt c_M_goRows_27 (fun h3 => absurd h3 hlt) (fun h3 => ?_)
            refine PW_iload_n c_M_goRows_30 rfl ?_
            refine PW_aload_n c_M_goRows_31 rfl ?_
            refine PW_get (v := .int (Y.1 595)) c_M_goRows_32 fl_M_308 (gf_70_35 _ _) ?_
            rw [hb.2.1]
            show PW _ _ _ 35 [some (.ref 70), some (.int (nI k)), none, none, none, none] [.int (nI B.2.1), .int (nI k)] (E x Y)
            refine PW_icmp_ge c_M_goRows_35 (fun h4 => ?_) (fun h4 => absurd ((nI_leI (by omega) (by omega)).mpr (by omega)) h4)
            refine PW_iconst (v := 0) c_M_goRows_42 (by decide) ?_
            refine PW_istore_n (i := 2) (L2 := [some (.ref 70), some (.int (nI k)), some (.int 0), none, none, none]) c_M_goRows_43 rfl (Nat.le_of_ble_eq_true rfl) rfl rfl ?_
            refine PW_iload_n c_M_goRows_44 rfl ?_
            refine PW_if_eq c_M_goRows_45 (fun _ => ?_) (fun h5 => absurd (by decide) h5)
            refine PW_vreturn c_M_goRows_86 rfl ?_
            exact h
    · obtain ⟨Y', hP, HR⟩ := HR0 hm0
      refine ⟨Y', hP, fun {z post} h => ?_⟩
      refine PW_aload_n c_M_goRows_0 rfl ?_
      refine PW_V0 (d2 := 1) (st := []) [] c_M_goRows_1 lk_M_goRows_299 (po_70 _ _) rfl rfl rfl (Nat.le_of_ble_eq_true rfl) (by first | decide | omega) (Nat.le_of_ble_eq_true rfl) ?_
      refine sp_M_home s ha ?_
      rw [g5]
      show PW _ _ _ 4 [some (.ref 70), some (.int (nI k)), none, none, none, none] [.int (m + wayN y a 0)] (E x Y)
      refine PW_aload_n c_M_goRows_4 rfl ?_
      refine PW_get (v := .int (Y.1 596)) c_M_goRows_5 fl_M_302 (gf_70_36 _ _) ?_
      rw [hb.1]
      show PW _ _ _ 8 [some (.ref 70), some (.int (nI k)), none, none, none, none] [.int B.1, .int (m + wayN y a 0)] (E x Y)
      refine PW_icmp_le c_M_goRows_8 (fun h0 => ?_) (fun h0 => absurd hfar h0)
      refine PW_aload_n c_M_goRows_12 rfl ?_
      refine PW_V0 (d2 := 1) (st := []) [] c_M_goRows_13 lk_M_goRows_305 (po_70 _ _) rfl rfl rfl (Nat.le_of_ble_eq_true rfl) (by first | decide | omega) (Nat.le_of_ble_eq_true rfl) ?_
      show PW _ _ _ 0 [some (.ref 70)] [] (E x Y)
      refine PW_aload_n c_M_isDone_0 rfl ?_
      refine PW_V0 (d2 := 0) (st := []) [] c_M_isDone_1 lk_M_isDone_253 (po_70 _ _) rfl rfl rfl (Nat.le_of_ble_eq_true rfl) (by first | decide | omega) (Nat.le_of_ble_eq_true rfl) ?_
      refine sp_M_allMust hWY ?_
      show PW _ _ _ 4 [some (.ref 70)] [.int (mustB Y)] (E x Y)
      refine PW_aload_n c_M_isDone_4 rfl ?_
      refine PW_get (v := .int (Y.1 592)) c_M_isDone_5 fl_M_271 (gf_70_32 _ _) ?_
      refine PW_iconst (v := -1) c_M_isDone_8 (by decide) ?_
      refine PW_ixor c_M_isDone_9 ?_
      refine PW_iand c_M_isDone_10 ?_
      refine PW_if_ne c_M_isDone_11 (fun h1 => ?_) (fun h1 => absurd h1 (by rw [show mustB Y &&& (Y.1 592 ^^^ -1) = mustB y &&& (t ^^^ -1) by rw [g3, s.2.2]]; exact hm0))
      refine PW_iconst (v := 0) c_M_isDone_18 (by decide) ?_
      refine PW_ireturn (ty := .boolean) c_M_isDone_19 rfl (by decide +kernel) ?_
      show PW _ _ _ 16 [some (.ref 70), some (.int (nI k)), none, none, none, none] [.int 0] (E x Y)
      refine PW_if_eq c_M_goRows_16 (fun _ => ?_) (fun h2 => absurd (by decide) h2)
      exact HR h
  · refine ⟨Y, ⟨hY, hr, ?_⟩, fun {z post} h => ?_⟩
    · rw [cL_far C ha hm hB (Or.inl (by rw [Int32.le_iff_toInt_le] at hfar; rw [Int32.lt_iff_toInt_lt]; omega))]
      exact hb
    · skip
      refine PW_aload_n c_M_goRows_0 rfl ?_
      refine PW_V0 (d2 := 1) (st := []) [] c_M_goRows_1 lk_M_goRows_299 (po_70 _ _) rfl rfl rfl (Nat.le_of_ble_eq_true rfl) (by first | decide | omega) (Nat.le_of_ble_eq_true rfl) ?_
      refine sp_M_home s ha ?_
      rw [g5]
      show PW _ _ _ 4 [some (.ref 70), some (.int (nI k)), none, none, none, none] [.int (m + wayN y a 0)] (E x Y)
      refine PW_aload_n c_M_goRows_4 rfl ?_
      refine PW_get (v := .int (Y.1 596)) c_M_goRows_5 fl_M_302 (gf_70_36 _ _) ?_
      rw [hb.1]
      show PW _ _ _ 8 [some (.ref 70), some (.int (nI k)), none, none, none, none] [.int B.1, .int (m + wayN y a 0)] (E x Y)
      refine PW_icmp_le c_M_goRows_8 (fun h0 => absurd h0 hfar) (fun h0 => ?_)
      refine PW_vreturn c_M_goRows_11 rfl ?_
      exact h
