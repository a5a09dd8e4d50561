/-! the class's search -/
theorem lp_S_keep {k : Nat} {hh : Int32} {y : XS} (hk : k ≤ 6) : ∀ (jj i : Nat) (X : XS), i + jj = k → ∃ X' : XS, (∀ n, X'.1 n = X.1 n) ∧ (∀ a, a ≠ 34 → X'.2.1 a = X.2.1 a) ∧ X'.2.2 = X.2.2 ∧ (∀ q, q < i → X'.2.1 34 q = X.2.1 34 q) ∧ (∀ q, i ≤ q → q < k → X'.2.1 34 q = X.2.1 33 q) ∧ ∀ {z : ZS} {post : Option Value → List PE → Prop}, post none (E X' y) → PW (0, 0, 0, z) m_S_keepRow post 17 [some (.ref 32), some (.int hh), some (.int (nI k)), some (.int (nI i))] [] (E X y) := by
  intro jj
  induction jj with
  | zero =>
    intro i X hi
    refine ⟨X, fun _ => rfl, fun _ _ => rfl, rfl, fun _ _ => rfl, fun q h1 h2 => by omega, fun {z post} h => ?_⟩
    refine PW_iload_n c_S_keepRow_17 rfl ?_
    refine PW_iload_n c_S_keepRow_18 rfl ?_
    refine PW_icmp_ge c_S_keepRow_19 (fun h0 => ?_) (fun h0 => absurd ((nI_leI (by omega) (by omega)).mpr (by omega)) h0)
    refine PW_vreturn c_S_keepRow_46 rfl ?_
    exact h
  | succ jj ih =>
    intro i X hi
    obtain ⟨X', f1, f2, f3, f4, f5, H⟩ := ih (i + 1) (sA X 34 (upd (X.2.1 34) i (X.2.1 33 i))) (by omega)
    refine ⟨X', f1, fun a ha => (f2 a ha).trans (by rw [sA_A, if_neg ha]), f3, fun q hq => (f4 q (by omega)).trans (by rw [sA_A, if_pos rfl, upd_n (by omega)]), fun q h1 h2 => ?_, fun {z post} h => ?_⟩
    · by_cases e : q = i
      · subst e; exact (f4 q (by omega)).trans (by rw [sA_A, if_pos rfl, upd_s])
      · exact (f5 q (by omega) h2).trans (by rw [sA_A, if_neg (by decide)])
    · skip
      refine PW_iload_n c_S_keepRow_17 rfl ?_
      refine PW_iload_n c_S_keepRow_18 rfl ?_
      refine PW_icmp_ge c_S_keepRow_19 (fun h0 => absurd h0 (fun q => absurd ((nI_leI (by omega) (by omega)).mp q) (by omega))) (fun h0 => ?_)
      refine PW_iload_n c_S_keepRow_22 rfl ?_
      refine PW_bipush (v := 6) c_S_keepRow_23 (by decide) ?_
      refine PW_icmp_ge c_S_keepRow_25 (fun h1 => absurd h1 (fun q => absurd ((nI_leI (a := 6) (by omega) (by omega)).mp q) (by omega))) (fun h1 => ?_)
      refine PW_aload_n c_S_keepRow_28 rfl ?_
      refine PW_get (v := .ref 34) c_S_keepRow_29 fl_S_15 (gf_32_3 _ _) ?_
      refine PW_iload_n c_S_keepRow_32 rfl ?_
      refine PW_aload_n c_S_keepRow_33 rfl ?_
      refine PW_get (v := .ref 33) c_S_keepRow_34 fl_S_11 (gf_32_2 _ _) ?_
      refine PW_iload_n c_S_keepRow_37 rfl ?_
      refine PW_iald (j := i) c_S_keepRow_38 (ar_33 _ _) (vp_in_nI (by omega) (by decide)) (nI_clamp (by omega)) ?_
      show PW _ _ _ 39 [some (.ref 32), some (.int hh), some (.int (nI k)), some (.int (nI i))] [.int ((X.2.1 33) i), .int (nI i), .ref 34] (E X y)
      refine PW_iast (j := i) (w2 := E (sA X 34 (upd (X.2.1 34) i ((X.2.1 33) i))) y) c_S_keepRow_39 (ar_34 _ _) (vp_in_nI (by omega) (by decide)) (nI_clamp (by omega)) (aw_34 _ _ _) ?_
      refine PW_iinc (i := 3) (v := (nI i) + 1) (L2 := [some (.ref 32), some (.int hh), some (.int (nI k)), some (.int ((nI i) + 1))]) c_S_keepRow_40 rfl (iinc_v (by decide)) (Nat.le_of_ble_eq_true rfl) rfl rfl ?_
      refine PW_goto c_S_keepRow_43 ?_
      refine PW.eqL ?_ rfl rfl (H h)
      show ([some (.ref 32), some (.int hh), some (.int (nI k)), some (.int ((nI i) + 1))] : List (Option Value)) = [some (.ref 32), some (.int hh), some (.int (nI k)), some (.int (nI (i + 1)))]
      rw [nI_1]
theorem sp_S_keep {k : Nat} {hh : Int32} {X y : XS} (hk : k ≤ 6) : ∃ X' : XS, X'.1 261 = hh ∧ X'.1 260 = nI k ∧ X'.1 262 = 1 ∧ xS X X' ∧ X'.2.1 33 = X.2.1 33 ∧ (∀ q, q < k → X'.2.1 34 q = X.2.1 33 q) ∧ ∀ {z : ZS} {post : Option Value → List PE → Prop}, post none (E X' y) → PW (0, 0, 0, z) m_S_keepRow post 0 [some (.ref 32), some (.int hh), some (.int (nI k)), none] [] (E X y) := by
  obtain ⟨X', f1, f2, f3, f4, f5, HK⟩ := lp_S_keep (y := y) (hh := hh) hk k 0 (sI (sI (sI X 262 1) 261 hh) 260 (nI k)) (Nat.zero_add _)
  refine ⟨X', ?_, ?_, ?_, ⟨fun n q => ?_, fun a q => f2 a (by omega), f3⟩, f2 33 (by decide), fun q hq => f5 q (Nat.zero_le _) hq, fun {z post} h => ?_⟩
  · rw [f1, sI_n (by decide), sI_s]
  · rw [f1, sI_s]
  · rw [f1, sI_n (by decide), sI_n (by decide), sI_s]
  · rw [f1, sI_n (by omega), sI_n (by omega), sI_n (by omega)]
  · skip
    refine PW_aload_n c_S_keepRow_0 rfl ?_
    refine PW_iconst (v := 1) c_S_keepRow_1 (by decide) ?_
    refine PW_put (w2 := E (sI X 262 1) y) c_S_keepRow_2 fp_S_keepRow_26 rfl (pf_32_6 _ _ _) ?_
    refine PW_aload_n c_S_keepRow_5 rfl ?_
    refine PW_iload_n c_S_keepRow_6 rfl ?_
    refine PW_put (w2 := E (sI (sI X 262 1) 261 hh) y) c_S_keepRow_7 fp_S_keepRow_30 rfl (pf_32_5 _ _ _) ?_
    refine PW_aload_n c_S_keepRow_10 rfl ?_
    refine PW_iload_n c_S_keepRow_11 rfl ?_
    refine PW_put (w2 := E (sI (sI (sI X 262 1) 261 hh) 260 (nI k)) y) c_S_keepRow_12 fp_S_keepRow_34 rfl (pf_32_4 _ _ _) ?_
    refine PW_iconst (v := 0) c_S_keepRow_15 (by decide) ?_
    refine PW_istore_n (i := 3) (L2 := [some (.ref 32), some (.int hh), some (.int (nI k)), some (.int 0)]) c_S_keepRow_16 rfl (Nat.le_of_ble_eq_true rfl) rfl rfl ?_
    exact HK h
theorem roA_le (o h : Nat → Bool) : roA o h ≤ 10 := by
  have h2 : ∀ (f : Nat → Bool), sB f 5 ≤ 5 := fun f => by
    have := fun i => tN_1 (a := f i)
    have a0 := this 0; have a1 := this 1; have a2 := this 2; have a3 := this 3; have a4 := this 4
    simp only [sB]
    omega
  have h3 := h2 o
  have h4 := h2 h
  unfold roA
  omega
def bsX (X : XS) (B : Cd) : Prop := X.1 261 = B.1 ∧ X.1 260 = nI B.2.1 ∧ B.2.1 ≤ 7 ∧ (∀ i, i < B.2.1 → i < 6 → X.2.1 34 i = B.2.2 i) ∧ X.1 262 = if B.2.1 = 7 then 0 else 1
def rwX (X : XS) (row : Nat → Int32) (k : Nat) : Prop := ∀ i, i < k → X.2.1 33 i = row i
theorem gs_head {T : Option Txt} {x y : XS} (C : CPg x y) {j k a Bd d : Nat} {m t : Int32} {row : Nat → Int32} {B : Cd} {X : XS} (hd : 3 ≤ d) (hkj : k + j = 6) (hX : xS x X) (ha : a < 5) (hm : 0 ≤ m.toInt ∧ m.toInt ≤ Bd) (hB : Bd + 66 * j < 900000) (hr : rwX X row k) (hb : bsX X B) (hL : mustB y &&& (t ^^^ -1) = 0 → cL T y j k (a, m, t) row = [(m + wayN y a 0, k, row)]) (HR0 : ¬ mustB y &&& (t ^^^ -1) = 0 → roA (rAo y m t) (rAh y m t) ≤ j → ∃ X' : XS, (xS x X' ∧ rwX X' row k ∧ bsX X' ((cL T y j k (a, m, t) row).foldl btr B)) ∧ ∀ {z : ZS} {post : Option Value → List PE → Prop}, post none (E X' y) → PW (d, 0, 0, z) m_S_seek post 79 [some (.ref 32), some (.int (nI a)), some (.int m), some (.int t), some (.int (nI k)), some (.int (m + wayN y a 0)), none] [] (E X y)) : ∃ X' : XS, (xS x X' ∧ rwX X' row k ∧ bsX X' ((cL T y j k (a, m, t) row).foldl btr B)) ∧ ∀ {z : ZS} {post : Option Value → List PE → Prop}, post none (E X' y) → PW (d, 0, 0, z) m_S_seek post 0 [some (.ref 32), some (.int (nI a)), some (.int m), some (.int t), some (.int (nI k)), none, none] [] (E X y) := by
  have CX : CPg X y := CPg_S C hX (yS_0 y)
  have hb7 := hb.2.2.1
  have e6 : (6 : Int32) - nI k = nI j := by
    refine Int32.toInt_inj.mp ?_
    rw [show (6 : Int32) = nI 6 from rfl, ti_sub (by rw [nI_toInt (by omega), nI_toInt (by omega)]; omega) (by rw [nI_toInt (by omega), nI_toInt (by omega)]; omega), nI_toInt (by omega), nI_toInt (by omega), nI_toInt (by omega)]
    omega
  have h6k : ∀ {v : Int32}, v ≤ 6 - nI k → v ≤ nI j := fun q => e6 ▸ q
  have h6k2 : ∀ {v : Int32}, v ≤ nI j → v ≤ 6 - nI k := fun q => e6.symm ▸ q
  by_cases hgt : B.1 < m + wayN y a 0
  · refine ⟨X, ⟨hX, hr, ?_⟩, fun {z post} h => ?_⟩
    · rw [cL_far C ha hm hB (Or.inl hgt)]
      exact hb
    · skip
      refine PW_iload_n c_S_seek_0 rfl ?_
      refine PW_aload_n c_S_seek_1 rfl ?_
      refine PW_get (v := .ref 6) c_S_seek_2 fl_S_18 (gf_32_0 _ _) ?_
      refine PW_iload_n c_S_seek_5 rfl ?_
      refine PW_iconst (v := 0) c_S_seek_6 (by decide) ?_
      refine PW_V0 (d2 := 1) (st := [.int m]) [.int (nI a), .int 0] c_S_seek_7 lk_S_seek_41 (po_6 _ _) rfl rfl rfl (Nat.le_of_ble_eq_true rfl) (by first | decide | omega) (Nat.le_of_ble_eq_true rfl) ?_
      refine sp_H_wayBetween (b := 0) CX rfl rfl ha (by decide) ?_
      show PW _ _ _ 10 [some (.ref 32), some (.int (nI a)), some (.int m), some (.int t), some (.int (nI k)), none, none] [.int (wayN y a 0), .int m] (E X y)
      refine PW_iadd c_S_seek_10 ?_
      refine PW_istore (i := 5) (L2 := [some (.ref 32), some (.int (nI a)), some (.int m), some (.int t), some (.int (nI k)), some (.int (m + (wayN y a 0))), none]) c_S_seek_11 (Nat.le_of_ble_eq_true rfl) rfl rfl ?_
      refine PW_iload c_S_seek_13 rfl ?_
      refine PW_aload_n c_S_seek_15 rfl ?_
      refine PW_get (v := .int (X.1 261)) c_S_seek_16 fl_S_30 (gf_32_5 _ _) ?_
      rw [hb.1]
      show PW _ _ _ 19 [some (.ref 32), some (.int (nI a)), some (.int m), some (.int t), some (.int (nI k)), some (.int (m + (wayN y a 0))), none] [.int B.1, .int (m + (wayN y a 0))] (E X y)
      refine PW_icmp_gt c_S_seek_19 (fun h0 => ?_) (fun h0 => absurd hgt h0)
      refine PW_vreturn c_S_seek_40 rfl ?_
      exact h
  · have hge := Int32.not_lt.mp hgt
    by_cases heq : m + wayN y a 0 = B.1
    · by_cases hk2 : k < B.2.1
      · skip
        by_cases hm0 : mustB y &&& (t ^^^ -1) = 0
        · obtain ⟨X', f1, f2, f3, f4, f5, f6, HK⟩ := sp_S_keep (X := X) (y := y) (k := k) (hh := m + wayN y a 0) (by omega)
          refine ⟨X', ⟨xS_t hX f4, fun i hi => by rw [f5]; exact hr i hi, ?_⟩, fun {z post} h => ?_⟩
          · rw [hL hm0, List.foldl_cons, List.foldl_nil, btr, if_pos (show beats B (m + wayN y a 0, k, row) from Or.inr ⟨heq, hk2⟩)]
            exact ⟨f1, f2, by show k ≤ 7; omega, fun i hi _ => by rw [f6 i hi]; exact hr i hi, by rw [f3, if_neg (show ¬ k = 7 by omega)]⟩
          · skip
            refine PW_iload_n c_S_seek_0 rfl ?_
            refine PW_aload_n c_S_seek_1 rfl ?_
            refine PW_get (v := .ref 6) c_S_seek_2 fl_S_18 (gf_32_0 _ _) ?_
            refine PW_iload_n c_S_seek_5 rfl ?_
            refine PW_iconst (v := 0) c_S_seek_6 (by decide) ?_
            refine PW_V0 (d2 := 1) (st := [.int m]) [.int (nI a), .int 0] c_S_seek_7 lk_S_seek_41 (po_6 _ _) rfl rfl rfl (Nat.le_of_ble_eq_true rfl) (by first | decide | omega) (Nat.le_of_ble_eq_true rfl) ?_
            refine sp_H_wayBetween (b := 0) CX rfl rfl ha (by decide) ?_
            show PW _ _ _ 10 [some (.ref 32), some (.int (nI a)), some (.int m), some (.int t), some (.int (nI k)), none, none] [.int (wayN y a 0), .int m] (E X y)
            refine PW_iadd c_S_seek_10 ?_
            refine PW_istore (i := 5) (L2 := [some (.ref 32), some (.int (nI a)), some (.int m), some (.int t), some (.int (nI k)), some (.int (m + (wayN y a 0))), none]) c_S_seek_11 (Nat.le_of_ble_eq_true rfl) rfl rfl ?_
            refine PW_iload c_S_seek_13 rfl ?_
            refine PW_aload_n c_S_seek_15 rfl ?_
            refine PW_get (v := .int (X.1 261)) c_S_seek_16 fl_S_30 (gf_32_5 _ _) ?_
            rw [hb.1]
            show PW _ _ _ 19 [some (.ref 32), some (.int (nI a)), some (.int m), some (.int t), some (.int (nI k)), some (.int (m + (wayN y a 0))), none] [.int B.1, .int (m + (wayN y a 0))] (E X y)
            refine PW_icmp_gt c_S_seek_19 (fun h0 => absurd h0 (Int32.not_lt.mpr hge)) (fun h0 => ?_)
            refine PW_iload c_S_seek_22 rfl ?_
            refine PW_aload_n c_S_seek_24 rfl ?_
            refine PW_get (v := .int (X.1 261)) c_S_seek_25 fl_S_30 (gf_32_5 _ _) ?_
            rw [hb.1]
            show PW _ _ _ 28 [some (.ref 32), some (.int (nI a)), some (.int m), some (.int t), some (.int (nI k)), some (.int (m + (wayN y a 0))), none] [.int B.1, .int (m + (wayN y a 0))] (E X y)
            refine PW_icmp_ne c_S_seek_28 (fun h1 => absurd h1 (not_not_intro heq)) (fun h1 => ?_)
            refine PW_iload c_S_seek_31 rfl ?_
            refine PW_aload_n c_S_seek_33 rfl ?_
            refine PW_get (v := .int (X.1 260)) c_S_seek_34 fl_S_34 (gf_32_4 _ _) ?_
            rw [hb.2.1]
            show PW _ _ _ 37 [some (.ref 32), some (.int (nI a)), some (.int m), some (.int t), some (.int (nI k)), some (.int (m + (wayN y a 0))), none] [.int (nI B.2.1), .int (nI k)] (E X y)
            refine PW_icmp_lt c_S_seek_37 (fun h2 => ?_) (fun h2 => absurd ((nI_ltI (by omega) (by omega)).mpr hk2) h2)
            refine PW_aload_n c_S_seek_41 rfl ?_
            refine PW_get (v := .ref 6) c_S_seek_42 fl_S_18 (gf_32_0 _ _) ?_
            refine PW_iload_n c_S_seek_45 rfl ?_
            refine PW_V0 (d2 := 0) (st := []) [.int t] c_S_seek_46 lk_S_seek_47 (po_6 _ _) rfl rfl rfl (Nat.le_of_ble_eq_true rfl) (by first | decide | omega) (Nat.le_of_ble_eq_true rfl) ?_
            show PW _ _ _ 0 [some (.ref 6), some (.int t)] [] (E X y)
            refine PW_aload_n c_H_missed_0 rfl ?_
            refine PW_get (v := .int (X.1 52)) c_H_missed_1 fl_H_45 (gf_6_4 _ _) ?_
            rw [CX.x52]
            show PW _ _ _ 4 [some (.ref 6), some (.int t)] [.int (mustB y)] (E X y)
            refine PW_iload_n c_H_missed_4 rfl ?_
            refine PW_iconst (v := -1) c_H_missed_5 (by decide) ?_
            refine PW_ixor c_H_missed_6 ?_
            refine PW_iand c_H_missed_7 ?_
            refine PW_ireturn (ty := .int) c_H_missed_8 rfl rfl ?_
            show PW _ _ _ 49 [some (.ref 32), some (.int (nI a)), some (.int m), some (.int t), some (.int (nI k)), some (.int (m + (wayN y a 0))), none] [.int ((mustB y) &&& (t ^^^ (-1)))] (E X y)
            refine PW_if_ne c_S_seek_49 (fun h3 => absurd h3 (not_not_intro hm0)) (fun h3 => ?_)
            refine PW_aload_n c_S_seek_52 rfl ?_
            refine PW_iload c_S_seek_53 rfl ?_
            refine PW_iload c_S_seek_55 rfl ?_
            refine PW_V0 (d2 := 0) (st := []) [.int (m + (wayN y a 0)), .int (nI k)] c_S_seek_57 lk_S_seek_51 (po_32 _ _) rfl rfl rfl (Nat.le_of_ble_eq_true rfl) (by first | decide | omega) (Nat.le_of_ble_eq_true rfl) ?_
            refine HK ?_
            show PW _ _ _ 60 [some (.ref 32), some (.int (nI a)), some (.int m), some (.int t), some (.int (nI k)), some (.int (m + (wayN y a 0))), none] [] (E (X') y)
            refine PW_vreturn c_S_seek_60 rfl ?_
            exact h
        · by_cases hra : roA (rAo y m t) (rAh y m t) ≤ j
          · obtain ⟨X', hP, HR⟩ := HR0 hm0 hra
            refine ⟨X', hP, fun {z post} h => ?_⟩
            refine PW_iload_n c_S_seek_0 rfl ?_
            refine PW_aload_n c_S_seek_1 rfl ?_
            refine PW_get (v := .ref 6) c_S_seek_2 fl_S_18 (gf_32_0 _ _) ?_
            refine PW_iload_n c_S_seek_5 rfl ?_
            refine PW_iconst (v := 0) c_S_seek_6 (by decide) ?_
            refine PW_V0 (d2 := 1) (st := [.int m]) [.int (nI a), .int 0] c_S_seek_7 lk_S_seek_41 (po_6 _ _) rfl rfl rfl (Nat.le_of_ble_eq_true rfl) (by first | decide | omega) (Nat.le_of_ble_eq_true rfl) ?_
            refine sp_H_wayBetween (b := 0) CX rfl rfl ha (by decide) ?_
            show PW _ _ _ 10 [some (.ref 32), some (.int (nI a)), some (.int m), some (.int t), some (.int (nI k)), none, none] [.int (wayN y a 0), .int m] (E X y)
            refine PW_iadd c_S_seek_10 ?_
            refine PW_istore (i := 5) (L2 := [some (.ref 32), some (.int (nI a)), some (.int m), some (.int t), some (.int (nI k)), some (.int (m + (wayN y a 0))), none]) c_S_seek_11 (Nat.le_of_ble_eq_true rfl) rfl rfl ?_
            refine PW_iload c_S_seek_13 rfl ?_
            refine PW_aload_n c_S_seek_15 rfl ?_
            refine PW_get (v := .int (X.1 261)) c_S_seek_16 fl_S_30 (gf_32_5 _ _) ?_
            rw [hb.1]
            show PW _ _ _ 19 [some (.ref 32), some (.int (nI a)), some (.int m), some (.int t), some (.int (nI k)), some (.int (m + (wayN y a 0))), none] [.int B.1, .int (m + (wayN y a 0))] (E X y)
            refine PW_icmp_gt c_S_seek_19 (fun h0 => absurd h0 (Int32.not_lt.mpr hge)) (fun h0 => ?_)
            refine PW_iload c_S_seek_22 rfl ?_
            refine PW_aload_n c_S_seek_24 rfl ?_
            refine PW_get (v := .int (X.1 261)) c_S_seek_25 fl_S_30 (gf_32_5 _ _) ?_
            rw [hb.1]
            show PW _ _ _ 28 [some (.ref 32), some (.int (nI a)), some (.int m), some (.int t), some (.int (nI k)), some (.int (m + (wayN y a 0))), none] [.int B.1, .int (m + (wayN y a 0))] (E X y)
            refine PW_icmp_ne c_S_seek_28 (fun h1 => absurd h1 (not_not_intro heq)) (fun h1 => ?_)
            refine PW_iload c_S_seek_31 rfl ?_
            refine PW_aload_n c_S_seek_33 rfl ?_
            refine PW_get (v := .int (X.1 260)) c_S_seek_34 fl_S_34 (gf_32_4 _ _) ?_
            rw [hb.2.1]
            show PW _ _ _ 37 [some (.ref 32), some (.int (nI a)), some (.int m), some (.int t), some (.int (nI k)), some (.int (m + (wayN y a 0))), none] [.int (nI B.2.1), .int (nI k)] (E X y)
            refine PW_icmp_lt c_S_seek_37 (fun h2 => ?_) (fun h2 => absurd ((nI_ltI (by omega) (by omega)).mpr hk2) h2)
            refine PW_aload_n c_S_seek_41 rfl ?_
            refine PW_get (v := .ref 6) c_S_seek_42 fl_S_18 (gf_32_0 _ _) ?_
            refine PW_iload_n c_S_seek_45 rfl ?_
            refine PW_V0 (d2 := 0) (st := []) [.int t] c_S_seek_46 lk_S_seek_47 (po_6 _ _) rfl rfl rfl (Nat.le_of_ble_eq_true rfl) (by first | decide | omega) (Nat.le_of_ble_eq_true rfl) ?_
            show PW _ _ _ 0 [some (.ref 6), some (.int t)] [] (E X y)
            refine PW_aload_n c_H_missed_0 rfl ?_
            refine PW_get (v := .int (X.1 52)) c_H_missed_1 fl_H_45 (gf_6_4 _ _) ?_
            rw [CX.x52]
            show PW _ _ _ 4 [some (.ref 6), some (.int t)] [.int (mustB y)] (E X y)
            refine PW_iload_n c_H_missed_4 rfl ?_
            refine PW_iconst (v := -1) c_H_missed_5 (by decide) ?_
            refine PW_ixor c_H_missed_6 ?_
            refine PW_iand c_H_missed_7 ?_
            refine PW_ireturn (ty := .int) c_H_missed_8 rfl rfl ?_
            show PW _ _ _ 49 [some (.ref 32), some (.int (nI a)), some (.int m), some (.int t), some (.int (nI k)), some (.int (m + (wayN y a 0))), none] [.int ((mustB y) &&& (t ^^^ (-1)))] (E X y)
            refine PW_if_ne c_S_seek_49 (fun h3 => ?_) (fun h3 => absurd h3 hm0)
            refine PW_aload_n c_S_seek_61 rfl ?_
            refine PW_get (v := .ref 6) c_S_seek_62 fl_S_18 (gf_32_0 _ _) ?_
            refine PW_iload_n c_S_seek_65 rfl ?_
            refine PW_iload_n c_S_seek_66 rfl ?_
            refine PW_V0 (d2 := 2) (st := []) [.int m, .int t] c_S_seek_67 lk_S_seek_55 (po_6 _ _) rfl rfl rfl (Nat.le_of_ble_eq_true rfl) (by first | decide | omega) (Nat.le_of_ble_eq_true rfl) ?_
            refine sp_H_ra CX hm.1 ?_
            show PW _ _ _ 70 [some (.ref 32), some (.int (nI a)), some (.int m), some (.int t), some (.int (nI k)), some (.int (m + (wayN y a 0))), none] [.int (nI (roA (rAo y m t) (rAh y m t)))] (E X y)
            refine PW_bipush (v := 6) c_S_seek_70 (by decide) ?_
            refine PW_iload c_S_seek_72 rfl ?_
            refine PW_isub c_S_seek_74 ?_
            refine PW_icmp_le c_S_seek_75 (fun h4 => ?_) (fun h4 => absurd (h6k2 ((nI_leI (by have := roA_le (rAo y m t) (rAh y m t); omega) (by omega)).mpr hra)) h4)
            exact HR h
          · refine ⟨X, ⟨hX, hr, ?_⟩, fun {z post} h => ?_⟩
            · rw [cL_nil C ha hm hB (by omega)]
              exact hb
            · skip
              refine PW_iload_n c_S_seek_0 rfl ?_
              refine PW_aload_n c_S_seek_1 rfl ?_
              refine PW_get (v := .ref 6) c_S_seek_2 fl_S_18 (gf_32_0 _ _) ?_
              refine PW_iload_n c_S_seek_5 rfl ?_
              refine PW_iconst (v := 0) c_S_seek_6 (by decide) ?_
              refine PW_V0 (d2 := 1) (st := [.int m]) [.int (nI a), .int 0] c_S_seek_7 lk_S_seek_41 (po_6 _ _) rfl rfl rfl (Nat.le_of_ble_eq_true rfl) (by first | decide | omega) (Nat.le_of_ble_eq_true rfl) ?_
              refine sp_H_wayBetween (b := 0) CX rfl rfl ha (by decide) ?_
              show PW _ _ _ 10 [some (.ref 32), some (.int (nI a)), some (.int m), some (.int t), some (.int (nI k)), none, none] [.int (wayN y a 0), .int m] (E X y)
              refine PW_iadd c_S_seek_10 ?_
              refine PW_istore (i := 5) (L2 := [some (.ref 32), some (.int (nI a)), some (.int m), some (.int t), some (.int (nI k)), some (.int (m + (wayN y a 0))), none]) c_S_seek_11 (Nat.le_of_ble_eq_true rfl) rfl rfl ?_
              refine PW_iload c_S_seek_13 rfl ?_
              refine PW_aload_n c_S_seek_15 rfl ?_
              refine PW_get (v := .int (X.1 261)) c_S_seek_16 fl_S_30 (gf_32_5 _ _) ?_
              rw [hb.1]
              show PW _ _ _ 19 [some (.ref 32), some (.int (nI a)), some (.int m), some (.int t), some (.int (nI k)), some (.int (m + (wayN y a 0))), none] [.int B.1, .int (m + (wayN y a 0))] (E X y)
              refine PW_icmp_gt c_S_seek_19 (fun h0 => absurd h0 (Int32.not_lt.mpr hge)) (fun h0 => ?_)
              refine PW_iload c_S_seek_22 rfl ?_
              refine PW_aload_n c_S_seek_24 rfl ?_
              refine PW_get (v := .int (X.1 261)) c_S_seek_25 fl_S_30 (gf_32_5 _ _) ?_
              rw [hb.1]
              show PW _ _ _ 28 [some (.ref 32), some (.int (nI a)), some (.int m), some (.int t), some (.int (nI k)), some (.int (m + (wayN y a 0))), none] [.int B.1, .int (m + (wayN y a 0))] (E X y)
              refine PW_icmp_ne c_S_seek_28 (fun h1 => absurd h1 (not_not_intro heq)) (fun h1 => ?_)
              refine PW_iload c_S_seek_31 rfl ?_
              refine PW_aload_n c_S_seek_33 rfl ?_
              refine PW_get (v := .int (X.1 260)) c_S_seek_34 fl_S_34 (gf_32_4 _ _) ?_
              rw [hb.2.1]
              show PW _ _ _ 37 [some (.ref 32), some (.int (nI a)), some (.int m), some (.int t), some (.int (nI k)), some (.int (m + (wayN y a 0))), none] [.int (nI B.2.1), .int (nI k)] (E X y)
              refine PW_icmp_lt c_S_seek_37 (fun h2 => ?_) (fun h2 => absurd ((nI_ltI (by omega) (by omega)).mpr hk2) h2)
              refine PW_aload_n c_S_seek_41 rfl ?_
              refine PW_get (v := .ref 6) c_S_seek_42 fl_S_18 (gf_32_0 _ _) ?_
              refine PW_iload_n c_S_seek_45 rfl ?_
              refine PW_V0 (d2 := 0) (st := []) [.int t] c_S_seek_46 lk_S_seek_47 (po_6 _ _) rfl rfl rfl (Nat.le_of_ble_eq_true rfl) (by first | decide | omega) (Nat.le_of_ble_eq_true rfl) ?_
              show PW _ _ _ 0 [some (.ref 6), some (.int t)] [] (E X y)
              refine PW_aload_n c_H_missed_0 rfl ?_
              refine PW_get (v := .int (X.1 52)) c_H_missed_1 fl_H_45 (gf_6_4 _ _) ?_
              rw [CX.x52]
              show PW _ _ _ 4 [some (.ref 6), some (.int t)] [.int (mustB y)] (E X y)
              refine PW_iload_n c_H_missed_4 rfl ?_
              refine PW_iconst (v := -1) c_H_missed_5 (by decide) ?_
              refine PW_ixor c_H_missed_6 ?_
              refine PW_iand c_H_missed_7 ?_
              refine PW_ireturn (ty := .int) c_H_missed_8 rfl rfl ?_
              show PW _ _ _ 49 [some (.ref 32), some (.int (nI a)), some (.int m), some (.int t), some (.int (nI k)), some (.int (m + (wayN y a 0))), none] [.int ((mustB y) &&& (t ^^^ (-1)))] (E X y)
              refine PW_if_ne c_S_seek_49 (fun h3 => ?_) (fun h3 => absurd h3 hm0)
              refine PW_aload_n c_S_seek_61 rfl ?_
              refine PW_get (v := .ref 6) c_S_seek_62 fl_S_18 (gf_32_0 _ _) ?_
              refine PW_iload_n c_S_seek_65 rfl ?_
              refine PW_iload_n c_S_seek_66 rfl ?_
              refine PW_V0 (d2 := 2) (st := []) [.int m, .int t] c_S_seek_67 lk_S_seek_55 (po_6 _ _) rfl rfl rfl (Nat.le_of_ble_eq_true rfl) (by first | decide | omega) (Nat.le_of_ble_eq_true rfl) ?_
              refine sp_H_ra CX hm.1 ?_
              show PW _ _ _ 70 [some (.ref 32), some (.int (nI a)), some (.int m), some (.int t), some (.int (nI k)), some (.int (m + (wayN y a 0))), none] [.int (nI (roA (rAo y m t) (rAh y m t)))] (E X y)
              refine PW_bipush (v := 6) c_S_seek_70 (by decide) ?_
              refine PW_iload c_S_seek_72 rfl ?_
              refine PW_isub c_S_seek_74 ?_
              refine PW_icmp_le c_S_seek_75 (fun h4 => absurd h4 (fun q => absurd ((nI_leI (by have := roA_le (rAo y m t) (rAh y m t); omega) (by omega)).mp (h6k q)) hra)) (fun h4 => ?_)
              refine PW_vreturn c_S_seek_78 rfl ?_
              exact h
      · refine ⟨X, ⟨hX, hr, ?_⟩, fun {z post} h => ?_⟩
        · rw [cL_far C ha hm hB (Or.inr ⟨heq, by omega⟩)]
          exact hb
        · skip
          refine PW_iload_n c_S_seek_0 rfl ?_
          refine PW_aload_n c_S_seek_1 rfl ?_
          refine PW_get (v := .ref 6) c_S_seek_2 fl_S_18 (gf_32_0 _ _) ?_
          refine PW_iload_n c_S_seek_5 rfl ?_
          refine PW_iconst (v := 0) c_S_seek_6 (by decide) ?_
          refine PW_V0 (d2 := 1) (st := [.int m]) [.int (nI a), .int 0] c_S_seek_7 lk_S_seek_41 (po_6 _ _) rfl rfl rfl (Nat.le_of_ble_eq_true rfl) (by first | decide | omega) (Nat.le_of_ble_eq_true rfl) ?_
          refine sp_H_wayBetween (b := 0) CX rfl rfl ha (by decide) ?_
          show PW _ _ _ 10 [some (.ref 32), some (.int (nI a)), some (.int m), some (.int t), some (.int (nI k)), none, none] [.int (wayN y a 0), .int m] (E X y)
          refine PW_iadd c_S_seek_10 ?_
          refine PW_istore (i := 5) (L2 := [some (.ref 32), some (.int (nI a)), some (.int m), some (.int t), some (.int (nI k)), some (.int (m + (wayN y a 0))), none]) c_S_seek_11 (Nat.le_of_ble_eq_true rfl) rfl rfl ?_
          refine PW_iload c_S_seek_13 rfl ?_
          refine PW_aload_n c_S_seek_15 rfl ?_
          refine PW_get (v := .int (X.1 261)) c_S_seek_16 fl_S_30 (gf_32_5 _ _) ?_
          rw [hb.1]
          show PW _ _ _ 19 [some (.ref 32), some (.int (nI a)), some (.int m), some (.int t), some (.int (nI k)), some (.int (m + (wayN y a 0))), none] [.int B.1, .int (m + (wayN y a 0))] (E X y)
          refine PW_icmp_gt c_S_seek_19 (fun h0 => absurd h0 (Int32.not_lt.mpr hge)) (fun h0 => ?_)
          refine PW_iload c_S_seek_22 rfl ?_
          refine PW_aload_n c_S_seek_24 rfl ?_
          refine PW_get (v := .int (X.1 261)) c_S_seek_25 fl_S_30 (gf_32_5 _ _) ?_
          rw [hb.1]
          show PW _ _ _ 28 [some (.ref 32), some (.int (nI a)), some (.int m), some (.int t), some (.int (nI k)), some (.int (m + (wayN y a 0))), none] [.int B.1, .int (m + (wayN y a 0))] (E X y)
          refine PW_icmp_ne c_S_seek_28 (fun h1 => absurd h1 (not_not_intro heq)) (fun h1 => ?_)
          refine PW_iload c_S_seek_31 rfl ?_
          refine PW_aload_n c_S_seek_33 rfl ?_
          refine PW_get (v := .int (X.1 260)) c_S_seek_34 fl_S_34 (gf_32_4 _ _) ?_
          rw [hb.2.1]
          show PW _ _ _ 37 [some (.ref 32), some (.int (nI a)), some (.int m), some (.int t), some (.int (nI k)), some (.int (m + (wayN y a 0))), none] [.int (nI B.2.1), .int (nI k)] (E X y)
          refine PW_icmp_lt c_S_seek_37 (fun h2 => absurd h2 (fun q => absurd ((nI_ltI (by omega) (by omega)).mp q) hk2)) (fun h2 => ?_)
          refine PW_vreturn c_S_seek_40 rfl ?_
          exact h
    · skip
      by_cases hm0 : mustB y &&& (t ^^^ -1) = 0
      · obtain ⟨X', f1, f2, f3, f4, f5, f6, HK⟩ := sp_S_keep (X := X) (y := y) (k := k) (hh := m + wayN y a 0) (by omega)
        refine ⟨X', ⟨xS_t hX f4, fun i hi => by rw [f5]; exact hr i hi, ?_⟩, fun {z post} h => ?_⟩
        · rw [hL hm0, List.foldl_cons, List.foldl_nil, btr, if_pos (show beats B (m + wayN y a 0, k, row) from Or.inl (by rw [Int32.le_iff_toInt_le] at hge; rcases Int.lt_or_eq_of_le hge with q | q; exact q; exact absurd (Int32.toInt_inj.mp q) heq))]
          exact ⟨f1, f2, by show k ≤ 7; omega, fun i hi _ => by rw [f6 i hi]; exact hr i hi, by rw [f3, if_neg (show ¬ k = 7 by omega)]⟩
        · skip
          refine PW_iload_n c_S_seek_0 rfl ?_
          refine PW_aload_n c_S_seek_1 rfl ?_
          refine PW_get (v := .ref 6) c_S_seek_2 fl_S_18 (gf_32_0 _ _) ?_
          refine PW_iload_n c_S_seek_5 rfl ?_
          refine PW_iconst (v := 0) c_S_seek_6 (by decide) ?_
          refine PW_V0 (d2 := 1) (st := [.int m]) [.int (nI a), .int 0] c_S_seek_7 lk_S_seek_41 (po_6 _ _) rfl rfl rfl (Nat.le_of_ble_eq_true rfl) (by first | decide | omega) (Nat.le_of_ble_eq_true rfl) ?_
          refine sp_H_wayBetween (b := 0) CX rfl rfl ha (by decide) ?_
          show PW _ _ _ 10 [some (.ref 32), some (.int (nI a)), some (.int m), some (.int t), some (.int (nI k)), none, none] [.int (wayN y a 0), .int m] (E X y)
          refine PW_iadd c_S_seek_10 ?_
          refine PW_istore (i := 5) (L2 := [some (.ref 32), some (.int (nI a)), some (.int m), some (.int t), some (.int (nI k)), some (.int (m + (wayN y a 0))), none]) c_S_seek_11 (Nat.le_of_ble_eq_true rfl) rfl rfl ?_
          refine PW_iload c_S_seek_13 rfl ?_
          refine PW_aload_n c_S_seek_15 rfl ?_
          refine PW_get (v := .int (X.1 261)) c_S_seek_16 fl_S_30 (gf_32_5 _ _) ?_
          rw [hb.1]
          show PW _ _ _ 19 [some (.ref 32), some (.int (nI a)), some (.int m), some (.int t), some (.int (nI k)), some (.int (m + (wayN y a 0))), none] [.int B.1, .int (m + (wayN y a 0))] (E X y)
          refine PW_icmp_gt c_S_seek_19 (fun h0 => absurd h0 (Int32.not_lt.mpr hge)) (fun h0 => ?_)
          refine PW_iload c_S_seek_22 rfl ?_
          refine PW_aload_n c_S_seek_24 rfl ?_
          refine PW_get (v := .int (X.1 261)) c_S_seek_25 fl_S_30 (gf_32_5 _ _) ?_
          rw [hb.1]
          show PW _ _ _ 28 [some (.ref 32), some (.int (nI a)), some (.int m), some (.int t), some (.int (nI k)), some (.int (m + (wayN y a 0))), none] [.int B.1, .int (m + (wayN y a 0))] (E X y)
          refine PW_icmp_ne c_S_seek_28 (fun h1 => ?_) (fun h1 => absurd h1 heq)
          refine PW_aload_n c_S_seek_41 rfl ?_
          refine PW_get (v := .ref 6) c_S_seek_42 fl_S_18 (gf_32_0 _ _) ?_
          refine PW_iload_n c_S_seek_45 rfl ?_
          refine PW_V0 (d2 := 0) (st := []) [.int t] c_S_seek_46 lk_S_seek_47 (po_6 _ _) rfl rfl rfl (Nat.le_of_ble_eq_true rfl) (by first | decide | omega) (Nat.le_of_ble_eq_true rfl) ?_
          show PW _ _ _ 0 [some (.ref 6), some (.int t)] [] (E X y)
          refine PW_aload_n c_H_missed_0 rfl ?_
          refine PW_get (v := .int (X.1 52)) c_H_missed_1 fl_H_45 (gf_6_4 _ _) ?_
          rw [CX.x52]
          show PW _ _ _ 4 [some (.ref 6), some (.int t)] [.int (mustB y)] (E X y)
          refine PW_iload_n c_H_missed_4 rfl ?_
          refine PW_iconst (v := -1) c_H_missed_5 (by decide) ?_
          refine PW_ixor c_H_missed_6 ?_
          refine PW_iand c_H_missed_7 ?_
          refine PW_ireturn (ty := .int) c_H_missed_8 rfl rfl ?_
          show PW _ _ _ 49 [some (.ref 32), some (.int (nI a)), some (.int m), some (.int t), some (.int (nI k)), some (.int (m + (wayN y a 0))), none] [.int ((mustB y) &&& (t ^^^ (-1)))] (E X y)
          refine PW_if_ne c_S_seek_49 (fun h2 => absurd h2 (not_not_intro hm0)) (fun h2 => ?_)
          refine PW_aload_n c_S_seek_52 rfl ?_
          refine PW_iload c_S_seek_53 rfl ?_
          refine PW_iload c_S_seek_55 rfl ?_
          refine PW_V0 (d2 := 0) (st := []) [.int (m + (wayN y a 0)), .int (nI k)] c_S_seek_57 lk_S_seek_51 (po_32 _ _) rfl rfl rfl (Nat.le_of_ble_eq_true rfl) (by first | decide | omega) (Nat.le_of_ble_eq_true rfl) ?_
          refine HK ?_
          show PW _ _ _ 60 [some (.ref 32), some (.int (nI a)), some (.int m), some (.int t), some (.int (nI k)), some (.int (m + (wayN y a 0))), none] [] (E (X') y)
          refine PW_vreturn c_S_seek_60 rfl ?_
          exact h
      · by_cases hra : roA (rAo y m t) (rAh y m t) ≤ j
        · obtain ⟨X', hP, HR⟩ := HR0 hm0 hra
          refine ⟨X', hP, fun {z post} h => ?_⟩
          refine PW_iload_n c_S_seek_0 rfl ?_
          refine PW_aload_n c_S_seek_1 rfl ?_
          refine PW_get (v := .ref 6) c_S_seek_2 fl_S_18 (gf_32_0 _ _) ?_
          refine PW_iload_n c_S_seek_5 rfl ?_
          refine PW_iconst (v := 0) c_S_seek_6 (by decide) ?_
          refine PW_V0 (d2 := 1) (st := [.int m]) [.int (nI a), .int 0] c_S_seek_7 lk_S_seek_41 (po_6 _ _) rfl rfl rfl (Nat.le_of_ble_eq_true rfl) (by first | decide | omega) (Nat.le_of_ble_eq_true rfl) ?_
          refine sp_H_wayBetween (b := 0) CX rfl rfl ha (by decide) ?_
          show PW _ _ _ 10 [some (.ref 32), some (.int (nI a)), some (.int m), some (.int t), some (.int (nI k)), none, none] [.int (wayN y a 0), .int m] (E X y)
          refine PW_iadd c_S_seek_10 ?_
          refine PW_istore (i := 5) (L2 := [some (.ref 32), some (.int (nI a)), some (.int m), some (.int t), some (.int (nI k)), some (.int (m + (wayN y a 0))), none]) c_S_seek_11 (Nat.le_of_ble_eq_true rfl) rfl rfl ?_
          refine PW_iload c_S_seek_13 rfl ?_
          refine PW_aload_n c_S_seek_15 rfl ?_
          refine PW_get (v := .int (X.1 261)) c_S_seek_16 fl_S_30 (gf_32_5 _ _) ?_
          rw [hb.1]
          show PW _ _ _ 19 [some (.ref 32), some (.int (nI a)), some (.int m), some (.int t), some (.int (nI k)), some (.int (m + (wayN y a 0))), none] [.int B.1, .int (m + (wayN y a 0))] (E X y)
          refine PW_icmp_gt c_S_seek_19 (fun h0 => absurd h0 (Int32.not_lt.mpr hge)) (fun h0 => ?_)
          refine PW_iload c_S_seek_22 rfl ?_
          refine PW_aload_n c_S_seek_24 rfl ?_
          refine PW_get (v := .int (X.1 261)) c_S_seek_25 fl_S_30 (gf_32_5 _ _) ?_
          rw [hb.1]
          show PW _ _ _ 28 [some (.ref 32), some (.int (nI a)), some (.int m), some (.int t), some (.int (nI k)), some (.int (m + (wayN y a 0))), none] [.int B.1, .int (m + (wayN y a 0))] (E X y)
          refine PW_icmp_ne c_S_seek_28 (fun h1 => ?_) (fun h1 => absurd h1 heq)
          refine PW_aload_n c_S_seek_41 rfl ?_
          refine PW_get (v := .ref 6) c_S_seek_42 fl_S_18 (gf_32_0 _ _) ?_
          refine PW_iload_n c_S_seek_45 rfl ?_
          refine PW_V0 (d2 := 0) (st := []) [.int t] c_S_seek_46 lk_S_seek_47 (po_6 _ _) rfl rfl rfl (Nat.le_of_ble_eq_true rfl) (by first | decide | omega) (Nat.le_of_ble_eq_true rfl) ?_
          show PW _ _ _ 0 [some (.ref 6), some (.int t)] [] (E X y)
          refine PW_aload_n c_H_missed_0 rfl ?_
          refine PW_get (v := .int (X.1 52)) c_H_missed_1 fl_H_45 (gf_6_4 _ _) ?_
          rw [CX.x52]
          show PW _ _ _ 4 [some (.ref 6), some (.int t)] [.int (mustB y)] (E X y)
          refine PW_iload_n c_H_missed_4 rfl ?_
          refine PW_iconst (v := -1) c_H_missed_5 (by decide) ?_
          refine PW_ixor c_H_missed_6 ?_
          refine PW_iand c_H_missed_7 ?_
          refine PW_ireturn (ty := .int) c_H_missed_8 rfl rfl ?_
          show PW _ _ _ 49 [some (.ref 32), some (.int (nI a)), some (.int m), some (.int t), some (.int (nI k)), some (.int (m + (wayN y a 0))), none] [.int ((mustB y) &&& (t ^^^ (-1)))] (E X y)
          refine PW_if_ne c_S_seek_49 (fun h2 => ?_) (fun h2 => absurd h2 hm0)
          refine PW_aload_n c_S_seek_61 rfl ?_
          refine PW_get (v := .ref 6) c_S_seek_62 fl_S_18 (gf_32_0 _ _) ?_
          refine PW_iload_n c_S_seek_65 rfl ?_
          refine PW_iload_n c_S_seek_66 rfl ?_
          refine PW_V0 (d2 := 2) (st := []) [.int m, .int t] c_S_seek_67 lk_S_seek_55 (po_6 _ _) rfl rfl rfl (Nat.le_of_ble_eq_true rfl) (by first | decide | omega) (Nat.le_of_ble_eq_true rfl) ?_
          refine sp_H_ra CX hm.1 ?_
          show PW _ _ _ 70 [some (.ref 32), some (.int (nI a)), some (.int m), some (.int t), some (.int (nI k)), some (.int (m + (wayN y a 0))), none] [.int (nI (roA (rAo y m t) (rAh y m t)))] (E X y)
          refine PW_bipush (v := 6) c_S_seek_70 (by decide) ?_
          refine PW_iload c_S_seek_72 rfl ?_
          refine PW_isub c_S_seek_74 ?_
          refine PW_icmp_le c_S_seek_75 (fun h3 => ?_) (fun h3 => absurd (h6k2 ((nI_leI (by have := roA_le (rAo y m t) (rAh y m t); omega) (by omega)).mpr hra)) h3)
          exact HR h
        · refine ⟨X, ⟨hX, hr, ?_⟩, fun {z post} h => ?_⟩
          · rw [cL_nil C ha hm hB (by omega)]
            exact hb
          · skip
            refine PW_iload_n c_S_seek_0 rfl ?_
            refine PW_aload_n c_S_seek_1 rfl ?_
            refine PW_get (v := .ref 6) c_S_seek_2 fl_S_18 (gf_32_0 _ _) ?_
            refine PW_iload_n c_S_seek_5 rfl ?_
            refine PW_iconst (v := 0) c_S_seek_6 (by decide) ?_
            refine PW_V0 (d2 := 1) (st := [.int m]) [.int (nI a), .int 0] c_S_seek_7 lk_S_seek_41 (po_6 _ _) rfl rfl rfl (Nat.le_of_ble_eq_true rfl) (by first | decide | omega) (Nat.le_of_ble_eq_true rfl) ?_
            refine sp_H_wayBetween (b := 0) CX rfl rfl ha (by decide) ?_
            show PW _ _ _ 10 [some (.ref 32), some (.int (nI a)), some (.int m), some (.int t), some (.int (nI k)), none, none] [.int (wayN y a 0), .int m] (E X y)
            refine PW_iadd c_S_seek_10 ?_
            refine PW_istore (i := 5) (L2 := [some (.ref 32), some (.int (nI a)), some (.int m), some (.int t), some (.int (nI k)), some (.int (m + (wayN y a 0))), none]) c_S_seek_11 (Nat.le_of_ble_eq_true rfl) rfl rfl ?_
            refine PW_iload c_S_seek_13 rfl ?_
            refine PW_aload_n c_S_seek_15 rfl ?_
            refine PW_get (v := .int (X.1 261)) c_S_seek_16 fl_S_30 (gf_32_5 _ _) ?_
            rw [hb.1]
            show PW _ _ _ 19 [some (.ref 32), some (.int (nI a)), some (.int m), some (.int t), some (.int (nI k)), some (.int (m + (wayN y a 0))), none] [.int B.1, .int (m + (wayN y a 0))] (E X y)
            refine PW_icmp_gt c_S_seek_19 (fun h0 => absurd h0 (Int32.not_lt.mpr hge)) (fun h0 => ?_)
            refine PW_iload c_S_seek_22 rfl ?_
            refine PW_aload_n c_S_seek_24 rfl ?_
            refine PW_get (v := .int (X.1 261)) c_S_seek_25 fl_S_30 (gf_32_5 _ _) ?_
            rw [hb.1]
            show PW _ _ _ 28 [some (.ref 32), some (.int (nI a)), some (.int m), some (.int t), some (.int (nI k)), some (.int (m + (wayN y a 0))), none] [.int B.1, .int (m + (wayN y a 0))] (E X y)
            refine PW_icmp_ne c_S_seek_28 (fun h1 => ?_) (fun h1 => absurd h1 heq)
            refine PW_aload_n c_S_seek_41 rfl ?_
            refine PW_get (v := .ref 6) c_S_seek_42 fl_S_18 (gf_32_0 _ _) ?_
            refine PW_iload_n c_S_seek_45 rfl ?_
            refine PW_V0 (d2 := 0) (st := []) [.int t] c_S_seek_46 lk_S_seek_47 (po_6 _ _) rfl rfl rfl (Nat.le_of_ble_eq_true rfl) (by first | decide | omega) (Nat.le_of_ble_eq_true rfl) ?_
            show PW _ _ _ 0 [some (.ref 6), some (.int t)] [] (E X y)
            refine PW_aload_n c_H_missed_0 rfl ?_
            refine PW_get (v := .int (X.1 52)) c_H_missed_1 fl_H_45 (gf_6_4 _ _) ?_
            rw [CX.x52]
            show PW _ _ _ 4 [some (.ref 6), some (.int t)] [.int (mustB y)] (E X y)
            refine PW_iload_n c_H_missed_4 rfl ?_
            refine PW_iconst (v := -1) c_H_missed_5 (by decide) ?_
            refine PW_ixor c_H_missed_6 ?_
            refine PW_iand c_H_missed_7 ?_
            refine PW_ireturn (ty := .int) c_H_missed_8 rfl rfl ?_
            show PW _ _ _ 49 [some (.ref 32), some (.int (nI a)), some (.int m), some (.int t), some (.int (nI k)), some (.int (m + (wayN y a 0))), none] [.int ((mustB y) &&& (t ^^^ (-1)))] (E X y)
            refine PW_if_ne c_S_seek_49 (fun h2 => ?_) (fun h2 => absurd h2 hm0)
            refine PW_aload_n c_S_seek_61 rfl ?_
            refine PW_get (v := .ref 6) c_S_seek_62 fl_S_18 (gf_32_0 _ _) ?_
            refine PW_iload_n c_S_seek_65 rfl ?_
            refine PW_iload_n c_S_seek_66 rfl ?_
            refine PW_V0 (d2 := 2) (st := []) [.int m, .int t] c_S_seek_67 lk_S_seek_55 (po_6 _ _) rfl rfl rfl (Nat.le_of_ble_eq_true rfl) (by first | decide | omega) (Nat.le_of_ble_eq_true rfl) ?_
            refine sp_H_ra CX hm.1 ?_
            show PW _ _ _ 70 [some (.ref 32), some (.int (nI a)), some (.int m), some (.int t), some (.int (nI k)), some (.int (m + (wayN y a 0))), none] [.int (nI (roA (rAo y m t) (rAh y m t)))] (E X y)
            refine PW_bipush (v := 6) c_S_seek_70 (by decide) ?_
            refine PW_iload c_S_seek_72 rfl ?_
            refine PW_isub c_S_seek_74 ?_
            refine PW_icmp_le c_S_seek_75 (fun h3 => absurd h3 (fun q => absurd ((nI_leI (by have := roA_le (rAo y m t) (rAh y m t); omega) (by omega)).mp (h6k q)) hra)) (fun h3 => ?_)
            refine PW_vreturn c_S_seek_78 rfl ?_
            exact h
