/-! the search's end -/
theorem beats_i {B c : Cd} : beats B c ↔ c.1.toInt < B.1.toInt ∨ (c.1.toInt = B.1.toInt ∧ c.2.1 < B.2.1) := by
  unfold beats
  rw [Int32.toInt_inj]
theorem nbeats_i {B c : Cd} : ¬ beats B c ↔ ¬ (c.1.toInt < B.1.toInt ∨ (c.1.toInt = B.1.toInt ∧ c.2.1 < B.2.1)) := not_congr beats_i
theorem fold_like : ∀ (L : List Cd) (B B' : Cd), B.1 = B'.1 → B.2.1 = B'.2.1 → (L.foldl btr B).1 = (L.foldl btr B').1 ∧ (L.foldl btr B).2.1 = (L.foldl btr B').2.1 ∧ (L.foldl btr B = L.foldl btr B' ∨ (L.foldl btr B = B ∧ L.foldl btr B' = B'))
  | [], _, _, h1, h2 => ⟨h1, h2, Or.inr ⟨rfl, rfl⟩⟩
  | c :: L, B, B', h1, h2 => by
    rw [List.foldl_cons, List.foldl_cons]
    by_cases q : beats B c
    · have q' : beats B' c := by unfold beats at q ⊢; rw [← h1, ← h2]; exact q
      rw [show btr B c = c from if_pos q, show btr B' c = c from if_pos q']
      exact ⟨rfl, rfl, Or.inl rfl⟩
    · have q' : ¬ beats B' c := by unfold beats at q ⊢; rw [← h1, ← h2]; exact q
      rw [show btr B c = B from if_neg q, show btr B' c = B' from if_neg q']
      exact fold_like L B B' h1 h2
theorem fold_mem : ∀ (L : List Cd) (B : Cd), (L.foldl btr B = B ∨ (L.foldl btr B ∈ L ∧ beats B (L.foldl btr B))) ∧ (∀ c ∈ L, ¬ beats (L.foldl btr B) c) ∧ ¬ beats (L.foldl btr B) B
  | [], B => ⟨Or.inl rfl, fun c hc => absurd hc List.not_mem_nil, by rw [List.foldl_nil, nbeats_i]; omega⟩
  | c :: L, B => by
    rw [List.foldl_cons]
    obtain ⟨i1, i2, i3⟩ := fold_mem L (btr B c)
    generalize L.foldl btr (btr B c) = R at i1 i2 i3 ⊢
    by_cases q : beats B c
    · rw [show btr B c = c from if_pos q] at i1 i3
      have q' := beats_i.mp q
      have i3' := nbeats_i.mp i3
      refine ⟨Or.inr ?_, fun d hd => ?_, nbeats_i.mpr (by omega)⟩
      · rcases i1 with i1 | ⟨i1, i4⟩
        · subst i1; exact ⟨List.mem_cons_self, q⟩
        · have i4' := beats_i.mp i4
          exact ⟨List.mem_cons_of_mem _ i1, beats_i.mpr (by omega)⟩
      · rcases List.mem_cons.mp hd with rfl | hd
        · exact i3
        · exact i2 d hd
    · rw [show btr B c = B from if_neg q] at i1 i3
      have q' := nbeats_i.mp q
      have i3' := nbeats_i.mp i3
      refine ⟨?_, fun d hd => ?_, i3⟩
      · rcases i1 with i1 | ⟨i1, i4⟩
        · exact Or.inl i1
        · exact Or.inr ⟨List.mem_cons_of_mem _ i1, i4⟩
      · rcases List.mem_cons.mp hd with rfl | hd
        · exact nbeats_i.mpr (by omega)
        · exact i2 d hd
theorem t1000 : (1000000 : Int32).toInt = 1000000 := by decide
theorem found_iff {L : List Cd} (hL : ∀ c ∈ L, c.1.toInt < 900000 ∧ c.2.1 ≤ 6) {v : Int32} {f g : Nat → Int32} : ¬ (L.foldl btr (v, 7, g)).2.1 = 7 ↔ ¬ (L.foldl btr (1000000, 7, f)).1 = 1000000 ∧ (L.foldl btr (1000000, 7, f)).1 ≤ v := by
  obtain ⟨a1, a2, a3⟩ := fold_mem L (v, 7, g)
  obtain ⟨b1, b2, b3⟩ := fold_mem L (1000000, 7, f)
  generalize L.foldl btr (v, 7, g) = R at a1 a2 a3 ⊢
  generalize L.foldl btr (1000000, 7, f) = F at b1 b2 b3 ⊢
  have := t1000
  rw [← Int32.toInt_inj, Int32.le_iff_toInt_le]
  constructor
  · intro h
    rcases a1 with rfl | ⟨a1, a4⟩
    · exact absurd rfl h
    · have q1 := hL R a1
      have q2 := nbeats_i.mp (b2 R a1)
      have q3 : R.1.toInt < v.toInt ∨ (R.1.toInt = v.toInt ∧ R.2.1 < 7) := beats_i.mp a4
      omega
  · rintro ⟨h1, h2⟩ h
    rcases b1 with rfl | ⟨b1, b4⟩
    · exact h1 rfl
    · rcases a1 with rfl | ⟨a1, a4⟩
      · have q1 := hL F b1
        have q2 : ¬ (F.1.toInt < v.toInt ∨ (F.1.toInt = v.toInt ∧ F.2.1 < 7)) := nbeats_i.mp (a2 F b1)
        omega
      · have q1 := hL R a1
        omega
theorem cL_b {T : Option Txt} {x y : XS} (C : CPg x y) {a : Nat} {m : Int32} (ha : a < 5) (hm : 0 ≤ m.toInt ∧ m.toInt ≤ 1000) : ∀ c ∈ cL T y 6 0 (a, m, 0) (fun _ => 0), (m + wayN y a 0).toInt ≤ c.1.toInt ∧ 0 ≤ c.1.toInt ∧ c.1.toInt < 900000 ∧ c.2.1 ≤ 6 := fun c hc => by
  obtain ⟨r1, r2, r3, r4⟩ := cL_ge C 6 0 a m 0 (fun _ => 0) 1000 ha (by omega) (by omega) c hc
  have h1 := wayN_b C ha (by decide : 0 < 5)
  have h2 := ti_add (x := m) (y := wayN y a 0) (by omega) (by omega)
  omega
theorem ite_b2i {n : Nat} : (if n = 7 then 0 else 1 : Int32) = b2i (¬ n = 7) := by
  unfold b2i
  by_cases h : n = 7
  · rw [if_pos h, if_neg (not_not_intro h)]
  · rw [if_neg h, if_pos h]
theorem sp_S_find {T : Option Txt} {x y X : XS} (C : CPg x y) (hT : lawIs T x y) {a : Nat} {m v : Int32} (hX : xS x X) (ha : a < 5) (hm : 0 ≤ m.toInt ∧ m.toInt ≤ 1000) : ∃ X' : XS, xS x X' ∧ bsX X' ((cL T y 6 0 (a, m, 0) (fun _ => 0)).foldl btr (v, 7, X.2.1 34)) ∧ ∀ {z : ZS} {post : Option Value → List PE → Prop}, post (some (.int (b2i (¬ ((cL T y 6 0 (a, m, 0) (fun _ => 0)).foldl btr (v, 7, X.2.1 34)).2.1 = 7)))) (E X' y) → PW (17, 0, 0, z) m_S_find post 0 [some (.ref 32), some (.int (nI a)), some (.int m), some (.int v)] [] (E X y) := by
  obtain ⟨X', ⟨p1, p2, p3⟩, H⟩ := sp_S_seek (T := T) C hT 6 0 a m 0 (fun _ => 0) (v, 7, X.2.1 34) (sI (sI (sI X 262 0) 261 v) 260 7) 1000 rfl (fun q => absurd q (by decide)) (xS_t hX ⟨fun n q => by rw [sI_n (by omega), sI_n (by omega), sI_n (by omega)], fun _ _ => rfl, rfl⟩) ha hm (by omega) (fun i hi => absurd hi (Nat.not_lt_zero i)) ⟨by rw [sI_n (by decide), sI_s], by rw [sI_s]; rfl, Nat.le_refl 7, fun _ _ _ => rfl, by rw [sI_n (by decide), sI_n (by decide), sI_s]; rfl⟩
  refine ⟨X', p1, p3, fun {z post} h => ?_⟩
  have hf : X'.1 262 = b2i (¬ ((cL T y 6 0 (a, m, 0) (fun _ => 0)).foldl btr (v, 7, X.2.1 34)).2.1 = 7) := p3.2.2.2.2.trans ite_b2i
  refine PW_aload_n c_S_find_0 rfl ?_
  refine PW_iconst (v := 0) c_S_find_1 (by decide) ?_
  refine PW_put (w2 := E (sI X 262 0) y) c_S_find_2 fp_S_find_26 rfl (pf_32_6 _ _ _) ?_
  refine PW_aload_n c_S_find_5 rfl ?_
  refine PW_iload_n c_S_find_6 rfl ?_
  refine PW_put (w2 := E (sI (sI X 262 0) 261 v) y) c_S_find_7 fp_S_find_30 rfl (pf_32_5 _ _ _) ?_
  refine PW_aload_n c_S_find_10 rfl ?_
  refine PW_bipush (v := 7) c_S_find_11 (by decide) ?_
  refine PW_put (w2 := E (sI (sI (sI X 262 0) 261 v) 260 7) y) c_S_find_13 fp_S_find_34 rfl (pf_32_4 _ _ _) ?_
  refine PW_aload_n c_S_find_16 rfl ?_
  refine PW_iload_n c_S_find_17 rfl ?_
  refine PW_iload_n c_S_find_18 rfl ?_
  refine PW_iconst (v := 0) c_S_find_19 (by decide) ?_
  refine PW_iconst (v := 0) c_S_find_20 (by decide) ?_
  refine PW_V0 (d2 := 2 * 6 + 4) (st := []) [.int (nI a), .int m, .int 0, .int 0] c_S_find_21 lk_S_find_37 (po_32 _ _) rfl rfl rfl (Nat.le_of_ble_eq_true rfl) (by first | decide | omega) (Nat.le_of_ble_eq_true rfl) ?_
  refine H ?_
  show PW _ _ _ 24 [some (.ref 32), some (.int (nI a)), some (.int m), some (.int v)] [] (E (X') y)
  refine PW_aload_n c_S_find_24 rfl ?_
  refine PW_get (v := .int ((X').1 262)) c_S_find_25 fl_S_26 (gf_32_6 _ _) ?_
  rw [hf]
  show PW _ _ _ 28 [some (.ref 32), some (.int (nI a)), some (.int m), some (.int v)] [.int (b2i (¬ ((cL T y 6 0 (a, m, 0) (fun _ => 0)).foldl btr (v, 7, X.2.1 34)).2.1 = 7))] (E (X') y)
  refine PW_ireturn (ty := .boolean) c_S_find_28 rfl (nb_b2i _) ?_
  exact h
theorem sp_M_soonestFrom {T : Option Txt} {x x0 y Y : XS} (C : CPg x0 y) (hT : lawIs T x0 y) {a : Nat} {m : Int32} (hY : yS y Y) (ha : a < 5) (hm : 0 ≤ m.toInt ∧ m.toInt ≤ 1000) : ∃ Y' : XS, yS y Y' ∧ bsY Y' ((cL T y 6 0 (a, m, 0) (fun _ => 0)).foldl btr (1000000, 7, Y.2.1 92)) ∧ ∀ {z : ZS} {post : Option Value → List PE → Prop}, post (some (.int (if ((cL T y 6 0 (a, m, 0) (fun _ => 0)).foldl btr (1000000, 7, Y.2.1 92)).1 = 1000000 then -2 else ((cL T y 6 0 (a, m, 0) (fun _ => 0)).foldl btr (1000000, 7, Y.2.1 92)).1))) (E x Y') → PW (12, 0, 0, z) m_M_soonestFrom post 0 [some (.ref 70), some (.int (nI a)), some (.int m)] [] (E x Y) := by
  obtain ⟨Y', ⟨p1, p2, p3⟩, H⟩ := sp_M_goRows (x := x) (T := T) C hT 6 0 a m 0 (fun _ => 0) (1000000, 7, Y.2.1 92) (sI (sI (sI (sI (sI Y 590 (nI a)) 591 m) 592 0) 596 1000000) 595 7) 1000 rfl (yS_t hY ⟨fun n q => by rw [sI_n (by omega), sI_n (by omega), sI_n (by omega), sI_n (by omega), sI_n (by omega)], fun _ _ => rfl, rfl⟩) ⟨rfl, rfl, rfl⟩ ha hm (by omega) (fun i hi => absurd hi (Nat.not_lt_zero i)) ⟨by rw [sI_n (by decide), sI_s], by rw [sI_s]; rfl, Nat.le_refl 7, fun _ _ _ => rfl⟩
  refine ⟨Y', p1, p3, fun {z post} h => ?_⟩
  refine PW_aload_n c_M_soonestFrom_0 rfl ?_
  refine PW_iload_n c_M_soonestFrom_1 rfl ?_
  refine PW_iload_n c_M_soonestFrom_2 rfl ?_
  refine PW_V0 (d2 := 0) (st := []) [.int (nI a), .int m] c_M_soonestFrom_3 lk_M_soonestFrom_289 (po_70 _ _) rfl rfl rfl (Nat.le_of_ble_eq_true rfl) (by first | decide | omega) (Nat.le_of_ble_eq_true rfl) ?_
  show PW _ _ _ 0 [some (.ref 70), some (.int (nI a)), some (.int m)] [] (E x Y)
  refine PW_aload_n c_M_begin_0 rfl ?_
  refine PW_iload_n c_M_begin_1 rfl ?_
  refine PW_put (w2 := E x (sI Y 590 (nI a))) c_M_begin_2 fp_M_begin_265 rfl (pf_70_30 _ _ _) ?_
  refine PW_aload_n c_M_begin_5 rfl ?_
  refine PW_iload_n c_M_begin_6 rfl ?_
  refine PW_put (w2 := E x (sI (sI Y 590 (nI a)) 591 m)) c_M_begin_7 fp_M_begin_268 rfl (pf_70_31 _ _ _) ?_
  refine PW_aload_n c_M_begin_10 rfl ?_
  refine PW_iconst (v := 0) c_M_begin_11 (by decide) ?_
  refine PW_put (w2 := E x (sI (sI (sI Y 590 (nI a)) 591 m) 592 0)) c_M_begin_12 fp_M_begin_271 rfl (pf_70_32 _ _ _) ?_
  refine PW_vreturn c_M_begin_15 rfl ?_
  show PW _ _ _ 6 [some (.ref 70), some (.int (nI a)), some (.int m)] [] (E x (sI (sI (sI Y 590 (nI a)) 591 m) 592 0))
  refine PW_aload_n c_M_soonestFrom_6 rfl ?_
  refine PW_ldcw c_M_soonestFrom_7 kk_M_314 ?_
  refine PW_put (w2 := E x (sI (sI (sI (sI Y 590 (nI a)) 591 m) 592 0) 596 1000000)) c_M_soonestFrom_10 fp_M_soonestFrom_302 rfl (pf_70_36 _ _ _) ?_
  refine PW_aload_n c_M_soonestFrom_13 rfl ?_
  refine PW_bipush (v := 7) c_M_soonestFrom_14 (by decide) ?_
  refine PW_put (w2 := E x (sI (sI (sI (sI (sI Y 590 (nI a)) 591 m) 592 0) 596 1000000) 595 7)) c_M_soonestFrom_16 fp_M_soonestFrom_308 rfl (pf_70_35 _ _ _) ?_
  refine PW_aload_n c_M_soonestFrom_19 rfl ?_
  refine PW_iconst (v := 0) c_M_soonestFrom_20 (by decide) ?_
  refine PW_V0 (d2 := 6 + 5) (st := []) [.int 0] c_M_soonestFrom_21 lk_M_soonestFrom_311 (po_70 _ _) rfl rfl rfl (Nat.le_of_ble_eq_true rfl) (by first | decide | omega) (Nat.le_of_ble_eq_true rfl) ?_
  refine H ?_
  show PW _ _ _ 24 [some (.ref 70), some (.int (nI a)), some (.int m)] [] (E x (Y'))
  refine PW_aload_n c_M_soonestFrom_24 rfl ?_
  refine PW_get (v := .int ((Y').1 596)) c_M_soonestFrom_25 fl_M_302 (gf_70_36 _ _) ?_
  rw [p3.1]
  show PW _ _ _ 28 [some (.ref 70), some (.int (nI a)), some (.int m)] [.int (((cL T y 6 0 (a, m, 0) (fun _ => 0)).foldl btr (1000000, 7, Y.2.1 92)).1)] (E x (Y'))
  refine PW_ldcw c_M_soonestFrom_28 kk_M_314 ?_
  refine PW_icmp_ne c_M_soonestFrom_31 (fun h0 => ?_) (fun h0 => ?_)
  · refine PW_aload_n c_M_soonestFrom_39 rfl ?_
    refine PW_get (v := .int ((Y').1 596)) c_M_soonestFrom_40 fl_M_302 (gf_70_36 _ _) ?_
    rw [p3.1]
    show PW _ _ _ 43 [some (.ref 70), some (.int (nI a)), some (.int m)] [.int (((cL T y 6 0 (a, m, 0) (fun _ => 0)).foldl btr (1000000, 7, Y.2.1 92)).1)] (E x (Y'))
    refine PW_ireturn (ty := .int) c_M_soonestFrom_43 rfl rfl ?_
    exact pqi h (if_neg h0)
  · refine PW_bipush (v := -2) c_M_soonestFrom_34 (by decide) ?_
    refine PW_goto c_M_soonestFrom_36 ?_
    refine PW_ireturn (ty := .int) c_M_soonestFrom_43 rfl rfl ?_
    exact pqi h (if_pos h0)
def bgF (T : Option Txt) (y : XS) (a : Nat) (v : Int32) : Nat → Int32
  | 0 => -2
  | n + 1 => if ((cL T y 6 0 (a, nI n, 0) (fun _ => 0)).foldl btr (v, 7, fun _ => 0)).2.1 = 7 then bgF T y a v n else nI n
theorem nI_pm (n : Nat) : nI (n + 1) + (-1) = nI n := by
  rw [← nI_1, Int32.add_assoc, show (1 : Int32) + (-1) = 0 from rfl, Int32.add_zero]
theorem lp_G_begin {T : Option Txt} {x y : XS} (C : CPg x y) (hT : lawIs T x y) {a : Nat} {v : Int32} (ha : a < 5) : ∀ (n : Nat) (X : XS), n ≤ 100 → xS x X → ∃ X' : XS, xS x X' ∧ ∀ {z : ZS} {post : Option Value → List PE → Prop}, post (some (.int (bgF T y a v n))) (E X' y) → PW (18, 0, 0, z) m_G_beginBy post 23 [some (.ref 5), some (.int (nI a)), some (.int v), some (.int (nI n + (-1)))] [] (E X y) := by
  intro n
  induction n with
  | zero =>
    intro X hn hX
    refine ⟨X, hX, fun {z post} h => ?_⟩
    refine PW_iload_n c_G_beginBy_23 rfl ?_
    refine PW_if_lt c_G_beginBy_24 (fun h0 => ?_) (fun h0 => absurd (by decide) h0)
    refine PW_bipush (v := -2) c_G_beginBy_48 (by decide) ?_
    refine PW_ireturn (ty := .int) c_G_beginBy_50 rfl rfl ?_
    exact h
  | succ n ih =>
    intro X hn hX
    obtain ⟨X1, hX1, -, HF⟩ := sp_S_find (T := T) (v := v) C hT hX ha (m := nI n) (by rw [nI_toInt (by omega)]; omega)
    have e2 := (fold_like (cL T y 6 0 (a, nI n, 0) (fun _ => 0)) (v, 7, X.2.1 34) (v, 7, fun _ => 0) rfl rfl).2.1
    generalize (cL T y 6 0 (a, nI n, 0) (fun _ => 0)).foldl btr (v, 7, X.2.1 34) = R at HF e2
    by_cases hR7 : R.2.1 = 7
    · obtain ⟨X', hX', H⟩ := ih X1 (by omega) hX1
      refine ⟨X', hX', fun {z post} h => ?_⟩
      rw [bgF, if_pos (e2.symm.trans hR7)] at h
      rw [nI_pm]
      refine PW_iload_n c_G_beginBy_23 rfl ?_
      refine PW_if_lt c_G_beginBy_24 (fun h0 => absurd h0 (nI_pos (by omega))) (fun h0 => ?_)
      refine PW_aload_n c_G_beginBy_27 rfl ?_
      refine PW_get (v := .ref 32) c_G_beginBy_28 fl_G_42 (gf_5_4 _ _) ?_
      refine PW_iload_n c_G_beginBy_31 rfl ?_
      refine PW_iload_n c_G_beginBy_32 rfl ?_
      refine PW_iload_n c_G_beginBy_33 rfl ?_
      refine PW_V0 (d2 := 17) (st := []) [.int (nI a), .int (nI n), .int v] c_G_beginBy_34 lk_G_beginBy_193 (po_32 _ _) rfl rfl rfl (Nat.le_of_ble_eq_true rfl) (by first | decide | omega) (Nat.le_of_ble_eq_true rfl) ?_
      refine HF ?_
      show PW _ _ _ 37 [some (.ref 5), some (.int (nI a)), some (.int v), some (.int (nI n))] [.int (b2i (¬ R.2.1 = 7))] (E X1 y)
      refine PW_if_eq c_G_beginBy_37 (fun _ => ?_) (fun h1 => absurd (b2i_n0.mp h1) (not_not_intro hR7))
      refine PW_iinc (i := 3) (v := (nI n) + (-1)) (L2 := [some (.ref 5), some (.int (nI a)), some (.int v), some (.int ((nI n) + (-1)))]) c_G_beginBy_42 rfl (iinc_v (by decide)) (Nat.le_of_ble_eq_true rfl) rfl rfl ?_
      refine PW_goto c_G_beginBy_45 ?_
      refine PW.eqL ?_ rfl rfl (H h)
      rfl
    · refine ⟨X1, hX1, fun {z post} h => ?_⟩
      rw [bgF, if_neg (fun q => hR7 (e2.trans q))] at h
      rw [nI_pm]
      refine PW_iload_n c_G_beginBy_23 rfl ?_
      refine PW_if_lt c_G_beginBy_24 (fun h0 => absurd h0 (nI_pos (by omega))) (fun h0 => ?_)
      refine PW_aload_n c_G_beginBy_27 rfl ?_
      refine PW_get (v := .ref 32) c_G_beginBy_28 fl_G_42 (gf_5_4 _ _) ?_
      refine PW_iload_n c_G_beginBy_31 rfl ?_
      refine PW_iload_n c_G_beginBy_32 rfl ?_
      refine PW_iload_n c_G_beginBy_33 rfl ?_
      refine PW_V0 (d2 := 17) (st := []) [.int (nI a), .int (nI n), .int v] c_G_beginBy_34 lk_G_beginBy_193 (po_32 _ _) rfl rfl rfl (Nat.le_of_ble_eq_true rfl) (by first | decide | omega) (Nat.le_of_ble_eq_true rfl) ?_
      refine HF ?_
      show PW _ _ _ 37 [some (.ref 5), some (.int (nI a)), some (.int v), some (.int (nI n))] [.int (b2i (¬ R.2.1 = 7))] (E X1 y)
      refine PW_if_eq c_G_beginBy_37 (fun h1 => absurd hR7 (b2i_0.mp h1)) (fun _ => ?_)
      refine PW_iload_n c_G_beginBy_40 rfl ?_
      refine PW_ireturn (ty := .int) c_G_beginBy_41 rfl rfl ?_
      exact h
theorem lp_M_begin {T : Option Txt} {x x0 y : XS} (C : CPg x0 y) (hT : lawIs T x0 y) {a : Nat} {v : Int32} (ha : a < 5) : ∀ (n : Nat) (Y : XS), n ≤ 100 → yS y Y → ∃ Y' : XS, yS y Y' ∧ ∀ {z : ZS} {post : Option Value → List PE → Prop} {l4 : Option Value}, post (some (.int (bgF T y a v n))) (E x Y') → PW (13, 0, 0, z) m_M_beginBy post 23 [some (.ref 70), some (.int (nI a)), some (.int v), some (.int (nI n + (-1))), l4] [] (E x Y) := by
  intro n
  induction n with
  | zero =>
    intro Y hn hY
    refine ⟨Y, hY, fun {z post l4} h => ?_⟩
    refine PW_iload_n c_M_beginBy_23 rfl ?_
    refine PW_if_lt c_M_beginBy_24 (fun h0 => ?_) (fun h0 => absurd (by decide) h0)
    refine PW_bipush (v := -2) c_M_beginBy_69 (by decide) ?_
    refine PW_ireturn (ty := .int) c_M_beginBy_71 rfl rfl ?_
    exact h
  | succ n ih =>
    intro Y hn hY
    have gw := (gE_fun (gE_S hY)).2.2.2.2.1 a 0
    have hmb : 0 ≤ (nI n).toInt ∧ (nI n).toInt ≤ 1000 := by rw [nI_toInt (by omega)]; omega
    have hcb := cL_b (T := T) (m := nI n) C ha hmb
    by_cases hw : v < nI n + wayN y a 0
    · obtain ⟨Y', hY', H⟩ := ih Y (by omega) hY
      refine ⟨Y', hY', fun {z post l4} h => ?_⟩
      have e7 : ((cL T y 6 0 (a, nI n, 0) (fun _ => 0)).foldl btr (v, 7, fun _ => 0)).2.1 = 7 := by
        rw [btr_skip fun c hc => nbeats_i.mpr (by
          have h1 := (hcb c hc).1
          rw [Int32.lt_iff_toInt_lt] at hw
          show ¬ (c.1.toInt < v.toInt ∨ (c.1.toInt = v.toInt ∧ c.2.1 < 7))
          omega)]
      rw [bgF, if_pos e7] at h
      rw [nI_pm]
      refine PW_iload_n c_M_beginBy_23 rfl ?_
      refine PW_if_lt c_M_beginBy_24 (fun h0 => absurd h0 (nI_pos (by omega))) (fun h0 => ?_)
      refine PW_iload_n c_M_beginBy_27 rfl ?_
      refine PW_aload_n c_M_beginBy_28 rfl ?_
      refine PW_iload_n c_M_beginBy_29 rfl ?_
      refine PW_iconst (v := 0) c_M_beginBy_30 (by decide) ?_
      refine PW_V0 (d2 := 0) (st := [.int (nI n)]) [.int (nI a), .int 0] c_M_beginBy_31 lk_M_beginBy_274 (po_70 _ _) rfl rfl rfl (Nat.le_of_ble_eq_true rfl) (by first | decide | omega) (Nat.le_of_ble_eq_true rfl) ?_
      refine sp_M_wayOf (b := 0) rfl rfl ha (by decide) ?_
      rw [gw]
      show PW _ _ _ 34 [some (.ref 70), some (.int (nI a)), some (.int v), some (.int (nI n)), l4] [.int (wayN y a 0), .int (nI n)] (E x Y)
      refine PW_iadd c_M_beginBy_34 ?_
      refine PW_iload_n c_M_beginBy_35 rfl ?_
      refine PW_icmp_le c_M_beginBy_36 (fun h1 => absurd h1 (fun q => absurd hw (Int32.not_lt.mpr q))) (fun h1 => ?_)
      refine PW_goto c_M_beginBy_39 ?_
      refine PW_iinc (i := 3) (v := (nI n) + (-1)) (L2 := [some (.ref 70), some (.int (nI a)), some (.int v), some (.int ((nI n) + (-1))), l4]) c_M_beginBy_63 rfl (iinc_v (by decide)) (Nat.le_of_ble_eq_true rfl) rfl rfl ?_
      refine PW_goto c_M_beginBy_66 ?_
      refine PW.eqL ?_ rfl rfl (H (l4 := l4) h)
      rfl
    · obtain ⟨Y1, hY1, -, HM⟩ := sp_M_soonestFrom (x := x) (T := T) C hT hY ha (m := nI n) hmb
      have fi := found_iff (L := cL T y 6 0 (a, nI n, 0) (fun _ => 0)) (fun c hc => ⟨(hcb c hc).2.2.1, (hcb c hc).2.2.2⟩) (v := v) (f := Y.2.1 92) (g := fun _ => 0)
      have fm := (fold_mem (cL T y 6 0 (a, nI n, 0) (fun _ => 0)) (1000000, 7, Y.2.1 92)).1
      generalize hR : (cL T y 6 0 (a, nI n, 0) (fun _ => 0)).foldl btr (1000000, 7, Y.2.1 92) = R at HM fi fm
      obtain ⟨Y', hY', H⟩ := ih Y1 (by omega) hY1
      by_cases hR1 : R.1 = 1000000
      · refine ⟨Y', hY', fun {z post l4} h => ?_⟩
        rw [if_pos hR1] at HM
        rw [bgF, if_pos (Decidable.not_not.mp fun q => (fi.mp q).1 hR1)] at h
        rw [nI_pm]
        refine PW_iload_n c_M_beginBy_23 rfl ?_
        refine PW_if_lt c_M_beginBy_24 (fun h0 => absurd h0 (nI_pos (by omega))) (fun h0 => ?_)
        refine PW_iload_n c_M_beginBy_27 rfl ?_
        refine PW_aload_n c_M_beginBy_28 rfl ?_
        refine PW_iload_n c_M_beginBy_29 rfl ?_
        refine PW_iconst (v := 0) c_M_beginBy_30 (by decide) ?_
        refine PW_V0 (d2 := 0) (st := [.int (nI n)]) [.int (nI a), .int 0] c_M_beginBy_31 lk_M_beginBy_274 (po_70 _ _) rfl rfl rfl (Nat.le_of_ble_eq_true rfl) (by first | decide | omega) (Nat.le_of_ble_eq_true rfl) ?_
        refine sp_M_wayOf (b := 0) rfl rfl ha (by decide) ?_
        rw [gw]
        show PW _ _ _ 34 [some (.ref 70), some (.int (nI a)), some (.int v), some (.int (nI n)), l4] [.int (wayN y a 0), .int (nI n)] (E x Y)
        refine PW_iadd c_M_beginBy_34 ?_
        refine PW_iload_n c_M_beginBy_35 rfl ?_
        refine PW_icmp_le c_M_beginBy_36 (fun h1 => ?_) (fun h1 => absurd (Int32.not_lt.mp hw) h1)
        refine PW_aload_n c_M_beginBy_42 rfl ?_
        refine PW_iload_n c_M_beginBy_43 rfl ?_
        refine PW_iload_n c_M_beginBy_44 rfl ?_
        refine PW_V0 (d2 := 12) (st := []) [.int (nI a), .int (nI n)] c_M_beginBy_45 lk_M_beginBy_315 (po_70 _ _) rfl rfl rfl (Nat.le_of_ble_eq_true rfl) (by first | decide | omega) (Nat.le_of_ble_eq_true rfl) ?_
        refine HM ?_
        show PW _ _ _ 48 [some (.ref 70), some (.int (nI a)), some (.int v), some (.int (nI n)), l4] [.int (-2)] (E x Y1)
        refine PW_istore (i := 4) (L2 := [some (.ref 70), some (.int (nI a)), some (.int v), some (.int (nI n)), some (.int (-2))]) c_M_beginBy_48 (Nat.le_of_ble_eq_true rfl) rfl rfl ?_
        refine PW_iload c_M_beginBy_50 rfl ?_
        refine PW_if_lt c_M_beginBy_52 (fun _ => ?_) (fun h2 => absurd (by decide) h2)
        refine PW_iinc (i := 3) (v := (nI n) + (-1)) (L2 := [some (.ref 70), some (.int (nI a)), some (.int v), some (.int ((nI n) + (-1))), some (.int (-2))]) c_M_beginBy_63 rfl (iinc_v (by decide)) (Nat.le_of_ble_eq_true rfl) rfl rfl ?_
        refine PW_goto c_M_beginBy_66 ?_
        refine PW.eqL ?_ rfl rfl (H (l4 := some (.int (-2))) h)
        rfl
      · rw [if_neg hR1] at HM
        have hR0 : 0 ≤ R.1.toInt := by
          rcases fm with rfl | ⟨fm, -⟩
          · exact absurd rfl hR1
          · exact (hcb R fm).2.1
        by_cases hv : v < R.1
        · refine ⟨Y', hY', fun {z post l4} h => ?_⟩
          rw [bgF, if_pos (Decidable.not_not.mp fun q => absurd hv (Int32.not_lt.mpr (fi.mp q).2))] at h
          rw [nI_pm]
          refine PW_iload_n c_M_beginBy_23 rfl ?_
          refine PW_if_lt c_M_beginBy_24 (fun h0 => absurd h0 (nI_pos (by omega))) (fun h0 => ?_)
          refine PW_iload_n c_M_beginBy_27 rfl ?_
          refine PW_aload_n c_M_beginBy_28 rfl ?_
          refine PW_iload_n c_M_beginBy_29 rfl ?_
          refine PW_iconst (v := 0) c_M_beginBy_30 (by decide) ?_
          refine PW_V0 (d2 := 0) (st := [.int (nI n)]) [.int (nI a), .int 0] c_M_beginBy_31 lk_M_beginBy_274 (po_70 _ _) rfl rfl rfl (Nat.le_of_ble_eq_true rfl) (by first | decide | omega) (Nat.le_of_ble_eq_true rfl) ?_
          refine sp_M_wayOf (b := 0) rfl rfl ha (by decide) ?_
          rw [gw]
          show PW _ _ _ 34 [some (.ref 70), some (.int (nI a)), some (.int v), some (.int (nI n)), l4] [.int (wayN y a 0), .int (nI n)] (E x Y)
          refine PW_iadd c_M_beginBy_34 ?_
          refine PW_iload_n c_M_beginBy_35 rfl ?_
          refine PW_icmp_le c_M_beginBy_36 (fun h1 => ?_) (fun h1 => absurd (Int32.not_lt.mp hw) h1)
          refine PW_aload_n c_M_beginBy_42 rfl ?_
          refine PW_iload_n c_M_beginBy_43 rfl ?_
          refine PW_iload_n c_M_beginBy_44 rfl ?_
          refine PW_V0 (d2 := 12) (st := []) [.int (nI a), .int (nI n)] c_M_beginBy_45 lk_M_beginBy_315 (po_70 _ _) rfl rfl rfl (Nat.le_of_ble_eq_true rfl) (by first | decide | omega) (Nat.le_of_ble_eq_true rfl) ?_
          refine HM ?_
          show PW _ _ _ 48 [some (.ref 70), some (.int (nI a)), some (.int v), some (.int (nI n)), l4] [.int R.1] (E x Y1)
          refine PW_istore (i := 4) (L2 := [some (.ref 70), some (.int (nI a)), some (.int v), some (.int (nI n)), some (.int R.1)]) c_M_beginBy_48 (Nat.le_of_ble_eq_true rfl) rfl rfl ?_
          refine PW_iload c_M_beginBy_50 rfl ?_
          refine PW_if_lt c_M_beginBy_52 (fun h2 => absurd h2 (fun q => absurd (Int32.lt_iff_toInt_lt.mp q) (by rw [tiA.1]; omega))) (fun h2 => ?_)
          refine PW_iload c_M_beginBy_55 rfl ?_
          refine PW_iload_n c_M_beginBy_57 rfl ?_
          refine PW_icmp_gt c_M_beginBy_58 (fun h3 => ?_) (fun h3 => absurd hv h3)
          refine PW_iinc (i := 3) (v := (nI n) + (-1)) (L2 := [some (.ref 70), some (.int (nI a)), some (.int v), some (.int ((nI n) + (-1))), some (.int R.1)]) c_M_beginBy_63 rfl (iinc_v (by decide)) (Nat.le_of_ble_eq_true rfl) rfl rfl ?_
          refine PW_goto c_M_beginBy_66 ?_
          refine PW.eqL ?_ rfl rfl (H (l4 := some (.int R.1)) h)
          rfl
        · refine ⟨Y1, hY1, fun {z post l4} h => ?_⟩
          rw [bgF, if_neg (fi.mpr ⟨hR1, Int32.not_lt.mp hv⟩)] at h
          rw [nI_pm]
          refine PW_iload_n c_M_beginBy_23 rfl ?_
          refine PW_if_lt c_M_beginBy_24 (fun h0 => absurd h0 (nI_pos (by omega))) (fun h0 => ?_)
          refine PW_iload_n c_M_beginBy_27 rfl ?_
          refine PW_aload_n c_M_beginBy_28 rfl ?_
          refine PW_iload_n c_M_beginBy_29 rfl ?_
          refine PW_iconst (v := 0) c_M_beginBy_30 (by decide) ?_
          refine PW_V0 (d2 := 0) (st := [.int (nI n)]) [.int (nI a), .int 0] c_M_beginBy_31 lk_M_beginBy_274 (po_70 _ _) rfl rfl rfl (Nat.le_of_ble_eq_true rfl) (by first | decide | omega) (Nat.le_of_ble_eq_true rfl) ?_
          refine sp_M_wayOf (b := 0) rfl rfl ha (by decide) ?_
          rw [gw]
          show PW _ _ _ 34 [some (.ref 70), some (.int (nI a)), some (.int v), some (.int (nI n)), l4] [.int (wayN y a 0), .int (nI n)] (E x Y)
          refine PW_iadd c_M_beginBy_34 ?_
          refine PW_iload_n c_M_beginBy_35 rfl ?_
          refine PW_icmp_le c_M_beginBy_36 (fun h1 => ?_) (fun h1 => absurd (Int32.not_lt.mp hw) h1)
          refine PW_aload_n c_M_beginBy_42 rfl ?_
          refine PW_iload_n c_M_beginBy_43 rfl ?_
          refine PW_iload_n c_M_beginBy_44 rfl ?_
          refine PW_V0 (d2 := 12) (st := []) [.int (nI a), .int (nI n)] c_M_beginBy_45 lk_M_beginBy_315 (po_70 _ _) rfl rfl rfl (Nat.le_of_ble_eq_true rfl) (by first | decide | omega) (Nat.le_of_ble_eq_true rfl) ?_
          refine HM ?_
          show PW _ _ _ 48 [some (.ref 70), some (.int (nI a)), some (.int v), some (.int (nI n)), l4] [.int R.1] (E x Y1)
          refine PW_istore (i := 4) (L2 := [some (.ref 70), some (.int (nI a)), some (.int v), some (.int (nI n)), some (.int R.1)]) c_M_beginBy_48 (Nat.le_of_ble_eq_true rfl) rfl rfl ?_
          refine PW_iload c_M_beginBy_50 rfl ?_
          refine PW_if_lt c_M_beginBy_52 (fun h2 => absurd h2 (fun q => absurd (Int32.lt_iff_toInt_lt.mp q) (by rw [tiA.1]; omega))) (fun h2 => ?_)
          refine PW_iload c_M_beginBy_55 rfl ?_
          refine PW_iload_n c_M_beginBy_57 rfl ?_
          refine PW_icmp_gt c_M_beginBy_58 (fun h3 => absurd h3 hv) (fun h3 => ?_)
          refine PW_iload_n c_M_beginBy_61 rfl ?_
          refine PW_ireturn (ty := .int) c_M_beginBy_62 rfl rfl ?_
          exact h
