/-! a row by which it is done has as many rooms as are ahead -/
theorem rO_stay {x y : XS} (C : CPg x y) {g r : Nat} {m m' : Int32} (hg : g < nG y) (h : m.toInt ≤ m'.toInt) (h1 : rO y g m = nI r) (h2 : rO y g 99 = nI r) : rO y g m' = nI r := by
  have hc : (y.2.1 73 g).toInt ≤ 99 := ((C.2.2.1 2 (by decide) g hg).2).2
  unfold rO at h1 h2 ⊢
  rw [if_neg (by rw [Int32.lt_iff_toInt_lt, show (99 : Int32).toInt = 99 by decide]; omega)] at h2
  by_cases q : m' < y.2.1 73 g
  · rw [Int32.lt_iff_toInt_lt] at q
    rw [if_pos (by rw [Int32.lt_iff_toInt_lt]; omega)] at h1
    rw [if_pos (by rw [Int32.lt_iff_toInt_lt]; exact q)]
    exact h1
  · rw [if_neg q]; exact h2
theorem telF_in {y : XS} {b g : Nat} {m t : Int32} (hn : nG y ≤ 10) (hg : g < 32) (h : bt (telF y (nI b) m t) g = true) : rO y g m = nI b := by
  unfold telF at h
  split at h <;> simp only [bt_and, bt_thI hn hg, Bool.and_eq_true, decide_eq_true_eq, beq_iff_eq] at h
  · exact h.1.1.2
  · exact h.1.1.1.2
theorem roA_5 (o h : Nat → Bool) : roA o h = roA (fun r => decide (r < 5) && o r) (fun r => decide (r < 5) && h r) := by
  simp [roA, sB, shB]
theorem ahead_step {T : Option Txt} {x y : XS} (C : CPg x y) {a b Bd : Nat} {m t : Int32} (ha : a < 5) (hb : b < 5) (hm : 0 ≤ m.toInt ∧ m.toInt ≤ Bd) (hB : Bd < 900000) : roA (rAo y m t) (rAh y m t) ≤ roA (rAo y (stp T y b (a, m, t)).2.1 (stp T y b (a, m, t)).2.2) (rAh y (stp T y b (a, m, t)).2.1 (stp T y b (a, m, t)).2.2) + 1 := by
  have hn := C.1.2
  have g0 := wayN_b C ha hb
  have g1 := ti_add (x := m) (y := wayN y a b) (by omega) (by omega)
  have g3 := mnF_b (T := T) (y := y) (r := nI b) (m := m + wayN y a b) (v := telF y (nI b) (m + wayN y a b) t)
  have g4 : (stp T y b (a, m, t)).2.1.toInt = (m + wayN y a b).toInt + (mnF T y (nI b) (m + wayN y a b) (telF y (nI b) (m + wayN y a b) t)).toInt := ti_add (x := m + wayN y a b) (y := mnF T y (nI b) (m + wayN y a b) (telF y (nI b) (m + wayN y a b) t)) (by omega) (by omega)
  have g5 : (stp T y b (a, m, t)).2.2 = t ||| telF y (nI b) (m + wayN y a b) t := rfl
  generalize hM : (stp T y b (a, m, t)).2.1 = M at g4 ⊢
  rw [g5]
  generalize hm1 : m + wayN y a b = m1 at *
  have per : ∀ r g : Nat, stg y m t r g → bt (telF y (nI b) m1 t) g = false → stg y M (t ||| telF y (nI b) m1 t) r g := fun r g s e => ⟨s.1, rO_stay C s.1 (by omega) s.2.1 s.2.2.1, s.2.2.1, s.2.2.2.1, by rw [bt_or, s.2.2.2.2, e]; rfl⟩
  have out : ∀ r g : Nat, r < 5 → r ≠ b → stg y m t r g → ¬ rO y g m1 = nI b := fun r g h5 hr s q => by
    rw [rO_stay C s.1 (by omega) s.2.1 s.2.2.1] at q
    exact hr ((nI_eq (by omega) (by omega)).mp q)
  have out2 : ∀ r g : Nat, r < 5 → r ≠ b → stg y m t r g → bt (telF y (nI b) m1 t) g = false := fun r g h5 hr s => by
    cases e : bt (telF y (nI b) m1 t) g
    · rfl
    · exact absurd (telF_in hn (by have := s.1; omega) e) (out r g h5 hr s)
  rw [roA_5 (rAo y m t), roA_5 (rAo y M _)]
  refine roA_step (b := b) (fun r hr q => ?_) (fun r hr q => ?_) (fun q => ?_)
  · rw [Bool.and_eq_true, decide_eq_true_eq, rAo_iff hn] at q ⊢
    obtain ⟨q1, g, s, e⟩ := q
    exact ⟨q1, g, per r g s (out2 r g q1 hr s), e⟩
  · rw [Bool.and_eq_true, decide_eq_true_eq, rAh_iff hn] at q ⊢
    obtain ⟨q1, g, s, e⟩ := q
    exact ⟨q1, g, per r g s (out2 r g q1 hr s), e⟩
  · rw [Bool.and_eq_true, decide_eq_true_eq, rAh_iff hn] at q
    obtain ⟨q1, g, s, e⟩ := q
    by_cases cd : mustB y &&& (hostB y ^^^ -1) &&& (t ^^^ -1) &&& ((thI y (nI b) m1 &&& mustB y &&& (t ^^^ -1)) ^^^ -1) = 0
    · right
      intro r hr
      cases w : (decide (r < 5) && rAo y m t r)
      · rfl
      · rw [Bool.and_eq_true, decide_eq_true_eq, rAo_iff hn] at w
        obtain ⟨w1, g2, s2, e2⟩ := w
        have hg2 : g2 < 32 := by have := s2.1; omega
        have z := congrArg (fun v => bt v g2) cd
        rw [bt_0, bt_and, bt_and, bt_and, bt_com _ hg2, bt_com _ hg2, bt_com _ hg2, bt_and, bt_and, bt_thI hn hg2, s2.2.2.2.1, s2.2.2.2.2, e2, show (rO y g2 m1 == nI b) = false from beq_eq_false_iff_ne.mpr (out r g2 w1 hr s2)] at z
        simp at z
    · left
      rw [Bool.and_eq_true, decide_eq_true_eq, rAh_iff hn]
      refine ⟨q1, g, per b g s ?_, e⟩
      have hg : g < 32 := by have := s.1; omega
      unfold telF
      rw [if_neg cd, bt_and, bt_com _ hg, e]
      simp
theorem ahead_done {y : XS} {m t : Int32} (h : mustB y &&& (t ^^^ -1) = 0) : roA (rAo y m t) (rAh y m t) = 0 := by
  have z : ∀ v : Int32, v &&& 0 = 0 := fun v => bt_ext fun i hi => by rw [bt_and, bt_0, Bool.and_false]
  have z2 : ∀ v : Int32, 0 &&& v = 0 := fun v => bt_ext fun i hi => by rw [bt_and, bt_0, Bool.false_and]
  have hs : ∀ r, stV y m t r = 0 := fun r => by unfold stV; rw [h, z]
  have ho : ∀ r, rAo y m t r = false := fun r => by unfold rAo; rw [hs, z2]; rfl
  have hh : ∀ r, rAh y m t r = false := fun r => by unfold rAh; rw [hs, z2]; rfl
  simp [roA, sB, shB, ho, hh]
theorem cL_ahead {T : Option Txt} {x y : XS} (C : CPg x y) : ∀ (j k a : Nat) (m t : Int32) (row : Nat → Int32) (Bd : Nat), a < 5 → 0 ≤ m.toInt ∧ m.toInt ≤ Bd → Bd + 66 * j < 900000 → ∀ c ∈ cL T y j k (a, m, t) row, roA (rAo y m t) (rAh y m t) ≤ j := by
  intro j
  induction j with
  | zero =>
    intro k a m t row Bd ha hm hB c hc
    rw [cL] at hc
    split at hc
    · rename_i h; rw [ahead_done h]; omega
    · exact absurd hc List.not_mem_nil
  | succ j ih =>
    intro k a m t row Bd ha hm hB c hc
    rw [cL] at hc
    split at hc
    · rename_i h; rw [ahead_done h]; omega
    · obtain ⟨b, -, hb, hc⟩ := cLs_mem hc
      dsimp only at hc
      split at hc
      · exact absurd hc List.not_mem_nil
      · have hb5 : b < 5 := by omega
        obtain ⟨q1, q2, q3, q4⟩ := stp_b (T := T) (t := t) C ha hb5 hm (by omega)
        have := ih (k + 1) b (stp T y b (a, m, t)).2.1 (stp T y b (a, m, t)).2.2 (upd row k (nI b)) (Bd + 66) hb5 ⟨q3, by omega⟩ (by omega) c hc
        have := ahead_step (T := T) (t := t) C ha hb5 hm (by omega)
        omega
theorem cL_nil {T : Option Txt} {x y : XS} (C : CPg x y) {j k a Bd : Nat} {m t : Int32} {row : Nat → Int32} (ha : a < 5) (hm : 0 ≤ m.toInt ∧ m.toInt ≤ Bd) (hB : Bd + 66 * j < 900000) (h : j < roA (rAo y m t) (rAh y m t)) : cL T y j k (a, m, t) row = [] := by
  cases e : cL T y j k (a, m, t) row with
  | nil => rfl
  | cons c L => exact absurd (cL_ahead C j k a m t row Bd ha hm hB c (by rw [e]; exact List.mem_cons_self)) (by omega)
