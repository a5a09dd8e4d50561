/-! rooms ahead -/
theorem bt_ne {v : Int32} : ¬ v = 0 ↔ ∃ i, i < 32 ∧ bt v i = true := by
  constructor
  · intro h
    refine Classical.byContradiction fun q => h (bt_ext fun i hi => ?_)
    rw [bt_0]
    cases e : bt v i
    · rfl
    · exact absurd ⟨i, hi, e⟩ q
  · rintro ⟨i, hi, e⟩ rfl
    rw [bt_0] at e
    exact Bool.noConfusion e
def stV (y : XS) (m t : Int32) (r : Nat) : Int32 := thI y (nI r) m &&& thI y (nI r) 99 &&& (mustB y &&& (t ^^^ -1))
def rAo (y : XS) (m t : Int32) (r : Nat) : Bool := decide (¬ (stV y m t r &&& (hostB y ^^^ -1)) = 0)
def rAh (y : XS) (m t : Int32) (r : Nat) : Bool := decide (¬ (stV y m t r &&& hostB y) = 0)
def stg (y : XS) (m t : Int32) (r g : Nat) : Prop := g < nG y ∧ rO y g m = nI r ∧ rO y g 99 = nI r ∧ bt (mustB y) g = true ∧ bt t g = false
theorem bt_stV {y : XS} {m t : Int32} {r g : Nat} (hn : nG y ≤ 10) (hg : g < 32) : bt (stV y m t r) g = true ↔ stg y m t r g := by
  unfold stV stg
  rw [bt_and, bt_and, bt_and, bt_thI hn hg, bt_thI hn hg, bt_com _ hg]
  simp only [Bool.and_eq_true, decide_eq_true_eq, beq_iff_eq, Bool.not_eq_true']
  constructor
  · rintro ⟨⟨⟨a, b⟩, -, c⟩, d, e⟩; exact ⟨a, b, c, d, e⟩
  · rintro ⟨a, b, c, d, e⟩; exact ⟨⟨⟨a, b⟩, a, c⟩, d, e⟩
theorem rAo_iff {y : XS} {m t : Int32} {r : Nat} (hn : nG y ≤ 10) : rAo y m t r = true ↔ ∃ g, stg y m t r g ∧ bt (hostB y) g = false := by
  unfold rAo
  rw [decide_eq_true_eq, bt_ne]
  constructor
  · rintro ⟨i, hi, e⟩
    rw [bt_and, bt_com _ hi, Bool.and_eq_true, bt_stV hn hi, Bool.not_eq_true'] at e
    exact ⟨i, e⟩
  · rintro ⟨g, e⟩
    have hi : g < 32 := by have := e.1.1; omega
    exact ⟨g, hi, by rw [bt_and, bt_com _ hi, Bool.and_eq_true, bt_stV hn hi, Bool.not_eq_true']; exact e⟩
theorem rAh_iff {y : XS} {m t : Int32} {r : Nat} (hn : nG y ≤ 10) : rAh y m t r = true ↔ ∃ g, stg y m t r g ∧ bt (hostB y) g = true := by
  unfold rAh
  rw [decide_eq_true_eq, bt_ne]
  constructor
  · rintro ⟨i, hi, e⟩
    rw [bt_and, Bool.and_eq_true, bt_stV hn hi] at e
    exact ⟨i, e⟩
  · rintro ⟨g, e⟩
    have hi : g < 32 := by have := e.1.1; omega
    exact ⟨g, hi, by rw [bt_and, Bool.and_eq_true, bt_stV hn hi]; exact e⟩
def sB (f : Nat → Bool) : Nat → Nat
  | 0 => 0
  | n + 1 => sB f n + (f n).toNat
def shB (o h : Nat → Bool) : Nat → Nat
  | 0 => 0
  | n + 1 => if o n = true ∧ h n = true then 1 else shB o h n
def roA (o h : Nat → Bool) : Nat := sB o 5 + sB h 5 - shB o h 5
theorem tN_le {a b : Bool} (h : a = true → b = true) : a.toNat ≤ b.toNat := by cases a <;> cases b <;> simp_all
theorem tN_1 {a : Bool} : a.toNat ≤ 1 := by cases a <;> decide
theorem tN_t {a : Bool} (h : a = true) : a.toNat = 1 := by rw [h]; rfl
theorem tN_f {a : Bool} (h : ¬ a = true) : a.toNat = 0 := by cases a <;> simp_all
theorem shB_1 {o h : Nat → Bool} : ∀ n : Nat, shB o h n ≤ 1
  | 0 => by rw [shB]; omega
  | n + 1 => by
    rw [shB]
    have := shB_1 (o := o) (h := h) n
    split <;> omega
theorem shB_o {o h : Nat → Bool} : ∀ n : Nat, shB o h n ≤ sB o n
  | 0 => by rw [shB]; omega
  | n + 1 => by
    rw [shB, sB]
    have := shB_o (o := o) (h := h) n
    split
    · rename_i q; rw [tN_t q.1]; omega
    · omega
theorem roA_A {o h o' h' : Nat → Bool} {b : Nat} (ho : ∀ r, r ≠ b → o r = true → o' r = true) (hh : ∀ r, h r = true → h' r = true) : ∀ n : Nat, sB o n + sB h n + shB o' h' n ≤ sB o' n + sB h' n + shB o h n + (if b < n then 1 else 0) ∧ sB o n + sB h n ≤ sB o' n + sB h' n + (if b < n then 1 else 0) ∧ (¬ b < n → shB o h n ≤ shB o' h' n)
  | 0 => ⟨by simp [sB, shB], by simp [sB], fun _ => by simp [shB]⟩
  | n + 1 => by
    obtain ⟨i1, i2, i3⟩ := roA_A ho hh n
    have s1 := shB_1 (o := o) (h := h) n
    have s2 := shB_1 (o := o') (h := h') n
    have h1 := tN_le (hh n)
    have l1 := tN_1 (a := o n)
    have l2 := tN_1 (a := h n)
    have l3 := tN_1 (a := o' n)
    have l4 := tN_1 (a := h' n)
    simp only [sB, shB]
    by_cases e : n = b
    · subst e
      rw [if_neg (Nat.lt_irrefl n)] at i1 i2
      rw [if_pos (Nat.lt_succ_self n)]
      have i3 := i3 (by omega)
      by_cases q : o n = true ∧ h n = true
      · have e2 := hh n q.2
        rw [if_pos q, tN_t q.1, tN_t q.2, tN_t e2]
        by_cases q2 : o' n = true
        · rw [if_pos ⟨q2, e2⟩, tN_t q2]; exact ⟨by omega, by omega, fun w => absurd (Nat.lt_succ_self n) w⟩
        · rw [if_neg (fun w => q2 w.1), tN_f q2]; exact ⟨by omega, by omega, fun w => absurd (Nat.lt_succ_self n) w⟩
      · rw [if_neg q]
        by_cases q2 : o' n = true ∧ h' n = true
        · rw [if_pos q2, tN_t q2.1, tN_t q2.2]
          have : (o n).toNat + (h n).toNat ≤ 1 := by
            cases eo : o n <;> cases eh : h n <;> simp_all
          exact ⟨by omega, by omega, fun w => absurd (Nat.lt_succ_self n) w⟩
        · rw [if_neg q2]; exact ⟨by omega, by omega, fun w => absurd (Nat.lt_succ_self n) w⟩
    · have h2 := tN_le (ho n e)
      rw [show (if b < n + 1 then 1 else 0) = (if b < n then 1 else 0 : Nat) from by
        by_cases w : b < n
        · rw [if_pos w, if_pos (by omega)]
        · rw [if_neg w, if_neg (by omega)]]
      by_cases q : o n = true ∧ h n = true
      · have q2 := And.intro (ho n e q.1) (hh n q.2)
        rw [if_pos q, if_pos q2, tN_t q.1, tN_t q.2, tN_t q2.1, tN_t q2.2]
        exact ⟨by omega, by omega, fun w => by omega⟩
      · rw [if_neg q]
        by_cases q2 : o' n = true ∧ h' n = true
        · rw [if_pos q2, tN_t q2.1, tN_t q2.2]
          have : (o n).toNat + (h n).toNat ≤ 1 := by
            cases eo : o n <;> cases eh : h n <;> simp_all
          exact ⟨by omega, by omega, fun w => by omega⟩
        · rw [if_neg q2]
          exact ⟨by omega, by omega, fun w => i3 (by omega)⟩
theorem roA_B {o h h' : Nat → Bool} {b : Nat} (hb : h b = true) (ho : ∀ r, r ≠ b → o r = false) (hh : ∀ r, r ≠ b → h r = true → h' r = true) : ∀ n : Nat, sB o n = shB o h n ∧ sB h n ≤ sB h' n + (if b < n then 1 else 0) ∧ (¬ b < n → shB o h n = 0)
  | 0 => ⟨rfl, Nat.le_refl _, fun _ => rfl⟩
  | n + 1 => by
    obtain ⟨i1, i2, i3⟩ := roA_B hb ho hh n
    have l2 := tN_1 (a := h n)
    simp only [sB, shB]
    by_cases e : n = b
    · subst e
      rw [if_neg (Nat.lt_irrefl n)] at i2
      rw [if_pos (Nat.lt_succ_self n)]
      have i3 := i3 (by omega)
      by_cases q : o n = true
      · rw [if_pos ⟨q, hb⟩, tN_t q]; exact ⟨by omega, by omega, fun w => absurd (Nat.lt_succ_self n) w⟩
      · rw [if_neg (fun w => q w.1), tN_f q]; exact ⟨by omega, by omega, fun w => absurd (Nat.lt_succ_self n) w⟩
    · have h2 := tN_le (hh n e)
      rw [show (if b < n + 1 then 1 else 0) = (if b < n then 1 else 0 : Nat) from by
        by_cases w : b < n
        · rw [if_pos w, if_pos (by omega)]
        · rw [if_neg w, if_neg (by omega)], if_neg (fun w => by rw [ho n e] at w; exact Bool.noConfusion w.1), tN_f (fun w => by rw [ho n e] at w; exact Bool.noConfusion w)]
      exact ⟨by omega, by omega, fun w => i3 (by omega)⟩
theorem roA_step {o h o' h' : Nat → Bool} {b : Nat} (ho : ∀ r, r ≠ b → o r = true → o' r = true) (hh : ∀ r, r ≠ b → h r = true → h' r = true) (hb : h b = true → h' b = true ∨ ∀ r, r ≠ b → o r = false) : roA o h ≤ roA o' h' + 1 := by
  unfold roA
  by_cases q : h b = true ∧ ∀ r, r ≠ b → o r = false
  · obtain ⟨i1, i2, i3⟩ := roA_B (h' := h') q.1 q.2 hh 5
    have := shB_o (o := o') (h := h') 5
    have : (if b < 5 then 1 else 0 : Nat) ≤ 1 := by split <;> omega
    omega
  · obtain ⟨i1, i2, i3⟩ := roA_A (o := o) (h := h) (o' := o') (h' := h') (b := b) ho (fun r hr => by
      by_cases e : r = b
      · subst e
        rcases hb hr with w | w
        · exact w
        · exact absurd ⟨hr, w⟩ q
      · exact hh r e hr) 5
    have := shB_o (o := o') (h := h') 5
    have : (if b < 5 then 1 else 0 : Nat) ≤ 1 := by split <;> omega
    omega
