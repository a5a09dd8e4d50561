/-! knowing stands still -/
def cd (v : Int32) : Nat := (bt v 0).toNat + (bt v 1).toNat + (bt v 2).toNat + (bt v 3).toNat + (bt v 4).toNat + (bt v 5).toNat + (bt v 6).toNat + (bt v 7).toNat + (bt v 8).toNat + (bt v 9).toNat
theorem tn1 (b : Bool) : b.toNat ≤ 1 := by cases b <;> decide
theorem tn_le {b c : Bool} (h : b = true → c = true) : b.toNat ≤ c.toNat := by cases b <;> cases c <;> simp_all
theorem tn_eq {b c : Bool} (h : b.toNat = c.toNat) : b = c := by cases b <;> cases c <;> simp_all
theorem cd_10 (v : Int32) : cd v ≤ 10 := by
  unfold cd
  have h0 := tn1 (bt v 0)
  have h1 := tn1 (bt v 1)
  have h2 := tn1 (bt v 2)
  have h3 := tn1 (bt v 3)
  have h4 := tn1 (bt v 4)
  have h5 := tn1 (bt v 5)
  have h6 := tn1 (bt v 6)
  have h7 := tn1 (bt v 7)
  have h8 := tn1 (bt v 8)
  have h9 := tn1 (bt v 9)
  omega
theorem cd_lt {v w : Int32} (hv : S10 v) (hw : S10 w) (h : ∀ i, bt v i = true → bt w i = true) (ne : ¬ w = v) : cd v < cd w := by
  refine Decidable.byContradiction fun q => ne ?_
  unfold cd at q
  have h0 := tn_le (h 0)
  have h1 := tn_le (h 1)
  have h2 := tn_le (h 2)
  have h3 := tn_le (h 3)
  have h4 := tn_le (h 4)
  have h5 := tn_le (h 5)
  have h6 := tn_le (h 6)
  have h7 := tn_le (h 7)
  have h8 := tn_le (h 8)
  have h9 := tn_le (h 9)
  refine S10_ext hw hv fun i hi => ?_
  match i, hi with
  | 0, _ => exact tn_eq (by omega)
  | 1, _ => exact tn_eq (by omega)
  | 2, _ => exact tn_eq (by omega)
  | 3, _ => exact tn_eq (by omega)
  | 4, _ => exact tn_eq (by omega)
  | 5, _ => exact tn_eq (by omega)
  | 6, _ => exact tn_eq (by omega)
  | 7, _ => exact tn_eq (by omega)
  | 8, _ => exact tn_eq (by omega)
  | 9, _ => exact tn_eq (by omega)
  | n + 10, hi => omega
theorem kwF_cap {x y : XS} (C : CPg x y) {kn : Int32} {k : Nat} (h : 99 ≤ k) (hk : k < 1000) : kwF y kn (nI k) = kwF y kn (nI 99) := by
  unfold kwF
  rw [bitsT_cong (q := kwB y kn (nI 99)) fun g hg => ?_]
  have e : ∀ i, i < nG y → rO y i (nI k) = rO y i (nI 99) := fun i hi => rO_cap C hi (by rw [nI_toInt (by omega)]; omega) (by decide)
  unfold kwB
  rw [e g hg]
  by_cases q : g + 1 < nG y
  · rw [e (g + 1) q, e (g - 1) (by omega)]
  · rw [decide_eq_false q, e (g - 1) (by omega)]
    simp only [Bool.false_and]
theorem kwF_up {y : XS} {kn m : Int32} (i : Nat) (h : bt kn i = true) : bt (kwF y kn m) i = true := by
  unfold kwF
  rw [bt_or, h, Bool.true_or]
theorem kwS_fix {x y : XS} (C : CPg x y) {al kn : Int32} (hf : kwF y kn (nI 99) = kn) (ne : ¬ kn = al) : ∀ j k : Nat, 99 ≤ k → k + j < 1000 → kwS y al j k kn = -2
  | 0, _, _, _ => rfl
  | j + 1, k, h1, h2 => by
    rw [kwS, if_neg (show ¬ k = 0 by omega), kwF_cap C h1 (by omega), hf, if_neg ne]
    exact kwS_fix C hf ne j (k + 1) (by omega) (by omega)
theorem kwS_110 {x y : XS} (C : CPg x y) {al : Int32} : ∀ (j k : Nat) (kn : Int32), k + j = 110 → S10 kn → (100 ≤ k → ¬ kn = al ∧ (kwF y kn (nI 99) = kn ∨ k ≤ cd kn + 100)) → kwS y al (j + 11) k kn = kwS y al j k kn := by
  have hW := C.1
  intro j
  induction j with
  | zero =>
    intro k kn hk hS hh
    obtain ⟨h1, h2⟩ := hh (by omega)
    have hf : kwF y kn (nI 99) = kn := by
      rcases h2 with h2 | h2
      · exact h2
      · refine Decidable.byContradiction fun q => ?_
        have a1 := cd_lt hS (S10_kwF (m := nI 99) hW hS) (fun i hi => kwF_up i hi) q
        have a2 := cd_10 (kwF y kn (nI 99))
        omega
    exact kwS_fix C hf h1 11 k (by omega) (by omega)
  | succ j ih =>
    intro k kn hk hS hh
    have s1 : ∀ n, kwS y al (n + 1) k kn = if (if k = 0 then kn else kwF y kn (nI k)) = al then nI k else kwS y al n (k + 1) (if k = 0 then kn else kwF y kn (nI k)) := fun n => rfl
    rw [show j + 1 + 11 = (j + 11) + 1 by omega, s1, s1]
    by_cases hE : (if k = 0 then kn else kwF y kn (nI k)) = al
    · rw [if_pos hE, if_pos hE]
    · rw [if_neg hE, if_neg hE]
      refine ih (k + 1) _ (by omega) (by split; exact hS; exact S10_kwF hW hS) fun h100 => ⟨hE, ?_⟩
      by_cases h99 : k = 99
      · exact Or.inr (by omega)
      · obtain ⟨-, h2⟩ := hh (by omega)
        rw [if_neg (show ¬ k = 0 by omega), kwF_cap (kn := kn) (k := k) C (by omega) (by omega)]
        by_cases q : kwF y kn (nI 99) = kn
        · exact Or.inl (by rw [q, q])
        · refine Or.inr ?_
          have a1 := cd_lt hS (S10_kwF (m := nI 99) hW hS) (fun i hi => kwF_up i hi) q
          rcases h2 with h2 | h2
          · exact absurd h2 q
          · omega
theorem kwS_121 {x y : XS} (C : CPg x y) {al kn : Int32} (hS : S10 kn) : kwS y al 121 0 kn = kwS y al 110 0 kn := kwS_110 C 110 0 kn (by omega) hS (fun h => by omega)
theorem sp_Y_first {z : ZS} {post : Option Value → List PE → Prop} {x y : XS} {u : Int32} {g : Nat} (C : CPg x y) (eu : u = nI g) (hg : g < 10) (h : post (some (.int (kwS y ((1 <<< (y.1 561 &&& 31)) - 1) 110 0 (1 <<< (nI g &&& 31))))) (E x y)) : PW (3, 0, 0, z) m_Y_firstMinuteAllKnow post 0 [some (.ref 44), some (.int u), none, none, none] [] (E x y) := by
  subst eu
  refine PW_iconst (v := 1) c_Y_firstMinuteAllKnow_0 (by decide) ?_
  refine PW_iload_n c_Y_firstMinuteAllKnow_1 rfl ?_
  refine PW_ishl c_Y_firstMinuteAllKnow_2 ?_
  refine PW_istore_n (i := 2) (L2 := [some (.ref 44), some (.int (nI g)), some (.int (1 <<< ((nI g) &&& 31))), none, none]) c_Y_firstMinuteAllKnow_3 rfl (Nat.le_of_ble_eq_true rfl) rfl rfl ?_
  refine PW_bipush (v := 109) c_Y_firstMinuteAllKnow_4 (by decide) ?_
  refine PW_istore_n (i := 3) (L2 := [some (.ref 44), some (.int (nI g)), some (.int (1 <<< ((nI g) &&& 31))), some (.int 109), none]) c_Y_firstMinuteAllKnow_6 rfl (Nat.le_of_ble_eq_true rfl) rfl rfl ?_
  refine PW_iconst (v := 0) c_Y_firstMinuteAllKnow_7 (by decide) ?_
  refine PW_istore (i := 4) (L2 := [some (.ref 44), some (.int (nI g)), some (.int (1 <<< ((nI g) &&& 31))), some (.int 109), some (.int 0)]) c_Y_firstMinuteAllKnow_8 (Nat.le_of_ble_eq_true rfl) rfl rfl ?_
  exact lp2_Y_firstMinuteAllKnow C (by rw [C.x51]) 110 0 _ (by omega) (S10_sh hg) h
theorem sp_Y_whoKnows {z : ZS} {post : Option Value → List PE → Prop} {x y : XS} {u v : Int32} {g K : Nat} (C : CPg x y) (eu : u = nI g) (ev : v = nI K) (hg : g < 10) (hK : K < 1000) (h : post (some (.int (kwI y K 1 (1 <<< (nI g &&& 31))))) (E x y)) : PW (3, 0, 0, z) m_Y_whoKnows post 0 [some (.ref 44), some (.int u), some (.int v), none, none] [] (E x y) := by
  subst eu; subst ev
  refine PW_iconst (v := 1) c_Y_whoKnows_0 (by decide) ?_
  refine PW_iload_n c_Y_whoKnows_1 rfl ?_
  refine PW_ishl c_Y_whoKnows_2 ?_
  refine PW_istore_n (i := 3) (L2 := [some (.ref 44), some (.int (nI g)), some (.int (nI K)), some (.int (1 <<< ((nI g) &&& 31))), none]) c_Y_whoKnows_3 rfl (Nat.le_of_ble_eq_true rfl) rfl rfl ?_
  refine PW_iconst (v := 1) c_Y_whoKnows_4 (by decide) ?_
  refine PW_istore (i := 4) (L2 := [some (.ref 44), some (.int (nI g)), some (.int (nI K)), some (.int (1 <<< ((nI g) &&& 31))), some (.int 1)]) c_Y_whoKnows_5 (Nat.le_of_ble_eq_true rfl) rfl rfl ?_
  exact lp_Y_whoKnows C hK K 1 _ (by omega) (S10_sh hg) h
