/-! piles -/
theorem lgz {a b : Int64} : lg_cmp a b = 0 ↔ a = b := by
  unfold lg_cmp
  by_cases h : a > b
  · rw [if_pos h]
    exact ⟨fun q => absurd q (by decide), fun q => absurd (q ▸ h) (by rw [gt_iff_lt, Int64.lt_iff_toInt_lt]; omega)⟩
  · rw [if_neg h]
    by_cases h2 : a = b
    · rw [if_pos h2]; exact ⟨fun _ => h2, fun _ => rfl⟩
    · rw [if_neg h2]; exact ⟨fun q => absurd q (by decide), fun q => absurd q h2⟩
theorem l2i_eq {e : Int64} {g : Int32} (h : -128 ≤ e.toInt ∧ e.toInt ≤ 127) : e = g.toInt64 ↔ e.toInt32 = g := by
  constructor
  · intro q
    rw [q, Int32.toInt32_toInt64]
  · intro q
    rw [← q, ← Int64.toInt_inj, Int32.toInt_toInt64, Int64.toInt_toInt32]
    exact (bmod_in (by omega) (by omega)).symm
def lowF (fr : Nat → Bool) (f : Nat → Int64) (g : Int64) : Nat → Nat → Int32
  | 0, _ => -1
  | j + 1, k => if fr k = true ∧ f k = g then nI k else lowF fr f g j (k + 1)
def cntF (fr : Nat → Bool) : Nat → Nat → Int32 → Int32
  | 0, _, acc => acc
  | j + 1, k, acc => cntF fr j (k + 1) (acc + if fr k = true then 1 else 0)
def lifF (f : Nat → Int32) (g w : Int32) : Nat → Nat → Int32
  | 0, _ => -2
  | j + 1, k => if f k = g then w - 1 - nI k else lifF f g w j (k + 1)
theorem lowF_hit {fr : Nat → Bool} {f : Nat → Int64} {g : Int64} {p : Nat} (h1 : fr p = true ∧ f p = g) : ∀ j k : Nat, (∀ i, k ≤ i → i < p → ¬ (fr i = true ∧ f i = g)) → k ≤ p → p < k + j → lowF fr f g j k = nI p
  | 0, k, _, h3, h4 => by omega
  | j + 1, k, h2, h3, h4 => by
    rw [lowF]
    by_cases h : k = p
    · subst h; rw [if_pos h1]
    · rw [if_neg (h2 k (Nat.le_refl _) (by omega))]
      exact lowF_hit h1 j (k + 1) (fun i a b => h2 i (by omega) b) (by omega) (by omega)
theorem lowF_miss {fr : Nat → Bool} {f : Nat → Int64} {g : Int64} : ∀ j k : Nat, (∀ i, k ≤ i → i < k + j → ¬ (fr i = true ∧ f i = g)) → lowF fr f g j k = -1
  | 0, _, _ => rfl
  | j + 1, k, h => by
    rw [lowF, if_neg (h k (Nat.le_refl _) (by omega))]
    exact lowF_miss j (k + 1) (fun i a b => h i (by omega) (by omega))
theorem lifF_hit {f : Nat → Int32} {g w : Int32} {p : Nat} (h1 : f p = g) : ∀ j k : Nat, (∀ i, k ≤ i → i < p → ¬ f i = g) → k ≤ p → p < k + j → lifF f g w j k = w - 1 - nI p
  | 0, k, _, h3, h4 => by omega
  | j + 1, k, h2, h3, h4 => by
    rw [lifF]
    by_cases h : k = p
    · subst h; rw [if_pos h1]
    · rw [if_neg (h2 k (Nat.le_refl _) (by omega))]
      exact lifF_hit h1 j (k + 1) (fun i a b => h2 i (by omega) b) (by omega) (by omega)
theorem lifF_miss {f : Nat → Int32} {g w : Int32} : ∀ j k : Nat, (∀ i, k ≤ i → i < k + j → ¬ f i = g) → lifF f g w j k = -2
  | 0, _, _ => rfl
  | j + 1, k, h => by
    rw [lifF, if_neg (h k (Nat.le_refl _) (by omega))]
    exact lifF_miss j (k + 1) (fun i a b => h i (by omega) (by omega))
theorem cntF_all : ∀ (j k : Nat) (acc : Int32), cntF (fun _ => true) j k acc = acc + nI j
  | 0, _, acc => (Int32.add_zero acc).symm
  | j + 1, k, acc => by
    rw [cntF, cntF_all j, if_pos rfl, Int32.add_assoc, show (1 : Int32) = nI 1 from rfl, nI_add, Nat.add_comm 1 j]
theorem first_or {P : Nat → Prop} (n : Nat) : (∃ p, p < n ∧ P p ∧ ∀ i, i < p → ¬ P i) ∨ ∀ i, i < n → ¬ P i := by
  induction n with
  | zero => exact Or.inr fun i h => by omega
  | succ n ih =>
    rcases ih with ⟨p, h1, h2, h3⟩ | h
    · exact Or.inl ⟨p, by omega, h2, h3⟩
    · by_cases q : P n
      · exact Or.inl ⟨n, by omega, q, h⟩
      · refine Or.inr fun i hi => ?_
        rcases Nat.lt_or_ge i n with a | a
        · exact h i a
        · rw [show i = n by omega]; exact q
/-- which places a mask leaves free -/
def frO (t : Int64) (fr : Nat → Bool) : Prop := ∀ k : Nat, k < 60 → (lg_cmp ((t.toUInt64 >>> ((nI k).toInt64.toUInt64 &&& Int64.toUInt64 63)).toInt64 &&& 1) 0 = 0 ↔ fr k = true)
theorem frO_0 : frO 0 (fun _ => true) := fun k hk => ⟨fun _ => rfl, fun _ => (by decide +kernel : ∀ k : Nat, k < 60 → lg_cmp (((0 : Int64).toUInt64 >>> ((nI k).toInt64.toUInt64 &&& Int64.toUInt64 63)).toInt64 &&& 1) 0 = 0) k hk⟩
theorem ge_t2 {a b : Nat} {x : Int32} (e : x = nI a) (ha : a < 2 ^ 31) (hb : b < 2 ^ 31) : x ≤ nI b ↔ a ≤ b := by rw [e]; exact nI_leI ha hb
theorem n60 {k : Nat} (h : k < 60) : ¬ (60 : Int32) ≤ nI k := fun q => absurd ((nI_leI (by decide) (by omega)).mp (show nI 60 ≤ nI k from q)) (by omega)
theorem lp_F_lowest {z : ZS} {post : Option Value → List PE → Prop} {x y : XS} {sj n : Nat} {fr : Nat → Bool} {t : Int64} {g : Int32} (hsj : sj < 6) (hn : n ≤ 60) (hz : x.1 ((58 + 2 * sj) * 8 + 4) = nI n) (hfr : frO t fr) : ∀ j k : Nat, k + j = n → post (some (.int (lowF fr (x.2.2 (59 + 2 * sj)) g.toInt64 j k))) (E x y) → PW (0, 0, 0, z) m_F_lowest post 3 [some (.ref (58 + 2 * sj)), some (.int g), some (.long t), none, some (.int (nI k))] [] (E x y) := by
  intro j
  induction j with
  | zero =>
    intro k hk h
    refine PW_iload c_F_lowest_3 rfl ?_
    refine PW_aload_n c_F_lowest_5 rfl ?_
    refine PW_get (v := .int (x.1 ((58 + 2 * sj) * 8 + 4))) c_F_lowest_6 fl_F_25 (sh_g4 _ _ hsj) ?_
    refine PW_icmp_ge c_F_lowest_9 (fun h0 => ?_) (fun h0 => absurd ((ge_t2 hz (by omega) (by omega)).mpr (by omega)) h0)
    refine PW_iconst (v := -1) c_F_lowest_52 (by decide) ?_
    refine PW_ireturn (ty := .int) c_F_lowest_53 rfl rfl ?_
    exact h
  | succ j ih =>
    intro k hk h
    rw [lowF] at h
    by_cases hA : fr k = true ∧ x.2.2 (59 + 2 * sj) k = g.toInt64
    · rw [if_pos hA] at h
      refine PW_iload c_F_lowest_3 rfl ?_
      refine PW_aload_n c_F_lowest_5 rfl ?_
      refine PW_get (v := .int (x.1 ((58 + 2 * sj) * 8 + 4))) c_F_lowest_6 fl_F_25 (sh_g4 _ _ hsj) ?_
      refine PW_icmp_ge c_F_lowest_9 (fun h0 => absurd h0 (fun q => absurd ((ge_t2 hz (by omega) (by omega)).mp q) (by omega))) (fun h0 => ?_)
      refine PW_iload c_F_lowest_12 rfl ?_
      refine PW_bipush (v := 60) c_F_lowest_14 (by decide) ?_
      refine PW_icmp_ge c_F_lowest_16 (fun h1 => absurd h1 (n60 (by omega))) (fun h1 => ?_)
      refine PW_lload_n c_F_lowest_19 rfl ?_
      refine PW_iload c_F_lowest_20 rfl ?_
      refine PW_lushr c_F_lowest_22 ?_
      refine PW_lconst (v := 1) c_F_lowest_23 (by decide) ?_
      refine PW_land c_F_lowest_24 ?_
      refine PW_lconst (v := 0) c_F_lowest_25 (by decide) ?_
      refine PW_lcmp c_F_lowest_26 ?_
      refine PW_if_ne c_F_lowest_27 (fun h2 => absurd h2 (not_not_intro ((hfr k (by omega)).mpr hA.1))) (fun h2 => ?_)
      refine PW_aload_n c_F_lowest_30 rfl ?_
      refine PW_get (v := .ref (59 + 2 * sj)) c_F_lowest_31 fl_F_11 (sh_g0 _ _ hsj) ?_
      refine PW_iload c_F_lowest_34 rfl ?_
      refine PW_lald (j := k) c_F_lowest_36 (sh_r _ _ hsj) (vp_in_nI (by omega) (by decide)) (nI_clamp (by omega)) ?_
      show PW _ _ _ 37 [some (.ref (58 + 2 * sj)), some (.int g), some (.long t), none, some (.int (nI k))] [.long ((x.2.2 (59 + 2 * sj)) k)] (E x y)
      refine PW_iload_n c_F_lowest_37 rfl ?_
      refine PW_i2l c_F_lowest_38 ?_
      refine PW_lcmp c_F_lowest_39 ?_
      refine PW_if_ne c_F_lowest_40 (fun h3 => absurd h3 (not_not_intro (lgz.mpr hA.2))) (fun h3 => ?_)
      refine PW_iload c_F_lowest_43 rfl ?_
      refine PW_ireturn (ty := .int) c_F_lowest_45 rfl rfl ?_
      exact h
    · rw [if_neg hA] at h
      by_cases hB : fr k = true
      · skip
        refine PW_iload c_F_lowest_3 rfl ?_
        refine PW_aload_n c_F_lowest_5 rfl ?_
        refine PW_get (v := .int (x.1 ((58 + 2 * sj) * 8 + 4))) c_F_lowest_6 fl_F_25 (sh_g4 _ _ hsj) ?_
        refine PW_icmp_ge c_F_lowest_9 (fun h0 => absurd h0 (fun q => absurd ((ge_t2 hz (by omega) (by omega)).mp q) (by omega))) (fun h0 => ?_)
        refine PW_iload c_F_lowest_12 rfl ?_
        refine PW_bipush (v := 60) c_F_lowest_14 (by decide) ?_
        refine PW_icmp_ge c_F_lowest_16 (fun h1 => absurd h1 (n60 (by omega))) (fun h1 => ?_)
        refine PW_lload_n c_F_lowest_19 rfl ?_
        refine PW_iload c_F_lowest_20 rfl ?_
        refine PW_lushr c_F_lowest_22 ?_
        refine PW_lconst (v := 1) c_F_lowest_23 (by decide) ?_
        refine PW_land c_F_lowest_24 ?_
        refine PW_lconst (v := 0) c_F_lowest_25 (by decide) ?_
        refine PW_lcmp c_F_lowest_26 ?_
        refine PW_if_ne c_F_lowest_27 (fun h2 => absurd h2 (not_not_intro ((hfr k (by omega)).mpr hB))) (fun h2 => ?_)
        refine PW_aload_n c_F_lowest_30 rfl ?_
        refine PW_get (v := .ref (59 + 2 * sj)) c_F_lowest_31 fl_F_11 (sh_g0 _ _ hsj) ?_
        refine PW_iload c_F_lowest_34 rfl ?_
        refine PW_lald (j := k) c_F_lowest_36 (sh_r _ _ hsj) (vp_in_nI (by omega) (by decide)) (nI_clamp (by omega)) ?_
        show PW _ _ _ 37 [some (.ref (58 + 2 * sj)), some (.int g), some (.long t), none, some (.int (nI k))] [.long ((x.2.2 (59 + 2 * sj)) k)] (E x y)
        refine PW_iload_n c_F_lowest_37 rfl ?_
        refine PW_i2l c_F_lowest_38 ?_
        refine PW_lcmp c_F_lowest_39 ?_
        refine PW_if_ne c_F_lowest_40 (fun h3 => ?_) (fun h3 => absurd h3 (fun q => hA ⟨hB, lgz.mp q⟩))
        refine PW_iinc (i := 4) (v := (nI k) + 1) (L2 := [some (.ref (58 + 2 * sj)), some (.int g), some (.long t), none, some (.int ((nI k) + 1))]) c_F_lowest_46 rfl (iinc_v (by decide)) (Nat.le_of_ble_eq_true rfl) rfl rfl ?_
        refine PW_goto c_F_lowest_49 ?_
        refine PW.eqL ?_ rfl rfl (ih (k + 1) (by omega) h)
        show ([some (.ref (58 + 2 * sj)), some (.int g), some (.long t), none, some (.int ((nI k) + 1))] : List (Option Value)) = [some (.ref (58 + 2 * sj)), some (.int g), some (.long t), none, some (.int (nI (k + 1)))]
        rw [nI_1]
      · skip
        refine PW_iload c_F_lowest_3 rfl ?_
        refine PW_aload_n c_F_lowest_5 rfl ?_
        refine PW_get (v := .int (x.1 ((58 + 2 * sj) * 8 + 4))) c_F_lowest_6 fl_F_25 (sh_g4 _ _ hsj) ?_
        refine PW_icmp_ge c_F_lowest_9 (fun h0 => absurd h0 (fun q => absurd ((ge_t2 hz (by omega) (by omega)).mp q) (by omega))) (fun h0 => ?_)
        refine PW_iload c_F_lowest_12 rfl ?_
        refine PW_bipush (v := 60) c_F_lowest_14 (by decide) ?_
        refine PW_icmp_ge c_F_lowest_16 (fun h1 => absurd h1 (n60 (by omega))) (fun h1 => ?_)
        refine PW_lload_n c_F_lowest_19 rfl ?_
        refine PW_iload c_F_lowest_20 rfl ?_
        refine PW_lushr c_F_lowest_22 ?_
        refine PW_lconst (v := 1) c_F_lowest_23 (by decide) ?_
        refine PW_land c_F_lowest_24 ?_
        refine PW_lconst (v := 0) c_F_lowest_25 (by decide) ?_
        refine PW_lcmp c_F_lowest_26 ?_
        refine PW_if_ne c_F_lowest_27 (fun h2 => ?_) (fun h2 => absurd h2 (fun q => hB ((hfr k (by omega)).mp q)))
        refine PW_iinc (i := 4) (v := (nI k) + 1) (L2 := [some (.ref (58 + 2 * sj)), some (.int g), some (.long t), none, some (.int ((nI k) + 1))]) c_F_lowest_46 rfl (iinc_v (by decide)) (Nat.le_of_ble_eq_true rfl) rfl rfl ?_
        refine PW_goto c_F_lowest_49 ?_
        refine PW.eqL ?_ rfl rfl (ih (k + 1) (by omega) h)
        show ([some (.ref (58 + 2 * sj)), some (.int g), some (.long t), none, some (.int ((nI k) + 1))] : List (Option Value)) = [some (.ref (58 + 2 * sj)), some (.int g), some (.long t), none, some (.int (nI (k + 1)))]
        rw [nI_1]
theorem sp_F_lowest {z : ZS} {post : Option Value → List PE → Prop} {x y : XS} {sj n : Nat} {fr : Nat → Bool} {t : Int64} {g : Int32} (hsj : sj < 6) (hn : n ≤ 60) (hz : x.1 ((58 + 2 * sj) * 8 + 4) = nI n) (hfr : frO t fr) (h : post (some (.int (lowF fr (x.2.2 (59 + 2 * sj)) g.toInt64 n 0))) (E x y)) : PW (0, 0, 0, z) m_F_lowest post 0 [some (.ref (58 + 2 * sj)), some (.int g), some (.long t), none, none] [] (E x y) := by
  refine PW_iconst (v := 0) c_F_lowest_0 (by decide) ?_
  refine PW_istore (i := 4) (L2 := [some (.ref (58 + 2 * sj)), some (.int g), some (.long t), none, some (.int 0)]) c_F_lowest_1 (Nat.le_of_ble_eq_true rfl) rfl rfl ?_
  exact lp_F_lowest hsj hn hz hfr n 0 (Nat.zero_add _) h
theorem lp_F_above {z : ZS} {post : Option Value → List PE → Prop} {x y : XS} {sj n : Nat} {fr : Nat → Bool} {t : Int64} {v : Int32} (hsj : sj < 6) (hn : n ≤ 60) (hz : x.1 ((58 + 2 * sj) * 8 + 4) = nI n) (hfr : frO t fr) : ∀ (j k : Nat) (acc : Int32), k + j = n → post (some (.int (cntF fr j k acc))) (E x y) → PW (1, 0, 0, z) m_F_above post 12 [some (.ref (58 + 2 * sj)), some (.int v), some (.long t), none, some (.int acc), some (.int (nI k))] [] (E x y) := by
  intro j
  induction j with
  | zero =>
    intro k acc hk h
    refine PW_iload c_F_above_12 rfl ?_
    refine PW_aload_n c_F_above_14 rfl ?_
    refine PW_get (v := .int (x.1 ((58 + 2 * sj) * 8 + 4))) c_F_above_15 fl_F_25 (sh_g4 _ _ hsj) ?_
    refine PW_icmp_ge c_F_above_18 (fun h0 => ?_) (fun h0 => absurd ((ge_t2 hz (by omega) (by omega)).mpr (by omega)) h0)
    refine PW_iload c_F_above_55 rfl ?_
    refine PW_ireturn (ty := .int) c_F_above_57 rfl rfl ?_
    exact h
  | succ j ih =>
    intro k acc hk h
    rw [cntF] at h
    by_cases hA : fr k = true
    · rw [if_pos hA] at h
      refine PW_iload c_F_above_12 rfl ?_
      refine PW_aload_n c_F_above_14 rfl ?_
      refine PW_get (v := .int (x.1 ((58 + 2 * sj) * 8 + 4))) c_F_above_15 fl_F_25 (sh_g4 _ _ hsj) ?_
      refine PW_icmp_ge c_F_above_18 (fun h0 => absurd h0 (fun q => absurd ((ge_t2 hz (by omega) (by omega)).mp q) (by omega))) (fun h0 => ?_)
      refine PW_iload c_F_above_21 rfl ?_
      refine PW_bipush (v := 60) c_F_above_23 (by decide) ?_
      refine PW_icmp_ge c_F_above_25 (fun h1 => absurd h1 (n60 (by omega))) (fun h1 => ?_)
      refine PW_iload c_F_above_28 rfl ?_
      refine PW_lload_n c_F_above_30 rfl ?_
      refine PW_iload c_F_above_31 rfl ?_
      refine PW_lushr c_F_above_33 ?_
      refine PW_lconst (v := 1) c_F_above_34 (by decide) ?_
      refine PW_land c_F_above_35 ?_
      refine PW_lconst (v := 0) c_F_above_36 (by decide) ?_
      refine PW_lcmp c_F_above_37 ?_
      refine PW_if_ne c_F_above_38 (fun h2 => absurd h2 (not_not_intro ((hfr k (by omega)).mpr hA))) (fun h2 => ?_)
      refine PW_iconst (v := 1) c_F_above_41 (by decide) ?_
      refine PW_goto c_F_above_42 ?_
      refine PW_iadd c_F_above_46 ?_
      refine PW_istore (i := 4) (L2 := [some (.ref (58 + 2 * sj)), some (.int v), some (.long t), none, some (.int (acc + 1)), some (.int (nI k))]) c_F_above_47 (Nat.le_of_ble_eq_true rfl) rfl rfl ?_
      refine PW_iinc (i := 5) (v := (nI k) + 1) (L2 := [some (.ref (58 + 2 * sj)), some (.int v), some (.long t), none, some (.int (acc + 1)), some (.int ((nI k) + 1))]) c_F_above_49 rfl (iinc_v (by decide)) (Nat.le_of_ble_eq_true rfl) rfl rfl ?_
      refine PW_goto c_F_above_52 ?_
      refine PW.eqL ?_ rfl rfl (ih (k + 1) (acc + 1) (by omega) h)
      show ([some (.ref (58 + 2 * sj)), some (.int v), some (.long t), none, some (.int (acc + 1)), some (.int ((nI k) + 1))] : List (Option Value)) = [some (.ref (58 + 2 * sj)), some (.int v), some (.long t), none, some (.int (acc + 1)), some (.int (nI (k + 1)))]
      rw [nI_1]
    · rw [if_neg hA] at h
      refine PW_iload c_F_above_12 rfl ?_
      refine PW_aload_n c_F_above_14 rfl ?_
      refine PW_get (v := .int (x.1 ((58 + 2 * sj) * 8 + 4))) c_F_above_15 fl_F_25 (sh_g4 _ _ hsj) ?_
      refine PW_icmp_ge c_F_above_18 (fun h0 => absurd h0 (fun q => absurd ((ge_t2 hz (by omega) (by omega)).mp q) (by omega))) (fun h0 => ?_)
      refine PW_iload c_F_above_21 rfl ?_
      refine PW_bipush (v := 60) c_F_above_23 (by decide) ?_
      refine PW_icmp_ge c_F_above_25 (fun h1 => absurd h1 (n60 (by omega))) (fun h1 => ?_)
      refine PW_iload c_F_above_28 rfl ?_
      refine PW_lload_n c_F_above_30 rfl ?_
      refine PW_iload c_F_above_31 rfl ?_
      refine PW_lushr c_F_above_33 ?_
      refine PW_lconst (v := 1) c_F_above_34 (by decide) ?_
      refine PW_land c_F_above_35 ?_
      refine PW_lconst (v := 0) c_F_above_36 (by decide) ?_
      refine PW_lcmp c_F_above_37 ?_
      refine PW_if_ne c_F_above_38 (fun h2 => ?_) (fun h2 => absurd h2 (fun q => hA ((hfr k (by omega)).mp q)))
      refine PW_iconst (v := 0) c_F_above_45 (by decide) ?_
      refine PW_iadd c_F_above_46 ?_
      refine PW_istore (i := 4) (L2 := [some (.ref (58 + 2 * sj)), some (.int v), some (.long t), none, some (.int (acc + 0)), some (.int (nI k))]) c_F_above_47 (Nat.le_of_ble_eq_true rfl) rfl rfl ?_
      refine PW_iinc (i := 5) (v := (nI k) + 1) (L2 := [some (.ref (58 + 2 * sj)), some (.int v), some (.long t), none, some (.int (acc + 0)), some (.int ((nI k) + 1))]) c_F_above_49 rfl (iinc_v (by decide)) (Nat.le_of_ble_eq_true rfl) rfl rfl ?_
      refine PW_goto c_F_above_52 ?_
      refine PW.eqL ?_ rfl rfl (ih (k + 1) (acc + 0) (by omega) h)
      show ([some (.ref (58 + 2 * sj)), some (.int v), some (.long t), none, some (.int (acc + 0)), some (.int ((nI k) + 1))] : List (Option Value)) = [some (.ref (58 + 2 * sj)), some (.int v), some (.long t), none, some (.int (acc + 0)), some (.int (nI (k + 1)))]
      rw [nI_1]
theorem sp_F_above {z : ZS} {post : Option Value → List PE → Prop} {x y : XS} {sj n : Nat} {fr : Nat → Bool} {t : Int64} {u : Int32} {p : Nat} (hsj : sj < 6) (hn : n ≤ 60) (hz : x.1 ((58 + 2 * sj) * 8 + 4) = nI n) (hfr : frO t fr) (eu : u = nI p) (hp : p < n) (h : post (some (.int (cntF fr (n - (p + 1)) (p + 1) 0))) (E x y)) : PW (1, 0, 0, z) m_F_above post 0 [some (.ref (58 + 2 * sj)), some (.int u), some (.long t), none, none, none] [] (E x y) := by
  subst eu
  refine PW_iconst (v := 0) c_F_above_0 (by decide) ?_
  refine PW_istore (i := 4) (L2 := [some (.ref (58 + 2 * sj)), some (.int (nI p)), some (.long t), none, some (.int 0), none]) c_F_above_1 (Nat.le_of_ble_eq_true rfl) rfl rfl ?_
  refine PW_iconst (v := 0) c_F_above_3 (by decide) ?_
  refine PW_iload_n c_F_above_4 rfl ?_
  refine PW_iconst (v := 1) c_F_above_5 (by decide) ?_
  refine PW_iadd c_F_above_6 ?_
  refine PW_mmax c_F_above_7 mk_F_above_34 (by decide) (by first | decide | exact Nat.le_of_ble_eq_true rfl) ?_
  rw [show (if 0 < ((nI p) + 1) then ((nI p) + 1) else 0 : Int32) = nI (p + 1) by rw [nI_1]; exact if_pos ((nI_ltI (by decide) (by omega)).mpr (by omega : 0 < p + 1))]
  show PW _ _ _ 10 [some (.ref (58 + 2 * sj)), some (.int (nI p)), some (.long t), none, some (.int 0), none] [.int (nI (p + 1))] (E x y)
  refine PW_istore (i := 5) (L2 := [some (.ref (58 + 2 * sj)), some (.int (nI p)), some (.long t), none, some (.int 0), some (.int (nI (p + 1)))]) c_F_above_10 (Nat.le_of_ble_eq_true rfl) rfl rfl ?_
  exact lp_F_above hsj hn hz hfr (n - (p + 1)) (p + 1) 0 (by omega) h
def wi (f : Nat → Int32) (h : Nat → Int32) (k : Nat) : Nat → Nat → Int32
  | 0 => h
  | j + 1 => wi f (upd h k (f k)) (k + 1) j
theorem wi_at (f : Nat → Int32) (j : Nat) : ∀ (h : Nat → Int32) (k i : Nat), wi f h k j i = if k ≤ i ∧ i < k + j then f i else h i := by
  induction j with
  | zero => intro h k i; rw [wi, if_neg (by omega)]
  | succ j ih =>
    intro h k i
    rw [wi, ih]
    by_cases q : i = k
    · subst q
      rw [upd_s, if_neg (by omega), if_pos (by omega)]
    · rw [upd_n q]
      by_cases h2 : k + 1 ≤ i ∧ i < k + 1 + j
      · rw [if_pos h2, if_pos (by omega)]
      · rw [if_neg h2, if_neg (by omega)]
theorem sA_id (x : XS) (r : Nat) : sA x r (x.2.1 r) = x := by
  refine Prod.ext rfl (Prod.ext (funext fun b => ?_) rfl)
  show (if b = r then x.2.1 r else x.2.1 b) = x.2.1 b
  by_cases h : b = r
  · rw [if_pos h, h]
  · rw [if_neg h]
theorem sA_sA (x : XS) (r : Nat) (f g : Nat → Int32) : sA (sA x r f) r g = sA x r g := by
  refine Prod.ext rfl (Prod.ext (funext fun b => ?_) rfl)
  show (if b = r then g else if b = r then f else x.2.1 b) = if b = r then g else x.2.1 b
  by_cases h : b = r
  · rw [if_pos h, if_pos h]
  · rw [if_neg h, if_neg h, if_neg h]
theorem sA_at (x : XS) (r : Nat) (f : Nat → Int32) : (sA x r f).2.1 r = f := if_pos rfl
/-- the pile of the shelf's row -/
def plF (y : XS) (sj : Nat) (k : Nat) : Int32 := (y.2.2 106 (60 * sj + k)).toInt32
theorem lp_M_layPile {z : ZS} {post : Option Value → List PE → Prop} {x : XS} {sj n : Nat} (hsj : sj < 6) (hn : n ≤ 60) : ∀ (j k : Nat) (y : XS), k + j = n → y.1 604 = nI n → post none (E x (sA y 99 (wi (plF y sj) (y.2.1 99) k j))) → PW (1, 0, 0, z) m_M_layPile post 12 [some (.ref 70), some (.int (nI sj)), some (.int (nI k))] [] (E x y) := by
  intro j
  induction j with
  | zero =>
    intro k y hk hz h
    refine PW_iload_n c_M_layPile_12 rfl ?_
    refine PW_aload_n c_M_layPile_13 rfl ?_
    refine PW_get (v := .int (y.1 604)) c_M_layPile_14 fl_M_333 (gf_70_44 _ _) ?_
    refine PW_icmp_ge c_M_layPile_17 (fun h0 => ?_) (fun h0 => absurd ((ge_t2 hz (by omega) (by omega)).mpr (by omega)) h0)
    refine PW_vreturn c_M_layPile_38 rfl ?_
    rw [wi, sA_id] at h
    exact h
  | succ j ih =>
    intro k y hk hz h
    rw [wi] at h
    refine PW_iload_n c_M_layPile_12 rfl ?_
    refine PW_aload_n c_M_layPile_13 rfl ?_
    refine PW_get (v := .int (y.1 604)) c_M_layPile_14 fl_M_333 (gf_70_44 _ _) ?_
    refine PW_icmp_ge c_M_layPile_17 (fun h0 => absurd h0 (fun q => absurd ((ge_t2 hz (by omega) (by omega)).mp q) (by omega))) (fun h0 => ?_)
    refine PW_aload_n c_M_layPile_20 rfl ?_
    refine PW_get (v := .ref 99) c_M_layPile_21 fl_M_96 (gf_70_43 _ _) ?_
    refine PW_iload_n c_M_layPile_24 rfl ?_
    refine PW_aload_n c_M_layPile_25 rfl ?_
    refine PW_iload_n c_M_layPile_26 rfl ?_
    refine PW_iload_n c_M_layPile_27 rfl ?_
    refine PW_V0 (d2 := 0) (st := [.int (nI k), .ref 99]) [.int (nI sj), .int (nI k)] c_M_layPile_28 lk_M_layPile_292 (po_70 _ _) rfl rfl rfl (Nat.le_of_ble_eq_true rfl) (by first | decide | omega) (Nat.le_of_ble_eq_true rfl) ?_
    show PW _ _ _ 0 [some (.ref 70), some (.int (nI sj)), some (.int (nI k))] [] (E x y)
    refine PW_aload_n c_M_byteAt_0 rfl ?_
    refine PW_get (v := .ref 106) c_M_byteAt_1 fl_M_117 (gf_70_55 _ _) ?_
    refine PW_bipush (v := 60) c_M_byteAt_4 (by decide) ?_
    refine PW_iload_n c_M_byteAt_6 rfl ?_
    refine PW_imul c_M_byteAt_7 ?_
    refine PW_iload_n c_M_byteAt_8 rfl ?_
    refine PW_iadd c_M_byteAt_9 ?_
    refine PW_lald (j := 60 * sj + k) c_M_byteAt_10 (ar_106 _ _) (by rw [show (60 : Int32) = nI 60 from rfl, pk_mul, nI_add]; exact vp_in_nI (by omega) (by decide)) (by rw [show (60 : Int32) = nI 60 from rfl, pk_mul, nI_add]; exact nI_clamp (by omega)) ?_
    show PW _ _ _ 11 [some (.ref 70), some (.int (nI sj)), some (.int (nI k))] [.long ((y.2.2 106) (60 * sj + k))] (E x y)
    refine PW_l2i c_M_byteAt_11 ?_
    refine PW_ireturn (ty := .int) c_M_byteAt_12 rfl rfl ?_
    show PW _ _ _ 31 [some (.ref 70), some (.int (nI sj)), some (.int (nI k))] [.int (((y.2.2 106) (60 * sj + k)).toInt32), .int (nI k), .ref 99] (E x y)
    refine PW_iast (j := k) (w2 := E x (sA y 99 (upd (y.2.1 99) k (((y.2.2 106) (60 * sj + k)).toInt32)))) c_M_layPile_31 (ar_99 _ _) (vp_in_nI (by omega) (by decide)) (nI_clamp (by omega)) (aw_99 _ _ _) ?_
    refine PW_iinc (i := 2) (v := (nI k) + 1) (L2 := [some (.ref 70), some (.int (nI sj)), some (.int ((nI k) + 1))]) c_M_layPile_32 rfl (iinc_v (by decide)) (Nat.le_of_ble_eq_true rfl) rfl rfl ?_
    refine PW_goto c_M_layPile_35 ?_
    refine PW.eqL ?_ rfl rfl (ih (k + 1) (sA y 99 (upd (y.2.1 99) k (((y.2.2 106) (60 * sj + k)).toInt32))) (by omega) hz ?_)
    · show ([some (.ref 70), some (.int (nI sj)), some (.int ((nI k) + 1))] : List (Option Value)) = [some (.ref 70), some (.int (nI sj)), some (.int (nI (k + 1)))]
      rw [nI_1]
    · rw [sA_sA, sA_at]
      exact h
theorem sp_M_layPile {z : ZS} {post : Option Value → List PE → Prop} {x y : XS} {sj n : Nat} (hsj : sj < 6) (hn : n ≤ 60) (hz : y.2.1 105 sj = nI n) (h : post none (E x (sA (sI y 604 (nI n)) 99 (wi (plF y sj) (y.2.1 99) 0 n)))) : PW (1, 0, 0, z) m_M_layPile post 0 [some (.ref 70), some (.int (nI sj)), none] [] (E x y) := by
  refine PW_aload_n c_M_layPile_0 rfl ?_
  refine PW_aload_n c_M_layPile_1 rfl ?_
  refine PW_get (v := .ref 105) c_M_layPile_2 fl_M_114 (gf_70_54 _ _) ?_
  refine PW_iload_n c_M_layPile_5 rfl ?_
  refine PW_iald (j := sj) c_M_layPile_6 (ar_105 _ _) (vp_in_nI hsj (by decide)) (nI_clamp (by omega)) ?_
  show PW _ _ _ 7 [some (.ref 70), some (.int (nI sj)), none] [.int ((y.2.1 105) sj), .ref 70] (E x y)
  refine PW_put (w2 := E x (sI y 604 ((y.2.1 105) sj))) c_M_layPile_7 fp_M_layPile_333 rfl (pf_70_44 _ _ _) ?_
  refine PW_iconst (v := 0) c_M_layPile_10 (by decide) ?_
  refine PW_istore_n (i := 2) (L2 := [some (.ref 70), some (.int (nI sj)), some (.int 0)]) c_M_layPile_11 rfl (Nat.le_of_ble_eq_true rfl) rfl rfl ?_
  rw [hz]
  exact lp_M_layPile hsj hn n 0 (sI y 604 (nI n)) (Nat.zero_add _) sI_s h
theorem lp_M_lifted {z : ZS} {post : Option Value → List PE → Prop} {x y : XS} {g : Int32} {n : Nat} (hn : n ≤ 60) (hz : y.1 604 = nI n) : ∀ j k : Nat, k + j = n → post (some (.int (lifF (y.2.1 99) g (nI n) j k))) (E x y) → PW (0, 0, 0, z) m_M_lifted post 2 [some (.ref 70), some (.int g), some (.int (nI k))] [] (E x y) := by
  intro j
  induction j with
  | zero =>
    intro k hk h
    refine PW_iload_n c_M_lifted_2 rfl ?_
    refine PW_aload_n c_M_lifted_3 rfl ?_
    refine PW_get (v := .int (y.1 604)) c_M_lifted_4 fl_M_333 (gf_70_44 _ _) ?_
    refine PW_icmp_ge c_M_lifted_7 (fun h0 => ?_) (fun h0 => absurd ((ge_t2 hz (by omega) (by omega)).mpr (by omega)) h0)
    refine PW_bipush (v := -2) c_M_lifted_35 (by decide) ?_
    refine PW_ireturn (ty := .int) c_M_lifted_37 rfl rfl ?_
    exact h
  | succ j ih =>
    intro k hk h
    rw [lifF] at h
    by_cases hA : y.2.1 99 k = g
    · rw [if_pos hA] at h
      refine PW_iload_n c_M_lifted_2 rfl ?_
      refine PW_aload_n c_M_lifted_3 rfl ?_
      refine PW_get (v := .int (y.1 604)) c_M_lifted_4 fl_M_333 (gf_70_44 _ _) ?_
      refine PW_icmp_ge c_M_lifted_7 (fun h0 => absurd h0 (fun q => absurd ((ge_t2 hz (by omega) (by omega)).mp q) (by omega))) (fun h0 => ?_)
      refine PW_aload_n c_M_lifted_10 rfl ?_
      refine PW_get (v := .ref 99) c_M_lifted_11 fl_M_96 (gf_70_43 _ _) ?_
      refine PW_iload_n c_M_lifted_14 rfl ?_
      refine PW_iald (j := k) c_M_lifted_15 (ar_99 _ _) (vp_in_nI (by omega) (by decide)) (nI_clamp (by omega)) ?_
      show PW _ _ _ 16 [some (.ref 70), some (.int g), some (.int (nI k))] [.int ((y.2.1 99) k)] (E x y)
      refine PW_iload_n c_M_lifted_16 rfl ?_
      refine PW_icmp_ne c_M_lifted_17 (fun h1 => absurd h1 (not_not_intro hA)) (fun h1 => ?_)
      refine PW_aload_n c_M_lifted_20 rfl ?_
      refine PW_get (v := .int (y.1 604)) c_M_lifted_21 fl_M_333 (gf_70_44 _ _) ?_
      refine PW_iconst (v := 1) c_M_lifted_24 (by decide) ?_
      refine PW_isub c_M_lifted_25 ?_
      refine PW_iload_n c_M_lifted_26 rfl ?_
      refine PW_isub c_M_lifted_27 ?_
      refine PW_ireturn (ty := .int) c_M_lifted_28 rfl rfl ?_
      rw [hz]
      exact h
    · rw [if_neg hA] at h
      refine PW_iload_n c_M_lifted_2 rfl ?_
      refine PW_aload_n c_M_lifted_3 rfl ?_
      refine PW_get (v := .int (y.1 604)) c_M_lifted_4 fl_M_333 (gf_70_44 _ _) ?_
      refine PW_icmp_ge c_M_lifted_7 (fun h0 => absurd h0 (fun q => absurd ((ge_t2 hz (by omega) (by omega)).mp q) (by omega))) (fun h0 => ?_)
      refine PW_aload_n c_M_lifted_10 rfl ?_
      refine PW_get (v := .ref 99) c_M_lifted_11 fl_M_96 (gf_70_43 _ _) ?_
      refine PW_iload_n c_M_lifted_14 rfl ?_
      refine PW_iald (j := k) c_M_lifted_15 (ar_99 _ _) (vp_in_nI (by omega) (by decide)) (nI_clamp (by omega)) ?_
      show PW _ _ _ 16 [some (.ref 70), some (.int g), some (.int (nI k))] [.int ((y.2.1 99) k)] (E x y)
      refine PW_iload_n c_M_lifted_16 rfl ?_
      refine PW_icmp_ne c_M_lifted_17 (fun h1 => ?_) (fun h1 => absurd h1 hA)
      refine PW_iinc (i := 2) (v := (nI k) + 1) (L2 := [some (.ref 70), some (.int g), some (.int ((nI k) + 1))]) c_M_lifted_29 rfl (iinc_v (by decide)) (Nat.le_of_ble_eq_true rfl) rfl rfl ?_
      refine PW_goto c_M_lifted_32 ?_
      refine PW.eqL ?_ rfl rfl (ih (k + 1) (by omega) h)
      show ([some (.ref 70), some (.int g), some (.int ((nI k) + 1))] : List (Option Value)) = [some (.ref 70), some (.int g), some (.int (nI (k + 1)))]
      rw [nI_1]
theorem sp_M_lifted {z : ZS} {post : Option Value → List PE → Prop} {x y : XS} {g : Int32} {n : Nat} (hn : n ≤ 60) (hz : y.1 604 = nI n) (h : post (some (.int (lifF (y.2.1 99) g (nI n) n 0))) (E x y)) : PW (0, 0, 0, z) m_M_lifted post 0 [some (.ref 70), some (.int g), none] [] (E x y) := by
  refine PW_iconst (v := 0) c_M_lifted_0 (by decide) ?_
  refine PW_istore_n (i := 2) (L2 := [some (.ref 70), some (.int g), some (.int 0)]) c_M_lifted_1 rfl (Nat.le_of_ble_eq_true rfl) rfl rfl ?_
  exact lp_M_lifted hn hz n 0 (Nat.zero_add _) h
theorem sub2 {n p : Nat} (h : p < n) (hn : n ≤ 60) : nI n - 1 - nI p = nI (n - (p + 1)) := (by decide +kernel : ∀ n : Nat, n < 61 → ∀ p : Nat, p < n → nI n - 1 - nI p = nI (n - (p + 1))) n (by omega) p h
theorem so_ne0 {s : Nat} (hs : s < 5) (h : ¬ s = 0) : ¬ (-2 - nI s = -2) := (by decide : ∀ s : Nat, s < 5 → ¬ s = 0 → ¬ (-2 - nI s = -2)) s hs h
