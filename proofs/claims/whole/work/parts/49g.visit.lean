/-! a pair -/
def orW (w : Nat → Int32) : Nat → Int32
  | 0 => 0
  | k + 1 => orW w k ||| w k
def orB (e w : Nat → Int32) (m : Int32) : Nat → Int32
  | 0 => 0
  | k + 1 => if e k < m then orB e w m k ||| w k else orB e w m k
def orA (acc : Int32) (e w : Nat → Int32) (m : Int32) : Nat → Int32
  | 0 => acc
  | k + 1 => if e k < m then orA acc e w m k ||| w k else orA acc e w m k
theorem orA_eq (acc : Int32) (e w : Nat → Int32) (m : Int32) : ∀ k, orA acc e w m k = acc ||| orB e w m k
  | 0 => (or_0 acc).symm
  | k + 1 => by
    rw [orA, orB, orA_eq acc e w m k]
    split
    · exact or2 _ _ _
    · rfl
theorem orW_cong {w w' : Nat → Int32} : ∀ {k : Nat}, (∀ i, i < k → w i = w' i) → orW w k = orW w' k
  | 0, _ => rfl
  | k + 1, h => by rw [orW, orW, h k (by omega), orW_cong (fun i hi => h i (by omega))]
theorem orB_cong {e e' w w' : Nat → Int32} {m : Int32} : ∀ {k : Nat}, (∀ i, i < k → e i = e' i ∧ w i = w' i) → orB e w m k = orB e' w' m k
  | 0, _ => rfl
  | k + 1, h => by rw [orB, orB, (h k (by omega)).1, (h k (by omega)).2, orB_cong (fun i hi => h i (by omega))]
theorem orB_all {e w : Nat → Int32} {m : Int32} : ∀ {k : Nat}, (∀ i, i < k → e i < m) → orB e w m k = orW w k
  | 0, _ => rfl
  | k + 1, h => by rw [orB, orW, if_pos (h k (by omega)), orB_all (fun i hi => h i (by omega))]
def pXs (o c r1 r2 : Nat) (X : XS) (a : Nat) (m t : Int32) (k : Nat) (ef wf : Nat → Int32) : Prop := lvS o X a m t ∧ X.1 c = nI k ∧ ∀ i, i < k → X.2.1 r1 i = ef i ∧ X.2.1 r2 i = wf i
def pYs (s : Nat) (Y : XS) (a : Nat) (m : Int32) (k : Nat) (ef wf : Nat → Int32) : Prop := Y.2.1 93 s = nI a ∧ Y.2.1 94 s = m ∧ Y.2.1 95 s = nI k ∧ Y.2.1 96 s = nI k ∧ ∀ i, i < k → Y.2.1 98 (12 * s + i) = ef i ∧ Y.2.1 97 (12 * s + i) = wf i
theorem lp_tb0 {z : ZS} {post : Option Value → List PE → Prop} {x y : XS} {m : Int32} {K : Nat} (hK : K ≤ 12) (h : post (some (.int (orB (x.2.1 37) (x.2.1 40) m K))) (E x y)) : ∀ j i : Nat, i + j = K → PW (0, 0, 0, z) m_P_toldBefore post 17 [some (.ref 35), some (.int m), some (.int 0), some (.int (nI K)), some (.int (orB (x.2.1 37) (x.2.1 40) m i)), some (.int (nI i))] [] (E x y) := by
  intro j
  induction j with
  | zero =>
    intro i hi
    refine PW_iload c_P_toldBefore_17 rfl ?_
    refine PW_iload_n c_P_toldBefore_19 rfl ?_
    refine PW_icmp_ge c_P_toldBefore_20 (fun h0 => ?_) (fun h0 => absurd ((nI_leI (by omega) (by omega)).mpr (by omega)) h0)
    refine PW_iload c_P_toldBefore_63 rfl ?_
    refine PW_ireturn (ty := .int) c_P_toldBefore_65 rfl rfl ?_
    rw [show i = K by omega]
    exact h
  | succ j ih =>
    intro i hi
    by_cases hA : x.2.1 37 i < m
    · skip
      refine PW_iload c_P_toldBefore_17 rfl ?_
      refine PW_iload_n c_P_toldBefore_19 rfl ?_
      refine PW_icmp_ge c_P_toldBefore_20 (fun h0 => absurd h0 (fun q => absurd ((nI_leI (by omega) (by omega)).mp q) (by omega))) (fun h0 => ?_)
      refine PW_iload c_P_toldBefore_23 rfl ?_
      refine PW_bipush (v := 12) c_P_toldBefore_25 (by decide) ?_
      refine PW_icmp_ge c_P_toldBefore_27 (fun h1 => absurd h1 (fun q => absurd ((nI_leI (by decide) (by omega)).mp (show nI 12 ≤ nI i from q)) (by omega))) (fun h1 => ?_)
      refine PW_aload_n c_P_toldBefore_30 rfl ?_
      refine PW_get (v := .ref 36) c_P_toldBefore_31 fl_P_11 (gf_35_3 _ _) ?_
      refine PW_iload_n c_P_toldBefore_34 rfl ?_
      refine PW_aald (j := 0) c_P_toldBefore_35 (ar_36 _ _) (t0 := 5) rfl rfl (vp_in_iff.mpr (by decide)) rfl ?_
      rw [if_pos (by decide)]
      show PW _ _ _ 36 [some (.ref 35), some (.int m), some (.int 0), some (.int (nI K)), some (.int (orB (x.2.1 37) (x.2.1 40) m i)), some (.int (nI i))] [.ref 37] (E x y)
      refine PW_iload c_P_toldBefore_36 rfl ?_
      refine PW_iald (j := i) c_P_toldBefore_38 (ar_37 _ _) (vp_in_nI (by omega) (by decide)) (nI_clamp (by omega)) ?_
      show PW _ _ _ 39 [some (.ref 35), some (.int m), some (.int 0), some (.int (nI K)), some (.int (orB (x.2.1 37) (x.2.1 40) m i)), some (.int (nI i))] [.int ((x.2.1 37) i)] (E x y)
      refine PW_iload_n c_P_toldBefore_39 rfl ?_
      refine PW_icmp_ge c_P_toldBefore_40 (fun h2 => absurd h2 (Int32.not_le.mpr hA)) (fun h2 => ?_)
      refine PW_iload c_P_toldBefore_43 rfl ?_
      refine PW_aload_n c_P_toldBefore_45 rfl ?_
      refine PW_get (v := .ref 39) c_P_toldBefore_46 fl_P_16 (gf_35_4 _ _) ?_
      refine PW_iload_n c_P_toldBefore_49 rfl ?_
      refine PW_aald (j := 0) c_P_toldBefore_50 (ar_39 _ _) (t0 := 5) rfl rfl (vp_in_iff.mpr (by decide)) rfl ?_
      rw [if_pos (by decide)]
      show PW _ _ _ 51 [some (.ref 35), some (.int m), some (.int 0), some (.int (nI K)), some (.int (orB (x.2.1 37) (x.2.1 40) m i)), some (.int (nI i))] [.ref 40, .int (orB (x.2.1 37) (x.2.1 40) m i)] (E x y)
      refine PW_iload c_P_toldBefore_51 rfl ?_
      refine PW_iald (j := i) c_P_toldBefore_53 (ar_40 _ _) (vp_in_nI (by omega) (by decide)) (nI_clamp (by omega)) ?_
      show PW _ _ _ 54 [some (.ref 35), some (.int m), some (.int 0), some (.int (nI K)), some (.int (orB (x.2.1 37) (x.2.1 40) m i)), some (.int (nI i))] [.int ((x.2.1 40) i), .int (orB (x.2.1 37) (x.2.1 40) m i)] (E x y)
      refine PW_ior c_P_toldBefore_54 ?_
      refine PW_istore (i := 4) (L2 := [some (.ref 35), some (.int m), some (.int 0), some (.int (nI K)), some (.int ((orB (x.2.1 37) (x.2.1 40) m i) ||| ((x.2.1 40) i))), some (.int (nI i))]) c_P_toldBefore_55 (Nat.le_of_ble_eq_true rfl) rfl rfl ?_
      refine PW_iinc (i := 5) (v := (nI i) + 1) (L2 := [some (.ref 35), some (.int m), some (.int 0), some (.int (nI K)), some (.int ((orB (x.2.1 37) (x.2.1 40) m i) ||| ((x.2.1 40) i))), some (.int ((nI i) + 1))]) c_P_toldBefore_57 rfl (iinc_v (by decide)) (Nat.le_of_ble_eq_true rfl) rfl rfl ?_
      refine PW_goto c_P_toldBefore_60 ?_
      refine PW.eqL ?_ rfl rfl (ih (i + 1) (by omega))
      show ([some (.ref 35), some (.int m), some (.int 0), some (.int (nI K)), some (.int ((orB (x.2.1 37) (x.2.1 40) m i) ||| ((x.2.1 40) i))), some (.int ((nI i) + 1))] : List (Option Value)) = [some (.ref 35), some (.int m), some (.int 0), some (.int (nI K)), some (.int (orB (x.2.1 37) (x.2.1 40) m (i + 1))), some (.int (nI (i + 1)))]
      rw [nI_1, orB, if_pos hA]
    · skip
      refine PW_iload c_P_toldBefore_17 rfl ?_
      refine PW_iload_n c_P_toldBefore_19 rfl ?_
      refine PW_icmp_ge c_P_toldBefore_20 (fun h0 => absurd h0 (fun q => absurd ((nI_leI (by omega) (by omega)).mp q) (by omega))) (fun h0 => ?_)
      refine PW_iload c_P_toldBefore_23 rfl ?_
      refine PW_bipush (v := 12) c_P_toldBefore_25 (by decide) ?_
      refine PW_icmp_ge c_P_toldBefore_27 (fun h1 => absurd h1 (fun q => absurd ((nI_leI (by decide) (by omega)).mp (show nI 12 ≤ nI i from q)) (by omega))) (fun h1 => ?_)
      refine PW_aload_n c_P_toldBefore_30 rfl ?_
      refine PW_get (v := .ref 36) c_P_toldBefore_31 fl_P_11 (gf_35_3 _ _) ?_
      refine PW_iload_n c_P_toldBefore_34 rfl ?_
      refine PW_aald (j := 0) c_P_toldBefore_35 (ar_36 _ _) (t0 := 5) rfl rfl (vp_in_iff.mpr (by decide)) rfl ?_
      rw [if_pos (by decide)]
      show PW _ _ _ 36 [some (.ref 35), some (.int m), some (.int 0), some (.int (nI K)), some (.int (orB (x.2.1 37) (x.2.1 40) m i)), some (.int (nI i))] [.ref 37] (E x y)
      refine PW_iload c_P_toldBefore_36 rfl ?_
      refine PW_iald (j := i) c_P_toldBefore_38 (ar_37 _ _) (vp_in_nI (by omega) (by decide)) (nI_clamp (by omega)) ?_
      show PW _ _ _ 39 [some (.ref 35), some (.int m), some (.int 0), some (.int (nI K)), some (.int (orB (x.2.1 37) (x.2.1 40) m i)), some (.int (nI i))] [.int ((x.2.1 37) i)] (E x y)
      refine PW_iload_n c_P_toldBefore_39 rfl ?_
      refine PW_icmp_ge c_P_toldBefore_40 (fun h2 => ?_) (fun h2 => absurd (Int32.not_lt.mp hA) h2)
      refine PW_iinc (i := 5) (v := (nI i) + 1) (L2 := [some (.ref 35), some (.int m), some (.int 0), some (.int (nI K)), some (.int (orB (x.2.1 37) (x.2.1 40) m i)), some (.int ((nI i) + 1))]) c_P_toldBefore_57 rfl (iinc_v (by decide)) (Nat.le_of_ble_eq_true rfl) rfl rfl ?_
      refine PW_goto c_P_toldBefore_60 ?_
      refine PW.eqL ?_ rfl rfl (ih (i + 1) (by omega))
      show ([some (.ref 35), some (.int m), some (.int 0), some (.int (nI K)), some (.int (orB (x.2.1 37) (x.2.1 40) m i)), some (.int ((nI i) + 1))] : List (Option Value)) = [some (.ref 35), some (.int m), some (.int 0), some (.int (nI K)), some (.int (orB (x.2.1 37) (x.2.1 40) m (i + 1))), some (.int (nI (i + 1)))]
      rw [nI_1, orB, if_neg hA]
theorem sp_tb0 {z : ZS} {post : Option Value → List PE → Prop} {x y : XS} {m : Int32} {K : Nat} (hK : K ≤ 12) (h : post (some (.int (orB (x.2.1 37) (x.2.1 40) m K))) (E x y)) : PW (0, 0, 0, z) m_P_toldBefore post 0 [some (.ref 35), some (.int m), some (.int 0), some (.int (nI K)), none, none] [] (E x y) := by
  refine PW_iload_n c_P_toldBefore_0 rfl ?_
  refine PW_if_lt c_P_toldBefore_1 (fun h0 => absurd h0 (by decide)) (fun _ => ?_)
  refine PW_iload_n c_P_toldBefore_4 rfl ?_
  refine PW_iconst (v := 2) c_P_toldBefore_5 (by decide) ?_
  refine PW_icmp_lt c_P_toldBefore_6 (fun _ => ?_) (fun h1 => absurd (by decide) h1)
  refine PW_iconst (v := 0) c_P_toldBefore_11 (by decide) ?_
  refine PW_istore (i := 4) (L2 := [some (.ref 35), some (.int m), some (.int 0), some (.int (nI K)), some (.int 0), none]) c_P_toldBefore_12 (Nat.le_of_ble_eq_true rfl) rfl rfl ?_
  refine PW_iconst (v := 0) c_P_toldBefore_14 (by decide) ?_
  refine PW_istore (i := 5) (L2 := [some (.ref 35), some (.int m), some (.int 0), some (.int (nI K)), some (.int 0), some (.int 0)]) c_P_toldBefore_15 (Nat.le_of_ble_eq_true rfl) rfl rfl ?_
  exact lp_tb0 hK h K 0 (Nat.zero_add _)
theorem lp_tb1 {z : ZS} {post : Option Value → List PE → Prop} {x y : XS} {m : Int32} {K : Nat} (hK : K ≤ 12) (h : post (some (.int (orB (x.2.1 38) (x.2.1 41) m K))) (E x y)) : ∀ j i : Nat, i + j = K → PW (0, 0, 0, z) m_P_toldBefore post 17 [some (.ref 35), some (.int m), some (.int 1), some (.int (nI K)), some (.int (orB (x.2.1 38) (x.2.1 41) m i)), some (.int (nI i))] [] (E x y) := by
  intro j
  induction j with
  | zero =>
    intro i hi
    refine PW_iload c_P_toldBefore_17 rfl ?_
    refine PW_iload_n c_P_toldBefore_19 rfl ?_
    refine PW_icmp_ge c_P_toldBefore_20 (fun h0 => ?_) (fun h0 => absurd ((nI_leI (by omega) (by omega)).mpr (by omega)) h0)
    refine PW_iload c_P_toldBefore_63 rfl ?_
    refine PW_ireturn (ty := .int) c_P_toldBefore_65 rfl rfl ?_
    rw [show i = K by omega]
    exact h
  | succ j ih =>
    intro i hi
    by_cases hA : x.2.1 38 i < m
    · skip
      refine PW_iload c_P_toldBefore_17 rfl ?_
      refine PW_iload_n c_P_toldBefore_19 rfl ?_
      refine PW_icmp_ge c_P_toldBefore_20 (fun h0 => absurd h0 (fun q => absurd ((nI_leI (by omega) (by omega)).mp q) (by omega))) (fun h0 => ?_)
      refine PW_iload c_P_toldBefore_23 rfl ?_
      refine PW_bipush (v := 12) c_P_toldBefore_25 (by decide) ?_
      refine PW_icmp_ge c_P_toldBefore_27 (fun h1 => absurd h1 (fun q => absurd ((nI_leI (by decide) (by omega)).mp (show nI 12 ≤ nI i from q)) (by omega))) (fun h1 => ?_)
      refine PW_aload_n c_P_toldBefore_30 rfl ?_
      refine PW_get (v := .ref 36) c_P_toldBefore_31 fl_P_11 (gf_35_3 _ _) ?_
      refine PW_iload_n c_P_toldBefore_34 rfl ?_
      refine PW_aald (j := 1) c_P_toldBefore_35 (ar_36 _ _) (t0 := 5) rfl rfl (vp_in_iff.mpr (by decide)) rfl ?_
      rw [if_pos (by decide)]
      show PW _ _ _ 36 [some (.ref 35), some (.int m), some (.int 1), some (.int (nI K)), some (.int (orB (x.2.1 38) (x.2.1 41) m i)), some (.int (nI i))] [.ref 38] (E x y)
      refine PW_iload c_P_toldBefore_36 rfl ?_
      refine PW_iald (j := i) c_P_toldBefore_38 (ar_38 _ _) (vp_in_nI (by omega) (by decide)) (nI_clamp (by omega)) ?_
      show PW _ _ _ 39 [some (.ref 35), some (.int m), some (.int 1), some (.int (nI K)), some (.int (orB (x.2.1 38) (x.2.1 41) m i)), some (.int (nI i))] [.int ((x.2.1 38) i)] (E x y)
      refine PW_iload_n c_P_toldBefore_39 rfl ?_
      refine PW_icmp_ge c_P_toldBefore_40 (fun h2 => absurd h2 (Int32.not_le.mpr hA)) (fun h2 => ?_)
      refine PW_iload c_P_toldBefore_43 rfl ?_
      refine PW_aload_n c_P_toldBefore_45 rfl ?_
      refine PW_get (v := .ref 39) c_P_toldBefore_46 fl_P_16 (gf_35_4 _ _) ?_
      refine PW_iload_n c_P_toldBefore_49 rfl ?_
      refine PW_aald (j := 1) c_P_toldBefore_50 (ar_39 _ _) (t0 := 5) rfl rfl (vp_in_iff.mpr (by decide)) rfl ?_
      rw [if_pos (by decide)]
      show PW _ _ _ 51 [some (.ref 35), some (.int m), some (.int 1), some (.int (nI K)), some (.int (orB (x.2.1 38) (x.2.1 41) m i)), some (.int (nI i))] [.ref 41, .int (orB (x.2.1 38) (x.2.1 41) m i)] (E x y)
      refine PW_iload c_P_toldBefore_51 rfl ?_
      refine PW_iald (j := i) c_P_toldBefore_53 (ar_41 _ _) (vp_in_nI (by omega) (by decide)) (nI_clamp (by omega)) ?_
      show PW _ _ _ 54 [some (.ref 35), some (.int m), some (.int 1), some (.int (nI K)), some (.int (orB (x.2.1 38) (x.2.1 41) m i)), some (.int (nI i))] [.int ((x.2.1 41) i), .int (orB (x.2.1 38) (x.2.1 41) m i)] (E x y)
      refine PW_ior c_P_toldBefore_54 ?_
      refine PW_istore (i := 4) (L2 := [some (.ref 35), some (.int m), some (.int 1), some (.int (nI K)), some (.int ((orB (x.2.1 38) (x.2.1 41) m i) ||| ((x.2.1 41) i))), some (.int (nI i))]) c_P_toldBefore_55 (Nat.le_of_ble_eq_true rfl) rfl rfl ?_
      refine PW_iinc (i := 5) (v := (nI i) + 1) (L2 := [some (.ref 35), some (.int m), some (.int 1), some (.int (nI K)), some (.int ((orB (x.2.1 38) (x.2.1 41) m i) ||| ((x.2.1 41) i))), some (.int ((nI i) + 1))]) c_P_toldBefore_57 rfl (iinc_v (by decide)) (Nat.le_of_ble_eq_true rfl) rfl rfl ?_
      refine PW_goto c_P_toldBefore_60 ?_
      refine PW.eqL ?_ rfl rfl (ih (i + 1) (by omega))
      show ([some (.ref 35), some (.int m), some (.int 1), some (.int (nI K)), some (.int ((orB (x.2.1 38) (x.2.1 41) m i) ||| ((x.2.1 41) i))), some (.int ((nI i) + 1))] : List (Option Value)) = [some (.ref 35), some (.int m), some (.int 1), some (.int (nI K)), some (.int (orB (x.2.1 38) (x.2.1 41) m (i + 1))), some (.int (nI (i + 1)))]
      rw [nI_1, orB, if_pos hA]
    · skip
      refine PW_iload c_P_toldBefore_17 rfl ?_
      refine PW_iload_n c_P_toldBefore_19 rfl ?_
      refine PW_icmp_ge c_P_toldBefore_20 (fun h0 => absurd h0 (fun q => absurd ((nI_leI (by omega) (by omega)).mp q) (by omega))) (fun h0 => ?_)
      refine PW_iload c_P_toldBefore_23 rfl ?_
      refine PW_bipush (v := 12) c_P_toldBefore_25 (by decide) ?_
      refine PW_icmp_ge c_P_toldBefore_27 (fun h1 => absurd h1 (fun q => absurd ((nI_leI (by decide) (by omega)).mp (show nI 12 ≤ nI i from q)) (by omega))) (fun h1 => ?_)
      refine PW_aload_n c_P_toldBefore_30 rfl ?_
      refine PW_get (v := .ref 36) c_P_toldBefore_31 fl_P_11 (gf_35_3 _ _) ?_
      refine PW_iload_n c_P_toldBefore_34 rfl ?_
      refine PW_aald (j := 1) c_P_toldBefore_35 (ar_36 _ _) (t0 := 5) rfl rfl (vp_in_iff.mpr (by decide)) rfl ?_
      rw [if_pos (by decide)]
      show PW _ _ _ 36 [some (.ref 35), some (.int m), some (.int 1), some (.int (nI K)), some (.int (orB (x.2.1 38) (x.2.1 41) m i)), some (.int (nI i))] [.ref 38] (E x y)
      refine PW_iload c_P_toldBefore_36 rfl ?_
      refine PW_iald (j := i) c_P_toldBefore_38 (ar_38 _ _) (vp_in_nI (by omega) (by decide)) (nI_clamp (by omega)) ?_
      show PW _ _ _ 39 [some (.ref 35), some (.int m), some (.int 1), some (.int (nI K)), some (.int (orB (x.2.1 38) (x.2.1 41) m i)), some (.int (nI i))] [.int ((x.2.1 38) i)] (E x y)
      refine PW_iload_n c_P_toldBefore_39 rfl ?_
      refine PW_icmp_ge c_P_toldBefore_40 (fun h2 => ?_) (fun h2 => absurd (Int32.not_lt.mp hA) h2)
      refine PW_iinc (i := 5) (v := (nI i) + 1) (L2 := [some (.ref 35), some (.int m), some (.int 1), some (.int (nI K)), some (.int (orB (x.2.1 38) (x.2.1 41) m i)), some (.int ((nI i) + 1))]) c_P_toldBefore_57 rfl (iinc_v (by decide)) (Nat.le_of_ble_eq_true rfl) rfl rfl ?_
      refine PW_goto c_P_toldBefore_60 ?_
      refine PW.eqL ?_ rfl rfl (ih (i + 1) (by omega))
      show ([some (.ref 35), some (.int m), some (.int 1), some (.int (nI K)), some (.int (orB (x.2.1 38) (x.2.1 41) m i)), some (.int ((nI i) + 1))] : List (Option Value)) = [some (.ref 35), some (.int m), some (.int 1), some (.int (nI K)), some (.int (orB (x.2.1 38) (x.2.1 41) m (i + 1))), some (.int (nI (i + 1)))]
      rw [nI_1, orB, if_neg hA]
theorem sp_tb1 {z : ZS} {post : Option Value → List PE → Prop} {x y : XS} {m : Int32} {K : Nat} (hK : K ≤ 12) (h : post (some (.int (orB (x.2.1 38) (x.2.1 41) m K))) (E x y)) : PW (0, 0, 0, z) m_P_toldBefore post 0 [some (.ref 35), some (.int m), some (.int 1), some (.int (nI K)), none, none] [] (E x y) := by
  refine PW_iload_n c_P_toldBefore_0 rfl ?_
  refine PW_if_lt c_P_toldBefore_1 (fun h0 => absurd h0 (by decide)) (fun _ => ?_)
  refine PW_iload_n c_P_toldBefore_4 rfl ?_
  refine PW_iconst (v := 2) c_P_toldBefore_5 (by decide) ?_
  refine PW_icmp_lt c_P_toldBefore_6 (fun _ => ?_) (fun h1 => absurd (by decide) h1)
  refine PW_iconst (v := 0) c_P_toldBefore_11 (by decide) ?_
  refine PW_istore (i := 4) (L2 := [some (.ref 35), some (.int m), some (.int 1), some (.int (nI K)), some (.int 0), none]) c_P_toldBefore_12 (Nat.le_of_ble_eq_true rfl) rfl rfl ?_
  refine PW_iconst (v := 0) c_P_toldBefore_14 (by decide) ?_
  refine PW_istore (i := 5) (L2 := [some (.ref 35), some (.int m), some (.int 1), some (.int (nI K)), some (.int 0), some (.int 0)]) c_P_toldBefore_15 (Nat.le_of_ble_eq_true rfl) rfl rfl ?_
  exact lp_tb1 hK h K 0 (Nat.zero_add _)
theorem G_visit0 {T : Option Txt} {x y X : XS} {a b k k' a' B : Nat} {m t m' t' : Int32} {ef wf ef' wf' : Nat → Int32} (C : CPg x y) (hT : lawIs T x y) (hX : xS x X) (s : pXs 42 285 37 40 X a m t k ef wf) (s' : pXs 43 286 38 41 X a' m' t' k' ef' wf') (ha : a < 5) (hb : b < 5) (hk : k < 12) (hK2 : k' ≤ 12) (hm : 0 ≤ m.toInt ∧ m.toInt ≤ B) (hB : B < 1000000) : ∃ X3 : XS, xS x (sI X3 285 (nI (k + 1))) ∧ X3.1 285 = nI k ∧ pXs 42 285 37 40 (sI X3 285 (nI (k + 1))) b (m + wayN y a b + mnF T y (nI b) (m + wayN y a b) (telF y (nI b) (m + wayN y a b) (t ||| orB ef' wf' (m + wayN y a b) k'))) (t ||| telF y (nI b) (m + wayN y a b) (t ||| orB ef' wf' (m + wayN y a b) k')) (k + 1) (upd ef k (m + wayN y a b + mnF T y (nI b) (m + wayN y a b) (telF y (nI b) (m + wayN y a b) (t ||| orB ef' wf' (m + wayN y a b) k')))) (upd wf k (telF y (nI b) (m + wayN y a b) (t ||| orB ef' wf' (m + wayN y a b) k'))) ∧ pXs 43 286 38 41 (sI X3 285 (nI (k + 1))) a' m' t' k' ef' wf' ∧ ∀ {z : ZS} {post : Option Value → List PE → Prop}, post none (E X3 y) → PW (5, 0, 0, z) m_P_visit post 0 [some (.ref 35), some (.ref 42), some (.int (nI b)), some (.int 0), some (.int (nI k)), some (.int (nI k')), none] [] (E X y) := by
  have hLV : LV 42 := by unfold LV; omega
  have hwb := wayN_b C ha hb
  have hm1 := ti_add (x := m) (y := wayN y a b) (by omega) (by omega)
  obtain ⟨s1, f1⟩ := lvS_walk (b := b) (m2 := m + wayN y a b) s.1
  have hX1 := xS_t hX (xS_frV f1 (by omega))
  obtain ⟨X2, s2, f2, H1⟩ := sp_V_tell (o := 42) (e := orB ef' wf' (m + wayN y a b) k') hLV (CPg_S C hX1 (yS_0 y)) (law_S hT hX1 (yS_0 y)) s1 hb (by rw [hm1]; omega)
  have hX2 := xS_t hX1 (xS_frV f2 (by omega))
  have g1 : ∀ n, n ≠ 338 → n ≠ 339 → n ≠ 340 → n ≠ 181 → X2.1 n = X.1 n := fun n h2 h3 h4 h5 => (f2.1 n h2 h3 h4 h5).trans (f1.1 n h2 h3 h4 h5)
  have g2 : ∀ q, q ≠ 25 → q ≠ 26 → X2.2.1 q = X.2.1 q := fun q h2 h3 => (f2.2.1 q h2 h3).trans (f1.2.1 q h2 h3)
  refine ⟨sA (sA X2 37 (upd (X2.2.1 37) k (m + wayN y a b + mnF T y (nI b) (m + wayN y a b) (telF y (nI b) (m + wayN y a b) (t ||| orB ef' wf' (m + wayN y a b) k'))))) 40 (upd (X2.2.1 40) k (telF y (nI b) (m + wayN y a b) (t ||| orB ef' wf' (m + wayN y a b) k'))), ⟨fun n hn => ?_, fun q hq => ?_, ?_⟩, ?_, ⟨⟨?_, ?_, ?_⟩, sI_s, fun i hi => ?_⟩, ⟨⟨?_, ?_, ?_⟩, ?_, fun i hi => ?_⟩, fun {z post} h => ?_⟩
  · rw [sI_n (by omega), sA_1, sA_1]; exact hX2.1 n hn
  · rw [sI_A, sA_A, if_neg (by omega), sA_A, if_neg (by omega)]; exact hX2.2.1 q hq
  · exact hX2.2.2
  · rw [sA_1, sA_1, g1 _ (by decide) (by decide) (by decide) (by decide)]; exact s.2.1
  · rw [sI_n (by decide), sA_1, sA_1]; exact s2.1
  · rw [sI_n (by decide), sA_1, sA_1]; exact s2.2.1
  · rw [sI_n (by decide), sA_1, sA_1]; exact s2.2.2
  · rw [sI_A, sA_A, if_neg (by decide), sA_at, sA_at, g2 37 (by decide) (by decide), g2 40 (by decide) (by decide)]
    by_cases q : i = k
    · rw [q, upd_s, upd_s, upd_s, upd_s]; exact ⟨rfl, rfl⟩
    · rw [upd_n q, upd_n q, upd_n q, upd_n q]; exact s.2.2 i (by omega)
  · rw [sI_n (by decide), sA_1, sA_1, g1 _ (by decide) (by decide) (by decide) (by decide)]; exact s'.1.1
  · rw [sI_n (by decide), sA_1, sA_1, g1 _ (by decide) (by decide) (by decide) (by decide)]; exact s'.1.2.1
  · rw [sI_n (by decide), sA_1, sA_1, g1 _ (by decide) (by decide) (by decide) (by decide)]; exact s'.1.2.2
  · rw [sI_n (by decide), sA_1, sA_1, g1 _ (by decide) (by decide) (by decide) (by decide)]; exact s'.2.1
  · rw [sI_A, sA_A, if_neg (by decide), sA_A, if_neg (by decide), sA_A, if_neg (by decide), sA_A, if_neg (by decide), g2 38 (by decide) (by decide), g2 41 (by decide) (by decide)]
    exact s'.2.2 i hi
  refine PW_aload_n c_P_visit_0 rfl ?_
  refine PW_iload_n c_P_visit_1 rfl ?_
  refine PW_V0 (d2 := 3) (st := []) [.int (nI b)] c_P_visit_2 lk_P_visit_63 (po_42 _ _) rfl rfl rfl (Nat.le_of_ble_eq_true rfl) (by first | decide | omega) (Nat.le_of_ble_eq_true rfl) ?_
  refine sp_V_walkTo (o := 42) hLV (CPg_S C hX (yS_0 y)) s.1 ha hb ?_
  show PW _ _ _ 5 [some (.ref 35), some (.ref 42), some (.int (nI b)), some (.int 0), some (.int (nI k)), some (.int (nI k')), none] [] (E (sI (sI X 339 (m + wayN y a b)) 338 (nI b)) y)
  refine PW_aload_n c_P_visit_5 rfl ?_
  refine PW_aload_n c_P_visit_6 rfl ?_
  refine PW_aload_n c_P_visit_7 rfl ?_
  refine PW_V0 (d2 := 0) (st := [.ref 35, .ref 42]) [] c_P_visit_8 lk_P_visit_67 (po_42 _ _) rfl rfl rfl (Nat.le_of_ble_eq_true rfl) (by first | decide | omega) (Nat.le_of_ble_eq_true rfl) ?_
  show PW _ _ _ 0 [some (.ref 42)] [] (E (sI (sI X 339 (m + wayN y a b)) 338 (nI b)) y)
  refine PW_aload_n c_V_minute_0 rfl ?_
  refine PW_get (v := .int (m + wayN y a b)) c_V_minute_1 fl_V_27 (gf_42_3 _ _) ?_
  refine PW_ireturn (ty := .int) c_V_minute_4 rfl rfl ?_
  show PW _ _ _ 11 [some (.ref 35), some (.ref 42), some (.int (nI b)), some (.int 0), some (.int (nI k)), some (.int (nI k')), none] [.int (m + wayN y a b), .ref 35, .ref 42] (E (sI (sI X 339 (m + wayN y a b)) 338 (nI b)) y)
  refine PW_iconst (v := 1) c_P_visit_11 (by decide) ?_
  refine PW_iload_n c_P_visit_12 rfl ?_
  refine PW_isub c_P_visit_13 ?_
  refine PW_iload c_P_visit_14 rfl ?_
  refine PW_V0 (d2 := 0) (st := [.ref 42]) [.int (m + wayN y a b), .int (1 - 0), .int (nI k')] c_P_visit_16 lk_P_visit_70 (po_35 _ _) rfl rfl rfl (Nat.le_of_ble_eq_true rfl) (by first | decide | omega) (Nat.le_of_ble_eq_true rfl) ?_
  refine sp_tb1 hK2 ?_
  rw [show orB ((sI (sI X 339 (m + wayN y a b)) 338 (nI b)).2.1 38) ((sI (sI X 339 (m + wayN y a b)) 338 (nI b)).2.1 41) (m + wayN y a b) k' = orB ef' wf' (m + wayN y a b) k' from orB_cong s'.2.2]
  show PW _ _ _ 19 [some (.ref 35), some (.ref 42), some (.int (nI b)), some (.int 0), some (.int (nI k)), some (.int (nI k')), none] [.int (orB ef' wf' (m + wayN y a b) k'), .ref 42] (E (sI (sI X 339 (m + wayN y a b)) 338 (nI b)) y)
  refine PW_V0 (d2 := 4) (st := []) [.int (orB ef' wf' (m + wayN y a b) k')] c_P_visit_19 lk_P_visit_74 (po_42 _ _) rfl rfl rfl (Nat.le_of_ble_eq_true rfl) (by first | decide | omega) (Nat.le_of_ble_eq_true rfl) ?_
  refine H1 ?_
  show PW _ _ _ 22 [some (.ref 35), some (.ref 42), some (.int (nI b)), some (.int 0), some (.int (nI k)), some (.int (nI k')), none] [.int (telF y (nI b) (m + wayN y a b) (t ||| orB ef' wf' (m + wayN y a b) k'))] (E X2 y)
  refine PW_istore (i := 6) (L2 := [some (.ref 35), some (.ref 42), some (.int (nI b)), some (.int 0), some (.int (nI k)), some (.int (nI k')), some (.int (telF y (nI b) (m + wayN y a b) (t ||| orB ef' wf' (m + wayN y a b) k')))]) c_P_visit_22 (Nat.le_of_ble_eq_true rfl) rfl rfl ?_
  refine PW_iload_n c_P_visit_24 rfl ?_
  refine PW_if_lt c_P_visit_25 (fun h0 => absurd h0 (by decide)) (fun _ => ?_)
  refine PW_iload_n c_P_visit_28 rfl ?_
  refine PW_iconst (v := 2) c_P_visit_29 (by decide) ?_
  refine PW_icmp_ge c_P_visit_30 (fun h1 => absurd h1 (by decide)) (fun _ => ?_)
  refine PW_iload c_P_visit_33 rfl ?_
  refine PW_if_lt c_P_visit_35 (fun h2 => absurd h2 (nI_pos (by omega))) (fun h2 => ?_)
  refine PW_iload c_P_visit_38 rfl ?_
  refine PW_bipush (v := 12) c_P_visit_40 (by decide) ?_
  refine PW_icmp_ge c_P_visit_42 (fun h3 => absurd h3 (fun q => absurd ((nI_leI (by decide) (by omega)).mp (show nI 12 ≤ nI k from q)) (by omega))) (fun h3 => ?_)
  refine PW_aload_n c_P_visit_45 rfl ?_
  refine PW_get (v := .ref 36) c_P_visit_46 fl_P_11 (gf_35_3 _ _) ?_
  refine PW_iload_n c_P_visit_49 rfl ?_
  refine PW_aald (j := 0) c_P_visit_50 (ar_36 _ _) (t0 := 5) rfl rfl (vp_in_iff.mpr (by decide)) rfl ?_
  rw [if_pos (by decide)]
  show PW _ _ _ 51 [some (.ref 35), some (.ref 42), some (.int (nI b)), some (.int 0), some (.int (nI k)), some (.int (nI k')), some (.int (telF y (nI b) (m + wayN y a b) (t ||| orB ef' wf' (m + wayN y a b) k')))] [.ref 37] (E X2 y)
  refine PW_iload c_P_visit_51 rfl ?_
  refine PW_aload_n c_P_visit_53 rfl ?_
  refine PW_V0 (d2 := 0) (st := [.int (nI k), .ref 37]) [] c_P_visit_54 lk_P_visit_67 (po_42 _ _) rfl rfl rfl (Nat.le_of_ble_eq_true rfl) (by first | decide | omega) (Nat.le_of_ble_eq_true rfl) ?_
  show PW _ _ _ 0 [some (.ref 42)] [] (E X2 y)
  refine PW_aload_n c_V_minute_0 rfl ?_
  refine PW_get (v := .int (X2.1 339)) c_V_minute_1 fl_V_27 (gf_42_3 _ _) ?_
  refine PW_ireturn (ty := .int) c_V_minute_4 rfl rfl ?_
  show PW _ _ _ 57 [some (.ref 35), some (.ref 42), some (.int (nI b)), some (.int 0), some (.int (nI k)), some (.int (nI k')), some (.int (telF y (nI b) (m + wayN y a b) (t ||| orB ef' wf' (m + wayN y a b) k')))] [.int (X2.1 339), .int (nI k), .ref 37] (E X2 y)
  rw [show X2.1 339 = m + wayN y a b + mnF T y (nI b) (m + wayN y a b) (telF y (nI b) (m + wayN y a b) (t ||| orB ef' wf' (m + wayN y a b) k')) from s2.2.1]
  show PW _ _ _ 57 [some (.ref 35), some (.ref 42), some (.int (nI b)), some (.int 0), some (.int (nI k)), some (.int (nI k')), some (.int (telF y (nI b) (m + wayN y a b) (t ||| orB ef' wf' (m + wayN y a b) k')))] [.int (m + wayN y a b + mnF T y (nI b) (m + wayN y a b) (telF y (nI b) (m + wayN y a b) (t ||| orB ef' wf' (m + wayN y a b) k'))), .int (nI k), .ref 37] (E X2 y)
  refine PW_iast (j := k) (w2 := E (sA X2 37 (upd (X2.2.1 37) k (m + wayN y a b + mnF T y (nI b) (m + wayN y a b) (telF y (nI b) (m + wayN y a b) (t ||| orB ef' wf' (m + wayN y a b) k'))))) y) c_P_visit_57 (ar_37 _ _) (vp_in_nI (by omega) (by decide)) (nI_clamp (by omega)) (aw_37 _ _ _) ?_
  refine PW_aload_n c_P_visit_58 rfl ?_
  refine PW_get (v := .ref 39) c_P_visit_59 fl_P_16 (gf_35_4 _ _) ?_
  refine PW_iload_n c_P_visit_62 rfl ?_
  refine PW_aald (j := 0) c_P_visit_63 (ar_39 _ _) (t0 := 5) rfl rfl (vp_in_iff.mpr (by decide)) rfl ?_
  rw [if_pos (by decide)]
  show PW _ _ _ 64 [some (.ref 35), some (.ref 42), some (.int (nI b)), some (.int 0), some (.int (nI k)), some (.int (nI k')), some (.int (telF y (nI b) (m + wayN y a b) (t ||| orB ef' wf' (m + wayN y a b) k')))] [.ref 40] (E (sA X2 37 (upd (X2.2.1 37) k (m + wayN y a b + mnF T y (nI b) (m + wayN y a b) (telF y (nI b) (m + wayN y a b) (t ||| orB ef' wf' (m + wayN y a b) k'))))) y)
  refine PW_iload c_P_visit_64 rfl ?_
  refine PW_iload c_P_visit_66 rfl ?_
  refine PW_iast (j := k) (w2 := E (sA (sA X2 37 (upd (X2.2.1 37) k (m + wayN y a b + mnF T y (nI b) (m + wayN y a b) (telF y (nI b) (m + wayN y a b) (t ||| orB ef' wf' (m + wayN y a b) k'))))) 40 (upd (X2.2.1 40) k (telF y (nI b) (m + wayN y a b) (t ||| orB ef' wf' (m + wayN y a b) k')))) y) c_P_visit_68 (ar_40 _ _) (vp_in_nI (by omega) (by decide)) (nI_clamp (by omega)) (aw_40 _ _ _) ?_
  refine PW_vreturn c_P_visit_69 rfl ?_
  exact h
theorem G_visit1 {T : Option Txt} {x y X : XS} {a b k k' a' B : Nat} {m t m' t' : Int32} {ef wf ef' wf' : Nat → Int32} (C : CPg x y) (hT : lawIs T x y) (hX : xS x X) (s : pXs 43 286 38 41 X a m t k ef wf) (s' : pXs 42 285 37 40 X a' m' t' k' ef' wf') (ha : a < 5) (hb : b < 5) (hk : k < 12) (hK2 : k' ≤ 12) (hm : 0 ≤ m.toInt ∧ m.toInt ≤ B) (hB : B < 1000000) : ∃ X3 : XS, xS x (sI X3 286 (nI (k + 1))) ∧ X3.1 286 = nI k ∧ pXs 43 286 38 41 (sI X3 286 (nI (k + 1))) b (m + wayN y a b + mnF T y (nI b) (m + wayN y a b) (telF y (nI b) (m + wayN y a b) (t ||| orB ef' wf' (m + wayN y a b) k'))) (t ||| telF y (nI b) (m + wayN y a b) (t ||| orB ef' wf' (m + wayN y a b) k')) (k + 1) (upd ef k (m + wayN y a b + mnF T y (nI b) (m + wayN y a b) (telF y (nI b) (m + wayN y a b) (t ||| orB ef' wf' (m + wayN y a b) k')))) (upd wf k (telF y (nI b) (m + wayN y a b) (t ||| orB ef' wf' (m + wayN y a b) k'))) ∧ pXs 42 285 37 40 (sI X3 286 (nI (k + 1))) a' m' t' k' ef' wf' ∧ ∀ {z : ZS} {post : Option Value → List PE → Prop}, post none (E X3 y) → PW (5, 0, 0, z) m_P_visit post 0 [some (.ref 35), some (.ref 43), some (.int (nI b)), some (.int 1), some (.int (nI k)), some (.int (nI k')), none] [] (E X y) := by
  have hLV : LV 43 := by unfold LV; omega
  have hwb := wayN_b C ha hb
  have hm1 := ti_add (x := m) (y := wayN y a b) (by omega) (by omega)
  obtain ⟨s1, f1⟩ := lvS_walk (b := b) (m2 := m + wayN y a b) s.1
  have hX1 := xS_t hX (xS_frV f1 (by omega))
  obtain ⟨X2, s2, f2, H1⟩ := sp_V_tell (o := 43) (e := orB ef' wf' (m + wayN y a b) k') hLV (CPg_S C hX1 (yS_0 y)) (law_S hT hX1 (yS_0 y)) s1 hb (by rw [hm1]; omega)
  have hX2 := xS_t hX1 (xS_frV f2 (by omega))
  have g1 : ∀ n, n ≠ 346 → n ≠ 347 → n ≠ 348 → n ≠ 181 → X2.1 n = X.1 n := fun n h2 h3 h4 h5 => (f2.1 n h2 h3 h4 h5).trans (f1.1 n h2 h3 h4 h5)
  have g2 : ∀ q, q ≠ 25 → q ≠ 26 → X2.2.1 q = X.2.1 q := fun q h2 h3 => (f2.2.1 q h2 h3).trans (f1.2.1 q h2 h3)
  refine ⟨sA (sA X2 38 (upd (X2.2.1 38) k (m + wayN y a b + mnF T y (nI b) (m + wayN y a b) (telF y (nI b) (m + wayN y a b) (t ||| orB ef' wf' (m + wayN y a b) k'))))) 41 (upd (X2.2.1 41) k (telF y (nI b) (m + wayN y a b) (t ||| orB ef' wf' (m + wayN y a b) k'))), ⟨fun n hn => ?_, fun q hq => ?_, ?_⟩, ?_, ⟨⟨?_, ?_, ?_⟩, sI_s, fun i hi => ?_⟩, ⟨⟨?_, ?_, ?_⟩, ?_, fun i hi => ?_⟩, fun {z post} h => ?_⟩
  · rw [sI_n (by omega), sA_1, sA_1]; exact hX2.1 n hn
  · rw [sI_A, sA_A, if_neg (by omega), sA_A, if_neg (by omega)]; exact hX2.2.1 q hq
  · exact hX2.2.2
  · rw [sA_1, sA_1, g1 _ (by decide) (by decide) (by decide) (by decide)]; exact s.2.1
  · rw [sI_n (by decide), sA_1, sA_1]; exact s2.1
  · rw [sI_n (by decide), sA_1, sA_1]; exact s2.2.1
  · rw [sI_n (by decide), sA_1, sA_1]; exact s2.2.2
  · rw [sI_A, sA_A, if_neg (by decide), sA_at, sA_at, g2 38 (by decide) (by decide), g2 41 (by decide) (by decide)]
    by_cases q : i = k
    · rw [q, upd_s, upd_s, upd_s, upd_s]; exact ⟨rfl, rfl⟩
    · rw [upd_n q, upd_n q, upd_n q, upd_n q]; exact s.2.2 i (by omega)
  · rw [sI_n (by decide), sA_1, sA_1, g1 _ (by decide) (by decide) (by decide) (by decide)]; exact s'.1.1
  · rw [sI_n (by decide), sA_1, sA_1, g1 _ (by decide) (by decide) (by decide) (by decide)]; exact s'.1.2.1
  · rw [sI_n (by decide), sA_1, sA_1, g1 _ (by decide) (by decide) (by decide) (by decide)]; exact s'.1.2.2
  · rw [sI_n (by decide), sA_1, sA_1, g1 _ (by decide) (by decide) (by decide) (by decide)]; exact s'.2.1
  · rw [sI_A, sA_A, if_neg (by decide), sA_A, if_neg (by decide), sA_A, if_neg (by decide), sA_A, if_neg (by decide), g2 37 (by decide) (by decide), g2 40 (by decide) (by decide)]
    exact s'.2.2 i hi
  refine PW_aload_n c_P_visit_0 rfl ?_
  refine PW_iload_n c_P_visit_1 rfl ?_
  refine PW_V0 (d2 := 3) (st := []) [.int (nI b)] c_P_visit_2 lk_P_visit_63 (po_43 _ _) rfl rfl rfl (Nat.le_of_ble_eq_true rfl) (by first | decide | omega) (Nat.le_of_ble_eq_true rfl) ?_
  refine sp_V_walkTo (o := 43) hLV (CPg_S C hX (yS_0 y)) s.1 ha hb ?_
  show PW _ _ _ 5 [some (.ref 35), some (.ref 43), some (.int (nI b)), some (.int 1), some (.int (nI k)), some (.int (nI k')), none] [] (E (sI (sI X 347 (m + wayN y a b)) 346 (nI b)) y)
  refine PW_aload_n c_P_visit_5 rfl ?_
  refine PW_aload_n c_P_visit_6 rfl ?_
  refine PW_aload_n c_P_visit_7 rfl ?_
  refine PW_V0 (d2 := 0) (st := [.ref 35, .ref 43]) [] c_P_visit_8 lk_P_visit_67 (po_43 _ _) rfl rfl rfl (Nat.le_of_ble_eq_true rfl) (by first | decide | omega) (Nat.le_of_ble_eq_true rfl) ?_
  show PW _ _ _ 0 [some (.ref 43)] [] (E (sI (sI X 347 (m + wayN y a b)) 346 (nI b)) y)
  refine PW_aload_n c_V_minute_0 rfl ?_
  refine PW_get (v := .int (m + wayN y a b)) c_V_minute_1 fl_V_27 (gf_43_3 _ _) ?_
  refine PW_ireturn (ty := .int) c_V_minute_4 rfl rfl ?_
  show PW _ _ _ 11 [some (.ref 35), some (.ref 43), some (.int (nI b)), some (.int 1), some (.int (nI k)), some (.int (nI k')), none] [.int (m + wayN y a b), .ref 35, .ref 43] (E (sI (sI X 347 (m + wayN y a b)) 346 (nI b)) y)
  refine PW_iconst (v := 1) c_P_visit_11 (by decide) ?_
  refine PW_iload_n c_P_visit_12 rfl ?_
  refine PW_isub c_P_visit_13 ?_
  refine PW_iload c_P_visit_14 rfl ?_
  refine PW_V0 (d2 := 0) (st := [.ref 43]) [.int (m + wayN y a b), .int (1 - 1), .int (nI k')] c_P_visit_16 lk_P_visit_70 (po_35 _ _) rfl rfl rfl (Nat.le_of_ble_eq_true rfl) (by first | decide | omega) (Nat.le_of_ble_eq_true rfl) ?_
  refine sp_tb0 hK2 ?_
  rw [show orB ((sI (sI X 347 (m + wayN y a b)) 346 (nI b)).2.1 37) ((sI (sI X 347 (m + wayN y a b)) 346 (nI b)).2.1 40) (m + wayN y a b) k' = orB ef' wf' (m + wayN y a b) k' from orB_cong s'.2.2]
  show PW _ _ _ 19 [some (.ref 35), some (.ref 43), some (.int (nI b)), some (.int 1), some (.int (nI k)), some (.int (nI k')), none] [.int (orB ef' wf' (m + wayN y a b) k'), .ref 43] (E (sI (sI X 347 (m + wayN y a b)) 346 (nI b)) y)
  refine PW_V0 (d2 := 4) (st := []) [.int (orB ef' wf' (m + wayN y a b) k')] c_P_visit_19 lk_P_visit_74 (po_43 _ _) rfl rfl rfl (Nat.le_of_ble_eq_true rfl) (by first | decide | omega) (Nat.le_of_ble_eq_true rfl) ?_
  refine H1 ?_
  show PW _ _ _ 22 [some (.ref 35), some (.ref 43), some (.int (nI b)), some (.int 1), some (.int (nI k)), some (.int (nI k')), none] [.int (telF y (nI b) (m + wayN y a b) (t ||| orB ef' wf' (m + wayN y a b) k'))] (E X2 y)
  refine PW_istore (i := 6) (L2 := [some (.ref 35), some (.ref 43), some (.int (nI b)), some (.int 1), some (.int (nI k)), some (.int (nI k')), some (.int (telF y (nI b) (m + wayN y a b) (t ||| orB ef' wf' (m + wayN y a b) k')))]) c_P_visit_22 (Nat.le_of_ble_eq_true rfl) rfl rfl ?_
  refine PW_iload_n c_P_visit_24 rfl ?_
  refine PW_if_lt c_P_visit_25 (fun h0 => absurd h0 (by decide)) (fun _ => ?_)
  refine PW_iload_n c_P_visit_28 rfl ?_
  refine PW_iconst (v := 2) c_P_visit_29 (by decide) ?_
  refine PW_icmp_ge c_P_visit_30 (fun h1 => absurd h1 (by decide)) (fun _ => ?_)
  refine PW_iload c_P_visit_33 rfl ?_
  refine PW_if_lt c_P_visit_35 (fun h2 => absurd h2 (nI_pos (by omega))) (fun h2 => ?_)
  refine PW_iload c_P_visit_38 rfl ?_
  refine PW_bipush (v := 12) c_P_visit_40 (by decide) ?_
  refine PW_icmp_ge c_P_visit_42 (fun h3 => absurd h3 (fun q => absurd ((nI_leI (by decide) (by omega)).mp (show nI 12 ≤ nI k from q)) (by omega))) (fun h3 => ?_)
  refine PW_aload_n c_P_visit_45 rfl ?_
  refine PW_get (v := .ref 36) c_P_visit_46 fl_P_11 (gf_35_3 _ _) ?_
  refine PW_iload_n c_P_visit_49 rfl ?_
  refine PW_aald (j := 1) c_P_visit_50 (ar_36 _ _) (t0 := 5) rfl rfl (vp_in_iff.mpr (by decide)) rfl ?_
  rw [if_pos (by decide)]
  show PW _ _ _ 51 [some (.ref 35), some (.ref 43), some (.int (nI b)), some (.int 1), some (.int (nI k)), some (.int (nI k')), some (.int (telF y (nI b) (m + wayN y a b) (t ||| orB ef' wf' (m + wayN y a b) k')))] [.ref 38] (E X2 y)
  refine PW_iload c_P_visit_51 rfl ?_
  refine PW_aload_n c_P_visit_53 rfl ?_
  refine PW_V0 (d2 := 0) (st := [.int (nI k), .ref 38]) [] c_P_visit_54 lk_P_visit_67 (po_43 _ _) rfl rfl rfl (Nat.le_of_ble_eq_true rfl) (by first | decide | omega) (Nat.le_of_ble_eq_true rfl) ?_
  show PW _ _ _ 0 [some (.ref 43)] [] (E X2 y)
  refine PW_aload_n c_V_minute_0 rfl ?_
  refine PW_get (v := .int (X2.1 347)) c_V_minute_1 fl_V_27 (gf_43_3 _ _) ?_
  refine PW_ireturn (ty := .int) c_V_minute_4 rfl rfl ?_
  show PW _ _ _ 57 [some (.ref 35), some (.ref 43), some (.int (nI b)), some (.int 1), some (.int (nI k)), some (.int (nI k')), some (.int (telF y (nI b) (m + wayN y a b) (t ||| orB ef' wf' (m + wayN y a b) k')))] [.int (X2.1 347), .int (nI k), .ref 38] (E X2 y)
  rw [show X2.1 347 = m + wayN y a b + mnF T y (nI b) (m + wayN y a b) (telF y (nI b) (m + wayN y a b) (t ||| orB ef' wf' (m + wayN y a b) k')) from s2.2.1]
  show PW _ _ _ 57 [some (.ref 35), some (.ref 43), some (.int (nI b)), some (.int 1), some (.int (nI k)), some (.int (nI k')), some (.int (telF y (nI b) (m + wayN y a b) (t ||| orB ef' wf' (m + wayN y a b) k')))] [.int (m + wayN y a b + mnF T y (nI b) (m + wayN y a b) (telF y (nI b) (m + wayN y a b) (t ||| orB ef' wf' (m + wayN y a b) k'))), .int (nI k), .ref 38] (E X2 y)
  refine PW_iast (j := k) (w2 := E (sA X2 38 (upd (X2.2.1 38) k (m + wayN y a b + mnF T y (nI b) (m + wayN y a b) (telF y (nI b) (m + wayN y a b) (t ||| orB ef' wf' (m + wayN y a b) k'))))) y) c_P_visit_57 (ar_38 _ _) (vp_in_nI (by omega) (by decide)) (nI_clamp (by omega)) (aw_38 _ _ _) ?_
  refine PW_aload_n c_P_visit_58 rfl ?_
  refine PW_get (v := .ref 39) c_P_visit_59 fl_P_16 (gf_35_4 _ _) ?_
  refine PW_iload_n c_P_visit_62 rfl ?_
  refine PW_aald (j := 1) c_P_visit_63 (ar_39 _ _) (t0 := 5) rfl rfl (vp_in_iff.mpr (by decide)) rfl ?_
  rw [if_pos (by decide)]
  show PW _ _ _ 64 [some (.ref 35), some (.ref 43), some (.int (nI b)), some (.int 1), some (.int (nI k)), some (.int (nI k')), some (.int (telF y (nI b) (m + wayN y a b) (t ||| orB ef' wf' (m + wayN y a b) k')))] [.ref 41] (E (sA X2 38 (upd (X2.2.1 38) k (m + wayN y a b + mnF T y (nI b) (m + wayN y a b) (telF y (nI b) (m + wayN y a b) (t ||| orB ef' wf' (m + wayN y a b) k'))))) y)
  refine PW_iload c_P_visit_64 rfl ?_
  refine PW_iload c_P_visit_66 rfl ?_
  refine PW_iast (j := k) (w2 := E (sA (sA X2 38 (upd (X2.2.1 38) k (m + wayN y a b + mnF T y (nI b) (m + wayN y a b) (telF y (nI b) (m + wayN y a b) (t ||| orB ef' wf' (m + wayN y a b) k'))))) 41 (upd (X2.2.1 41) k (telF y (nI b) (m + wayN y a b) (t ||| orB ef' wf' (m + wayN y a b) k')))) y) c_P_visit_68 (ar_41 _ _) (vp_in_nI (by omega) (by decide)) (nI_clamp (by omega)) (aw_41 _ _ _) ?_
  refine PW_vreturn c_P_visit_69 rfl ?_
  exact h
