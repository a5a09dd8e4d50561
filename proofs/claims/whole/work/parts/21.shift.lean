/-! rows that are shifted -/
def wr (f : Nat → Int64) (sp dp : Nat) (h : Nat → Int64) (k : Nat) : Nat → Nat → Int64
  | 0 => h
  | j + 1 => wr f sp dp (vp_updL h (dp + k) (f (sp + k))) (k + 1) j
theorem wr_at (f : Nat → Int64) (sp dp : Nat) (j : Nat) : ∀ (h : Nat → Int64) (k i : Nat), wr f sp dp h k j i = if dp + k ≤ i ∧ i < dp + k + j then f (sp + (i - dp)) else h i := by
  induction j with
  | zero => intro h k i; rw [wr, if_neg (by omega)]
  | succ j ih =>
    intro h k i
    rw [wr, ih]
    by_cases q : i = dp + k
    · subst q
      rw [updL_s, if_neg (by omega), if_pos (by omega), show sp + (dp + k - dp) = sp + k by omega]
    · rw [updL_n q]
      by_cases h2 : dp + (k + 1) ≤ i ∧ i < dp + (k + 1) + j
      · rw [if_pos h2, if_pos (by omega)]
      · rw [if_neg h2, if_neg (by omega)]
theorem lk_copy : Cond.methodLink "GoodbyeAll$Shelf" 58 arraycopyName ∈ gw_tbl := gw_t 1072 (by decide +kernel) rfl
theorem not_neg {n : Nat} (h : n < 2 ^ 31) : ¬ nI n < 0 := nI_pos h
theorem sp_F_copyFrom {z : ZS} {post : Option Value → List PE → Prop} {x y : XS} {u v t : Int32} {sj oj i jj c : Nat} (hsj : sj < 6) (hoj : oj < 6) (eu : u = nI i) (ev : v = nI jj) (et : t = nI c) (hi : i + c ≤ 60) (hj : jj + c ≤ 60) (hzs : 0 ≤ (x.1 ((58 + 2 * sj) * 8 + 4)).toInt) (hzo : 0 ≤ (x.1 ((58 + 2 * oj) * 8 + 4)).toInt) (hp : 0 ≤ (nI i).toInt ∧ 0 ≤ (nI c).toInt ∧ (nI c).toInt ≤ (x.1 ((58 + 2 * sj) * 8 + 4)).toInt ∧ (nI i).toInt ≤ (x.1 ((58 + 2 * sj) * 8 + 4)).toInt - (nI c).toInt) (hq : 0 ≤ (nI jj).toInt ∧ 0 ≤ (nI c).toInt ∧ (nI c).toInt ≤ (x.1 ((58 + 2 * oj) * 8 + 4)).toInt ∧ (nI jj).toInt ≤ (x.1 ((58 + 2 * oj) * 8 + 4)).toInt - (nI c).toInt) (h : post none (E (sG x (59 + 2 * oj) (va_cpy (x.2.2 (59 + 2 * sj)) (x.2.2 (59 + 2 * oj)) i jj c)) y)) : PW (1, 0, 0, z) m_F_copyFrom post 0 [some (.ref (58 + 2 * oj)), some (.ref (58 + 2 * sj)), some (.int u), some (.int v), some (.int t)] [] (E x y) := by
  subst eu; subst ev; subst et
  refine PW_aload_n c_F_copyFrom_0 rfl ?_
  refine PW_iload_n c_F_copyFrom_1 rfl ?_
  refine PW_iload c_F_copyFrom_2 rfl ?_
  refine PW_V0 (d2 := 0) (st := []) [.int (nI i), .int (nI c)] c_F_copyFrom_4 lk_F_copyFrom_47 (sh_po _ _ hsj) rfl rfl rfl (Nat.le_of_ble_eq_true rfl) (by first | decide | omega) (Nat.le_of_ble_eq_true rfl) ?_
  refine sp_F_hasPlaces hsj (by assumption) ?_
  show PW _ _ _ 7 [some (.ref (58 + 2 * oj)), some (.ref (58 + 2 * sj)), some (.int (nI i)), some (.int (nI jj)), some (.int (nI c))] [.int (b2i (0 ≤ (nI i).toInt ∧ 0 ≤ (nI c).toInt ∧ (nI c).toInt ≤ (x.1 ((58 + 2 * sj) * 8 + 4)).toInt ∧ (nI i).toInt ≤ (x.1 ((58 + 2 * sj) * 8 + 4)).toInt - (nI c).toInt))] (E x y)
  refine PW_if_eq c_F_copyFrom_7 (fun h0 => absurd hp (b2i_0.mp h0)) (fun _ => ?_)
  refine PW_aload_n c_F_copyFrom_10 rfl ?_
  refine PW_iload_n c_F_copyFrom_11 rfl ?_
  refine PW_iload c_F_copyFrom_12 rfl ?_
  refine PW_V0 (d2 := 0) (st := []) [.int (nI jj), .int (nI c)] c_F_copyFrom_14 lk_F_copyFrom_47 (sh_po _ _ hoj) rfl rfl rfl (Nat.le_of_ble_eq_true rfl) (by first | decide | omega) (Nat.le_of_ble_eq_true rfl) ?_
  refine sp_F_hasPlaces hoj (by assumption) ?_
  show PW _ _ _ 17 [some (.ref (58 + 2 * oj)), some (.ref (58 + 2 * sj)), some (.int (nI i)), some (.int (nI jj)), some (.int (nI c))] [.int (b2i (0 ≤ (nI jj).toInt ∧ 0 ≤ (nI c).toInt ∧ (nI c).toInt ≤ (x.1 ((58 + 2 * oj) * 8 + 4)).toInt ∧ (nI jj).toInt ≤ (x.1 ((58 + 2 * oj) * 8 + 4)).toInt - (nI c).toInt))] (E x y)
  refine PW_if_eq c_F_copyFrom_17 (fun h1 => absurd hq (b2i_0.mp h1)) (fun _ => ?_)
  refine PW_aload_n c_F_copyFrom_20 rfl ?_
  refine PW_get (v := .ref (59 + 2 * sj)) c_F_copyFrom_21 fl_F_11 (sh_g0 _ _ hsj) ?_
  refine PW_iload_n c_F_copyFrom_24 rfl ?_
  refine PW_aload_n c_F_copyFrom_25 rfl ?_
  refine PW_get (v := .ref (59 + 2 * oj)) c_F_copyFrom_26 fl_F_11 (sh_g0 _ _ hoj) ?_
  refine PW_iload_n c_F_copyFrom_29 rfl ?_
  refine PW_iload c_F_copyFrom_30 rfl ?_
  refine PW_copyl (n0 := 60) (n1 := 60) (f := x.2.2 (59 + 2 * sj)) (h := x.2.2 (59 + 2 * oj)) c_F_copyFrom_32 lk_copy (sh_r _ _ hsj) (sh_r _ _ hoj) (not_neg (by omega)) (not_neg (by omega)) (not_neg (by omega)) (by rw [nI_clamp (by omega), nI_clamp (by omega)]; exact hi) (by rw [nI_clamp (by omega), nI_clamp (by omega)]; exact hj) (sh_w _ _ hoj _) (Nat.le_refl _) (Nat.le_of_ble_eq_true rfl) ?_
  rw [nI_clamp (by omega), nI_clamp (by omega), nI_clamp (by omega)]
  refine PW_vreturn c_F_copyFrom_35 rfl ?_
  exact h
theorem lp_M_shift1 {z : ZS} {post : Option Value → List PE → Prop} {x : XS} {sj oj i jj c : Nat} (hsj : sj < 6) (hoj : oj < 6) (hi : i + c ≤ 60) (hj : jj + c ≤ 60) : ∀ (j k : Nat) (y : XS), k + j = c → PW (2, 0, 0, z) m_M_shift post 147 [some (.ref 70), some (.int (nI sj)), some (.int (nI i)), some (.int (nI oj)), some (.int (nI jj)), some (.int (nI c)), some (.int (nI c))] [] (E x (sG y 107 (wr (y.2.2 106) (60 * sj + i) 0 (y.2.2 107) k j))) → PW (2, 0, 0, z) m_M_shift post 113 [some (.ref 70), some (.int (nI sj)), some (.int (nI i)), some (.int (nI oj)), some (.int (nI jj)), some (.int (nI c)), some (.int (nI k))] [] (E x y) := by
  intro j
  induction j with
  | zero =>
    intro k y hk h
    refine PW_iload c_M_shift_113 rfl ?_
    refine PW_iload c_M_shift_115 rfl ?_
    refine PW_icmp_ge c_M_shift_117 (fun h0 => ?_) (fun h0 => absurd ((nI_leI (by omega) (by omega)).mpr (by omega)) h0)
    rw [wr, sG_id] at h
    rw [show k = c by omega]
    exact h
  | succ j ih =>
    intro k y hk h
    rw [wr] at h
    refine PW_iload c_M_shift_113 rfl ?_
    refine PW_iload c_M_shift_115 rfl ?_
    refine PW_icmp_ge c_M_shift_117 (fun h0 => absurd h0 (fun q => absurd ((nI_leI (by omega) (by omega)).mp q) (by omega))) (fun h0 => ?_)
    refine PW_aload_n c_M_shift_120 rfl ?_
    refine PW_get (v := .ref 107) c_M_shift_121 fl_M_121 (gf_70_56 _ _) ?_
    refine PW_iload c_M_shift_124 rfl ?_
    refine PW_aload_n c_M_shift_126 rfl ?_
    refine PW_get (v := .ref 106) c_M_shift_127 fl_M_117 (gf_70_55 _ _) ?_
    refine PW_bipush (v := 60) c_M_shift_130 (by decide) ?_
    refine PW_iload_n c_M_shift_132 rfl ?_
    refine PW_imul c_M_shift_133 ?_
    refine PW_iload_n c_M_shift_134 rfl ?_
    refine PW_iadd c_M_shift_135 ?_
    refine PW_iload c_M_shift_136 rfl ?_
    refine PW_iadd c_M_shift_138 ?_
    refine PW_lald (j := 60 * sj + i + k) c_M_shift_139 (ar_106 _ _) (by rw [show (60 : Int32) = nI 60 from rfl, pk_mul, nI_add, nI_add]; exact vp_in_nI (by omega) (by decide)) (by rw [show (60 : Int32) = nI 60 from rfl, pk_mul, nI_add, nI_add]; exact nI_clamp (by omega)) ?_
    show PW _ _ _ 140 [some (.ref 70), some (.int (nI sj)), some (.int (nI i)), some (.int (nI oj)), some (.int (nI jj)), some (.int (nI c)), some (.int (nI k))] [.long ((y.2.2 106) (60 * sj + i + k)), .int (nI k), .ref 107] (E x y)
    refine PW_last (j := 0 + k) (w2 := E x (sG y 107 (vp_updL (y.2.2 107) (0 + k) ((y.2.2 106) (60 * sj + i + k))))) c_M_shift_140 (ar_107 _ _) (vp_in_nI (by omega) (by decide)) (by rw [nI_clamp (by omega), Nat.zero_add]) (aw_107 _ _ _) ?_
    refine PW_iinc (i := 6) (v := (nI k) + 1) (L2 := [some (.ref 70), some (.int (nI sj)), some (.int (nI i)), some (.int (nI oj)), some (.int (nI jj)), some (.int (nI c)), some (.int ((nI k) + 1))]) c_M_shift_141 rfl (iinc_v (by decide)) (Nat.le_of_ble_eq_true rfl) rfl rfl ?_
    refine PW_goto c_M_shift_144 ?_
    refine PW.eqL ?_ rfl rfl (ih (k + 1) (sG y 107 (vp_updL (y.2.2 107) (0 + k) ((y.2.2 106) (60 * sj + i + k)))) (by omega) ?_)
    · show ([some (.ref 70), some (.int (nI sj)), some (.int (nI i)), some (.int (nI oj)), some (.int (nI jj)), some (.int (nI c)), some (.int ((nI k) + 1))] : List (Option Value)) = [some (.ref 70), some (.int (nI sj)), some (.int (nI i)), some (.int (nI oj)), some (.int (nI jj)), some (.int (nI c)), some (.int (nI (k + 1)))]
      rw [nI_1]
    · rw [sG_sG, sG_at]
      exact h
theorem lp_M_shift2 {z : ZS} {post : Option Value → List PE → Prop} {x : XS} {sj oj i jj c : Nat} (hsj : sj < 6) (hoj : oj < 6) (hi : i + c ≤ 60) (hj : jj + c ≤ 60) : ∀ (j k : Nat) (y : XS), k + j = c → PW (2, 0, 0, z) m_M_shift post 185 [some (.ref 70), some (.int (nI sj)), some (.int (nI i)), some (.int (nI oj)), some (.int (nI jj)), some (.int (nI c)), some (.int (nI c))] [] (E x (sG y 106 (wr (y.2.2 107) 0 (60 * oj + jj) (y.2.2 106) k j))) → PW (2, 0, 0, z) m_M_shift post 150 [some (.ref 70), some (.int (nI sj)), some (.int (nI i)), some (.int (nI oj)), some (.int (nI jj)), some (.int (nI c)), some (.int (nI k))] [] (E x y) := by
  intro j
  induction j with
  | zero =>
    intro k y hk h
    refine PW_iload c_M_shift_150 rfl ?_
    refine PW_iload c_M_shift_152 rfl ?_
    refine PW_icmp_ge c_M_shift_154 (fun h0 => ?_) (fun h0 => absurd ((nI_leI (by omega) (by omega)).mpr (by omega)) h0)
    rw [wr, sG_id] at h
    rw [show k = c by omega]
    exact h
  | succ j ih =>
    intro k y hk h
    rw [wr] at h
    refine PW_iload c_M_shift_150 rfl ?_
    refine PW_iload c_M_shift_152 rfl ?_
    refine PW_icmp_ge c_M_shift_154 (fun h0 => absurd h0 (fun q => absurd ((nI_leI (by omega) (by omega)).mp q) (by omega))) (fun h0 => ?_)
    refine PW_aload_n c_M_shift_157 rfl ?_
    refine PW_get (v := .ref 106) c_M_shift_158 fl_M_117 (gf_70_55 _ _) ?_
    refine PW_bipush (v := 60) c_M_shift_161 (by decide) ?_
    refine PW_iload_n c_M_shift_163 rfl ?_
    refine PW_imul c_M_shift_164 ?_
    refine PW_iload c_M_shift_165 rfl ?_
    refine PW_iadd c_M_shift_167 ?_
    refine PW_iload c_M_shift_168 rfl ?_
    refine PW_iadd c_M_shift_170 ?_
    refine PW_aload_n c_M_shift_171 rfl ?_
    refine PW_get (v := .ref 107) c_M_shift_172 fl_M_121 (gf_70_56 _ _) ?_
    refine PW_iload c_M_shift_175 rfl ?_
    refine PW_lald (j := 0 + k) c_M_shift_177 (ar_107 _ _) (vp_in_nI (by omega) (by decide)) (by rw [nI_clamp (by omega), Nat.zero_add]) ?_
    show PW _ _ _ 178 [some (.ref 70), some (.int (nI sj)), some (.int (nI i)), some (.int (nI oj)), some (.int (nI jj)), some (.int (nI c)), some (.int (nI k))] [.long ((y.2.2 107) (0 + k)), .int (((60 * (nI oj)) + (nI jj)) + (nI k)), .ref 106] (E x y)
    refine PW_last (j := 60 * oj + jj + k) (w2 := E x (sG y 106 (vp_updL (y.2.2 106) (60 * oj + jj + k) ((y.2.2 107) (0 + k))))) c_M_shift_178 (ar_106 _ _) (by rw [show (60 : Int32) = nI 60 from rfl, pk_mul, nI_add, nI_add]; exact vp_in_nI (by omega) (by decide)) (by rw [show (60 : Int32) = nI 60 from rfl, pk_mul, nI_add, nI_add]; exact nI_clamp (by omega)) (aw_106 _ _ _) ?_
    refine PW_iinc (i := 6) (v := (nI k) + 1) (L2 := [some (.ref 70), some (.int (nI sj)), some (.int (nI i)), some (.int (nI oj)), some (.int (nI jj)), some (.int (nI c)), some (.int ((nI k) + 1))]) c_M_shift_179 rfl (iinc_v (by decide)) (Nat.le_of_ble_eq_true rfl) rfl rfl ?_
    refine PW_goto c_M_shift_182 ?_
    refine PW.eqL ?_ rfl rfl (ih (k + 1) (sG y 106 (vp_updL (y.2.2 106) (60 * oj + jj + k) ((y.2.2 107) (0 + k)))) (by omega) ?_)
    · show ([some (.ref 70), some (.int (nI sj)), some (.int (nI i)), some (.int (nI oj)), some (.int (nI jj)), some (.int (nI c)), some (.int ((nI k) + 1))] : List (Option Value)) = [some (.ref 70), some (.int (nI sj)), some (.int (nI i)), some (.int (nI oj)), some (.int (nI jj)), some (.int (nI c)), some (.int (nI (k + 1)))]
      rw [nI_1]
    · rw [sG_sG, sG_at]
      exact h
