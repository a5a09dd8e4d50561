/-! rows that are wiped -/
def zf (f : Nat → Int64) (k : Nat) : Nat → Nat → Int64
  | 0 => f
  | j + 1 => zf (vp_updL f k 0) (k + 1) j
theorem zf_at (j : Nat) : ∀ (f : Nat → Int64) (k i : Nat), zf f k j i = if k ≤ i ∧ i < k + j then 0 else f i := by
  induction j with
  | zero => intro f k i; rw [zf, if_neg (by omega)]
  | succ j ih =>
    intro f k i
    rw [zf, ih]
    by_cases h : i = k
    · subst h
      rw [updL_s]
      by_cases h2 : i + 1 ≤ i ∧ i < i + 1 + j
      · omega
      · rw [if_neg h2, if_pos (by omega)]
    · rw [updL_n h]
      by_cases h2 : k + 1 ≤ i ∧ i < k + 1 + j
      · rw [if_pos h2, if_pos (by omega)]
      · rw [if_neg h2, if_neg (by omega)]
theorem sG_id (x : XS) (r : Nat) : sG x r (x.2.2 r) = x := by
  refine Prod.ext rfl (Prod.ext rfl (funext fun b => ?_))
  show (if b = r then x.2.2 r else x.2.2 b) = x.2.2 b
  by_cases h : b = r
  · rw [if_pos h, h]
  · rw [if_neg h]
theorem sG_sG (x : XS) (r : Nat) (f g : Nat → Int64) : sG (sG x r f) r g = sG x r g := by
  refine Prod.ext rfl (Prod.ext rfl (funext fun b => ?_))
  show (if b = r then g else if b = r then f else x.2.2 b) = if b = r then g else x.2.2 b
  by_cases h : b = r
  · rw [if_pos h, if_pos h]
  · rw [if_neg h, if_neg h, if_neg h]
theorem sG_at (x : XS) (r : Nat) (f : Nat → Int64) : (sG x r f).2.2 r = f := if_pos rfl
theorem mm60 {n : Nat} (hn : n ≤ 60) : (if (0 : Int32) < (if (60 : Int32) < nI n then 60 else nI n) then (if (60 : Int32) < nI n then 60 else nI n) else 0) = nI n := (by decide : ∀ n : Nat, n ≤ 60 → (if (0 : Int32) < (if (60 : Int32) < nI n then 60 else nI n) then (if (60 : Int32) < nI n then 60 else nI n) else 0) = nI n) n (by omega)
theorem lp_F_holdRow {z : ZS} {post : Option Value → List PE → Prop} {y : XS} {s v : Int32} {sj n : Nat} (hsj : sj < 6) (hn : n ≤ 60) : ∀ (j k : Nat) (x : XS), k + j = n → x.1 ((58 + 2 * sj) * 8 + 4) = nI n → post none (E (sG x (59 + 2 * sj) (zf (x.2.2 (59 + 2 * sj)) k j)) y) → PW (1, 0, 0, z) m_F_holdRow post 26 [some (.ref (58 + 2 * sj)), some (.int s), some (.int v), some (.int (nI k))] [] (E x y) := by
  intro j
  induction j with
  | zero =>
    intro k x hk hz h
    refine PW_iload_n c_F_holdRow_26 rfl ?_
    refine PW_aload_n c_F_holdRow_27 rfl ?_
    refine PW_get (v := .int (x.1 ((58 + 2 * sj) * 8 + 4))) c_F_holdRow_28 fl_F_25 (sh_g4 _ _ hsj) ?_
    refine PW_icmp_ge c_F_holdRow_31 (fun h0 => ?_) (fun h0 => absurd ((by rw [hz]; exact (nI_leI (by omega) (by omega)).mpr (by omega)) : x.1 ((58 + 2 * sj) * 8 + 4) ≤ nI k) h0)
    refine PW_vreturn c_F_holdRow_47 rfl ?_
    rw [zf, sG_id] at h
    exact h
  | succ j ih =>
    intro k x hk hz h
    rw [zf] at h
    refine PW_iload_n c_F_holdRow_26 rfl ?_
    refine PW_aload_n c_F_holdRow_27 rfl ?_
    refine PW_get (v := .int (x.1 ((58 + 2 * sj) * 8 + 4))) c_F_holdRow_28 fl_F_25 (sh_g4 _ _ hsj) ?_
    refine PW_icmp_ge c_F_holdRow_31 (fun h0 => absurd h0 (by rw [hz]; exact fun q => absurd ((nI_leI (by omega) (by omega)).mp q) (by omega))) (fun h0 => ?_)
    refine PW_aload_n c_F_holdRow_34 rfl ?_
    refine PW_get (v := .ref (59 + 2 * sj)) c_F_holdRow_35 fl_F_11 (sh_g0 _ _ hsj) ?_
    refine PW_iload_n c_F_holdRow_38 rfl ?_
    refine PW_lconst (v := 0) c_F_holdRow_39 (by decide) ?_
    refine PW_last (j := k) (w2 := E (sG x (59 + 2 * sj) (vp_updL (x.2.2 (59 + 2 * sj)) k 0)) y) c_F_holdRow_40 (sh_r _ _ hsj) (vp_in_nI (by omega) (by decide)) (nI_clamp (by omega)) (sh_w _ _ hsj _) ?_
    refine PW_iinc (i := 3) (v := (nI k) + 1) (L2 := [some (.ref (58 + 2 * sj)), some (.int s), some (.int v), some (.int ((nI k) + 1))]) c_F_holdRow_41 rfl (iinc_v (by decide)) (Nat.le_of_ble_eq_true rfl) rfl rfl ?_
    refine PW_goto c_F_holdRow_44 ?_
    refine PW.eqL ?_ rfl rfl (ih (k + 1) (sG x (59 + 2 * sj) (vp_updL (x.2.2 (59 + 2 * sj)) k 0)) (by omega) hz ?_)
    · show ([some (.ref (58 + 2 * sj)), some (.int s), some (.int v), some (.int ((nI k) + 1))] : List (Option Value)) = [some (.ref (58 + 2 * sj)), some (.int s), some (.int v), some (.int (nI (k + 1)))]
      rw [nI_1]
    · rw [sG_sG, sG_at]
      exact h
theorem lp_M_row {z : ZS} {post : Option Value → List PE → Prop} {x : XS} {s v : Int32} {sj : Nat} (hsj : sj < 6) : ∀ (j k : Nat) (y : XS), k + j = 60 * sj + 60 → post (some (.int 1)) (E x (sG y 106 (zf (y.2.2 106) k j))) → PW (2, 0, 0, z) m_M_row post 54 [some (.ref 70), some (.int (nI sj)), some (.int s), some (.int v), some (.int (nI k))] [] (E x y) := by
  intro j
  induction j with
  | zero =>
    intro k y hk h
    refine PW_iload c_M_row_54 rfl ?_
    refine PW_bipush (v := 60) c_M_row_56 (by decide) ?_
    refine PW_iload_n c_M_row_58 rfl ?_
    refine PW_imul c_M_row_59 ?_
    refine PW_bipush (v := 60) c_M_row_60 (by decide) ?_
    refine PW_iadd c_M_row_62 ?_
    refine PW_icmp_ge c_M_row_63 (fun h0 => ?_) (fun h0 => absurd ((ge_t (show (60 : Int32) * nI sj + 60 = nI (60 * sj + 60) by rw [show (60 : Int32) = nI 60 from rfl, pk_mul, nI_add]) (by omega) (by omega)).mpr (by omega)) h0)
    refine PW_iconst (v := 1) c_M_row_80 (by decide) ?_
    refine PW_ireturn (ty := .int) c_M_row_81 rfl rfl ?_
    rw [zf, sG_id] at h
    exact h
  | succ j ih =>
    intro k y hk h
    rw [zf] at h
    refine PW_iload c_M_row_54 rfl ?_
    refine PW_bipush (v := 60) c_M_row_56 (by decide) ?_
    refine PW_iload_n c_M_row_58 rfl ?_
    refine PW_imul c_M_row_59 ?_
    refine PW_bipush (v := 60) c_M_row_60 (by decide) ?_
    refine PW_iadd c_M_row_62 ?_
    refine PW_icmp_ge c_M_row_63 (fun h0 => absurd h0 (fun q => absurd ((ge_t (show (60 : Int32) * nI sj + 60 = nI (60 * sj + 60) by rw [show (60 : Int32) = nI 60 from rfl, pk_mul, nI_add]) (by omega) (by omega)).mp q) (by omega))) (fun h0 => ?_)
    refine PW_aload_n c_M_row_66 rfl ?_
    refine PW_get (v := .ref 106) c_M_row_67 fl_M_117 (gf_70_55 _ _) ?_
    refine PW_iload c_M_row_70 rfl ?_
    refine PW_lconst (v := 0) c_M_row_72 (by decide) ?_
    refine PW_last (j := k) (w2 := E x (sG y 106 (vp_updL (y.2.2 106) k 0))) c_M_row_73 (ar_106 _ _) (vp_in_nI (by omega) (by decide)) (nI_clamp (by omega)) (aw_106 _ _ _) ?_
    refine PW_iinc (i := 4) (v := (nI k) + 1) (L2 := [some (.ref 70), some (.int (nI sj)), some (.int s), some (.int v), some (.int ((nI k) + 1))]) c_M_row_74 rfl (iinc_v (by decide)) (Nat.le_of_ble_eq_true rfl) rfl rfl ?_
    refine PW_goto c_M_row_77 ?_
    refine PW.eqL ?_ rfl rfl (ih (k + 1) (sG y 106 (vp_updL (y.2.2 106) k 0)) (by omega) ?_)
    · show ([some (.ref 70), some (.int (nI sj)), some (.int s), some (.int v), some (.int ((nI k) + 1))] : List (Option Value)) = [some (.ref 70), some (.int (nI sj)), some (.int s), some (.int v), some (.int (nI (k + 1)))]
      rw [nI_1]
    · rw [sG_sG, sG_at]
      exact h
theorem sp_F_holdRow {z : ZS} {post : Option Value → List PE → Prop} {x y : XS} {s v : Int32} {sj n : Nat} (hsj : sj < 6) (hn : n ≤ 60) (hv : v = nI n) (h : post none (E (sG (sI (sI (sI x ((58 + 2 * sj) * 8 + 1) 2) ((58 + 2 * sj) * 8 + 3) (s)) ((58 + 2 * sj) * 8 + 4) (nI n)) (59 + 2 * sj) (zf (x.2.2 (59 + 2 * sj)) 0 n)) y)) : PW (1, 0, 0, z) m_F_holdRow post 0 [some (.ref (58 + 2 * sj)), some (.int s), some (.int v), none] [] (E x y) := by
  subst hv
  refine PW_aload_n c_F_holdRow_0 rfl ?_
  refine PW_iconst (v := 2) c_F_holdRow_1 (by decide) ?_
  refine PW_put (w2 := E (sI x ((58 + 2 * sj) * 8 + 1) 2) y) c_F_holdRow_2 fp_F_holdRow_15 rfl (sh_p1 _ _ hsj _) ?_
  refine PW_aload_n c_F_holdRow_5 rfl ?_
  refine PW_iload_n c_F_holdRow_6 rfl ?_
  refine PW_put (w2 := E (sI (sI x ((58 + 2 * sj) * 8 + 1) 2) ((58 + 2 * sj) * 8 + 3) s) y) c_F_holdRow_7 fp_F_holdRow_19 rfl (sh_p3 _ _ hsj _) ?_
  refine PW_aload_n c_F_holdRow_10 rfl ?_
  refine PW_iconst (v := 0) c_F_holdRow_11 (by decide) ?_
  refine PW_iload_n c_F_holdRow_12 rfl ?_
  refine PW_bipush (v := 60) c_F_holdRow_13 (by decide) ?_
  refine PW_mmin c_F_holdRow_15 mk_F_holdRow_28 (by decide) (by first | decide | exact Nat.le_of_ble_eq_true rfl) ?_
  refine PW_mmax c_F_holdRow_18 mk_F_holdRow_34 (by decide) (by first | decide | exact Nat.le_of_ble_eq_true rfl) ?_
  rw [show (if 0 < (if 60 < (nI n) then 60 else (nI n)) then (if 60 < (nI n) then 60 else (nI n)) else 0 : Int32) = nI n from mm60 hn]
  show PW _ _ _ 21 [some (.ref (58 + 2 * sj)), some (.int s), some (.int (nI n)), none] [.int (nI n), .ref (58 + 2 * sj)] (E (sI (sI x ((58 + 2 * sj) * 8 + 1) 2) ((58 + 2 * sj) * 8 + 3) s) y)
  refine PW_put (w2 := E (sI (sI (sI x ((58 + 2 * sj) * 8 + 1) 2) ((58 + 2 * sj) * 8 + 3) s) ((58 + 2 * sj) * 8 + 4) (nI n)) y) c_F_holdRow_21 fp_F_holdRow_25 rfl (sh_p4 _ _ hsj _) ?_
  refine PW_iconst (v := 0) c_F_holdRow_24 (by decide) ?_
  refine PW_istore_n (i := 3) (L2 := [some (.ref (58 + 2 * sj)), some (.int s), some (.int (nI n)), some (.int 0)]) c_F_holdRow_25 rfl (Nat.le_of_ble_eq_true rfl) rfl rfl ?_
  refine lp_F_holdRow hsj hn n 0 (sI (sI (sI x ((58 + 2 * sj) * 8 + 1) 2) ((58 + 2 * sj) * 8 + 3) s) ((58 + 2 * sj) * 8 + 4) (nI n)) (Nat.zero_add _) sI_s ?_
  exact h
