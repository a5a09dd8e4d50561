/-! the ways -/
def wayN (y : XS) (a b : Nat) : Int32 := if a < b then sumW y a (b - a) else sumW y b (a - b)
theorem mmin_nI {a b : Nat} (ha : a < 2 ^ 31) (hb : b < 2 ^ 31) : (if nI b < nI a then nI b else nI a) = nI (if b < a then b else a) := by
  by_cases h : b < a
  · rw [if_pos h, if_pos ((nI_ltI hb ha).mpr h)]
  · rw [if_neg h, if_neg (fun q => h ((nI_ltI hb ha).mp q))]
theorem mmax_nI {a b : Nat} (ha : a < 2 ^ 31) (hb : b < 2 ^ 31) : (if nI a < nI b then nI b else nI a) = nI (if a < b then b else a) := by
  by_cases h : a < b
  · rw [if_pos h, if_pos ((nI_ltI ha hb).mpr h)]
  · rw [if_neg h, if_neg (fun q => h ((nI_ltI ha hb).mp q))]
theorem lp_M_wayOf {z : ZS} {post : Option Value → List PE → Prop} {x y : XS} {u v : Int32} {lo n : Nat}  (hlo : lo + n ≤ 4) (h : post (some (.int (sumW y lo n))) (E x y)) : ∀ (j k : Nat), k + j = n → PW (0, 0, 0, z) m_M_wayOf post 30 [some (.ref 70), some (.int u), some (.int v), some (.int (sumW y lo k)), some (.int (nI lo)), some (.int (nI (lo + n))), some (.int (nI (lo + k)))] [] (E x y) := by
  intro j
  induction j with
  | zero =>
    intro k hk
    refine PW_iload c_M_wayOf_30 rfl ?_
    refine PW_iload c_M_wayOf_32 rfl ?_
    refine PW_icmp_ge c_M_wayOf_34 (fun h0 => ?_) (fun h0 => absurd ((ge_t rfl (by omega) (by omega)).mpr (by omega)) h0)
    refine PW_iload_n c_M_wayOf_53 rfl ?_
    refine PW_ireturn (ty := .int) c_M_wayOf_54 rfl rfl ?_
    exact pqi h (by rw [show k = n by omega])
  | succ j ih =>
    intro k hk
    refine PW_iload c_M_wayOf_30 rfl ?_
    refine PW_iload c_M_wayOf_32 rfl ?_
    refine PW_icmp_ge c_M_wayOf_34 (fun h0 => absurd h0 (fun q => absurd ((ge_t rfl (by omega) (by omega)).mp q) (by omega))) (fun h0 => ?_)
    refine PW_iload_n c_M_wayOf_37 rfl ?_
    refine PW_aload_n c_M_wayOf_38 rfl ?_
    refine PW_get (v := .ref 78) c_M_wayOf_39 fl_M_31 (gf_70_9 _ _) ?_
    refine PW_iload c_M_wayOf_42 rfl ?_
    refine PW_iald (j := lo + k) c_M_wayOf_44 (ar_78 _ _) (vp_in_nI (by omega) (by decide)) (nI_clamp (by omega)) ?_
    show PW _ _ _ 45 [some (.ref 70), some (.int u), some (.int v), some (.int (sumW y lo k)), some (.int (nI lo)), some (.int (nI (lo + n))), some (.int (nI (lo + k)))] [.int ((y.2.1 78) (lo + k)), .int (sumW y lo k)] (E x y)
    refine PW_iadd c_M_wayOf_45 ?_
    refine PW_istore_n (i := 3) (L2 := [some (.ref 70), some (.int u), some (.int v), some (.int ((sumW y lo k) + ((y.2.1 78) (lo + k)))), some (.int (nI lo)), some (.int (nI (lo + n))), some (.int (nI (lo + k)))]) c_M_wayOf_46 rfl (Nat.le_of_ble_eq_true rfl) rfl rfl ?_
    refine PW_iinc (i := 6) (v := (nI (lo + k)) + 1) (L2 := [some (.ref 70), some (.int u), some (.int v), some (.int ((sumW y lo k) + ((y.2.1 78) (lo + k)))), some (.int (nI lo)), some (.int (nI (lo + n))), some (.int ((nI (lo + k)) + 1))]) c_M_wayOf_47 rfl (iinc_v (by decide)) (Nat.le_of_ble_eq_true rfl) rfl rfl ?_
    refine PW_goto c_M_wayOf_50 ?_
    refine PW.eqL ?_ rfl rfl (ih (k + 1) (by omega))
    show ([some (.ref 70), some (.int u), some (.int v), some (.int ((sumW y lo k) + ((y.2.1 78) (lo + k)))), some (.int (nI lo)), some (.int (nI (lo + n))), some (.int ((nI (lo + k)) + 1))] : List (Option Value)) = [some (.ref 70), some (.int u), some (.int v), some (.int (sumW y lo (k + 1))), some (.int (nI lo)), some (.int (nI (lo + n))), some (.int (nI (lo + (k + 1))))]
    rw [nI_1, sumW, Nat.add_assoc]
theorem sp_M_wayOf {z : ZS} {post : Option Value → List PE → Prop} {x y : XS} {u v : Int32} {a b : Nat} (ea : u = nI a) (eb : v = nI b) (ha : a < 5) (hb : b < 5) (h : post (some (.int (wayN y a b))) (E x y)) : PW (0, 0, 0, z) m_M_wayOf post 0 [some (.ref 70), some (.int u), some (.int v), none, none, none, none] [] (E x y) := by
  subst ea; subst eb
  by_cases hab : a < b
  · rw [wayN, if_pos hab] at h
    refine PW_iconst (v := 0) c_M_wayOf_0 (by decide) ?_
    refine PW_istore_n (i := 3) (L2 := [some (.ref 70), some (.int (nI a)), some (.int (nI b)), some (.int 0), none, none, none]) c_M_wayOf_1 rfl (Nat.le_of_ble_eq_true rfl) rfl rfl ?_
    refine PW_iload_n c_M_wayOf_2 rfl ?_
    refine PW_iload_n c_M_wayOf_3 rfl ?_
    refine PW_icmp_ge c_M_wayOf_4 (fun h0 => absurd h0 (fun q => absurd ((nI_leI (by omega) (by omega)).mp q) (by omega))) (fun h0 => ?_)
    refine PW_iload_n c_M_wayOf_7 rfl ?_
    refine PW_goto c_M_wayOf_8 ?_
    refine PW_istore (i := 4) (L2 := [some (.ref 70), some (.int (nI a)), some (.int (nI b)), some (.int 0), some (.int (nI a)), none, none]) c_M_wayOf_12 (Nat.le_of_ble_eq_true rfl) rfl rfl ?_
    refine PW_iload_n c_M_wayOf_14 rfl ?_
    refine PW_iload_n c_M_wayOf_15 rfl ?_
    refine PW_icmp_ge c_M_wayOf_16 (fun h1 => absurd h1 (fun q => absurd ((nI_leI (by omega) (by omega)).mp q) (by omega))) (fun h1 => ?_)
    refine PW_iload_n c_M_wayOf_19 rfl ?_
    refine PW_goto c_M_wayOf_20 ?_
    refine PW_istore (i := 5) (L2 := [some (.ref 70), some (.int (nI a)), some (.int (nI b)), some (.int 0), some (.int (nI a)), some (.int (nI b)), none]) c_M_wayOf_24 (Nat.le_of_ble_eq_true rfl) rfl rfl ?_
    refine PW_iload c_M_wayOf_26 rfl ?_
    refine PW_istore (i := 6) (L2 := [some (.ref 70), some (.int (nI a)), some (.int (nI b)), some (.int 0), some (.int (nI a)), some (.int (nI b)), some (.int (nI a))]) c_M_wayOf_28 (Nat.le_of_ble_eq_true rfl) rfl rfl ?_
    refine PW.eqL ?_ rfl rfl (lp_M_wayOf (u := nI a) (v := nI b) (lo := a) (n := b - a) (by omega) h (b - a) 0 (Nat.zero_add _))
    show ([some (.ref 70), some (.int (nI a)), some (.int (nI b)), some (.int 0), some (.int (nI a)), some (.int (nI b)), some (.int (nI a))] : List (Option Value)) = _
    rw [show a + (b - a) = b by omega]
    rfl
  · rw [wayN, if_neg hab] at h
    refine PW_iconst (v := 0) c_M_wayOf_0 (by decide) ?_
    refine PW_istore_n (i := 3) (L2 := [some (.ref 70), some (.int (nI a)), some (.int (nI b)), some (.int 0), none, none, none]) c_M_wayOf_1 rfl (Nat.le_of_ble_eq_true rfl) rfl rfl ?_
    refine PW_iload_n c_M_wayOf_2 rfl ?_
    refine PW_iload_n c_M_wayOf_3 rfl ?_
    refine PW_icmp_ge c_M_wayOf_4 (fun h0 => ?_) (fun h0 => absurd ((nI_leI (by omega) (by omega)).mpr (by omega)) h0)
    refine PW_iload_n c_M_wayOf_11 rfl ?_
    refine PW_istore (i := 4) (L2 := [some (.ref 70), some (.int (nI a)), some (.int (nI b)), some (.int 0), some (.int (nI b)), none, none]) c_M_wayOf_12 (Nat.le_of_ble_eq_true rfl) rfl rfl ?_
    refine PW_iload_n c_M_wayOf_14 rfl ?_
    refine PW_iload_n c_M_wayOf_15 rfl ?_
    refine PW_icmp_ge c_M_wayOf_16 (fun h1 => ?_) (fun h1 => absurd ((nI_leI (by omega) (by omega)).mpr (by omega)) h1)
    refine PW_iload_n c_M_wayOf_23 rfl ?_
    refine PW_istore (i := 5) (L2 := [some (.ref 70), some (.int (nI a)), some (.int (nI b)), some (.int 0), some (.int (nI b)), some (.int (nI a)), none]) c_M_wayOf_24 (Nat.le_of_ble_eq_true rfl) rfl rfl ?_
    refine PW_iload c_M_wayOf_26 rfl ?_
    refine PW_istore (i := 6) (L2 := [some (.ref 70), some (.int (nI a)), some (.int (nI b)), some (.int 0), some (.int (nI b)), some (.int (nI a)), some (.int (nI b))]) c_M_wayOf_28 (Nat.le_of_ble_eq_true rfl) rfl rfl ?_
    refine PW.eqL ?_ rfl rfl (lp_M_wayOf (u := nI a) (v := nI b) (lo := b) (n := a - b) (by omega) h (a - b) 0 (Nat.zero_add _))
    show ([some (.ref 70), some (.int (nI a)), some (.int (nI b)), some (.int 0), some (.int (nI b)), some (.int (nI a)), some (.int (nI b))] : List (Option Value)) = _
    rw [show b + (a - b) = a by omega]
    rfl
theorem lp_H_wayBetween {z : ZS} {post : Option Value → List PE → Prop} {x y : XS} {u v : Int32} {lo n : Nat}  (hlo : lo + n ≤ 4) (C : CPg x y) (h : post (some (.int (sumW y lo n))) (E x y)) : ∀ (j k : Nat), k + j = n → PW (1, 0, 0, z) m_H_wayBetween post 31 [some (.ref 6), some (.int u), some (.int v), some (.int (nI lo)), some (.int (nI (lo + n))), some (.int (sumW y lo k)), some (.int (nI (lo + k)))] [] (E x y) := by
  intro j
  induction j with
  | zero =>
    intro k hk
    refine PW_iload c_H_wayBetween_31 rfl ?_
    refine PW_iload c_H_wayBetween_33 rfl ?_
    refine PW_icmp_ge c_H_wayBetween_35 (fun h0 => ?_) (fun h0 => absurd ((ge_t rfl (by omega) (by omega)).mpr (by omega)) h0)
    refine PW_iload c_H_wayBetween_56 rfl ?_
    refine PW_ireturn (ty := .int) c_H_wayBetween_58 rfl rfl ?_
    exact pqi h (by rw [show k = n by omega])
  | succ j ih =>
    intro k hk
    refine PW_iload c_H_wayBetween_31 rfl ?_
    refine PW_iload c_H_wayBetween_33 rfl ?_
    refine PW_icmp_ge c_H_wayBetween_35 (fun h0 => absurd h0 (fun q => absurd ((ge_t rfl (by omega) (by omega)).mp q) (by omega))) (fun h0 => ?_)
    refine PW_iload c_H_wayBetween_38 rfl ?_
    refine PW_aload_n c_H_wayBetween_40 rfl ?_
    refine PW_get (v := .ref 15) c_H_wayBetween_41 fl_H_16 (gf_6_1 _ _) ?_
    refine PW_iload c_H_wayBetween_44 rfl ?_
    refine PW_iald (j := lo + k) c_H_wayBetween_46 (ar_15 _ _) (vp_in_nI (by omega) (by decide)) (nI_clamp (by omega)) ?_
    show PW _ _ _ 47 [some (.ref 6), some (.int u), some (.int v), some (.int (nI lo)), some (.int (nI (lo + n))), some (.int (sumW y lo k)), some (.int (nI (lo + k)))] [.int ((x.2.1 15) (lo + k)), .int (sumW y lo k)] (E x y)
    refine PW_iadd c_H_wayBetween_47 ?_
    refine PW_istore (i := 5) (L2 := [some (.ref 6), some (.int u), some (.int v), some (.int (nI lo)), some (.int (nI (lo + n))), some (.int ((sumW y lo k) + ((x.2.1 15) (lo + k)))), some (.int (nI (lo + k)))]) c_H_wayBetween_48 (Nat.le_of_ble_eq_true rfl) rfl rfl ?_
    refine PW_iinc (i := 6) (v := (nI (lo + k)) + 1) (L2 := [some (.ref 6), some (.int u), some (.int v), some (.int (nI lo)), some (.int (nI (lo + n))), some (.int ((sumW y lo k) + ((x.2.1 15) (lo + k)))), some (.int ((nI (lo + k)) + 1))]) c_H_wayBetween_50 rfl (iinc_v (by decide)) (Nat.le_of_ble_eq_true rfl) rfl rfl ?_
    refine PW_goto c_H_wayBetween_53 ?_
    refine PW.eqL ?_ rfl rfl (ih (k + 1) (by omega))
    show ([some (.ref 6), some (.int u), some (.int v), some (.int (nI lo)), some (.int (nI (lo + n))), some (.int ((sumW y lo k) + ((x.2.1 15) (lo + k)))), some (.int ((nI (lo + k)) + 1))] : List (Option Value)) = [some (.ref 6), some (.int u), some (.int v), some (.int (nI lo)), some (.int (nI (lo + n))), some (.int (sumW y lo (k + 1))), some (.int (nI (lo + (k + 1))))]
    rw [nI_1, sumW, Nat.add_assoc, (C.2.2.2.1 (lo + k) (by omega)).1]
theorem sp_H_wayBetween {z : ZS} {post : Option Value → List PE → Prop} {x y : XS} {u v : Int32} {a b : Nat} (C : CPg x y) (ea : u = nI a) (eb : v = nI b) (ha : a < 5) (hb : b < 5) (h : post (some (.int (wayN y a b))) (E x y)) : PW (1, 0, 0, z) m_H_wayBetween post 0 [some (.ref 6), some (.int u), some (.int v), none, none, none, none] [] (E x y) := by
  subst ea; subst eb
  by_cases hab : a < b
  · rw [wayN, if_pos hab] at h
    refine PW_iconst (v := 0) c_H_wayBetween_0 (by decide) ?_
    refine PW_iload_n c_H_wayBetween_1 rfl ?_
    refine PW_iload_n c_H_wayBetween_2 rfl ?_
    refine PW_mmin c_H_wayBetween_3 mk_H_wayBetween_66 (by decide) (by first | decide | exact Nat.le_of_ble_eq_true rfl) ?_
    refine PW_mmax c_H_wayBetween_6 mk_H_wayBetween_71 (by decide) (by first | decide | exact Nat.le_of_ble_eq_true rfl) ?_
    refine PW_istore_n (i := 3) (L2 := [some (.ref 6), some (.int (nI a)), some (.int (nI b)), some (.int (if 0 < (if (nI b) < (nI a) then (nI b) else (nI a)) then (if (nI b) < (nI a) then (nI b) else (nI a)) else 0)), none, none, none]) c_H_wayBetween_9 rfl (Nat.le_of_ble_eq_true rfl) rfl rfl ?_
    refine PW_aload_n c_H_wayBetween_10 rfl ?_
    refine PW_get (v := .ref 15) c_H_wayBetween_11 fl_H_16 (gf_6_1 _ _) ?_
    refine PW_alen (v := 4) c_H_wayBetween_14 (ar_15 _ _) (t0 := 0) rfl (by decide) ?_
    refine PW_iload_n c_H_wayBetween_15 rfl ?_
    refine PW_iload_n c_H_wayBetween_16 rfl ?_
    refine PW_mmax c_H_wayBetween_17 mk_H_wayBetween_71 (by decide) (by first | decide | exact Nat.le_of_ble_eq_true rfl) ?_
    refine PW_mmin c_H_wayBetween_20 mk_H_wayBetween_66 (by decide) (by first | decide | exact Nat.le_of_ble_eq_true rfl) ?_
    refine PW_istore (i := 4) (L2 := [some (.ref 6), some (.int (nI a)), some (.int (nI b)), some (.int (if 0 < (if (nI b) < (nI a) then (nI b) else (nI a)) then (if (nI b) < (nI a) then (nI b) else (nI a)) else 0)), some (.int (if (if (nI a) < (nI b) then (nI b) else (nI a)) < 4 then (if (nI a) < (nI b) then (nI b) else (nI a)) else 4)), none, none]) c_H_wayBetween_23 (Nat.le_of_ble_eq_true rfl) rfl rfl ?_
    refine PW_iconst (v := 0) c_H_wayBetween_25 (by decide) ?_
    refine PW_istore (i := 5) (L2 := [some (.ref 6), some (.int (nI a)), some (.int (nI b)), some (.int (if 0 < (if (nI b) < (nI a) then (nI b) else (nI a)) then (if (nI b) < (nI a) then (nI b) else (nI a)) else 0)), some (.int (if (if (nI a) < (nI b) then (nI b) else (nI a)) < 4 then (if (nI a) < (nI b) then (nI b) else (nI a)) else 4)), some (.int 0), none]) c_H_wayBetween_26 (Nat.le_of_ble_eq_true rfl) rfl rfl ?_
    refine PW_iload_n c_H_wayBetween_28 rfl ?_
    refine PW_istore (i := 6) (L2 := [some (.ref 6), some (.int (nI a)), some (.int (nI b)), some (.int (if 0 < (if (nI b) < (nI a) then (nI b) else (nI a)) then (if (nI b) < (nI a) then (nI b) else (nI a)) else 0)), some (.int (if (if (nI a) < (nI b) then (nI b) else (nI a)) < 4 then (if (nI a) < (nI b) then (nI b) else (nI a)) else 4)), some (.int 0), some (.int (if 0 < (if (nI b) < (nI a) then (nI b) else (nI a)) then (if (nI b) < (nI a) then (nI b) else (nI a)) else 0))]) c_H_wayBetween_29 (Nat.le_of_ble_eq_true rfl) rfl rfl ?_
    have f1 : (if 0 < (if (nI b) < (nI a) then (nI b) else (nI a)) then (if (nI b) < (nI a) then (nI b) else (nI a)) else 0 : Int32) = nI (a) := by rw [mmin_nI (by omega) (by omega), show (0 : Int32) = nI 0 from rfl, mmax_nI (by omega) (by split <;> omega)]; exact congrArg nI (by (repeat' split) <;> omega)
    have f2 : (if (if (nI a) < (nI b) then (nI b) else (nI a)) < 4 then (if (nI a) < (nI b) then (nI b) else (nI a)) else 4 : Int32) = nI (a + (b - a)) := by rw [mmax_nI (by omega) (by omega), show (4 : Int32) = nI 4 from rfl, mmin_nI (by omega) (by split <;> omega)]; exact congrArg nI (by (repeat' split) <;> omega)
    refine PW.eqL ?_ rfl rfl (lp_H_wayBetween (u := nI a) (v := nI b) (lo := a) (n := b - a) (by omega) C h (b - a) 0 (Nat.zero_add _))
    show ([some (.ref 6), some (.int (nI a)), some (.int (nI b)), some (.int (if 0 < (if (nI b) < (nI a) then (nI b) else (nI a)) then (if (nI b) < (nI a) then (nI b) else (nI a)) else 0)), some (.int (if (if (nI a) < (nI b) then (nI b) else (nI a)) < 4 then (if (nI a) < (nI b) then (nI b) else (nI a)) else 4)), some (.int 0), some (.int (if 0 < (if (nI b) < (nI a) then (nI b) else (nI a)) then (if (nI b) < (nI a) then (nI b) else (nI a)) else 0))] : List (Option Value)) = _
    rw [f1, f2]
    rfl
  · rw [wayN, if_neg hab] at h
    refine PW_iconst (v := 0) c_H_wayBetween_0 (by decide) ?_
    refine PW_iload_n c_H_wayBetween_1 rfl ?_
    refine PW_iload_n c_H_wayBetween_2 rfl ?_
    refine PW_mmin c_H_wayBetween_3 mk_H_wayBetween_66 (by decide) (by first | decide | exact Nat.le_of_ble_eq_true rfl) ?_
    refine PW_mmax c_H_wayBetween_6 mk_H_wayBetween_71 (by decide) (by first | decide | exact Nat.le_of_ble_eq_true rfl) ?_
    refine PW_istore_n (i := 3) (L2 := [some (.ref 6), some (.int (nI a)), some (.int (nI b)), some (.int (if 0 < (if (nI b) < (nI a) then (nI b) else (nI a)) then (if (nI b) < (nI a) then (nI b) else (nI a)) else 0)), none, none, none]) c_H_wayBetween_9 rfl (Nat.le_of_ble_eq_true rfl) rfl rfl ?_
    refine PW_aload_n c_H_wayBetween_10 rfl ?_
    refine PW_get (v := .ref 15) c_H_wayBetween_11 fl_H_16 (gf_6_1 _ _) ?_
    refine PW_alen (v := 4) c_H_wayBetween_14 (ar_15 _ _) (t0 := 0) rfl (by decide) ?_
    refine PW_iload_n c_H_wayBetween_15 rfl ?_
    refine PW_iload_n c_H_wayBetween_16 rfl ?_
    refine PW_mmax c_H_wayBetween_17 mk_H_wayBetween_71 (by decide) (by first | decide | exact Nat.le_of_ble_eq_true rfl) ?_
    refine PW_mmin c_H_wayBetween_20 mk_H_wayBetween_66 (by decide) (by first | decide | exact Nat.le_of_ble_eq_true rfl) ?_
    refine PW_istore (i := 4) (L2 := [some (.ref 6), some (.int (nI a)), some (.int (nI b)), some (.int (if 0 < (if (nI b) < (nI a) then (nI b) else (nI a)) then (if (nI b) < (nI a) then (nI b) else (nI a)) else 0)), some (.int (if (if (nI a) < (nI b) then (nI b) else (nI a)) < 4 then (if (nI a) < (nI b) then (nI b) else (nI a)) else 4)), none, none]) c_H_wayBetween_23 (Nat.le_of_ble_eq_true rfl) rfl rfl ?_
    refine PW_iconst (v := 0) c_H_wayBetween_25 (by decide) ?_
    refine PW_istore (i := 5) (L2 := [some (.ref 6), some (.int (nI a)), some (.int (nI b)), some (.int (if 0 < (if (nI b) < (nI a) then (nI b) else (nI a)) then (if (nI b) < (nI a) then (nI b) else (nI a)) else 0)), some (.int (if (if (nI a) < (nI b) then (nI b) else (nI a)) < 4 then (if (nI a) < (nI b) then (nI b) else (nI a)) else 4)), some (.int 0), none]) c_H_wayBetween_26 (Nat.le_of_ble_eq_true rfl) rfl rfl ?_
    refine PW_iload_n c_H_wayBetween_28 rfl ?_
    refine PW_istore (i := 6) (L2 := [some (.ref 6), some (.int (nI a)), some (.int (nI b)), some (.int (if 0 < (if (nI b) < (nI a) then (nI b) else (nI a)) then (if (nI b) < (nI a) then (nI b) else (nI a)) else 0)), some (.int (if (if (nI a) < (nI b) then (nI b) else (nI a)) < 4 then (if (nI a) < (nI b) then (nI b) else (nI a)) else 4)), some (.int 0), some (.int (if 0 < (if (nI b) < (nI a) then (nI b) else (nI a)) then (if (nI b) < (nI a) then (nI b) else (nI a)) else 0))]) c_H_wayBetween_29 (Nat.le_of_ble_eq_true rfl) rfl rfl ?_
    have f1 : (if 0 < (if (nI b) < (nI a) then (nI b) else (nI a)) then (if (nI b) < (nI a) then (nI b) else (nI a)) else 0 : Int32) = nI (b) := by rw [mmin_nI (by omega) (by omega), show (0 : Int32) = nI 0 from rfl, mmax_nI (by omega) (by split <;> omega)]; exact congrArg nI (by (repeat' split) <;> omega)
    have f2 : (if (if (nI a) < (nI b) then (nI b) else (nI a)) < 4 then (if (nI a) < (nI b) then (nI b) else (nI a)) else 4 : Int32) = nI (b + (a - b)) := by rw [mmax_nI (by omega) (by omega), show (4 : Int32) = nI 4 from rfl, mmin_nI (by omega) (by split <;> omega)]; exact congrArg nI (by (repeat' split) <;> omega)
    refine PW.eqL ?_ rfl rfl (lp_H_wayBetween (u := nI a) (v := nI b) (lo := b) (n := a - b) (by omega) C h (a - b) 0 (Nat.zero_add _))
    show ([some (.ref 6), some (.int (nI a)), some (.int (nI b)), some (.int (if 0 < (if (nI b) < (nI a) then (nI b) else (nI a)) then (if (nI b) < (nI a) then (nI b) else (nI a)) else 0)), some (.int (if (if (nI a) < (nI b) then (nI b) else (nI a)) < 4 then (if (nI a) < (nI b) then (nI b) else (nI a)) else 4)), some (.int 0), some (.int (if 0 < (if (nI b) < (nI a) then (nI b) else (nI a)) then (if (nI b) < (nI a) then (nI b) else (nI a)) else 0))] : List (Option Value)) = _
    rw [f1, f2]
    rfl
theorem wayW {x y : XS} (C : CPg x y) : ∀ (n a : Nat), a + n ≤ 4 → (n : Int) ≤ (sumW y a n).toInt ∧ (sumW y a n).toInt ≤ 9 * n
  | 0, a, _ => by rw [sumW]; exact ⟨by decide, by decide⟩
  | n + 1, a, h => by
    have ih := wayW C n a (by omega)
    have h1 := (C.2.2.2.1 (a + n) (by omega)).2
    have h2 : (1 : Int) ≤ (y.2.1 78 (a + n)).toInt := h1.1
    have h3 : (y.2.1 78 (a + n)).toInt ≤ 9 := h1.2
    rw [sumW, ti_add (by omega) (by omega)]
    omega
theorem wayN_b {x y : XS} (C : CPg x y) {a b : Nat} (ha : a < 5) (hb : b < 5) : 0 ≤ (wayN y a b).toInt ∧ (wayN y a b).toInt ≤ 36 := by
  unfold wayN
  by_cases h : a < b
  · rw [if_pos h]
    have := wayW C (b - a) a (by omega)
    omega
  · rw [if_neg h]
    have := wayW C (a - b) b (by omega)
    omega
