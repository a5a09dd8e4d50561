/-! the changes kept -/
def dX (lo : Nat) (x : XS) (k : Nat) : XS := (x.1, fun a => if lo ≤ a ∧ a < lo + 4 then (fun i => if i < k then x.2.1 a (i + 1) else x.2.1 a i) else x.2.1 a, x.2.2)
theorem dX_0 (lo : Nat) (x : XS) : dX lo x 0 = x := by
  refine Prod.ext rfl (Prod.ext (funext fun a => ?_) rfl)
  show (if lo ≤ a ∧ a < lo + 4 then (fun i => if i < 0 then x.2.1 a (i + 1) else x.2.1 a i) else x.2.1 a) = x.2.1 a
  split
  · exact funext fun i => if_neg (Nat.not_lt_zero i)
  · rfl
theorem dX_row {lo a k : Nat} {x : XS} (h : lo ≤ a ∧ a < lo + 4) (i : Nat) : (dX lo x k).2.1 a i = if i < k then x.2.1 a (i + 1) else x.2.1 a i := congrFun (if_pos h) i
theorem dX_out {lo a k : Nat} {x : XS} (h : ¬ (lo ≤ a ∧ a < lo + 4)) : (dX lo x k).2.1 a = x.2.1 a := if_neg h
theorem dX_s (lo k : Nat) (x : XS) : sA (sA (sA (sA (dX lo x k) (lo + 0) (upd ((dX lo x k).2.1 (lo + 0)) k ((dX lo x k).2.1 (lo + 0) (k + 1)))) (lo + 1) (upd ((dX lo x k).2.1 (lo + 1)) k ((dX lo x k).2.1 (lo + 1) (k + 1)))) (lo + 2) (upd ((dX lo x k).2.1 (lo + 2)) k ((dX lo x k).2.1 (lo + 2) (k + 1)))) (lo + 3) (upd ((dX lo x k).2.1 (lo + 3)) k ((dX lo x k).2.1 (lo + 3) (k + 1))) = dX lo x (k + 1) := by
  have one : ∀ a, lo ≤ a ∧ a < lo + 4 → upd ((dX lo x k).2.1 a) k ((dX lo x k).2.1 a (k + 1)) = (dX lo x (k + 1)).2.1 a := fun a ha => funext fun i => by
    by_cases q : i = k
    · subst q
      rw [upd_s, dX_row ha, dX_row ha, if_neg (by omega), if_pos (by omega)]
    · rw [upd_n q, dX_row ha, dX_row ha]
      by_cases q2 : i < k
      · rw [if_pos q2, if_pos (by omega)]
      · rw [if_neg q2, if_neg (by omega)]
  rw [one (lo + 0) (by omega), one (lo + 1) (by omega), one (lo + 2) (by omega), one (lo + 3) (by omega)]
  refine Prod.ext rfl (Prod.ext (funext fun a => ?_) rfl)
  rw [sA_A, sA_A, sA_A, sA_A]
  by_cases h0 : a = lo + 3
  · rw [if_pos h0, h0]
  · rw [if_neg h0]
    by_cases h1 : a = lo + 2
    · rw [if_pos h1, h1]
    · rw [if_neg h1]
      by_cases h2 : a = lo + 1
      · rw [if_pos h2, h2]
      · rw [if_neg h2]
        by_cases h3 : a = lo + 0
        · rw [if_pos h3, h3]
        · rw [if_neg h3, dX_out (by omega), dX_out (by omega)]
/-- a change put behind the d others -/
def adX (lo : Nat) (x : XS) (d : Nat) (p q b a : Int32) : XS := sA (sA (sA (sA x lo (upd (x.2.1 lo) d p)) (lo + 1) (upd (x.2.1 (lo + 1)) d q)) (lo + 2) (upd (x.2.1 (lo + 2)) d b)) (lo + 3) (upd (x.2.1 (lo + 3)) d a)
theorem adX_row {lo d a i : Nat} {x : XS} {p q b v : Int32} (ha : a < 4) : (adX lo x d p q b v).2.1 (lo + a) i = if i = d then (if a = 0 then p else if a = 1 then q else if a = 2 then b else v) else x.2.1 (lo + a) i := by
  unfold adX
  rcases (show a = 0 ∨ a = 1 ∨ a = 2 ∨ a = 3 by omega) with rfl | rfl | rfl | rfl
  · rw [sA_A, if_neg (by omega), sA_A, if_neg (by omega), sA_A, if_neg (by omega), show lo + 0 = lo from rfl, sA_at]
    by_cases h : i = d
    · subst h; rw [upd_s, if_pos rfl, if_pos rfl]
    · rw [upd_n h, if_neg h]
  · rw [sA_A, if_neg (by omega), sA_A, if_neg (by omega), sA_at]
    by_cases h : i = d
    · subst h; rw [upd_s, if_pos rfl, if_neg (by omega), if_pos rfl]
    · rw [upd_n h, if_neg h]
  · rw [sA_A, if_neg (by omega), sA_at]
    by_cases h : i = d
    · subst h; rw [upd_s, if_pos rfl, if_neg (by omega), if_neg (by omega), if_pos rfl]
    · rw [upd_n h, if_neg h]
  · rw [sA_at]
    by_cases h : i = d
    · subst h; rw [upd_s, if_pos rfl, if_neg (by omega), if_neg (by omega), if_neg (by omega)]
    · rw [upd_n h, if_neg h]
theorem adX_out {lo d a : Nat} {x : XS} {p q b v : Int32} (ha : ¬ (lo ≤ a ∧ a < lo + 4)) : (adX lo x d p q b v).2.1 a = x.2.1 a := by
  unfold adX
  rw [sA_A, if_neg (by omega), sA_A, if_neg (by omega), sA_A, if_neg (by omega), sA_A, if_neg (by omega)]
theorem adX_1 {lo d : Nat} {x : XS} {p q b v : Int32} : (adX lo x d p q b v).1 = x.1 := rfl
theorem lp_C_drop {z : ZS} {post : Option Value → List PE → Prop} {x y : XS} (h : post none (E (sI (dX 50 x 39) 397 39) y)) : ∀ j k : Nat, k + j = 39 → PW (0, 0, 0, z) m_C_dropOldest post 2 [some (.ref 49), some (.int (nI (k + 1)))] [] (E (dX 50 x k) y) := by
  intro j
  induction j with
  | zero =>
    intro k hk
    refine PW_iload_n c_C_dropOldest_2 rfl ?_
    refine PW_bipush (v := 40) c_C_dropOldest_3 (by decide) ?_
    refine PW_icmp_ge c_C_dropOldest_5 (fun h0 => ?_) (fun h0 => absurd (by rw [show k = 39 by omega]; decide : (40 : Int32) ≤ nI (k + 1)) h0)
    refine PW_aload_n c_C_dropOldest_70 rfl ?_
    refine PW_bipush (v := 39) c_C_dropOldest_71 (by decide) ?_
    refine PW_put (w2 := E (sI (dX 50 x k) 397 39) y) c_C_dropOldest_73 fp_C_dropOldest_26 rfl (pf_49_5 _ _ _) ?_
    refine PW_vreturn c_C_dropOldest_76 rfl ?_
    rw [show k = 39 by omega]
    exact h
  | succ j ih =>
    intro k hk
    refine PW_iload_n c_C_dropOldest_2 rfl ?_
    refine PW_bipush (v := 40) c_C_dropOldest_3 (by decide) ?_
    refine PW_icmp_ge c_C_dropOldest_5 (fun h0 => absurd h0 (fun q => absurd ((nI_leI (by decide) (by omega)).mp (show nI 40 ≤ nI (k + 1) from q)) (by omega))) (fun h0 => ?_)
    refine PW_aload_n c_C_dropOldest_8 rfl ?_
    refine PW_get (v := .ref 50) c_C_dropOldest_9 fl_C_9 (gf_49_1 _ _) ?_
    refine PW_iload_n c_C_dropOldest_12 rfl ?_
    refine PW_iconst (v := 1) c_C_dropOldest_13 (by decide) ?_
    refine PW_isub c_C_dropOldest_14 ?_
    refine PW_aload_n c_C_dropOldest_15 rfl ?_
    refine PW_get (v := .ref 50) c_C_dropOldest_16 fl_C_9 (gf_49_1 _ _) ?_
    refine PW_iload_n c_C_dropOldest_19 rfl ?_
    refine PW_iald (j := k + 1) c_C_dropOldest_20 (ar_50 _ _) (vp_in_nI (by omega) (by decide)) (nI_clamp (by omega)) ?_
    show PW _ _ _ 21 [some (.ref 49), some (.int (nI (k + 1)))] [.int (((dX 50 x k).2.1 50) (k + 1)), .int ((nI (k + 1)) - 1), .ref 50] (E (dX 50 x k) y)
    refine PW_iast (j := k) (w2 := E (sA (dX 50 x k) 50 (upd ((dX 50 x k).2.1 50) k (((dX 50 x k).2.1 50) (k + 1)))) y) c_C_dropOldest_21 (ar_50 _ _) (by rw [pr1]; exact vp_in_nI (by omega) (by decide)) (by rw [pr1]; exact nI_clamp (by omega)) (aw_50 _ _ _) ?_
    refine PW_aload_n c_C_dropOldest_22 rfl ?_
    refine PW_get (v := .ref 51) c_C_dropOldest_23 fl_C_13 (gf_49_2 _ _) ?_
    refine PW_iload_n c_C_dropOldest_26 rfl ?_
    refine PW_iconst (v := 1) c_C_dropOldest_27 (by decide) ?_
    refine PW_isub c_C_dropOldest_28 ?_
    refine PW_aload_n c_C_dropOldest_29 rfl ?_
    refine PW_get (v := .ref 51) c_C_dropOldest_30 fl_C_13 (gf_49_2 _ _) ?_
    refine PW_iload_n c_C_dropOldest_33 rfl ?_
    refine PW_iald (j := k + 1) c_C_dropOldest_34 (ar_51 _ _) (vp_in_nI (by omega) (by decide)) (nI_clamp (by omega)) ?_
    show PW _ _ _ 35 [some (.ref 49), some (.int (nI (k + 1)))] [.int (((dX 50 x k).2.1 51) (k + 1)), .int ((nI (k + 1)) - 1), .ref 51] (E (sA (dX 50 x k) 50 (upd ((dX 50 x k).2.1 50) k (((dX 50 x k).2.1 50) (k + 1)))) y)
    refine PW_iast (j := k) (w2 := E (sA (sA (dX 50 x k) 50 (upd ((dX 50 x k).2.1 50) k (((dX 50 x k).2.1 50) (k + 1)))) 51 (upd ((dX 50 x k).2.1 51) k (((dX 50 x k).2.1 51) (k + 1)))) y) c_C_dropOldest_35 (ar_51 _ _) (by rw [pr1]; exact vp_in_nI (by omega) (by decide)) (by rw [pr1]; exact nI_clamp (by omega)) (aw_51 _ _ _) ?_
    refine PW_aload_n c_C_dropOldest_36 rfl ?_
    refine PW_get (v := .ref 52) c_C_dropOldest_37 fl_C_16 (gf_49_3 _ _) ?_
    refine PW_iload_n c_C_dropOldest_40 rfl ?_
    refine PW_iconst (v := 1) c_C_dropOldest_41 (by decide) ?_
    refine PW_isub c_C_dropOldest_42 ?_
    refine PW_aload_n c_C_dropOldest_43 rfl ?_
    refine PW_get (v := .ref 52) c_C_dropOldest_44 fl_C_16 (gf_49_3 _ _) ?_
    refine PW_iload_n c_C_dropOldest_47 rfl ?_
    refine PW_iald (j := k + 1) c_C_dropOldest_48 (ar_52 _ _) (vp_in_nI (by omega) (by decide)) (nI_clamp (by omega)) ?_
    show PW _ _ _ 49 [some (.ref 49), some (.int (nI (k + 1)))] [.int (((dX 50 x k).2.1 52) (k + 1)), .int ((nI (k + 1)) - 1), .ref 52] (E (sA (sA (dX 50 x k) 50 (upd ((dX 50 x k).2.1 50) k (((dX 50 x k).2.1 50) (k + 1)))) 51 (upd ((dX 50 x k).2.1 51) k (((dX 50 x k).2.1 51) (k + 1)))) y)
    refine PW_iast (j := k) (w2 := E (sA (sA (sA (dX 50 x k) 50 (upd ((dX 50 x k).2.1 50) k (((dX 50 x k).2.1 50) (k + 1)))) 51 (upd ((dX 50 x k).2.1 51) k (((dX 50 x k).2.1 51) (k + 1)))) 52 (upd ((dX 50 x k).2.1 52) k (((dX 50 x k).2.1 52) (k + 1)))) y) c_C_dropOldest_49 (ar_52 _ _) (by rw [pr1]; exact vp_in_nI (by omega) (by decide)) (by rw [pr1]; exact nI_clamp (by omega)) (aw_52 _ _ _) ?_
    refine PW_aload_n c_C_dropOldest_50 rfl ?_
    refine PW_get (v := .ref 53) c_C_dropOldest_51 fl_C_19 (gf_49_4 _ _) ?_
    refine PW_iload_n c_C_dropOldest_54 rfl ?_
    refine PW_iconst (v := 1) c_C_dropOldest_55 (by decide) ?_
    refine PW_isub c_C_dropOldest_56 ?_
    refine PW_aload_n c_C_dropOldest_57 rfl ?_
    refine PW_get (v := .ref 53) c_C_dropOldest_58 fl_C_19 (gf_49_4 _ _) ?_
    refine PW_iload_n c_C_dropOldest_61 rfl ?_
    refine PW_iald (j := k + 1) c_C_dropOldest_62 (ar_53 _ _) (vp_in_nI (by omega) (by decide)) (nI_clamp (by omega)) ?_
    show PW _ _ _ 63 [some (.ref 49), some (.int (nI (k + 1)))] [.int (((dX 50 x k).2.1 53) (k + 1)), .int ((nI (k + 1)) - 1), .ref 53] (E (sA (sA (sA (dX 50 x k) 50 (upd ((dX 50 x k).2.1 50) k (((dX 50 x k).2.1 50) (k + 1)))) 51 (upd ((dX 50 x k).2.1 51) k (((dX 50 x k).2.1 51) (k + 1)))) 52 (upd ((dX 50 x k).2.1 52) k (((dX 50 x k).2.1 52) (k + 1)))) y)
    refine PW_iast (j := k) (w2 := E (sA (sA (sA (sA (dX 50 x k) 50 (upd ((dX 50 x k).2.1 50) k (((dX 50 x k).2.1 50) (k + 1)))) 51 (upd ((dX 50 x k).2.1 51) k (((dX 50 x k).2.1 51) (k + 1)))) 52 (upd ((dX 50 x k).2.1 52) k (((dX 50 x k).2.1 52) (k + 1)))) 53 (upd ((dX 50 x k).2.1 53) k (((dX 50 x k).2.1 53) (k + 1)))) y) c_C_dropOldest_63 (ar_53 _ _) (by rw [pr1]; exact vp_in_nI (by omega) (by decide)) (by rw [pr1]; exact nI_clamp (by omega)) (aw_53 _ _ _) ?_
    refine PW_iinc (i := 1) (v := (nI (k + 1)) + 1) (L2 := [some (.ref 49), some (.int ((nI (k + 1)) + 1))]) c_C_dropOldest_64 rfl (iinc_v (by decide)) (Nat.le_of_ble_eq_true rfl) rfl rfl ?_
    refine PW_goto c_C_dropOldest_67 ?_
    refine PW.eqL ?_ rfl ?_ (ih (k + 1) (by omega))
    · show ([some (.ref 49), some (.int ((nI (k + 1)) + 1))] : List (Option Value)) = [some (.ref 49), some (.int (nI ((k + 1) + 1)))]
      rw [nI_1]
    · exact congrArg (fun u => E u y) (dX_s 50 k x)
theorem sp_C_drop {z : ZS} {post : Option Value → List PE → Prop} {x y : XS} (h : post none (E (sI (dX 50 x 39) 397 39) y)) : PW (0, 0, 0, z) m_C_dropOldest post 0 [some (.ref 49), none] [] (E x y) := by
  refine PW_iconst (v := 1) c_C_dropOldest_0 (by decide) ?_
  refine PW_istore_n (i := 1) (L2 := [some (.ref 49), some (.int 1)]) c_C_dropOldest_1 rfl (Nat.le_of_ble_eq_true rfl) rfl rfl ?_
  refine PW.eqL rfl rfl ?_ (lp_C_drop h 39 0 (Nat.zero_add _))
  rw [dX_0]
theorem sp_C_add1 {z : ZS} {post : Option Value → List PE → Prop} {x y : XS} {p u b a : Int32} {d : Nat} (hd : x.1 397 = nI d) (hd40 : d < 40) (h : post none (E (sI (sI (adX 50 x d p u b a) 397 (nI (d + 1))) 398 (nI (d + 1))) y)) : PW (1, 0, 0, z) m_C_add post 0 [some (.ref 49), some (.int p), some (.int u), some (.int b), some (.int a)] [] (E x y) := by
  refine PW_aload_n c_C_add_0 rfl ?_
  refine PW_get (v := .int (x.1 397)) c_C_add_1 fl_C_26 (gf_49_5 _ _) ?_
  refine PW_bipush (v := 40) c_C_add_4 (by decide) ?_
  refine PW_icmp_lt c_C_add_6 (fun h0 => ?_) (fun h0 => absurd (by rw [hd]; exact (nI_ltI (by omega) (by decide)).mpr (show d < 40 from hd40) : x.1 397 < nI 40) h0)
  refine PW_aload_n c_C_add_13 rfl ?_
  refine PW_get (v := .int (x.1 397)) c_C_add_14 fl_C_26 (gf_49_5 _ _) ?_
  refine PW_if_lt c_C_add_17 (fun h1 => absurd h1 (by rw [hd]; exact nI_pos (by omega))) (fun h1 => ?_)
  refine PW_aload_n c_C_add_20 rfl ?_
  refine PW_get (v := .int (x.1 397)) c_C_add_21 fl_C_26 (gf_49_5 _ _) ?_
  refine PW_bipush (v := 40) c_C_add_24 (by decide) ?_
  refine PW_icmp_lt c_C_add_26 (fun h2 => ?_) (fun h2 => absurd (by rw [hd]; exact (nI_ltI (by omega) (by decide)).mpr (show d < 40 from hd40) : x.1 397 < nI 40) h2)
  refine PW_aload_n c_C_add_30 rfl ?_
  refine PW_get (v := .ref 50) c_C_add_31 fl_C_9 (gf_49_1 _ _) ?_
  refine PW_aload_n c_C_add_34 rfl ?_
  refine PW_get (v := .int (x.1 397)) c_C_add_35 fl_C_26 (gf_49_5 _ _) ?_
  refine PW_iload_n c_C_add_38 rfl ?_
  refine PW_iast (j := d) (w2 := E (sA x 50 (upd (x.2.1 50) d p)) y) c_C_add_39 (ar_50 _ _) (by rw [hd]; exact vp_in_nI (by omega) (by decide)) (by rw [hd]; exact nI_clamp (by omega)) (aw_50 _ _ _) ?_
  refine PW_aload_n c_C_add_40 rfl ?_
  refine PW_get (v := .ref 51) c_C_add_41 fl_C_13 (gf_49_2 _ _) ?_
  refine PW_aload_n c_C_add_44 rfl ?_
  refine PW_get (v := .int (x.1 397)) c_C_add_45 fl_C_26 (gf_49_5 _ _) ?_
  refine PW_iload_n c_C_add_48 rfl ?_
  refine PW_iast (j := d) (w2 := E (sA (sA x 50 (upd (x.2.1 50) d p)) 51 (upd (x.2.1 51) d u)) y) c_C_add_49 (ar_51 _ _) (by rw [hd]; exact vp_in_nI (by omega) (by decide)) (by rw [hd]; exact nI_clamp (by omega)) (aw_51 _ _ _) ?_
  refine PW_aload_n c_C_add_50 rfl ?_
  refine PW_get (v := .ref 52) c_C_add_51 fl_C_16 (gf_49_3 _ _) ?_
  refine PW_aload_n c_C_add_54 rfl ?_
  refine PW_get (v := .int (x.1 397)) c_C_add_55 fl_C_26 (gf_49_5 _ _) ?_
  refine PW_iload_n c_C_add_58 rfl ?_
  refine PW_iast (j := d) (w2 := E (sA (sA (sA x 50 (upd (x.2.1 50) d p)) 51 (upd (x.2.1 51) d u)) 52 (upd (x.2.1 52) d b)) y) c_C_add_59 (ar_52 _ _) (by rw [hd]; exact vp_in_nI (by omega) (by decide)) (by rw [hd]; exact nI_clamp (by omega)) (aw_52 _ _ _) ?_
  refine PW_aload_n c_C_add_60 rfl ?_
  refine PW_get (v := .ref 53) c_C_add_61 fl_C_19 (gf_49_4 _ _) ?_
  refine PW_aload_n c_C_add_64 rfl ?_
  refine PW_get (v := .int (x.1 397)) c_C_add_65 fl_C_26 (gf_49_5 _ _) ?_
  refine PW_iload c_C_add_68 rfl ?_
  refine PW_iast (j := d) (w2 := E (sA (sA (sA (sA x 50 (upd (x.2.1 50) d p)) 51 (upd (x.2.1 51) d u)) 52 (upd (x.2.1 52) d b)) 53 (upd (x.2.1 53) d a)) y) c_C_add_70 (ar_53 _ _) (by rw [hd]; exact vp_in_nI (by omega) (by decide)) (by rw [hd]; exact nI_clamp (by omega)) (aw_53 _ _ _) ?_
  refine PW_aload_n c_C_add_71 rfl ?_
  refine PW_dup c_C_add_72 rfl ?_
  refine PW_get (v := .int (x.1 397)) c_C_add_73 fl_C_26 (gf_49_5 _ _) ?_
  refine PW_iconst (v := 1) c_C_add_76 (by decide) ?_
  refine PW_iadd c_C_add_77 ?_
  refine PW_put (w2 := E (sI (sA (sA (sA (sA x 50 (upd (x.2.1 50) d p)) 51 (upd (x.2.1 51) d u)) 52 (upd (x.2.1 52) d b)) 53 (upd (x.2.1 53) d a)) 397 ((x.1 397) + 1)) y) c_C_add_78 fp_C_add_26 rfl (pf_49_5 _ _ _) ?_
  refine PW_aload_n c_C_add_81 rfl ?_
  refine PW_aload_n c_C_add_82 rfl ?_
  refine PW_get (v := .int ((x.1 397) + 1)) c_C_add_83 fl_C_26 (gf_49_5 _ _) ?_
  refine PW_put (w2 := E (sI (sI (sA (sA (sA (sA x 50 (upd (x.2.1 50) d p)) 51 (upd (x.2.1 51) d u)) 52 (upd (x.2.1 52) d b)) 53 (upd (x.2.1 53) d a)) 397 ((x.1 397) + 1)) 398 ((x.1 397) + 1)) y) c_C_add_86 fp_C_add_30 rfl (pf_49_6 _ _ _) ?_
  refine PW_vreturn c_C_add_89 rfl ?_
  rw [hd, nI_1]
  exact h
theorem sp_C_add2 {z : ZS} {post : Option Value → List PE → Prop} {x y : XS} {p u b a : Int32} (hd : x.1 397 = 40) (h : post none (E (sI (sI (adX 50 (sI (dX 50 x 39) 397 39) 39 p u b a) 397 (39 + 1)) 398 (39 + 1)) y)) : PW (1, 0, 0, z) m_C_add post 0 [some (.ref 49), some (.int p), some (.int u), some (.int b), some (.int a)] [] (E x y) := by
  refine PW_aload_n c_C_add_0 rfl ?_
  refine PW_get (v := .int (x.1 397)) c_C_add_1 fl_C_26 (gf_49_5 _ _) ?_
  refine PW_bipush (v := 40) c_C_add_4 (by decide) ?_
  refine PW_icmp_lt c_C_add_6 (fun h0 => absurd h0 (by rw [hd]; decide)) (fun h0 => ?_)
  refine PW_aload_n c_C_add_9 rfl ?_
  refine PW_V0 (d2 := 0) (st := []) [] c_C_add_10 lk_C_add_33 (po_49 _ _) rfl rfl rfl (Nat.le_of_ble_eq_true rfl) (by first | decide | omega) (Nat.le_of_ble_eq_true rfl) ?_
  refine sp_C_drop ?_
  show PW _ _ _ 13 [some (.ref 49), some (.int p), some (.int u), some (.int b), some (.int a)] [] (E (sI (dX 50 x 39) 397 39) y)
  refine PW_aload_n c_C_add_13 rfl ?_
  refine PW_get (v := .int 39) c_C_add_14 fl_C_26 (gf_49_5 _ _) ?_
  refine PW_if_lt c_C_add_17 (fun h1 => absurd h1 (by decide)) (fun _ => ?_)
  refine PW_aload_n c_C_add_20 rfl ?_
  refine PW_get (v := .int 39) c_C_add_21 fl_C_26 (gf_49_5 _ _) ?_
  refine PW_bipush (v := 40) c_C_add_24 (by decide) ?_
  refine PW_icmp_lt c_C_add_26 (fun _ => ?_) (fun h2 => absurd (by decide) h2)
  refine PW_aload_n c_C_add_30 rfl ?_
  refine PW_get (v := .ref 50) c_C_add_31 fl_C_9 (gf_49_1 _ _) ?_
  refine PW_aload_n c_C_add_34 rfl ?_
  refine PW_get (v := .int 39) c_C_add_35 fl_C_26 (gf_49_5 _ _) ?_
  refine PW_iload_n c_C_add_38 rfl ?_
  refine PW_iast (j := 39) (w2 := E (sA (sI (dX 50 x 39) 397 39) 50 (upd ((dX 50 x 39).2.1 50) 39 p)) y) c_C_add_39 (ar_50 _ _) (vp_in_iff.mpr (by decide)) (by decide) (aw_50 _ _ _) ?_
  refine PW_aload_n c_C_add_40 rfl ?_
  refine PW_get (v := .ref 51) c_C_add_41 fl_C_13 (gf_49_2 _ _) ?_
  refine PW_aload_n c_C_add_44 rfl ?_
  refine PW_get (v := .int 39) c_C_add_45 fl_C_26 (gf_49_5 _ _) ?_
  refine PW_iload_n c_C_add_48 rfl ?_
  refine PW_iast (j := 39) (w2 := E (sA (sA (sI (dX 50 x 39) 397 39) 50 (upd ((dX 50 x 39).2.1 50) 39 p)) 51 (upd ((dX 50 x 39).2.1 51) 39 u)) y) c_C_add_49 (ar_51 _ _) (vp_in_iff.mpr (by decide)) (by decide) (aw_51 _ _ _) ?_
  refine PW_aload_n c_C_add_50 rfl ?_
  refine PW_get (v := .ref 52) c_C_add_51 fl_C_16 (gf_49_3 _ _) ?_
  refine PW_aload_n c_C_add_54 rfl ?_
  refine PW_get (v := .int 39) c_C_add_55 fl_C_26 (gf_49_5 _ _) ?_
  refine PW_iload_n c_C_add_58 rfl ?_
  refine PW_iast (j := 39) (w2 := E (sA (sA (sA (sI (dX 50 x 39) 397 39) 50 (upd ((dX 50 x 39).2.1 50) 39 p)) 51 (upd ((dX 50 x 39).2.1 51) 39 u)) 52 (upd ((dX 50 x 39).2.1 52) 39 b)) y) c_C_add_59 (ar_52 _ _) (vp_in_iff.mpr (by decide)) (by decide) (aw_52 _ _ _) ?_
  refine PW_aload_n c_C_add_60 rfl ?_
  refine PW_get (v := .ref 53) c_C_add_61 fl_C_19 (gf_49_4 _ _) ?_
  refine PW_aload_n c_C_add_64 rfl ?_
  refine PW_get (v := .int 39) c_C_add_65 fl_C_26 (gf_49_5 _ _) ?_
  refine PW_iload c_C_add_68 rfl ?_
  refine PW_iast (j := 39) (w2 := E (sA (sA (sA (sA (sI (dX 50 x 39) 397 39) 50 (upd ((dX 50 x 39).2.1 50) 39 p)) 51 (upd ((dX 50 x 39).2.1 51) 39 u)) 52 (upd ((dX 50 x 39).2.1 52) 39 b)) 53 (upd ((dX 50 x 39).2.1 53) 39 a)) y) c_C_add_70 (ar_53 _ _) (vp_in_iff.mpr (by decide)) (by decide) (aw_53 _ _ _) ?_
  refine PW_aload_n c_C_add_71 rfl ?_
  refine PW_dup c_C_add_72 rfl ?_
  refine PW_get (v := .int 39) c_C_add_73 fl_C_26 (gf_49_5 _ _) ?_
  refine PW_iconst (v := 1) c_C_add_76 (by decide) ?_
  refine PW_iadd c_C_add_77 ?_
  refine PW_put (w2 := E (sI (sA (sA (sA (sA (sI (dX 50 x 39) 397 39) 50 (upd ((dX 50 x 39).2.1 50) 39 p)) 51 (upd ((dX 50 x 39).2.1 51) 39 u)) 52 (upd ((dX 50 x 39).2.1 52) 39 b)) 53 (upd ((dX 50 x 39).2.1 53) 39 a)) 397 (39 + 1)) y) c_C_add_78 fp_C_add_26 rfl (pf_49_5 _ _ _) ?_
  refine PW_aload_n c_C_add_81 rfl ?_
  refine PW_aload_n c_C_add_82 rfl ?_
  refine PW_get (v := .int (39 + 1)) c_C_add_83 fl_C_26 (gf_49_5 _ _) ?_
  refine PW_put (w2 := E (sI (sI (sA (sA (sA (sA (sI (dX 50 x 39) 397 39) 50 (upd ((dX 50 x 39).2.1 50) 39 p)) 51 (upd ((dX 50 x 39).2.1 51) 39 u)) 52 (upd ((dX 50 x 39).2.1 52) 39 b)) 53 (upd ((dX 50 x 39).2.1 53) 39 a)) 397 (39 + 1)) 398 (39 + 1)) y) c_C_add_86 fp_C_add_30 rfl (pf_49_6 _ _ _) ?_
  refine PW_vreturn c_C_add_89 rfl ?_
  exact h
theorem lp_M_drop {z : ZS} {post : Option Value → List PE → Prop} {x y : XS} {p u v b : Int32} (h : PW (1, 0, 0, z) m_M_changes post 111 [some (.ref 70), some (.int u), some (.int p), some (.int v), some (.int b), some (.int (nI (39 + 1)))] [] (E x (dX 79 y 39))) : ∀ j k : Nat, k + j = 39 → PW (1, 0, 0, z) m_M_changes post 34 [some (.ref 70), some (.int u), some (.int p), some (.int v), some (.int b), some (.int (nI (k + 1)))] [] (E x (dX 79 y k)) := by
  intro j
  induction j with
  | zero =>
    intro k hk
    refine PW_iload c_M_changes_34 rfl ?_
    refine PW_bipush (v := 40) c_M_changes_36 (by decide) ?_
    refine PW_icmp_ge c_M_changes_38 (fun h0 => ?_) (fun h0 => absurd (by rw [show k = 39 by omega]; decide : (40 : Int32) ≤ nI (k + 1)) h0)
    rw [show k = 39 by omega]
    exact h
  | succ j ih =>
    intro k hk
    refine PW_iload c_M_changes_34 rfl ?_
    refine PW_bipush (v := 40) c_M_changes_36 (by decide) ?_
    refine PW_icmp_ge c_M_changes_38 (fun h0 => absurd h0 (fun q => absurd ((nI_leI (by decide) (by omega)).mp (show nI 40 ≤ nI (k + 1) from q)) (by omega))) (fun h0 => ?_)
    refine PW_aload_n c_M_changes_41 rfl ?_
    refine PW_get (v := .ref 79) c_M_changes_42 fl_M_34 (gf_70_12 _ _) ?_
    refine PW_iload c_M_changes_45 rfl ?_
    refine PW_iconst (v := 1) c_M_changes_47 (by decide) ?_
    refine PW_isub c_M_changes_48 ?_
    refine PW_aload_n c_M_changes_49 rfl ?_
    refine PW_get (v := .ref 79) c_M_changes_50 fl_M_34 (gf_70_12 _ _) ?_
    refine PW_iload c_M_changes_53 rfl ?_
    refine PW_iald (j := k + 1) c_M_changes_55 (ar_79 _ _) (vp_in_nI (by omega) (by decide)) (nI_clamp (by omega)) ?_
    show PW _ _ _ 56 [some (.ref 70), some (.int u), some (.int p), some (.int v), some (.int b), some (.int (nI (k + 1)))] [.int (((dX 79 y k).2.1 79) (k + 1)), .int ((nI (k + 1)) - 1), .ref 79] (E x (dX 79 y k))
    refine PW_iast (j := k) (w2 := E x (sA (dX 79 y k) 79 (upd ((dX 79 y k).2.1 79) k (((dX 79 y k).2.1 79) (k + 1))))) c_M_changes_56 (ar_79 _ _) (by rw [pr1]; exact vp_in_nI (by omega) (by decide)) (by rw [pr1]; exact nI_clamp (by omega)) (aw_79 _ _ _) ?_
    refine PW_aload_n c_M_changes_57 rfl ?_
    refine PW_get (v := .ref 80) c_M_changes_58 fl_M_37 (gf_70_13 _ _) ?_
    refine PW_iload c_M_changes_61 rfl ?_
    refine PW_iconst (v := 1) c_M_changes_63 (by decide) ?_
    refine PW_isub c_M_changes_64 ?_
    refine PW_aload_n c_M_changes_65 rfl ?_
    refine PW_get (v := .ref 80) c_M_changes_66 fl_M_37 (gf_70_13 _ _) ?_
    refine PW_iload c_M_changes_69 rfl ?_
    refine PW_iald (j := k + 1) c_M_changes_71 (ar_80 _ _) (vp_in_nI (by omega) (by decide)) (nI_clamp (by omega)) ?_
    show PW _ _ _ 72 [some (.ref 70), some (.int u), some (.int p), some (.int v), some (.int b), some (.int (nI (k + 1)))] [.int (((dX 79 y k).2.1 80) (k + 1)), .int ((nI (k + 1)) - 1), .ref 80] (E x (sA (dX 79 y k) 79 (upd ((dX 79 y k).2.1 79) k (((dX 79 y k).2.1 79) (k + 1)))))
    refine PW_iast (j := k) (w2 := E x (sA (sA (dX 79 y k) 79 (upd ((dX 79 y k).2.1 79) k (((dX 79 y k).2.1 79) (k + 1)))) 80 (upd ((dX 79 y k).2.1 80) k (((dX 79 y k).2.1 80) (k + 1))))) c_M_changes_72 (ar_80 _ _) (by rw [pr1]; exact vp_in_nI (by omega) (by decide)) (by rw [pr1]; exact nI_clamp (by omega)) (aw_80 _ _ _) ?_
    refine PW_aload_n c_M_changes_73 rfl ?_
    refine PW_get (v := .ref 81) c_M_changes_74 fl_M_40 (gf_70_14 _ _) ?_
    refine PW_iload c_M_changes_77 rfl ?_
    refine PW_iconst (v := 1) c_M_changes_79 (by decide) ?_
    refine PW_isub c_M_changes_80 ?_
    refine PW_aload_n c_M_changes_81 rfl ?_
    refine PW_get (v := .ref 81) c_M_changes_82 fl_M_40 (gf_70_14 _ _) ?_
    refine PW_iload c_M_changes_85 rfl ?_
    refine PW_iald (j := k + 1) c_M_changes_87 (ar_81 _ _) (vp_in_nI (by omega) (by decide)) (nI_clamp (by omega)) ?_
    show PW _ _ _ 88 [some (.ref 70), some (.int u), some (.int p), some (.int v), some (.int b), some (.int (nI (k + 1)))] [.int (((dX 79 y k).2.1 81) (k + 1)), .int ((nI (k + 1)) - 1), .ref 81] (E x (sA (sA (dX 79 y k) 79 (upd ((dX 79 y k).2.1 79) k (((dX 79 y k).2.1 79) (k + 1)))) 80 (upd ((dX 79 y k).2.1 80) k (((dX 79 y k).2.1 80) (k + 1)))))
    refine PW_iast (j := k) (w2 := E x (sA (sA (sA (dX 79 y k) 79 (upd ((dX 79 y k).2.1 79) k (((dX 79 y k).2.1 79) (k + 1)))) 80 (upd ((dX 79 y k).2.1 80) k (((dX 79 y k).2.1 80) (k + 1)))) 81 (upd ((dX 79 y k).2.1 81) k (((dX 79 y k).2.1 81) (k + 1))))) c_M_changes_88 (ar_81 _ _) (by rw [pr1]; exact vp_in_nI (by omega) (by decide)) (by rw [pr1]; exact nI_clamp (by omega)) (aw_81 _ _ _) ?_
    refine PW_aload_n c_M_changes_89 rfl ?_
    refine PW_get (v := .ref 82) c_M_changes_90 fl_M_43 (gf_70_15 _ _) ?_
    refine PW_iload c_M_changes_93 rfl ?_
    refine PW_iconst (v := 1) c_M_changes_95 (by decide) ?_
    refine PW_isub c_M_changes_96 ?_
    refine PW_aload_n c_M_changes_97 rfl ?_
    refine PW_get (v := .ref 82) c_M_changes_98 fl_M_43 (gf_70_15 _ _) ?_
    refine PW_iload c_M_changes_101 rfl ?_
    refine PW_iald (j := k + 1) c_M_changes_103 (ar_82 _ _) (vp_in_nI (by omega) (by decide)) (nI_clamp (by omega)) ?_
    show PW _ _ _ 104 [some (.ref 70), some (.int u), some (.int p), some (.int v), some (.int b), some (.int (nI (k + 1)))] [.int (((dX 79 y k).2.1 82) (k + 1)), .int ((nI (k + 1)) - 1), .ref 82] (E x (sA (sA (sA (dX 79 y k) 79 (upd ((dX 79 y k).2.1 79) k (((dX 79 y k).2.1 79) (k + 1)))) 80 (upd ((dX 79 y k).2.1 80) k (((dX 79 y k).2.1 80) (k + 1)))) 81 (upd ((dX 79 y k).2.1 81) k (((dX 79 y k).2.1 81) (k + 1)))))
    refine PW_iast (j := k) (w2 := E x (sA (sA (sA (sA (dX 79 y k) 79 (upd ((dX 79 y k).2.1 79) k (((dX 79 y k).2.1 79) (k + 1)))) 80 (upd ((dX 79 y k).2.1 80) k (((dX 79 y k).2.1 80) (k + 1)))) 81 (upd ((dX 79 y k).2.1 81) k (((dX 79 y k).2.1 81) (k + 1)))) 82 (upd ((dX 79 y k).2.1 82) k (((dX 79 y k).2.1 82) (k + 1))))) c_M_changes_104 (ar_82 _ _) (by rw [pr1]; exact vp_in_nI (by omega) (by decide)) (by rw [pr1]; exact nI_clamp (by omega)) (aw_82 _ _ _) ?_
    refine PW_iinc (i := 5) (v := (nI (k + 1)) + 1) (L2 := [some (.ref 70), some (.int u), some (.int p), some (.int v), some (.int b), some (.int ((nI (k + 1)) + 1))]) c_M_changes_105 rfl (iinc_v (by decide)) (Nat.le_of_ble_eq_true rfl) rfl rfl ?_
    refine PW_goto c_M_changes_108 ?_
    refine PW.eqL ?_ rfl ?_ (ih (k + 1) (by omega))
    · show ([some (.ref 70), some (.int u), some (.int p), some (.int v), some (.int b), some (.int ((nI (k + 1)) + 1))] : List (Option Value)) = [some (.ref 70), some (.int u), some (.int p), some (.int v), some (.int b), some (.int (nI ((k + 1) + 1)))]
      rw [nI_1]
    · exact congrArg (fun u => E x u) (dX_s 79 k y)
theorem sp_M_ch0 {z : ZS} {post : Option Value → List PE → Prop} {x y : XS} {p u v : Int32} {w g : Nat} (hn : nG y ≤ 10) (hw : w < 8) (hgw : (w = 7 ∧ g < 4) ∨ (w < 7 ∧ g < nG y)) (ep : p = nI g) (eu : u = nI w) (hv : y.2.1 (71 + w) g = v) (h : post (some (.int (y.2.1 (71 + w) g))) (E x y)) : PW (1, 0, 0, z) m_M_changes post 0 [some (.ref 70), some (.int u), some (.int p), some (.int v), none, none] [] (E x y) := by
  refine PW_aload_n c_M_changes_0 rfl ?_
  refine PW_iload_n c_M_changes_1 rfl ?_
  refine PW_iload_n c_M_changes_2 rfl ?_
  refine PW_V0 (d2 := 0) (st := []) [.int u, .int p] c_M_changes_3 lk_M_changes_148 (po_70 _ _) rfl rfl rfl (Nat.le_of_ble_eq_true rfl) (by first | decide | omega) (Nat.le_of_ble_eq_true rfl) ?_
  refine sp_M_valueAt8 hn hw hgw ep eu ?_
  show PW _ _ _ 6 [some (.ref 70), some (.int u), some (.int p), some (.int v), none, none] [.int (y.2.1 (71 + w) g)] (E x y)
  refine PW_istore (i := 4) (L2 := [some (.ref 70), some (.int u), some (.int p), some (.int v), some (.int (y.2.1 (71 + w) g)), none]) c_M_changes_6 (Nat.le_of_ble_eq_true rfl) rfl rfl ?_
  refine PW_iload c_M_changes_8 rfl ?_
  refine PW_iload_n c_M_changes_10 rfl ?_
  refine PW_icmp_ne c_M_changes_11 (fun h0 => absurd h0 (not_not_intro hv)) (fun h0 => ?_)
  refine PW_iload c_M_changes_14 rfl ?_
  refine PW_ireturn (ty := .int) c_M_changes_16 rfl rfl ?_
  exact h
theorem sp_M_ch1 {z : ZS} {post : Option Value → List PE → Prop} {x y : XS} {p u v : Int32} {w g d : Nat} (hn : nG y ≤ 10) (hw : w < 8) (hgw : (w = 7 ∧ g < 4) ∨ (w < 7 ∧ g < nG y)) (ep : p = nI g) (eu : u = nI w) (hv : ¬ y.2.1 (71 + w) g = v) (hd : y.1 570 = nI d) (hd40 : d < 40) (h : post (some (.int (y.2.1 (71 + w) g))) (E x (lyY w (sI (adX 79 (sI y 571 0) d u p (y.2.1 (71 + w) g) v) 570 (nI (d + 1))) g v))) : PW (1, 0, 0, z) m_M_changes post 0 [some (.ref 70), some (.int u), some (.int p), some (.int v), none, none] [] (E x y) := by
  refine PW_aload_n c_M_changes_0 rfl ?_
  refine PW_iload_n c_M_changes_1 rfl ?_
  refine PW_iload_n c_M_changes_2 rfl ?_
  refine PW_V0 (d2 := 0) (st := []) [.int u, .int p] c_M_changes_3 lk_M_changes_148 (po_70 _ _) rfl rfl rfl (Nat.le_of_ble_eq_true rfl) (by first | decide | omega) (Nat.le_of_ble_eq_true rfl) ?_
  refine sp_M_valueAt8 hn hw hgw ep eu ?_
  show PW _ _ _ 6 [some (.ref 70), some (.int u), some (.int p), some (.int v), none, none] [.int (y.2.1 (71 + w) g)] (E x y)
  refine PW_istore (i := 4) (L2 := [some (.ref 70), some (.int u), some (.int p), some (.int v), some (.int (y.2.1 (71 + w) g)), none]) c_M_changes_6 (Nat.le_of_ble_eq_true rfl) rfl rfl ?_
  refine PW_iload c_M_changes_8 rfl ?_
  refine PW_iload_n c_M_changes_10 rfl ?_
  refine PW_icmp_ne c_M_changes_11 (fun h0 => ?_) (fun h0 => absurd h0 hv)
  refine PW_aload_n c_M_changes_17 rfl ?_
  refine PW_iconst (v := 0) c_M_changes_18 (by decide) ?_
  refine PW_put (w2 := E x (sI y 571 0)) c_M_changes_19 fp_M_changes_152 rfl (pf_70_11 _ _ _) ?_
  refine PW_aload_n c_M_changes_22 rfl ?_
  refine PW_get (v := .int (y.1 570)) c_M_changes_23 fl_M_155 (gf_70_10 _ _) ?_
  refine PW_bipush (v := 40) c_M_changes_26 (by decide) ?_
  refine PW_icmp_ne c_M_changes_28 (fun h1 => ?_) (fun h1 => absurd h1 (by rw [hd]; exact fun q => absurd ((nI_eq (by omega) (by decide)).mp (show nI d = nI 40 from q)) (by omega)))
  refine PW_aload_n c_M_changes_121 rfl ?_
  refine PW_get (v := .ref 79) c_M_changes_122 fl_M_34 (gf_70_12 _ _) ?_
  refine PW_aload_n c_M_changes_125 rfl ?_
  refine PW_get (v := .int (y.1 570)) c_M_changes_126 fl_M_155 (gf_70_10 _ _) ?_
  refine PW_iload_n c_M_changes_129 rfl ?_
  refine PW_iast (j := d) (w2 := E x (sA (sI y 571 0) 79 (upd (y.2.1 79) d u))) c_M_changes_130 (ar_79 _ _) (by rw [hd]; exact vp_in_nI (by omega) (by decide)) (by rw [hd]; exact nI_clamp (by omega)) (aw_79 _ _ _) ?_
  refine PW_aload_n c_M_changes_131 rfl ?_
  refine PW_get (v := .ref 80) c_M_changes_132 fl_M_37 (gf_70_13 _ _) ?_
  refine PW_aload_n c_M_changes_135 rfl ?_
  refine PW_get (v := .int (y.1 570)) c_M_changes_136 fl_M_155 (gf_70_10 _ _) ?_
  refine PW_iload_n c_M_changes_139 rfl ?_
  refine PW_iast (j := d) (w2 := E x (sA (sA (sI y 571 0) 79 (upd (y.2.1 79) d u)) 80 (upd (y.2.1 80) d p))) c_M_changes_140 (ar_80 _ _) (by rw [hd]; exact vp_in_nI (by omega) (by decide)) (by rw [hd]; exact nI_clamp (by omega)) (aw_80 _ _ _) ?_
  refine PW_aload_n c_M_changes_141 rfl ?_
  refine PW_get (v := .ref 81) c_M_changes_142 fl_M_40 (gf_70_14 _ _) ?_
  refine PW_aload_n c_M_changes_145 rfl ?_
  refine PW_get (v := .int (y.1 570)) c_M_changes_146 fl_M_155 (gf_70_10 _ _) ?_
  refine PW_iload c_M_changes_149 rfl ?_
  refine PW_iast (j := d) (w2 := E x (sA (sA (sA (sI y 571 0) 79 (upd (y.2.1 79) d u)) 80 (upd (y.2.1 80) d p)) 81 (upd (y.2.1 81) d (y.2.1 (71 + w) g)))) c_M_changes_151 (ar_81 _ _) (by rw [hd]; exact vp_in_nI (by omega) (by decide)) (by rw [hd]; exact nI_clamp (by omega)) (aw_81 _ _ _) ?_
  refine PW_aload_n c_M_changes_152 rfl ?_
  refine PW_get (v := .ref 82) c_M_changes_153 fl_M_43 (gf_70_15 _ _) ?_
  refine PW_aload_n c_M_changes_156 rfl ?_
  refine PW_get (v := .int (y.1 570)) c_M_changes_157 fl_M_155 (gf_70_10 _ _) ?_
  refine PW_iload_n c_M_changes_160 rfl ?_
  refine PW_iast (j := d) (w2 := E x (sA (sA (sA (sA (sI y 571 0) 79 (upd (y.2.1 79) d u)) 80 (upd (y.2.1 80) d p)) 81 (upd (y.2.1 81) d (y.2.1 (71 + w) g))) 82 (upd (y.2.1 82) d v))) c_M_changes_161 (ar_82 _ _) (by rw [hd]; exact vp_in_nI (by omega) (by decide)) (by rw [hd]; exact nI_clamp (by omega)) (aw_82 _ _ _) ?_
  refine PW_aload_n c_M_changes_162 rfl ?_
  refine PW_dup c_M_changes_163 rfl ?_
  refine PW_get (v := .int (y.1 570)) c_M_changes_164 fl_M_155 (gf_70_10 _ _) ?_
  refine PW_iconst (v := 1) c_M_changes_167 (by decide) ?_
  refine PW_iadd c_M_changes_168 ?_
  refine PW_put (w2 := E x (sI (sA (sA (sA (sA (sI y 571 0) 79 (upd (y.2.1 79) d u)) 80 (upd (y.2.1 80) d p)) 81 (upd (y.2.1 81) d (y.2.1 (71 + w) g))) 82 (upd (y.2.1 82) d v)) 570 ((y.1 570) + 1))) c_M_changes_169 fp_M_changes_155 rfl (pf_70_10 _ _ _) ?_
  refine PW_aload_n c_M_changes_172 rfl ?_
  refine PW_iload_n c_M_changes_173 rfl ?_
  refine PW_iload_n c_M_changes_174 rfl ?_
  refine PW_iload_n c_M_changes_175 rfl ?_
  refine PW_V0 (d2 := 0) (st := []) [.int u, .int p, .int v] c_M_changes_176 lk_M_changes_158 (po_70 _ _) rfl rfl rfl (Nat.le_of_ble_eq_true rfl) (by first | decide | omega) (Nat.le_of_ble_eq_true rfl) ?_
  refine sp_M_lays8 (n := nG y) hn hw hgw ep eu ?_
  show PW _ _ _ 179 [some (.ref 70), some (.int u), some (.int p), some (.int v), some (.int (y.2.1 (71 + w) g)), none] [] (E x (lyY w (sI (sA (sA (sA (sA (sI y 571 0) 79 (upd (y.2.1 79) d u)) 80 (upd (y.2.1 80) d p)) 81 (upd (y.2.1 81) d (y.2.1 (71 + w) g))) 82 (upd (y.2.1 82) d v)) 570 ((y.1 570) + 1)) g v))
  refine PW_iload c_M_changes_179 rfl ?_
  refine PW_ireturn (ty := .int) c_M_changes_181 rfl rfl ?_
  rw [hd, nI_1]
  exact h
theorem sp_M_ch2 {z : ZS} {post : Option Value → List PE → Prop} {x y : XS} {p u v : Int32} {w g : Nat} (hn : nG y ≤ 10) (hw : w < 8) (hgw : (w = 7 ∧ g < 4) ∨ (w < 7 ∧ g < nG y)) (ep : p = nI g) (eu : u = nI w) (hv : ¬ y.2.1 (71 + w) g = v) (hd : y.1 570 = 40) (h : post (some (.int (y.2.1 (71 + w) g))) (E x (lyY w (sI (adX 79 (sI (dX 79 (sI y 571 0) 39) 570 39) 39 u p (y.2.1 (71 + w) g) v) 570 (39 + 1)) g v))) : PW (1, 0, 0, z) m_M_changes post 0 [some (.ref 70), some (.int u), some (.int p), some (.int v), none, none] [] (E x y) := by
  refine PW_aload_n c_M_changes_0 rfl ?_
  refine PW_iload_n c_M_changes_1 rfl ?_
  refine PW_iload_n c_M_changes_2 rfl ?_
  refine PW_V0 (d2 := 0) (st := []) [.int u, .int p] c_M_changes_3 lk_M_changes_148 (po_70 _ _) rfl rfl rfl (Nat.le_of_ble_eq_true rfl) (by first | decide | omega) (Nat.le_of_ble_eq_true rfl) ?_
  refine sp_M_valueAt8 hn hw hgw ep eu ?_
  show PW _ _ _ 6 [some (.ref 70), some (.int u), some (.int p), some (.int v), none, none] [.int (y.2.1 (71 + w) g)] (E x y)
  refine PW_istore (i := 4) (L2 := [some (.ref 70), some (.int u), some (.int p), some (.int v), some (.int (y.2.1 (71 + w) g)), none]) c_M_changes_6 (Nat.le_of_ble_eq_true rfl) rfl rfl ?_
  refine PW_iload c_M_changes_8 rfl ?_
  refine PW_iload_n c_M_changes_10 rfl ?_
  refine PW_icmp_ne c_M_changes_11 (fun h0 => ?_) (fun h0 => absurd h0 hv)
  refine PW_aload_n c_M_changes_17 rfl ?_
  refine PW_iconst (v := 0) c_M_changes_18 (by decide) ?_
  refine PW_put (w2 := E x (sI y 571 0)) c_M_changes_19 fp_M_changes_152 rfl (pf_70_11 _ _ _) ?_
  refine PW_aload_n c_M_changes_22 rfl ?_
  refine PW_get (v := .int (y.1 570)) c_M_changes_23 fl_M_155 (gf_70_10 _ _) ?_
  refine PW_bipush (v := 40) c_M_changes_26 (by decide) ?_
  refine PW_icmp_ne c_M_changes_28 (fun h1 => absurd h1 (not_not_intro hd)) (fun h1 => ?_)
  refine PW_iconst (v := 1) c_M_changes_31 (by decide) ?_
  refine PW_istore (i := 5) (L2 := [some (.ref 70), some (.int u), some (.int p), some (.int v), some (.int (y.2.1 (71 + w) g)), some (.int 1)]) c_M_changes_32 (Nat.le_of_ble_eq_true rfl) rfl rfl ?_
  refine PW.eqL ?_ rfl ?_ (lp_M_drop (x := x) (p := p) (u := u) (v := v) (b := y.2.1 (71 + w) g) (y := sI y 571 0) ?_ 39 0 (Nat.zero_add _))
  · rfl
  · rw [dX_0]
  · have h39 : (dX 79 (sI y 571 0) 39).1 570 - 1 = 39 := by show y.1 570 - 1 = 39; rw [hd]; rfl
    refine PW_aload_n c_M_changes_111 rfl ?_
    refine PW_dup c_M_changes_112 rfl ?_
    refine PW_get (v := .int ((dX 79 (sI y 571 0) 39).1 570)) c_M_changes_113 fl_M_155 (gf_70_10 _ _) ?_
    refine PW_iconst (v := 1) c_M_changes_116 (by decide) ?_
    refine PW_isub c_M_changes_117 ?_
    refine PW_put (w2 := E x (sI (dX 79 (sI y 571 0) 39) 570 (((dX 79 (sI y 571 0) 39).1 570) - 1))) c_M_changes_118 fp_M_changes_155 rfl (pf_70_10 _ _ _) ?_
    refine PW_aload_n c_M_changes_121 rfl ?_
    refine PW_get (v := .ref 79) c_M_changes_122 fl_M_34 (gf_70_12 _ _) ?_
    refine PW_aload_n c_M_changes_125 rfl ?_
    refine PW_get (v := .int (((dX 79 (sI y 571 0) 39).1 570) - 1)) c_M_changes_126 fl_M_155 (gf_70_10 _ _) ?_
    refine PW_iload_n c_M_changes_129 rfl ?_
    refine PW_iast (j := 39) (w2 := E x (sA (sI (dX 79 (sI y 571 0) 39) 570 (((dX 79 (sI y 571 0) 39).1 570) - 1)) 79 (upd ((dX 79 (sI y 571 0) 39).2.1 79) 39 u))) c_M_changes_130 (ar_79 _ _) (by rw [h39]; exact vp_in_iff.mpr (by decide)) (by rw [h39]; decide) (aw_79 _ _ _) ?_
    refine PW_aload_n c_M_changes_131 rfl ?_
    refine PW_get (v := .ref 80) c_M_changes_132 fl_M_37 (gf_70_13 _ _) ?_
    refine PW_aload_n c_M_changes_135 rfl ?_
    refine PW_get (v := .int (((dX 79 (sI y 571 0) 39).1 570) - 1)) c_M_changes_136 fl_M_155 (gf_70_10 _ _) ?_
    refine PW_iload_n c_M_changes_139 rfl ?_
    refine PW_iast (j := 39) (w2 := E x (sA (sA (sI (dX 79 (sI y 571 0) 39) 570 (((dX 79 (sI y 571 0) 39).1 570) - 1)) 79 (upd ((dX 79 (sI y 571 0) 39).2.1 79) 39 u)) 80 (upd ((dX 79 (sI y 571 0) 39).2.1 80) 39 p))) c_M_changes_140 (ar_80 _ _) (by rw [h39]; exact vp_in_iff.mpr (by decide)) (by rw [h39]; decide) (aw_80 _ _ _) ?_
    refine PW_aload_n c_M_changes_141 rfl ?_
    refine PW_get (v := .ref 81) c_M_changes_142 fl_M_40 (gf_70_14 _ _) ?_
    refine PW_aload_n c_M_changes_145 rfl ?_
    refine PW_get (v := .int (((dX 79 (sI y 571 0) 39).1 570) - 1)) c_M_changes_146 fl_M_155 (gf_70_10 _ _) ?_
    refine PW_iload c_M_changes_149 rfl ?_
    refine PW_iast (j := 39) (w2 := E x (sA (sA (sA (sI (dX 79 (sI y 571 0) 39) 570 (((dX 79 (sI y 571 0) 39).1 570) - 1)) 79 (upd ((dX 79 (sI y 571 0) 39).2.1 79) 39 u)) 80 (upd ((dX 79 (sI y 571 0) 39).2.1 80) 39 p)) 81 (upd ((dX 79 (sI y 571 0) 39).2.1 81) 39 (y.2.1 (71 + w) g)))) c_M_changes_151 (ar_81 _ _) (by rw [h39]; exact vp_in_iff.mpr (by decide)) (by rw [h39]; decide) (aw_81 _ _ _) ?_
    refine PW_aload_n c_M_changes_152 rfl ?_
    refine PW_get (v := .ref 82) c_M_changes_153 fl_M_43 (gf_70_15 _ _) ?_
    refine PW_aload_n c_M_changes_156 rfl ?_
    refine PW_get (v := .int (((dX 79 (sI y 571 0) 39).1 570) - 1)) c_M_changes_157 fl_M_155 (gf_70_10 _ _) ?_
    refine PW_iload_n c_M_changes_160 rfl ?_
    refine PW_iast (j := 39) (w2 := E x (sA (sA (sA (sA (sI (dX 79 (sI y 571 0) 39) 570 (((dX 79 (sI y 571 0) 39).1 570) - 1)) 79 (upd ((dX 79 (sI y 571 0) 39).2.1 79) 39 u)) 80 (upd ((dX 79 (sI y 571 0) 39).2.1 80) 39 p)) 81 (upd ((dX 79 (sI y 571 0) 39).2.1 81) 39 (y.2.1 (71 + w) g))) 82 (upd ((dX 79 (sI y 571 0) 39).2.1 82) 39 v))) c_M_changes_161 (ar_82 _ _) (by rw [h39]; exact vp_in_iff.mpr (by decide)) (by rw [h39]; decide) (aw_82 _ _ _) ?_
    refine PW_aload_n c_M_changes_162 rfl ?_
    refine PW_dup c_M_changes_163 rfl ?_
    refine PW_get (v := .int (((dX 79 (sI y 571 0) 39).1 570) - 1)) c_M_changes_164 fl_M_155 (gf_70_10 _ _) ?_
    refine PW_iconst (v := 1) c_M_changes_167 (by decide) ?_
    refine PW_iadd c_M_changes_168 ?_
    refine PW_put (w2 := E x (sI (sA (sA (sA (sA (sI (dX 79 (sI y 571 0) 39) 570 (((dX 79 (sI y 571 0) 39).1 570) - 1)) 79 (upd ((dX 79 (sI y 571 0) 39).2.1 79) 39 u)) 80 (upd ((dX 79 (sI y 571 0) 39).2.1 80) 39 p)) 81 (upd ((dX 79 (sI y 571 0) 39).2.1 81) 39 (y.2.1 (71 + w) g))) 82 (upd ((dX 79 (sI y 571 0) 39).2.1 82) 39 v)) 570 ((((dX 79 (sI y 571 0) 39).1 570) - 1) + 1))) c_M_changes_169 fp_M_changes_155 rfl (pf_70_10 _ _ _) ?_
    refine PW_aload_n c_M_changes_172 rfl ?_
    refine PW_iload_n c_M_changes_173 rfl ?_
    refine PW_iload_n c_M_changes_174 rfl ?_
    refine PW_iload_n c_M_changes_175 rfl ?_
    refine PW_V0 (d2 := 0) (st := []) [.int u, .int p, .int v] c_M_changes_176 lk_M_changes_158 (po_70 _ _) rfl rfl rfl (Nat.le_of_ble_eq_true rfl) (by first | decide | omega) (Nat.le_of_ble_eq_true rfl) ?_
    refine sp_M_lays8 (n := nG y) hn hw hgw ep eu ?_
    show PW _ _ _ 179 [some (.ref 70), some (.int u), some (.int p), some (.int v), some (.int (y.2.1 (71 + w) g)), some (.int (nI (39 + 1)))] [] (E x (lyY w (sI (sA (sA (sA (sA (sI (dX 79 (sI y 571 0) 39) 570 (((dX 79 (sI y 571 0) 39).1 570) - 1)) 79 (upd ((dX 79 (sI y 571 0) 39).2.1 79) 39 u)) 80 (upd ((dX 79 (sI y 571 0) 39).2.1 80) 39 p)) 81 (upd ((dX 79 (sI y 571 0) 39).2.1 81) 39 (y.2.1 (71 + w) g))) 82 (upd ((dX 79 (sI y 571 0) 39).2.1 82) 39 v)) 570 ((((dX 79 (sI y 571 0) 39).1 570) - 1) + 1)) g v))
    refine PW_iload c_M_changes_179 rfl ?_
    refine PW_ireturn (ty := .int) c_M_changes_181 rfl rfl ?_
    rw [show (dX 79 (sI y 571 0) 39).1 570 - 1 = 39 by show y.1 570 - 1 = 39; rw [hd]; rfl]
    exact h
/-- the class's side of the guests changed, and the reference's -/
def frX (x x' : XS) : Prop := (∀ n, ¬ (51 ≤ n ∧ n ≤ 53) → x'.1 n = x.1 n) ∧ (∀ a, ¬ (8 ≤ a ∧ a ≤ 21) → x'.2.1 a = x.2.1 a) ∧ x'.2.2 = x.2.2
def frY (y y' : XS) : Prop := (∀ n, n ≠ 561 → y'.1 n = y.1 n) ∧ (∀ a, ¬ (71 ≤ a ∧ a ≤ 78) → y'.2.1 a = y.2.1 a) ∧ y'.2.2 = y.2.2
theorem frX_st {w g : Nat} {x : XS} {v : Int32} (hw : w < 8) : frX x (sfX w x g v) := ⟨fun n hn => sfX_1 (by omega) (by omega), fun a ha => by
  unfold sfX
  split
  · by_cases q : a < 17
    · rw [seK_lo q]; exact if_neg (by omega)
    · rw [seK_hi (by omega)]; exact if_neg (by omega)
  · split
    · rw [sI_A]; exact if_neg (by omega)
    · split
      · rw [sI_A]; exact if_neg (by omega)
      · exact if_neg (by omega), sfX_G⟩
theorem frY_ly {w g : Nat} {y : XS} {v : Int32} (hw : w < 8) : frY y (lyY w y g v) := ⟨fun _ _ => rfl, fun a ha => if_neg (by omega), rfl⟩
theorem INV_fr {t : Nat} {x y x' y' : XS} (hI : INV t x y) (C : CPg x' y') (hx : frX x x') (hy : frY y y') (hn : nG y ≤ nG y') : INV t x' y' := by
  obtain ⟨hg, hc, ht0, hl, hd, hb, hs⟩ := id hI
  obtain ⟨a1, a2, a3⟩ := hx
  obtain ⟨b1, b2, b3⟩ := hy
  exact ⟨C, hc.cg (fun n q1 q2 => a1 n (by omega)) (fun a q1 q2 => a2 a (by omega)) (fun n q1 q2 => b1 n (by omega)) (fun a q1 q2 => b2 a (by omega)) hn, ht0.cg (a1 219 (by omega)) (a2 28 (by omega)) (b1 577 (by omega)) (b2 83 (by omega)), hl.cg (a1 180 (by omega)) (fun a q1 q2 => a2 a (by omega)) (b1 589 (by omega)) (fun a q1 q2 => b2 a (by omega)), hd.cg (Nat.le_refl _) (fun n q1 q2 => a1 n (by omega)) (a2 47 (by omega)) (b1 608 (by omega)) (fun a q1 q2 => b2 a (by omega)), hb.cg (fun n q1 q2 => a1 n (by omega)) (fun a q1 q2 => a2 a (by omega)) (fun n q1 q2 => b1 n (by omega)) (fun a q1 q2 => b2 a (by omega)), hs.cg (fun n q1 q2 => a1 n (by omega)) (fun a q1 q2 => by rw [a3]) (by rw [b1 609 (by omega)]; exact Int.le_refl _) (fun a q1 q2 => b2 a (by omega)) (by rw [b3])⟩
/-- only the changes' cells and rows -/
theorem INV_ch {t : Nat} {x y x' y' : XS} (hI : INV t x y) (c : CPc x' y') (a1 : ∀ n, ¬ (397 ≤ n ∧ n ≤ 398) → x'.1 n = x.1 n) (a2 : ∀ a, ¬ (50 ≤ a ∧ a ≤ 53) → x'.2.1 a = x.2.1 a) (a3 : x'.2.2 = x.2.2) (b1 : ∀ n, ¬ (570 ≤ n ∧ n ≤ 571) → y'.1 n = y.1 n) (b2 : ∀ a, ¬ (79 ≤ a ∧ a ≤ 82) → y'.2.1 a = y.2.1 a) (b3 : y'.2.2 = y.2.2) : INV t x' y' := by
  obtain ⟨hg, hc, ht0, hl, hd, hb, hs⟩ := id hI
  exact ⟨hg.cg (fun n q1 q2 => a1 n (by omega)) (fun a q1 q2 => a2 a (by omega)) (b1 561 (by omega)) (fun a q1 q2 => b2 a (by omega)), c, ht0.cg (a1 219 (by omega)) (a2 28 (by omega)) (b1 577 (by omega)) (b2 83 (by omega)), hl.cg (a1 180 (by omega)) (fun a q1 q2 => a2 a (by omega)) (b1 589 (by omega)) (fun a q1 q2 => b2 a (by omega)), hd.cg (Nat.le_refl _) (fun n q1 q2 => a1 n (by omega)) (a2 47 (by omega)) (b1 608 (by omega)) (fun a q1 q2 => b2 a (by omega)), hb.cg (fun n q1 q2 => a1 n (by omega)) (fun a q1 q2 => a2 a (by omega)) (fun n q1 q2 => b1 n (by omega)) (fun a q1 q2 => b2 a (by omega)), hs.cg (fun n q1 q2 => a1 n (by omega)) (fun a q1 q2 => by rw [a3]) (by rw [b1 609 (by omega)]; exact Int.le_refl _) (fun a q1 q2 => b2 a (by omega)) (by rw [b3])⟩
/-- one more change: the rows' places below d as before -/
theorem CPc_add {x y : XS} {X Y : XS} {d w g : Nat} {b v : Int32} (hd : d < 40) (hx : X.1 397 = nI (d + 1) ∧ X.1 398 = nI (d + 1)) (hy : Y.1 570 = nI (d + 1) ∧ Y.1 571 = 0) (hX : ∀ a i, a < 4 → X.2.1 (50 + a) i = (adX 50 x d (nI g) (nI w) b v).2.1 (50 + a) i) (hY : ∀ a i, a < 4 → Y.2.1 (79 + a) i = (adX 79 y d (nI w) (nI g) b v).2.1 (79 + a) i)
    (hold : ∀ i, i < d → x.2.1 51 i = y.2.1 79 i ∧ x.2.1 50 i = y.2.1 80 i ∧ x.2.1 52 i = y.2.1 81 i ∧ x.2.1 53 i = y.2.1 82 i ∧ ∃ w n : Nat, w < 8 ∧ y.2.1 79 i = nI w ∧ y.2.1 80 i = nI n ∧ ((w = 7 ∧ n < 4) ∨ (w < 7 ∧ n < nG Y)) ∧ okv w (y.2.1 81 i) ∧ okv w (y.2.1 82 i))
    (hw : w < 8) (hgw : (w = 7 ∧ g < 4) ∨ (w < 7 ∧ g < nG Y)) (hb : okv w b) (hv : okv w v) : CPc X Y := by
  refine ⟨d + 1, 0, by omega, hy.1, hy.2, hx.1, hx.2, fun i hi => ?_⟩
  have e0 := hX 0 i (by omega); have e1 := hX 1 i (by omega); have e2 := hX 2 i (by omega); have e3 := hX 3 i (by omega)
  have f0 := hY 0 i (by omega); have f1 := hY 1 i (by omega); have f2 := hY 2 i (by omega); have f3 := hY 3 i (by omega)
  rw [adX_row (by omega)] at e0 e1 e2 e3 f0 f1 f2 f3
  simp only [Nat.add_zero] at e0 f0
  by_cases q : i = d
  · rw [if_pos q] at e0 e1 e2 e3 f0 f1 f2 f3
    refine ⟨e1.trans f0.symm, e0.trans f1.symm, e2.trans f2.symm, e3.trans f3.symm, w, g, hw, f0, f1, hgw, ?_, ?_⟩
    · rw [show Y.2.1 81 i = b from f2]; exact hb
    · rw [show Y.2.1 82 i = v from f3]; exact hv
  · rw [if_neg q] at e0 e1 e2 e3 f0 f1 f2 f3
    obtain ⟨o1, o2, o3, o4, w', n', o5, o6, o7, o8, o9, o10⟩ := hold i (by omega)
    refine ⟨(e1.trans o1).trans f0.symm, (e0.trans o2).trans f1.symm, (e2.trans o3).trans f2.symm, (e3.trans o4).trans f3.symm, w', n', o5, f0.trans o6, f1.trans o7, o8, ?_, ?_⟩
    · rw [show Y.2.1 81 i = y.2.1 81 i from f2]; exact o9
    · rw [show Y.2.1 82 i = y.2.1 82 i from f3]; exact o10
