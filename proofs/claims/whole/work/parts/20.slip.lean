/-! times; who notices -/
theorem tm_all : ∀ q : Nat, q < 500 → nI q / 100 = nI (q / 100) ∧ nI q - nI q / 100 * 100 = nI (q % 100) := by decide +kernel
theorem tm_ex {r : Int32} (h : 0 ≤ r ∧ 0 ≤ r / 100 ∧ r / 100 ≤ 4) : ∃ a m : Nat, a < 5 ∧ m < 100 ∧ r = nI (100 * a + m) ∧ r / 100 = nI a ∧ r - r / 100 * 100 = nI m := by
  obtain ⟨h1, h2, h3⟩ := h
  obtain ⟨q, q1, rfl, q3, q4⟩ := nI_ex (x := r) (by simpa [Int32.le_iff_toInt_le] using h1)
  have h4 : (nI q / 100).toInt = ((q / 100 : Nat) : Int) := by
    rw [Int32.toInt_div, q3, show (100 : Int32).toInt = ((100 : Nat) : Int) from by decide, ← Int.ofNat_tdiv]
    exact bmod_in (by omega) (by omega)
  rw [Int32.le_iff_toInt_le, h4, show (4 : Int32).toInt = 4 by decide] at h3
  have h5 : q < 500 := by omega
  obtain ⟨e1, e2⟩ := tm_all q h5
  exact ⟨q / 100, q % 100, by omega, by omega, by rw [show 100 * (q / 100) + q % 100 = q by omega], e1, e2⟩
def ntc (y : XS) : Nat → Int32 → Int32 → Int32
  | 0, _, acc => acc
  | i + 1, now, acc => ntc y i (now + y.2.1 78 i) (acc ||| thI y (nI i) (now + y.2.1 78 i))
def ntcT (y : XS) (a : Nat) (m : Int32) : Int32 := if a = 0 then thI y 0 m else ntc y a m 0
theorem S10_ntc {y : XS} (hW : WG y) : ∀ (i : Nat) (now acc : Int32), S10 acc → S10 (ntc y i now acc)
  | 0, _, _, h => h
  | i + 1, now, acc, h => S10_ntc hW i _ _ (S10_or h (S10_thI hW.2))
theorem S10_ntcT {y : XS} (hW : WG y) (a : Nat) (m : Int32) : S10 (ntcT y a m) := by
  unfold ntcT
  split
  · exact S10_thI hW.2
  · exact S10_ntc hW _ _ _ S10_0
theorem wayN_1 (y : XS) (i : Nat) : wayN y (i + 1) i = y.2.1 78 i := by
  rw [wayN, if_neg (by omega), show i + 1 - i = 1 by omega, sumW, sumW, Nat.add_zero]
  exact Int32.zero_add _
theorem pr1 (k : Nat) : nI (k + 1) - 1 = nI k := by rw [← nI_1, Int32.add_sub_cancel]
theorem pr2 (k : Nat) : nI k + -1 = nI k - 1 := (Int32.sub_eq_add_neg _ _).symm
theorem sh01 : (1 : Int32) = nI 1 := rfl
theorem lp_M_notices {z : ZS} {post : Option Value → List PE → Prop} {x y : XS} {r m : Int32} (hW : WG y) : ∀ (k : Nat), k < 5 → ∀ now acc : Int32, post (some (.int (ntc y k now acc))) (E x y) → PW (2, 0, 0, z) m_M_notices post 21 [some (.ref 70), some (.int r), some (.int m), some (.int acc), some (.int now), some (.int (nI k - 1))] [] (E x y) := by
  intro k
  induction k with
  | zero =>
    intro hk now acc h
    refine PW_iload c_M_notices_21 rfl ?_
    refine PW_if_lt c_M_notices_23 (fun h0 => ?_) (fun h0 => absurd (by decide : (nI 0 - 1 : Int32) < 0) h0)
    refine PW_iload_n c_M_notices_55 rfl ?_
    refine PW_ireturn (ty := .int) c_M_notices_56 rfl rfl ?_
    exact h
  | succ k ih0 =>
    intro hk now acc h
    have ih := ih0 (by omega)
    rw [ntc] at h
    refine PW_iload c_M_notices_21 rfl ?_
    refine PW_if_lt c_M_notices_23 (fun h0 => absurd h0 (by rw [pr1]; exact nI_pos (by omega))) (fun h0 => ?_)
    refine PW_iload c_M_notices_26 rfl ?_
    refine PW_aload_n c_M_notices_28 rfl ?_
    refine PW_get (v := .ref 78) c_M_notices_29 fl_M_31 (gf_70_9 _ _) ?_
    refine PW_iload c_M_notices_32 rfl ?_
    refine PW_iald (j := k) c_M_notices_34 (ar_78 _ _) (by rw [pr1]; exact vp_in_nI (by omega) (by decide)) (by rw [pr1]; exact nI_clamp (by omega)) ?_
    show PW _ _ _ 35 [some (.ref 70), some (.int r), some (.int m), some (.int acc), some (.int now), some (.int (nI (k + 1) - 1))] [.int ((y.2.1 78) k), .int now] (E x y)
    refine PW_iadd c_M_notices_35 ?_
    refine PW_istore (i := 4) (L2 := [some (.ref 70), some (.int r), some (.int m), some (.int acc), some (.int (now + ((y.2.1 78) k))), some (.int (nI (k + 1) - 1))]) c_M_notices_36 (Nat.le_of_ble_eq_true rfl) rfl rfl ?_
    refine PW_iload_n c_M_notices_38 rfl ?_
    refine PW_aload_n c_M_notices_39 rfl ?_
    refine PW_iload c_M_notices_40 rfl ?_
    refine PW_iload c_M_notices_42 rfl ?_
    refine PW_V0 (d2 := 1) (st := [.int acc]) [.int (nI (k + 1) - 1), .int (now + ((y.2.1 78) k))] c_M_notices_44 lk_M_notices_179 (po_70 _ _) rfl rfl rfl (Nat.le_of_ble_eq_true rfl) (by first | decide | omega) (Nat.le_of_ble_eq_true rfl) ?_
    refine sp_M_thereIn hW ?_
    show PW _ _ _ 47 [some (.ref 70), some (.int r), some (.int m), some (.int acc), some (.int (now + ((y.2.1 78) k))), some (.int (nI (k + 1) - 1))] [.int (thI y (nI (k + 1) - 1) (now + ((y.2.1 78) k))), .int acc] (E x y)
    refine PW_ior c_M_notices_47 ?_
    refine PW_istore_n (i := 3) (L2 := [some (.ref 70), some (.int r), some (.int m), some (.int (acc ||| (thI y (nI (k + 1) - 1) (now + ((y.2.1 78) k))))), some (.int (now + ((y.2.1 78) k))), some (.int (nI (k + 1) - 1))]) c_M_notices_48 rfl (Nat.le_of_ble_eq_true rfl) rfl rfl ?_
    refine PW_iinc (i := 5) (v := (nI (k + 1) - 1) + (-1)) (L2 := [some (.ref 70), some (.int r), some (.int m), some (.int (acc ||| (thI y (nI (k + 1) - 1) (now + ((y.2.1 78) k))))), some (.int (now + ((y.2.1 78) k))), some (.int ((nI (k + 1) - 1) + (-1)))]) c_M_notices_49 rfl (iinc_v (by decide)) (Nat.le_of_ble_eq_true rfl) rfl rfl ?_
    refine PW_goto c_M_notices_52 ?_
    refine PW.eqL ?_ rfl rfl (ih (now + y.2.1 78 k) (acc ||| thI y (nI k) (now + y.2.1 78 k)) h)
    show ([some (.ref 70), some (.int r), some (.int m), some (.int (acc ||| (thI y (nI (k + 1) - 1) (now + ((y.2.1 78) k))))), some (.int (now + ((y.2.1 78) k))), some (.int ((nI (k + 1) - 1) + (-1)))] : List (Option Value)) = [some (.ref 70), some (.int r), some (.int m), some (.int (acc ||| thI y (nI k) (now + y.2.1 78 k))), some (.int (now + y.2.1 78 k)), some (.int (nI k - 1))]
    rw [pr1, pr2]
theorem sp_M_notices {z : ZS} {post : Option Value → List PE → Prop} {x y : XS} {u v : Int32} {a m : Nat} (hW : WG y) (ea : u = nI a) (ha : a < 5) (em : v = nI m) (h : post (some (.int (ntcT y a (nI m)))) (E x y)) : PW (2, 0, 0, z) m_M_notices post 0 [some (.ref 70), some (.int u), some (.int v), none, none, none] [] (E x y) := by
  subst ea; subst em
  unfold ntcT at h
  by_cases hz0 : a = 0
  · refine PW_iload_n c_M_notices_0 rfl ?_
    refine PW_if_ne c_M_notices_1 (fun h0 => absurd h0 (not_not_intro (by rw [hz0]; rfl))) (fun h0 => ?_)
    refine PW_aload_n c_M_notices_4 rfl ?_
    refine PW_iconst (v := 0) c_M_notices_5 (by decide) ?_
    refine PW_iload_n c_M_notices_6 rfl ?_
    refine PW_V0 (d2 := 1) (st := []) [.int 0, .int (nI m)] c_M_notices_7 lk_M_notices_179 (po_70 _ _) rfl rfl rfl (Nat.le_of_ble_eq_true rfl) (by first | decide | omega) (Nat.le_of_ble_eq_true rfl) ?_
    refine sp_M_thereIn hW ?_
    show PW _ _ _ 10 [some (.ref 70), some (.int (nI a)), some (.int (nI m)), none, none, none] [.int (thI y (0 : Int32) (nI m))] (E x y)
    refine PW_ireturn (ty := .int) c_M_notices_10 rfl rfl ?_
    rw [hz0, if_pos rfl] at h
    exact h
  · refine PW_iload_n c_M_notices_0 rfl ?_
    refine PW_if_ne c_M_notices_1 (fun h0 => ?_) (fun h0 => absurd h0 (fun q => hz0 ((nI_eq (by omega) (by omega)).mp q)))
    refine PW_iconst (v := 0) c_M_notices_11 (by decide) ?_
    refine PW_istore_n (i := 3) (L2 := [some (.ref 70), some (.int (nI a)), some (.int (nI m)), some (.int 0), none, none]) c_M_notices_12 rfl (Nat.le_of_ble_eq_true rfl) rfl rfl ?_
    refine PW_iload_n c_M_notices_13 rfl ?_
    refine PW_istore (i := 4) (L2 := [some (.ref 70), some (.int (nI a)), some (.int (nI m)), some (.int 0), some (.int (nI m)), none]) c_M_notices_14 (Nat.le_of_ble_eq_true rfl) rfl rfl ?_
    refine PW_iload_n c_M_notices_16 rfl ?_
    refine PW_iconst (v := 1) c_M_notices_17 (by decide) ?_
    refine PW_isub c_M_notices_18 ?_
    refine PW_istore (i := 5) (L2 := [some (.ref 70), some (.int (nI a)), some (.int (nI m)), some (.int 0), some (.int (nI m)), some (.int ((nI a) - 1))]) c_M_notices_19 (Nat.le_of_ble_eq_true rfl) rfl rfl ?_
    exact lp_M_notices hW a ha _ _ (by rw [if_neg hz0] at h; exact h)
theorem lp_H_whoNotices {z : ZS} {post : Option Value → List PE → Prop} {x y : XS} {r m : Int32} (C : CPg x y) : ∀ (k : Nat), k < 5 → ∀ now acc : Int32, 0 ≤ now.toInt → now.toInt + 9 * k ≤ 1000 → post (some (.int (ntc y k now acc))) (E x y) → PW (2, 0, 0, z) m_H_whoNotices post 23 [some (.ref 6), some (.int r), some (.int m), some (.int acc), some (.int now), some (.int (nI k - 1))] [] (E x y) := by
  intro k
  induction k with
  | zero =>
    intro hk now acc hn1 hn2 h
    refine PW_iload c_H_whoNotices_23 rfl ?_
    refine PW_if_lt c_H_whoNotices_25 (fun h0 => ?_) (fun h0 => absurd (by decide : (nI 0 - 1 : Int32) < 0) h0)
    refine PW_iload_n c_H_whoNotices_60 rfl ?_
    refine PW_ireturn (ty := .int) c_H_whoNotices_61 rfl rfl ?_
    exact h
  | succ k ih0 =>
    intro hk now acc hn1 hn2 h
    have ih := ih0 (by omega)
    have hw := (C.2.2.2.1 k (by omega)).2
    have hw1 : (1 : Int) ≤ (y.2.1 78 k).toInt := hw.1
    have hw2 : (y.2.1 78 k).toInt ≤ 9 := hw.2
    have hnw := ti_add (x := now) (y := y.2.1 78 k) (by omega) (by omega)
    rw [ntc] at h
    refine PW_iload c_H_whoNotices_23 rfl ?_
    refine PW_if_lt c_H_whoNotices_25 (fun h0 => absurd h0 (by rw [pr1]; exact nI_pos (by omega))) (fun h0 => ?_)
    refine PW_iload c_H_whoNotices_28 rfl ?_
    refine PW_aload_n c_H_whoNotices_30 rfl ?_
    refine PW_iload c_H_whoNotices_31 rfl ?_
    refine PW_iconst (v := 1) c_H_whoNotices_33 (by decide) ?_
    refine PW_iadd c_H_whoNotices_34 ?_
    refine PW_iload c_H_whoNotices_35 rfl ?_
    refine PW_V0 (d2 := 1) (st := [.int now]) [.int ((nI (k + 1) - 1) + 1), .int (nI (k + 1) - 1)] c_H_whoNotices_37 lk_H_whoNotices_77 (po_6 _ _) rfl rfl rfl (Nat.le_of_ble_eq_true rfl) (by first | decide | omega) (Nat.le_of_ble_eq_true rfl) ?_
    refine sp_H_wayBetween C (by rw [pr1, nI_1]) (pr1 k) (by omega) (by omega) ?_
    show PW _ _ _ 40 [some (.ref 6), some (.int r), some (.int m), some (.int acc), some (.int now), some (.int (nI (k + 1) - 1))] [.int (wayN y ((k + 1)) k), .int now] (E x y)
    refine PW_iadd c_H_whoNotices_40 ?_
    refine PW_istore (i := 4) (L2 := [some (.ref 6), some (.int r), some (.int m), some (.int acc), some (.int (now + (wayN y ((k + 1)) k))), some (.int (nI (k + 1) - 1))]) c_H_whoNotices_41 (Nat.le_of_ble_eq_true rfl) rfl rfl ?_
    refine PW_iload_n c_H_whoNotices_43 rfl ?_
    refine PW_aload_n c_H_whoNotices_44 rfl ?_
    refine PW_iload c_H_whoNotices_45 rfl ?_
    refine PW_iload c_H_whoNotices_47 rfl ?_
    refine PW_V0 (d2 := 1) (st := [.int acc]) [.int (nI (k + 1) - 1), .int (now + (wayN y ((k + 1)) k))] c_H_whoNotices_49 lk_H_whoNotices_74 (po_6 _ _) rfl rfl rfl (Nat.le_of_ble_eq_true rfl) (by first | decide | omega) (Nat.le_of_ble_eq_true rfl) ?_
    refine sp_H_whoIsIn C (by rw [pr1, nI_toInt (by omega)]; omega) (by rw [wayN_1, hnw]; omega) ?_
    show PW _ _ _ 52 [some (.ref 6), some (.int r), some (.int m), some (.int acc), some (.int (now + (wayN y ((k + 1)) k))), some (.int (nI (k + 1) - 1))] [.int (thI y (nI (k + 1) - 1) (now + (wayN y ((k + 1)) k))), .int acc] (E x y)
    refine PW_ior c_H_whoNotices_52 ?_
    refine PW_istore_n (i := 3) (L2 := [some (.ref 6), some (.int r), some (.int m), some (.int (acc ||| (thI y (nI (k + 1) - 1) (now + (wayN y ((k + 1)) k))))), some (.int (now + (wayN y ((k + 1)) k))), some (.int (nI (k + 1) - 1))]) c_H_whoNotices_53 rfl (Nat.le_of_ble_eq_true rfl) rfl rfl ?_
    refine PW_iinc (i := 5) (v := (nI (k + 1) - 1) + (-1)) (L2 := [some (.ref 6), some (.int r), some (.int m), some (.int (acc ||| (thI y (nI (k + 1) - 1) (now + (wayN y ((k + 1)) k))))), some (.int (now + (wayN y ((k + 1)) k))), some (.int ((nI (k + 1) - 1) + (-1)))]) c_H_whoNotices_54 rfl (iinc_v (by decide)) (Nat.le_of_ble_eq_true rfl) rfl rfl ?_
    refine PW_goto c_H_whoNotices_57 ?_
    refine PW.eqL ?_ rfl rfl (ih (now + y.2.1 78 k) (acc ||| thI y (nI k) (now + y.2.1 78 k)) (by rw [hnw]; omega) (by rw [hnw]; omega) h)
    show ([some (.ref 6), some (.int r), some (.int m), some (.int (acc ||| (thI y (nI (k + 1) - 1) (now + (wayN y ((k + 1)) k))))), some (.int (now + (wayN y ((k + 1)) k))), some (.int ((nI (k + 1) - 1) + (-1)))] : List (Option Value)) = [some (.ref 6), some (.int r), some (.int m), some (.int (acc ||| thI y (nI k) (now + y.2.1 78 k))), some (.int (now + y.2.1 78 k)), some (.int (nI k - 1))]
    rw [pr1, pr2, wayN_1]
theorem sp_H_whoNotices {z : ZS} {post : Option Value → List PE → Prop} {x y : XS} {u v : Int32} {a m : Nat} (C : CPg x y) (ea : u = nI a) (ha : a < 5) (em : v = nI m) (hm : m < 100) (h : post (some (.int (ntcT y a (nI m)))) (E x y)) : PW (2, 0, 0, z) m_H_whoNotices post 0 [some (.ref 6), some (.int u), some (.int v), none, none, none] [] (E x y) := by
  subst ea; subst em
  unfold ntcT at h
  by_cases hz0 : a = 0
  · refine PW_iload_n c_H_whoNotices_0 rfl ?_
    refine PW_if_ne c_H_whoNotices_1 (fun h0 => absurd h0 (not_not_intro (by rw [hz0]; rfl))) (fun h0 => ?_)
    refine PW_aload_n c_H_whoNotices_4 rfl ?_
    refine PW_iconst (v := 0) c_H_whoNotices_5 (by decide) ?_
    refine PW_iload_n c_H_whoNotices_6 rfl ?_
    refine PW_V0 (d2 := 1) (st := []) [.int 0, .int (nI m)] c_H_whoNotices_7 lk_H_whoNotices_74 (po_6 _ _) rfl rfl rfl (Nat.le_of_ble_eq_true rfl) (by first | decide | omega) (Nat.le_of_ble_eq_true rfl) ?_
    refine sp_H_whoIsIn C (by decide) (by rw [nI_toInt (by omega)]; omega) ?_
    show PW _ _ _ 10 [some (.ref 6), some (.int (nI a)), some (.int (nI m)), none, none, none] [.int (thI y 0 (nI m))] (E x y)
    refine PW_goto c_H_whoNotices_10 ?_
    refine PW_istore_n (i := 3) (L2 := [some (.ref 6), some (.int (nI a)), some (.int (nI m)), some (.int (thI y 0 (nI m))), none, none]) c_H_whoNotices_14 rfl (Nat.le_of_ble_eq_true rfl) rfl rfl ?_
    refine PW_iload_n c_H_whoNotices_15 rfl ?_
    refine PW_istore (i := 4) (L2 := [some (.ref 6), some (.int (nI a)), some (.int (nI m)), some (.int (thI y 0 (nI m))), some (.int (nI m)), none]) c_H_whoNotices_16 (Nat.le_of_ble_eq_true rfl) rfl rfl ?_
    refine PW_iload_n c_H_whoNotices_18 rfl ?_
    refine PW_iconst (v := 1) c_H_whoNotices_19 (by decide) ?_
    refine PW_isub c_H_whoNotices_20 ?_
    refine PW_istore (i := 5) (L2 := [some (.ref 6), some (.int (nI a)), some (.int (nI m)), some (.int (thI y 0 (nI m))), some (.int (nI m)), some (.int ((nI a) - 1))]) c_H_whoNotices_21 (Nat.le_of_ble_eq_true rfl) rfl rfl ?_
    refine PW.eqL ?_ rfl rfl (lp_H_whoNotices (r := nI a) (m := nI m) C 0 (by omega) (nI m) (thI y 0 (nI m)) (by rw [nI_toInt (by omega)]; omega) (by rw [nI_toInt (by omega)]; omega) (by rw [hz0, if_pos rfl] at h; exact h))
    show ([some (.ref 6), some (.int (nI a)), some (.int (nI m)), some (.int (thI y 0 (nI m))), some (.int (nI m)), some (.int ((nI a) - 1))] : List (Option Value)) = _
    rw [hz0]
  · refine PW_iload_n c_H_whoNotices_0 rfl ?_
    refine PW_if_ne c_H_whoNotices_1 (fun h0 => ?_) (fun h0 => absurd h0 (fun q => hz0 ((nI_eq (by omega) (by omega)).mp q)))
    refine PW_iconst (v := 0) c_H_whoNotices_13 (by decide) ?_
    refine PW_istore_n (i := 3) (L2 := [some (.ref 6), some (.int (nI a)), some (.int (nI m)), some (.int 0), none, none]) c_H_whoNotices_14 rfl (Nat.le_of_ble_eq_true rfl) rfl rfl ?_
    refine PW_iload_n c_H_whoNotices_15 rfl ?_
    refine PW_istore (i := 4) (L2 := [some (.ref 6), some (.int (nI a)), some (.int (nI m)), some (.int 0), some (.int (nI m)), none]) c_H_whoNotices_16 (Nat.le_of_ble_eq_true rfl) rfl rfl ?_
    refine PW_iload_n c_H_whoNotices_18 rfl ?_
    refine PW_iconst (v := 1) c_H_whoNotices_19 (by decide) ?_
    refine PW_isub c_H_whoNotices_20 ?_
    refine PW_istore (i := 5) (L2 := [some (.ref 6), some (.int (nI a)), some (.int (nI m)), some (.int 0), some (.int (nI m)), some (.int ((nI a) - 1))]) c_H_whoNotices_21 (Nat.le_of_ble_eq_true rfl) rfl rfl ?_
    exact lp_H_whoNotices C a ha _ _ (by rw [nI_toInt (by omega)]; omega) (by rw [nI_toInt (by omega)]; omega) (by rw [if_neg hz0] at h; exact h)
def slB (y : XS) (a : Nat) : Nat → Nat → Nat → Nat
  | 0, _, b => b
  | j + 1, k, b => slB y a j (k + 1) (if bcJ (ntcT y a (nI k)) < bcJ (ntcT y a (nI b)) then k else b)
theorem not99 {k : Nat} (h : k < 100) : ¬ nI k > 99 := fun q => absurd ((nI_ltI (by decide) (by omega)).mp (show nI 99 < nI k from q)) (by omega)
theorem lp_G_slip {z : ZS} {post : Option Value → List PE → Prop} {x y : XS} {a1 a2 : Int32} {a : Nat} (C : CPg x y) (ea : a1 / 100 = nI a) (ha : a < 5) : ∀ (j k b : Nat) (w : Option Value), k + j = 100 → b < 100 → post (some (.int (nI (slB y a j k b)))) (E x y) → PW (3, 0, 0, z) m_G_slip post 53 [some (.ref 5), some (.int a1), some (.int a2), some (.int (bcJ (ntcT y a (nI b)))), some (.int (nI b)), some (.int (nI k)), w] [] (E x y) := by
  intro j
  induction j with
  | zero =>
    intro k b w hk hb h
    rw [slB] at h
    refine PW_iload c_G_slip_53 rfl ?_
    refine PW_bipush (v := 99) c_G_slip_55 (by decide) ?_
    refine PW_icmp_gt c_G_slip_57 (fun h0 => ?_) (fun h0 => absurd (by rw [show k = 100 by omega]; decide : nI k > 99) h0)
    refine PW_iload c_G_slip_97 rfl ?_
    refine PW_ireturn (ty := .int) c_G_slip_99 rfl rfl ?_
    exact h
  | succ j ih =>
    intro k b w hk hb h
    rw [slB] at h
    by_cases hb : bcJ (ntcT y a (nI k)) < bcJ (ntcT y a (nI b))
    · rw [if_pos hb] at h
      refine PW_iload c_G_slip_53 rfl ?_
      refine PW_bipush (v := 99) c_G_slip_55 (by decide) ?_
      refine PW_icmp_gt c_G_slip_57 (fun h0 => absurd h0 (not99 (by omega))) (fun h0 => ?_)
      refine PW_aload_n c_G_slip_60 rfl ?_
      refine PW_get (v := .ref 6) c_G_slip_61 fl_G_13 (gf_5_0 _ _) ?_
      refine PW_iload_n c_G_slip_64 rfl ?_
      refine PW_bipush (v := 100) c_G_slip_65 (by decide) ?_
      refine PW_idiv c_G_slip_67 (by decide) ?_
      refine PW_iload c_G_slip_68 rfl ?_
      refine PW_V0 (d2 := 2) (st := []) [.int (a1 / 100), .int (nI k)] c_G_slip_70 lk_G_slip_201 (po_6 _ _) rfl rfl rfl (Nat.le_of_ble_eq_true rfl) (by first | decide | omega) (Nat.le_of_ble_eq_true rfl) ?_
      refine sp_H_whoNotices C ea ha rfl (by omega) ?_
      show PW _ _ _ 73 [some (.ref 5), some (.int a1), some (.int a2), some (.int (bcJ (ntcT y a (nI b)))), some (.int (nI b)), some (.int (nI k)), w] [.int (ntcT y a (nI k))] (E x y)
      refine PW_S0 (d2 := 0) (st := []) [.int (ntcT y a (nI k))] c_G_slip_73 lk_G_slip_204 rfl rfl rfl (Nat.le_of_ble_eq_true rfl) (by first | decide | omega) (Nat.le_of_ble_eq_true rfl) ?_
      refine sp_J_bitCount  ?_
      show PW _ _ _ 76 [some (.ref 5), some (.int a1), some (.int a2), some (.int (bcJ (ntcT y a (nI b)))), some (.int (nI b)), some (.int (nI k)), w] [.int (bcJ (ntcT y a (nI k)))] (E x y)
      refine PW_istore (i := 6) (L2 := [some (.ref 5), some (.int a1), some (.int a2), some (.int (bcJ (ntcT y a (nI b)))), some (.int (nI b)), some (.int (nI k)), some (.int (bcJ (ntcT y a (nI k))))]) c_G_slip_76 (Nat.le_of_ble_eq_true rfl) rfl rfl ?_
      refine PW_iload c_G_slip_78 rfl ?_
      refine PW_iload_n c_G_slip_80 rfl ?_
      refine PW_icmp_ge c_G_slip_81 (fun h1 => absurd h1 (Int32.not_le.mpr hb)) (fun h1 => ?_)
      refine PW_iload c_G_slip_84 rfl ?_
      refine PW_istore_n (i := 3) (L2 := [some (.ref 5), some (.int a1), some (.int a2), some (.int (bcJ (ntcT y a (nI k)))), some (.int (nI b)), some (.int (nI k)), some (.int (bcJ (ntcT y a (nI k))))]) c_G_slip_86 rfl (Nat.le_of_ble_eq_true rfl) rfl rfl ?_
      refine PW_iload c_G_slip_87 rfl ?_
      refine PW_istore (i := 4) (L2 := [some (.ref 5), some (.int a1), some (.int a2), some (.int (bcJ (ntcT y a (nI k)))), some (.int (nI k)), some (.int (nI k)), some (.int (bcJ (ntcT y a (nI k))))]) c_G_slip_89 (Nat.le_of_ble_eq_true rfl) rfl rfl ?_
      refine PW_iinc (i := 5) (v := (nI k) + 1) (L2 := [some (.ref 5), some (.int a1), some (.int a2), some (.int (bcJ (ntcT y a (nI k)))), some (.int (nI k)), some (.int ((nI k) + 1)), some (.int (bcJ (ntcT y a (nI k))))]) c_G_slip_91 rfl (iinc_v (by decide)) (Nat.le_of_ble_eq_true rfl) rfl rfl ?_
      refine PW_goto c_G_slip_94 ?_
      refine PW.eqL ?_ rfl rfl (ih (k + 1) k (some (.int (bcJ (ntcT y a (nI k))))) (by omega) (by omega) h)
      show ([some (.ref 5), some (.int a1), some (.int a2), some (.int (bcJ (ntcT y a (nI k)))), some (.int (nI k)), some (.int ((nI k) + 1)), some (.int (bcJ (ntcT y a (nI k))))] : List (Option Value)) = [some (.ref 5), some (.int a1), some (.int a2), some (.int (bcJ (ntcT y a (nI k)))), some (.int (nI k)), some (.int (nI (k + 1))), some (.int (bcJ (ntcT y a (nI k))))]
      rw [nI_1]
    · rw [if_neg hb] at h
      refine PW_iload c_G_slip_53 rfl ?_
      refine PW_bipush (v := 99) c_G_slip_55 (by decide) ?_
      refine PW_icmp_gt c_G_slip_57 (fun h0 => absurd h0 (not99 (by omega))) (fun h0 => ?_)
      refine PW_aload_n c_G_slip_60 rfl ?_
      refine PW_get (v := .ref 6) c_G_slip_61 fl_G_13 (gf_5_0 _ _) ?_
      refine PW_iload_n c_G_slip_64 rfl ?_
      refine PW_bipush (v := 100) c_G_slip_65 (by decide) ?_
      refine PW_idiv c_G_slip_67 (by decide) ?_
      refine PW_iload c_G_slip_68 rfl ?_
      refine PW_V0 (d2 := 2) (st := []) [.int (a1 / 100), .int (nI k)] c_G_slip_70 lk_G_slip_201 (po_6 _ _) rfl rfl rfl (Nat.le_of_ble_eq_true rfl) (by first | decide | omega) (Nat.le_of_ble_eq_true rfl) ?_
      refine sp_H_whoNotices C ea ha rfl (by omega) ?_
      show PW _ _ _ 73 [some (.ref 5), some (.int a1), some (.int a2), some (.int (bcJ (ntcT y a (nI b)))), some (.int (nI b)), some (.int (nI k)), w] [.int (ntcT y a (nI k))] (E x y)
      refine PW_S0 (d2 := 0) (st := []) [.int (ntcT y a (nI k))] c_G_slip_73 lk_G_slip_204 rfl rfl rfl (Nat.le_of_ble_eq_true rfl) (by first | decide | omega) (Nat.le_of_ble_eq_true rfl) ?_
      refine sp_J_bitCount  ?_
      show PW _ _ _ 76 [some (.ref 5), some (.int a1), some (.int a2), some (.int (bcJ (ntcT y a (nI b)))), some (.int (nI b)), some (.int (nI k)), w] [.int (bcJ (ntcT y a (nI k)))] (E x y)
      refine PW_istore (i := 6) (L2 := [some (.ref 5), some (.int a1), some (.int a2), some (.int (bcJ (ntcT y a (nI b)))), some (.int (nI b)), some (.int (nI k)), some (.int (bcJ (ntcT y a (nI k))))]) c_G_slip_76 (Nat.le_of_ble_eq_true rfl) rfl rfl ?_
      refine PW_iload c_G_slip_78 rfl ?_
      refine PW_iload_n c_G_slip_80 rfl ?_
      refine PW_icmp_ge c_G_slip_81 (fun h1 => ?_) (fun h1 => absurd (Int32.not_lt.mp hb) h1)
      refine PW_iinc (i := 5) (v := (nI k) + 1) (L2 := [some (.ref 5), some (.int a1), some (.int a2), some (.int (bcJ (ntcT y a (nI b)))), some (.int (nI b)), some (.int ((nI k) + 1)), some (.int (bcJ (ntcT y a (nI k))))]) c_G_slip_91 rfl (iinc_v (by decide)) (Nat.le_of_ble_eq_true rfl) rfl rfl ?_
      refine PW_goto c_G_slip_94 ?_
      refine PW.eqL ?_ rfl rfl (ih (k + 1) b (some (.int (bcJ (ntcT y a (nI k))))) (by omega) (by omega) h)
      show ([some (.ref 5), some (.int a1), some (.int a2), some (.int (bcJ (ntcT y a (nI b)))), some (.int (nI b)), some (.int ((nI k) + 1)), some (.int (bcJ (ntcT y a (nI k))))] : List (Option Value)) = [some (.ref 5), some (.int a1), some (.int a2), some (.int (bcJ (ntcT y a (nI b)))), some (.int (nI b)), some (.int (nI (k + 1))), some (.int (bcJ (ntcT y a (nI k))))]
      rw [nI_1]
theorem lp_M_slip {z : ZS} {post : Option Value → List PE → Prop} {x y : XS} {a1 a2 : Int32} {a : Nat} (hW : WG y) (ea : a1 / 100 = nI a) (ha : a < 5) : ∀ (j k b : Nat), k + j = 100 → b < 100 → post (some (.int (nI (slB y a j k b)))) (E x y) → PW (3, 0, 0, z) m_M_slip post 48 [some (.ref 70), some (.int a1), some (.int a2), some (.int (nI b)), some (.int (nI k))] [] (E x y) := by
  intro j
  induction j with
  | zero =>
    intro k b hk hb h
    rw [slB] at h
    refine PW_iload c_M_slip_48 rfl ?_
    refine PW_bipush (v := 99) c_M_slip_50 (by decide) ?_
    refine PW_icmp_gt c_M_slip_52 (fun h0 => ?_) (fun h0 => absurd (by rw [show k = 100 by omega]; decide : nI k > 99) h0)
    refine PW_iload_n c_M_slip_92 rfl ?_
    refine PW_ireturn (ty := .int) c_M_slip_93 rfl rfl ?_
    exact h
  | succ j ih =>
    intro k b hk hb h
    rw [slB] at h
    by_cases hb : bcJ (ntcT y a (nI k)) < bcJ (ntcT y a (nI b))
    · rw [if_pos hb] at h
      refine PW_iload c_M_slip_48 rfl ?_
      refine PW_bipush (v := 99) c_M_slip_50 (by decide) ?_
      refine PW_icmp_gt c_M_slip_52 (fun h0 => absurd h0 (not99 (by omega))) (fun h0 => ?_)
      refine PW_aload_n c_M_slip_55 rfl ?_
      refine PW_iload_n c_M_slip_56 rfl ?_
      refine PW_bipush (v := 100) c_M_slip_57 (by decide) ?_
      refine PW_idiv c_M_slip_59 (by decide) ?_
      refine PW_iload c_M_slip_60 rfl ?_
      refine PW_V0 (d2 := 2) (st := []) [.int (a1 / 100), .int (nI k)] c_M_slip_62 lk_M_slip_318 (po_70 _ _) rfl rfl rfl (Nat.le_of_ble_eq_true rfl) (by first | decide | omega) (Nat.le_of_ble_eq_true rfl) ?_
      refine sp_M_notices hW ea ha rfl ?_
      show PW _ _ _ 65 [some (.ref 70), some (.int a1), some (.int a2), some (.int (nI b)), some (.int (nI k))] [.int (ntcT y a (nI k))] (E x y)
      refine PW_S0 (d2 := 0) (st := []) [.int (ntcT y a (nI k))] c_M_slip_65 lk_M_slip_259 rfl rfl rfl (Nat.le_of_ble_eq_true rfl) (by first | decide | omega) (Nat.le_of_ble_eq_true rfl) ?_
      refine sp_M_bitsOf (S10_ntcT hW a _) ?_
      show PW _ _ _ 68 [some (.ref 70), some (.int a1), some (.int a2), some (.int (nI b)), some (.int (nI k))] [.int (bcJ (ntcT y a (nI k)))] (E x y)
      refine PW_aload_n c_M_slip_68 rfl ?_
      refine PW_iload_n c_M_slip_69 rfl ?_
      refine PW_bipush (v := 100) c_M_slip_70 (by decide) ?_
      refine PW_idiv c_M_slip_72 (by decide) ?_
      refine PW_iload_n c_M_slip_73 rfl ?_
      refine PW_V0 (d2 := 2) (st := [.int (bcJ (ntcT y a (nI k)))]) [.int (a1 / 100), .int (nI b)] c_M_slip_74 lk_M_slip_318 (po_70 _ _) rfl rfl rfl (Nat.le_of_ble_eq_true rfl) (by first | decide | omega) (Nat.le_of_ble_eq_true rfl) ?_
      refine sp_M_notices hW ea ha rfl ?_
      show PW _ _ _ 77 [some (.ref 70), some (.int a1), some (.int a2), some (.int (nI b)), some (.int (nI k))] [.int (ntcT y a (nI b)), .int (bcJ (ntcT y a (nI k)))] (E x y)
      refine PW_S0 (d2 := 0) (st := [.int (bcJ (ntcT y a (nI k)))]) [.int (ntcT y a (nI b))] c_M_slip_77 lk_M_slip_259 rfl rfl rfl (Nat.le_of_ble_eq_true rfl) (by first | decide | omega) (Nat.le_of_ble_eq_true rfl) ?_
      refine sp_M_bitsOf (S10_ntcT hW a _) ?_
      show PW _ _ _ 80 [some (.ref 70), some (.int a1), some (.int a2), some (.int (nI b)), some (.int (nI k))] [.int (bcJ (ntcT y a (nI b))), .int (bcJ (ntcT y a (nI k)))] (E x y)
      refine PW_icmp_ge c_M_slip_80 (fun h1 => absurd h1 (Int32.not_le.mpr hb)) (fun h1 => ?_)
      refine PW_iload c_M_slip_83 rfl ?_
      refine PW_istore_n (i := 3) (L2 := [some (.ref 70), some (.int a1), some (.int a2), some (.int (nI k)), some (.int (nI k))]) c_M_slip_85 rfl (Nat.le_of_ble_eq_true rfl) rfl rfl ?_
      refine PW_iinc (i := 4) (v := (nI k) + 1) (L2 := [some (.ref 70), some (.int a1), some (.int a2), some (.int (nI k)), some (.int ((nI k) + 1))]) c_M_slip_86 rfl (iinc_v (by decide)) (Nat.le_of_ble_eq_true rfl) rfl rfl ?_
      refine PW_goto c_M_slip_89 ?_
      refine PW.eqL ?_ rfl rfl (ih (k + 1) k  (by omega) (by omega) h)
      show ([some (.ref 70), some (.int a1), some (.int a2), some (.int (nI k)), some (.int ((nI k) + 1))] : List (Option Value)) = [some (.ref 70), some (.int a1), some (.int a2), some (.int (nI k)), some (.int (nI (k + 1)))]
      rw [nI_1]
    · rw [if_neg hb] at h
      refine PW_iload c_M_slip_48 rfl ?_
      refine PW_bipush (v := 99) c_M_slip_50 (by decide) ?_
      refine PW_icmp_gt c_M_slip_52 (fun h0 => absurd h0 (not99 (by omega))) (fun h0 => ?_)
      refine PW_aload_n c_M_slip_55 rfl ?_
      refine PW_iload_n c_M_slip_56 rfl ?_
      refine PW_bipush (v := 100) c_M_slip_57 (by decide) ?_
      refine PW_idiv c_M_slip_59 (by decide) ?_
      refine PW_iload c_M_slip_60 rfl ?_
      refine PW_V0 (d2 := 2) (st := []) [.int (a1 / 100), .int (nI k)] c_M_slip_62 lk_M_slip_318 (po_70 _ _) rfl rfl rfl (Nat.le_of_ble_eq_true rfl) (by first | decide | omega) (Nat.le_of_ble_eq_true rfl) ?_
      refine sp_M_notices hW ea ha rfl ?_
      show PW _ _ _ 65 [some (.ref 70), some (.int a1), some (.int a2), some (.int (nI b)), some (.int (nI k))] [.int (ntcT y a (nI k))] (E x y)
      refine PW_S0 (d2 := 0) (st := []) [.int (ntcT y a (nI k))] c_M_slip_65 lk_M_slip_259 rfl rfl rfl (Nat.le_of_ble_eq_true rfl) (by first | decide | omega) (Nat.le_of_ble_eq_true rfl) ?_
      refine sp_M_bitsOf (S10_ntcT hW a _) ?_
      show PW _ _ _ 68 [some (.ref 70), some (.int a1), some (.int a2), some (.int (nI b)), some (.int (nI k))] [.int (bcJ (ntcT y a (nI k)))] (E x y)
      refine PW_aload_n c_M_slip_68 rfl ?_
      refine PW_iload_n c_M_slip_69 rfl ?_
      refine PW_bipush (v := 100) c_M_slip_70 (by decide) ?_
      refine PW_idiv c_M_slip_72 (by decide) ?_
      refine PW_iload_n c_M_slip_73 rfl ?_
      refine PW_V0 (d2 := 2) (st := [.int (bcJ (ntcT y a (nI k)))]) [.int (a1 / 100), .int (nI b)] c_M_slip_74 lk_M_slip_318 (po_70 _ _) rfl rfl rfl (Nat.le_of_ble_eq_true rfl) (by first | decide | omega) (Nat.le_of_ble_eq_true rfl) ?_
      refine sp_M_notices hW ea ha rfl ?_
      show PW _ _ _ 77 [some (.ref 70), some (.int a1), some (.int a2), some (.int (nI b)), some (.int (nI k))] [.int (ntcT y a (nI b)), .int (bcJ (ntcT y a (nI k)))] (E x y)
      refine PW_S0 (d2 := 0) (st := [.int (bcJ (ntcT y a (nI k)))]) [.int (ntcT y a (nI b))] c_M_slip_77 lk_M_slip_259 rfl rfl rfl (Nat.le_of_ble_eq_true rfl) (by first | decide | omega) (Nat.le_of_ble_eq_true rfl) ?_
      refine sp_M_bitsOf (S10_ntcT hW a _) ?_
      show PW _ _ _ 80 [some (.ref 70), some (.int a1), some (.int a2), some (.int (nI b)), some (.int (nI k))] [.int (bcJ (ntcT y a (nI b))), .int (bcJ (ntcT y a (nI k)))] (E x y)
      refine PW_icmp_ge c_M_slip_80 (fun h1 => ?_) (fun h1 => absurd (Int32.not_lt.mp hb) h1)
      refine PW_iinc (i := 4) (v := (nI k) + 1) (L2 := [some (.ref 70), some (.int a1), some (.int a2), some (.int (nI b)), some (.int ((nI k) + 1))]) c_M_slip_86 rfl (iinc_v (by decide)) (Nat.le_of_ble_eq_true rfl) rfl rfl ?_
      refine PW_goto c_M_slip_89 ?_
      refine PW.eqL ?_ rfl rfl (ih (k + 1) b  (by omega) (by omega) h)
      show ([some (.ref 70), some (.int a1), some (.int a2), some (.int (nI b)), some (.int ((nI k) + 1))] : List (Option Value)) = [some (.ref 70), some (.int a1), some (.int a2), some (.int (nI b)), some (.int (nI (k + 1)))]
      rw [nI_1]
theorem lp_G_slip1 {z : ZS} {post : Option Value → List PE → Prop} {x y : XS} {a1 a2 u : Int32} {a m : Nat} (C : CPg x y) (ea : a1 / 100 = nI a) (ha : a < 5) (eu : u = nI m) (hm : m < 100) (h : post (some (.int (nI (slB y a (99 - m) (m + 1) m)))) (E x y)) : PW (3, 0, 0, z) m_G_slip post 53 [some (.ref 5), some (.int a1), some (.int a2), some (.int 11), some (.int u), some (.int u), none] [] (E x y) := by
  subst eu
  have hb11 : bcJ (ntcT y a (nI m)) < 11 := by
    have q := (kern_S (S10_ntcT C.1 a (nI m))).2.2.2
    simp only [Int32.lt_iff_toInt_lt, tiA]; omega
  refine PW_iload c_G_slip_53 rfl ?_
  refine PW_bipush (v := 99) c_G_slip_55 (by decide) ?_
  refine PW_icmp_gt c_G_slip_57 (fun h0 => absurd h0 (not99 hm)) (fun h0 => ?_)
  refine PW_aload_n c_G_slip_60 rfl ?_
  refine PW_get (v := .ref 6) c_G_slip_61 fl_G_13 (gf_5_0 _ _) ?_
  refine PW_iload_n c_G_slip_64 rfl ?_
  refine PW_bipush (v := 100) c_G_slip_65 (by decide) ?_
  refine PW_idiv c_G_slip_67 (by decide) ?_
  refine PW_iload c_G_slip_68 rfl ?_
  refine PW_V0 (d2 := 2) (st := []) [.int (a1 / 100), .int (nI m)] c_G_slip_70 lk_G_slip_201 (po_6 _ _) rfl rfl rfl (Nat.le_of_ble_eq_true rfl) (by first | decide | omega) (Nat.le_of_ble_eq_true rfl) ?_
  refine sp_H_whoNotices C ea ha rfl (by omega) ?_
  show PW _ _ _ 73 [some (.ref 5), some (.int a1), some (.int a2), some (.int 11), some (.int (nI m)), some (.int (nI m)), none] [.int (ntcT y a (nI m))] (E x y)
  refine PW_S0 (d2 := 0) (st := []) [.int (ntcT y a (nI m))] c_G_slip_73 lk_G_slip_204 rfl rfl rfl (Nat.le_of_ble_eq_true rfl) (by first | decide | omega) (Nat.le_of_ble_eq_true rfl) ?_
  refine sp_J_bitCount  ?_
  show PW _ _ _ 76 [some (.ref 5), some (.int a1), some (.int a2), some (.int 11), some (.int (nI m)), some (.int (nI m)), none] [.int (bcJ (ntcT y a (nI m)))] (E x y)
  refine PW_istore (i := 6) (L2 := [some (.ref 5), some (.int a1), some (.int a2), some (.int 11), some (.int (nI m)), some (.int (nI m)), some (.int (bcJ (ntcT y a (nI m))))]) c_G_slip_76 (Nat.le_of_ble_eq_true rfl) rfl rfl ?_
  refine PW_iload c_G_slip_78 rfl ?_
  refine PW_iload_n c_G_slip_80 rfl ?_
  refine PW_icmp_ge c_G_slip_81 (fun h1 => absurd h1 (Int32.not_le.mpr hb11)) (fun h1 => ?_)
  refine PW_iload c_G_slip_84 rfl ?_
  refine PW_istore_n (i := 3) (L2 := [some (.ref 5), some (.int a1), some (.int a2), some (.int (bcJ (ntcT y a (nI m)))), some (.int (nI m)), some (.int (nI m)), some (.int (bcJ (ntcT y a (nI m))))]) c_G_slip_86 rfl (Nat.le_of_ble_eq_true rfl) rfl rfl ?_
  refine PW_iload c_G_slip_87 rfl ?_
  refine PW_istore (i := 4) (L2 := [some (.ref 5), some (.int a1), some (.int a2), some (.int (bcJ (ntcT y a (nI m)))), some (.int (nI m)), some (.int (nI m)), some (.int (bcJ (ntcT y a (nI m))))]) c_G_slip_89 (Nat.le_of_ble_eq_true rfl) rfl rfl ?_
  refine PW_iinc (i := 5) (v := (nI m) + 1) (L2 := [some (.ref 5), some (.int a1), some (.int a2), some (.int (bcJ (ntcT y a (nI m)))), some (.int (nI m)), some (.int ((nI m) + 1)), some (.int (bcJ (ntcT y a (nI m))))]) c_G_slip_91 rfl (iinc_v (by decide)) (Nat.le_of_ble_eq_true rfl) rfl rfl ?_
  refine PW_goto c_G_slip_94 ?_
  refine PW.eqL ?_ rfl rfl (lp_G_slip (a2 := a2) C ea ha (99 - m) (m + 1) m (some (.int (bcJ (ntcT y a (nI m))))) (by omega) hm h)
  show ([some (.ref 5), some (.int a1), some (.int a2), some (.int (bcJ (ntcT y a (nI m)))), some (.int (nI m)), some (.int ((nI m) + 1)), some (.int (bcJ (ntcT y a (nI m))))] : List (Option Value)) = _
  rw [nI_1]
theorem sp_G_isRoomMinute {z : ZS} {post : Option Value → List PE → Prop} {x y : XS}  {r : Int32}  (h : post (some (.int (b2i (0 ≤ r ∧ 0 ≤ r / 100 ∧ r / 100 ≤ 4)))) (E x y)) : PW (1, 0, 0, z) m_G_isRoomMinute post 0 [some (.int r)] [] (E x y) := by
  refine PW_iload_n c_G_isRoomMinute_0 rfl ?_
  refine PW_if_lt c_G_isRoomMinute_1 (fun h0 => ?_) (fun h0 => ?_)
  · refine PW_iconst (v := 0) c_G_isRoomMinute_18 (by decide) ?_
    refine PW_ireturn (ty := .boolean) c_G_isRoomMinute_19 rfl (by decide +kernel) ?_
    exact pq0 h (fun q => absurd q.1 (Int32.not_le.mpr h0))
  · refine PW_iload_n c_G_isRoomMinute_4 rfl ?_
    refine PW_bipush (v := 100) c_G_isRoomMinute_5 (by decide) ?_
    refine PW_idiv c_G_isRoomMinute_7 (by decide) ?_
    refine PW_S0 (d2 := 0) (st := []) [.int (r / 100)] c_G_isRoomMinute_8 lk_G_isRoomMinute_121 rfl rfl rfl (Nat.le_of_ble_eq_true rfl) (by first | decide | omega) (Nat.le_of_ble_eq_true rfl) ?_
    refine sp_H_isRoom  ?_
    show PW _ _ _ 11 [some (.int r)] [.int (b2i (0 ≤ (r / 100) ∧ (r / 100) ≤ 4))] (E x y)
    refine PW_if_eq c_G_isRoomMinute_11 (fun h1 => ?_) (fun h1 => ?_)
    · replace h1 := b2i_0.mp h1
      refine PW_iconst (v := 0) c_G_isRoomMinute_18 (by decide) ?_
      refine PW_ireturn (ty := .boolean) c_G_isRoomMinute_19 rfl (by decide +kernel) ?_
      exact pq0 h (fun q => h1 ⟨q.2.1, q.2.2⟩)
    · replace h1 := b2i_n0.mp h1
      refine PW_iconst (v := 1) c_G_isRoomMinute_14 (by decide) ?_
      refine PW_goto c_G_isRoomMinute_15 ?_
      refine PW_ireturn (ty := .boolean) c_G_isRoomMinute_19 rfl (by decide +kernel) ?_
      exact pq1 h ⟨Int32.not_lt.mp h0, h1.1, h1.2⟩
