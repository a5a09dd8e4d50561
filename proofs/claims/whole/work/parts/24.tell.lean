/-! whom a goodbye tells -/
theorem tel_e (a b c : Int32) : a &&& b &&& (c ^^^ -1) = b &&& (c ^^^ -1) &&& a := bt_ext fun i hi => by
  simp only [bt_and, bt_com _ hi]
  cases bt a i <;> cases bt b i <;> cases bt c i <;> rfl
theorem tel_i (a b c d : Int32) : (b &&& (c ^^^ -1) &&& (d ^^^ -1) &&& a = b &&& (c ^^^ -1) &&& (d ^^^ -1)) ↔ b &&& (d ^^^ -1) &&& (c ^^^ -1) &&& ((a &&& b &&& (c ^^^ -1)) ^^^ -1) = 0 := by
  constructor
  · intro h
    refine bt_ext fun i hi => ?_
    have q := congrArg (fun v => bt v i) h
    simp only [bt_and, bt_com _ hi, bt_0] at q ⊢
    revert q
    cases bt a i <;> cases bt b i <;> cases bt c i <;> cases bt d i <;> decide
  · intro h
    refine bt_ext fun i hi => ?_
    have q := congrArg (fun v => bt v i) h
    simp only [bt_and, bt_com _ hi, bt_0] at q ⊢
    revert q
    cases bt a i <;> cases bt b i <;> cases bt c i <;> cases bt d i <;> decide
theorem tel_f (a b c d : Int32) : b &&& (c ^^^ -1) &&& (d ^^^ -1) &&& a = a &&& b &&& (c ^^^ -1) &&& (d ^^^ -1) := bt_ext fun i hi => by
  simp only [bt_and, bt_com _ hi]
  cases bt a i <;> cases bt b i <;> cases bt c i <;> cases bt d i <;> rfl
def telF (y : XS) (r m told : Int32) : Int32 := if mustB y &&& (hostB y ^^^ -1) &&& (told ^^^ -1) &&& ((thI y r m &&& mustB y &&& (told ^^^ -1)) ^^^ -1) = 0 then thI y r m &&& mustB y &&& (told ^^^ -1) else thI y r m &&& mustB y &&& (told ^^^ -1) &&& (hostB y ^^^ -1)
theorem S10_telF {y : XS} {r m told : Int32} (h : nG y ≤ 10) : S10 (telF y r m told) := by
  unfold telF
  split
  · exact S10_and (S10_and (S10_thI h))
  · exact S10_and (S10_and (S10_and (S10_thI h)))
theorem sp_M_tells1 {z : ZS} {post : Option Value → List PE → Prop} {x y : XS}  {r m told : Int32} (hW : WG y) (h : post (some (.int (telF y r m told))) (E x y)) : PW (2, 0, 0, z) m_M_tells1 post 0 [some (.ref 70), some (.int r), some (.int m), some (.int told), none, none] [] (E x y) := by
  refine PW_aload_n c_M_tells1_0 rfl ?_
  refine PW_iload_n c_M_tells1_1 rfl ?_
  refine PW_iload_n c_M_tells1_2 rfl ?_
  refine PW_V0 (d2 := 1) (st := []) [.int r, .int m] c_M_tells1_3 lk_M_tells1_179 (po_70 _ _) rfl rfl rfl (Nat.le_of_ble_eq_true rfl) (by first | decide | omega) (Nat.le_of_ble_eq_true rfl) ?_
  refine sp_M_thereIn hW ?_
  show PW _ _ _ 6 [some (.ref 70), some (.int r), some (.int m), some (.int told), none, none] [.int (thI y r m)] (E x y)
  refine PW_aload_n c_M_tells1_6 rfl ?_
  refine PW_V0 (d2 := 0) (st := [.int (thI y r m)]) [] c_M_tells1_7 lk_M_tells1_253 (po_70 _ _) rfl rfl rfl (Nat.le_of_ble_eq_true rfl) (by first | decide | omega) (Nat.le_of_ble_eq_true rfl) ?_
  refine sp_M_allMust hW ?_
  show PW _ _ _ 10 [some (.ref 70), some (.int r), some (.int m), some (.int told), none, none] [.int (mustB y), .int (thI y r m)] (E x y)
  refine PW_iand c_M_tells1_10 ?_
  refine PW_iload_n c_M_tells1_11 rfl ?_
  refine PW_iconst (v := -1) c_M_tells1_12 (by decide) ?_
  refine PW_ixor c_M_tells1_13 ?_
  refine PW_iand c_M_tells1_14 ?_
  refine PW_istore (i := 4) (L2 := [some (.ref 70), some (.int r), some (.int m), some (.int told), some (.int (((thI y r m) &&& (mustB y)) &&& (told ^^^ (-1)))), none]) c_M_tells1_15 (Nat.le_of_ble_eq_true rfl) rfl rfl ?_
  refine PW_aload_n c_M_tells1_17 rfl ?_
  refine PW_V0 (d2 := 0) (st := []) [] c_M_tells1_18 lk_M_tells1_253 (po_70 _ _) rfl rfl rfl (Nat.le_of_ble_eq_true rfl) (by first | decide | omega) (Nat.le_of_ble_eq_true rfl) ?_
  refine sp_M_allMust hW ?_
  show PW _ _ _ 21 [some (.ref 70), some (.int r), some (.int m), some (.int told), some (.int (((thI y r m) &&& (mustB y)) &&& (told ^^^ (-1)))), none] [.int (mustB y)] (E x y)
  refine PW_aload_n c_M_tells1_21 rfl ?_
  refine PW_V0 (d2 := 0) (st := [.int (mustB y)]) [] c_M_tells1_22 lk_M_tells1_256 (po_70 _ _) rfl rfl rfl (Nat.le_of_ble_eq_true rfl) (by first | decide | omega) (Nat.le_of_ble_eq_true rfl) ?_
  refine sp_M_hosts hW ?_
  show PW _ _ _ 25 [some (.ref 70), some (.int r), some (.int m), some (.int told), some (.int (((thI y r m) &&& (mustB y)) &&& (told ^^^ (-1)))), none] [.int (hostB y), .int (mustB y)] (E x y)
  refine PW_iconst (v := -1) c_M_tells1_25 (by decide) ?_
  refine PW_ixor c_M_tells1_26 ?_
  refine PW_iand c_M_tells1_27 ?_
  refine PW_iload_n c_M_tells1_28 rfl ?_
  refine PW_iconst (v := -1) c_M_tells1_29 (by decide) ?_
  refine PW_ixor c_M_tells1_30 ?_
  refine PW_iand c_M_tells1_31 ?_
  refine PW_istore (i := 5) (L2 := [some (.ref 70), some (.int r), some (.int m), some (.int told), some (.int (((thI y r m) &&& (mustB y)) &&& (told ^^^ (-1)))), some (.int (((mustB y) &&& ((hostB y) ^^^ (-1))) &&& (told ^^^ (-1))))]) c_M_tells1_32 (Nat.le_of_ble_eq_true rfl) rfl rfl ?_
  refine PW_iload c_M_tells1_34 rfl ?_
  refine PW_iload c_M_tells1_36 rfl ?_
  refine PW_iconst (v := -1) c_M_tells1_38 (by decide) ?_
  refine PW_ixor c_M_tells1_39 ?_
  refine PW_iand c_M_tells1_40 ?_
  refine PW_if_ne c_M_tells1_41 (fun h0 => ?_) (fun h0 => ?_)
  · refine PW_iload c_M_tells1_49 rfl ?_
    refine PW_aload_n c_M_tells1_51 rfl ?_
    refine PW_V0 (d2 := 0) (st := [.int (((thI y r m) &&& (mustB y)) &&& (told ^^^ (-1)))]) [] c_M_tells1_52 lk_M_tells1_256 (po_70 _ _) rfl rfl rfl (Nat.le_of_ble_eq_true rfl) (by first | decide | omega) (Nat.le_of_ble_eq_true rfl) ?_
    refine sp_M_hosts hW ?_
    show PW _ _ _ 55 [some (.ref 70), some (.int r), some (.int m), some (.int told), some (.int (((thI y r m) &&& (mustB y)) &&& (told ^^^ (-1)))), some (.int (((mustB y) &&& ((hostB y) ^^^ (-1))) &&& (told ^^^ (-1))))] [.int (hostB y), .int (((thI y r m) &&& (mustB y)) &&& (told ^^^ (-1)))] (E x y)
    refine PW_iconst (v := -1) c_M_tells1_55 (by decide) ?_
    refine PW_ixor c_M_tells1_56 ?_
    refine PW_iand c_M_tells1_57 ?_
    refine PW_ireturn (ty := .int) c_M_tells1_58 rfl rfl ?_
    exact pqi h (if_neg h0)
  · refine PW_iload c_M_tells1_44 rfl ?_
    refine PW_goto c_M_tells1_46 ?_
    refine PW_ireturn (ty := .int) c_M_tells1_58 rfl rfl ?_
    exact pqi h (if_pos h0)
theorem sp_H_whomToTell {z : ZS} {post : Option Value → List PE → Prop} {x y : XS}  {r m told : Int32} (C : CPg x y) (hr : 0 ≤ r.toInt ∧ r.toInt < 5) (hm : 0 ≤ m.toInt) (h : post (some (.int (telF y r m told))) (E x y)) : PW (2, 0, 0, z) m_H_whomToTell post 0 [some (.ref 6), some (.int r), some (.int m), some (.int told), none, none, none, none] [] (E x y) := by
  refine PW_aload_n c_H_whomToTell_0 rfl ?_
  refine PW_iload_n c_H_whomToTell_1 rfl ?_
  refine PW_iload_n c_H_whomToTell_2 rfl ?_
  refine PW_V0 (d2 := 1) (st := []) [.int r, .int m] c_H_whomToTell_3 lk_H_whomToTell_74 (po_6 _ _) rfl rfl rfl (Nat.le_of_ble_eq_true rfl) (by first | decide | omega) (Nat.le_of_ble_eq_true rfl) ?_
  refine sp_H_whoIsIn C hr hm ?_
  show PW _ _ _ 6 [some (.ref 6), some (.int r), some (.int m), some (.int told), none, none, none, none] [.int (thI y r m)] (E x y)
  refine PW_istore (i := 4) (L2 := [some (.ref 6), some (.int r), some (.int m), some (.int told), some (.int (thI y r m)), none, none, none]) c_H_whomToTell_6 (Nat.le_of_ble_eq_true rfl) rfl rfl ?_
  refine PW_aload_n c_H_whomToTell_8 rfl ?_
  refine PW_get (v := .int (x.1 52)) c_H_whomToTell_9 fl_H_45 (gf_6_4 _ _) ?_
  refine PW_iload_n c_H_whomToTell_12 rfl ?_
  refine PW_iconst (v := -1) c_H_whomToTell_13 (by decide) ?_
  refine PW_ixor c_H_whomToTell_14 ?_
  refine PW_iand c_H_whomToTell_15 ?_
  refine PW_istore (i := 5) (L2 := [some (.ref 6), some (.int r), some (.int m), some (.int told), some (.int (thI y r m)), some (.int ((x.1 52) &&& (told ^^^ (-1)))), none, none]) c_H_whomToTell_16 (Nat.le_of_ble_eq_true rfl) rfl rfl ?_
  refine PW_iload c_H_whomToTell_18 rfl ?_
  refine PW_aload_n c_H_whomToTell_20 rfl ?_
  refine PW_get (v := .int (x.1 53)) c_H_whomToTell_21 fl_H_52 (gf_6_5 _ _) ?_
  refine PW_iconst (v := -1) c_H_whomToTell_24 (by decide) ?_
  refine PW_ixor c_H_whomToTell_25 ?_
  refine PW_iand c_H_whomToTell_26 ?_
  refine PW_istore (i := 6) (L2 := [some (.ref 6), some (.int r), some (.int m), some (.int told), some (.int (thI y r m)), some (.int ((x.1 52) &&& (told ^^^ (-1)))), some (.int (((x.1 52) &&& (told ^^^ (-1))) &&& ((x.1 53) ^^^ (-1)))), none]) c_H_whomToTell_27 (Nat.le_of_ble_eq_true rfl) rfl rfl ?_
  refine PW_iload c_H_whomToTell_29 rfl ?_
  refine PW_iload c_H_whomToTell_31 rfl ?_
  refine PW_iand c_H_whomToTell_33 ?_
  refine PW_istore (i := 7) (L2 := [some (.ref 6), some (.int r), some (.int m), some (.int told), some (.int (thI y r m)), some (.int ((x.1 52) &&& (told ^^^ (-1)))), some (.int (((x.1 52) &&& (told ^^^ (-1))) &&& ((x.1 53) ^^^ (-1)))), some (.int ((((x.1 52) &&& (told ^^^ (-1))) &&& ((x.1 53) ^^^ (-1))) &&& (thI y r m)))]) c_H_whomToTell_34 (Nat.le_of_ble_eq_true rfl) rfl rfl ?_
  refine PW_iload c_H_whomToTell_36 rfl ?_
  refine PW_iload c_H_whomToTell_38 rfl ?_
  refine PW_icmp_ne c_H_whomToTell_40 (fun h0 => ?_) (fun h0 => ?_)
  · refine PW_iload c_H_whomToTell_51 rfl ?_
    refine PW_ireturn (ty := .int) c_H_whomToTell_53 rfl rfl ?_
    rw [C.x52]; try rw [C.x53]
    rw [C.x52, C.x53] at h0
    exact pqi h ((if_neg (fun q => h0 ((tel_i _ _ _ _).mpr q))).trans (tel_f _ _ _ _).symm)
  · refine PW_iload c_H_whomToTell_43 rfl ?_
    refine PW_iload c_H_whomToTell_45 rfl ?_
    refine PW_iand c_H_whomToTell_47 ?_
    refine PW_goto c_H_whomToTell_48 ?_
    refine PW_ireturn (ty := .int) c_H_whomToTell_53 rfl rfl ?_
    rw [C.x52]; try rw [C.x53]
    rw [C.x52, C.x53] at h0
    exact pqi h ((if_pos ((tel_i _ _ _ _).mp h0)).trans (tel_e _ _ _))
theorem n10 {k : Nat} (h : k < 10) : ¬ (10 : Int32) ≤ nI k := fun q => absurd ((nI_leI (by decide) (by omega)).mp (show nI 10 ≤ nI k from q)) (by omega)
theorem lp_H_greatestTalk {z : ZS} {post : Option Value → List PE → Prop} {x y : XS} {v : Int32} (C : CPg x y) (hn : nG y ≤ 10) (h : post (some (.int (mxT y v (nG y)))) (E x y)) : ∀ j k : Nat, k + j = nG y → PW (1, 0, 0, z) m_H_greatestTalk post 4 [some (.ref 6), some (.int v), some (.int (mxT y v k)), some (.int (nI k))] [] (E x y) := by
  intro j
  induction j with
  | zero =>
    intro k hk
    refine PW_iload_n c_H_greatestTalk_4 rfl ?_
    refine PW_aload_n c_H_greatestTalk_5 rfl ?_
    refine PW_get (v := .int (x.1 51)) c_H_greatestTalk_6 fl_H_29 (gf_6_3 _ _) ?_
    refine PW_icmp_ge c_H_greatestTalk_9 (fun h0 => ?_) (fun h0 => absurd ((ge_t2 (C.x51.trans C.1.1) (by omega) (by omega)).mpr (by omega)) h0)
    refine PW_iload_n c_H_greatestTalk_46 rfl ?_
    refine PW_ireturn (ty := .int) c_H_greatestTalk_47 rfl rfl ?_
    exact pqi h (by rw [show k = nG y by omega])
  | succ j ih =>
    intro k hk
    by_cases hA : (v >>> (nI k &&& 31)) &&& 1 = 1
    · skip
      refine PW_iload_n c_H_greatestTalk_4 rfl ?_
      refine PW_aload_n c_H_greatestTalk_5 rfl ?_
      refine PW_get (v := .int (x.1 51)) c_H_greatestTalk_6 fl_H_29 (gf_6_3 _ _) ?_
      refine PW_icmp_ge c_H_greatestTalk_9 (fun h0 => absurd h0 (fun q => absurd ((ge_t2 (C.x51.trans C.1.1) (by omega) (by omega)).mp q) (by omega))) (fun h0 => ?_)
      refine PW_iload_n c_H_greatestTalk_12 rfl ?_
      refine PW_bipush (v := 10) c_H_greatestTalk_13 (by decide) ?_
      refine PW_icmp_ge c_H_greatestTalk_15 (fun h1 => absurd h1 (n10 (by omega))) (fun h1 => ?_)
      refine PW_iload_n c_H_greatestTalk_18 rfl ?_
      refine PW_iload_n c_H_greatestTalk_19 rfl ?_
      refine PW_ishr c_H_greatestTalk_20 ?_
      refine PW_iconst (v := 1) c_H_greatestTalk_21 (by decide) ?_
      refine PW_iand c_H_greatestTalk_22 ?_
      refine PW_iconst (v := 1) c_H_greatestTalk_23 (by decide) ?_
      refine PW_icmp_ne c_H_greatestTalk_24 (fun h2 => absurd h2 (not_not_intro hA)) (fun h2 => ?_)
      refine PW_iload_n c_H_greatestTalk_27 rfl ?_
      refine PW_aload_n c_H_greatestTalk_28 rfl ?_
      refine PW_get (v := .ref 7) c_H_greatestTalk_29 fl_H_13 (gf_6_0 _ _) ?_
      refine PW_iconst (v := 3) c_H_greatestTalk_32 (by decide) ?_
      refine PW_aald (j := 3) c_H_greatestTalk_33 (ar_7 _ _) (t0 := 5) rfl rfl (vp_in_iff.mpr (by decide)) rfl ?_
      rw [if_pos (by decide)]
      show PW _ _ _ 34 [some (.ref 6), some (.int v), some (.int (mxT y v k)), some (.int (nI k))] [.ref 11, .int (mxT y v k)] (E x y)
      refine PW_iload_n c_H_greatestTalk_34 rfl ?_
      refine PW_iald (j := k) c_H_greatestTalk_35 (ar_11 _ _) (vp_in_nI (by omega) (by decide)) (nI_clamp (by omega)) ?_
      show PW _ _ _ 36 [some (.ref 6), some (.int v), some (.int (mxT y v k)), some (.int (nI k))] [.int ((x.2.1 11) k), .int (mxT y v k)] (E x y)
      refine PW_mmax c_H_greatestTalk_36 mk_H_greatestTalk_71 (by decide) (by first | decide | exact Nat.le_of_ble_eq_true rfl) ?_
      refine PW_istore_n (i := 2) (L2 := [some (.ref 6), some (.int v), some (.int (if (mxT y v k) < ((x.2.1 11) k) then ((x.2.1 11) k) else (mxT y v k))), some (.int (nI k))]) c_H_greatestTalk_39 rfl (Nat.le_of_ble_eq_true rfl) rfl rfl ?_
      refine PW_iinc (i := 3) (v := (nI k) + 1) (L2 := [some (.ref 6), some (.int v), some (.int (if (mxT y v k) < ((x.2.1 11) k) then ((x.2.1 11) k) else (mxT y v k))), some (.int ((nI k) + 1))]) c_H_greatestTalk_40 rfl (iinc_v (by decide)) (Nat.le_of_ble_eq_true rfl) rfl rfl ?_
      refine PW_goto c_H_greatestTalk_43 ?_
      refine PW.eqL ?_ rfl rfl (ih (k + 1) (by omega))
      show ([some (.ref 6), some (.int v), some (.int (if (mxT y v k) < ((x.2.1 11) k) then ((x.2.1 11) k) else (mxT y v k))), some (.int ((nI k) + 1))] : List (Option Value)) = [some (.ref 6), some (.int v), some (.int (mxT y v (k + 1))), some (.int (nI (k + 1)))]
      have er := C.row 3 (by omega) (i := k) (by omega)
      rw [nI_1, mxT, show x.2.1 11 k = y.2.1 74 k from er]
      by_cases hB : mxT y v k < y.2.1 74 k
      · rw [if_pos hB, if_pos ⟨hA, hB⟩]
      · rw [if_neg hB, if_neg (fun q => hB q.2)]
    · skip
      refine PW_iload_n c_H_greatestTalk_4 rfl ?_
      refine PW_aload_n c_H_greatestTalk_5 rfl ?_
      refine PW_get (v := .int (x.1 51)) c_H_greatestTalk_6 fl_H_29 (gf_6_3 _ _) ?_
      refine PW_icmp_ge c_H_greatestTalk_9 (fun h0 => absurd h0 (fun q => absurd ((ge_t2 (C.x51.trans C.1.1) (by omega) (by omega)).mp q) (by omega))) (fun h0 => ?_)
      refine PW_iload_n c_H_greatestTalk_12 rfl ?_
      refine PW_bipush (v := 10) c_H_greatestTalk_13 (by decide) ?_
      refine PW_icmp_ge c_H_greatestTalk_15 (fun h1 => absurd h1 (n10 (by omega))) (fun h1 => ?_)
      refine PW_iload_n c_H_greatestTalk_18 rfl ?_
      refine PW_iload_n c_H_greatestTalk_19 rfl ?_
      refine PW_ishr c_H_greatestTalk_20 ?_
      refine PW_iconst (v := 1) c_H_greatestTalk_21 (by decide) ?_
      refine PW_iand c_H_greatestTalk_22 ?_
      refine PW_iconst (v := 1) c_H_greatestTalk_23 (by decide) ?_
      refine PW_icmp_ne c_H_greatestTalk_24 (fun h2 => ?_) (fun h2 => absurd h2 hA)
      refine PW_iinc (i := 3) (v := (nI k) + 1) (L2 := [some (.ref 6), some (.int v), some (.int (mxT y v k)), some (.int ((nI k) + 1))]) c_H_greatestTalk_40 rfl (iinc_v (by decide)) (Nat.le_of_ble_eq_true rfl) rfl rfl ?_
      refine PW_goto c_H_greatestTalk_43 ?_
      refine PW.eqL ?_ rfl rfl (ih (k + 1) (by omega))
      show ([some (.ref 6), some (.int v), some (.int (mxT y v k)), some (.int ((nI k) + 1))] : List (Option Value)) = [some (.ref 6), some (.int v), some (.int (mxT y v (k + 1))), some (.int (nI (k + 1)))]
      skip
      rw [nI_1, mxT, if_neg (fun q => hA q.1)]
theorem sp_H_greatestTalk {z : ZS} {post : Option Value → List PE → Prop} {x y : XS}  {v : Int32} (C : CPg x y) (h : post (some (.int (mxT y v (nG y)))) (E x y)) : PW (1, 0, 0, z) m_H_greatestTalk post 0 [some (.ref 6), some (.int v), none, none] [] (E x y) := by
  refine PW_iconst (v := 0) c_H_greatestTalk_0 (by decide) ?_
  refine PW_istore_n (i := 2) (L2 := [some (.ref 6), some (.int v), some (.int 0), none]) c_H_greatestTalk_1 rfl (Nat.le_of_ble_eq_true rfl) rfl rfl ?_
  refine PW_iconst (v := 0) c_H_greatestTalk_2 (by decide) ?_
  refine PW_istore_n (i := 3) (L2 := [some (.ref 6), some (.int v), some (.int 0), some (.int 0)]) c_H_greatestTalk_3 rfl (Nat.le_of_ble_eq_true rfl) rfl rfl ?_
  exact lp_H_greatestTalk C C.1.2 h (nG y) 0 (Nat.zero_add _)
