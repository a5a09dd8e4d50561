/-! the class's spread -/
theorem kw_bool (a b c : Int32) (k p q ka kc : Bool) (ha : a = 0 ∨ a = 1 ∨ a = 2 ∨ a = 3 ∨ a = 4) : (k || ((p && ka && (a == b)) || (q && kc && (a == c)))) = (((((k || ((a == 0) && ((p && (b == 0) && ka) || (q && (c == 0) && kc)))) || ((a == 1) && ((p && (b == 1) && ka) || (q && (c == 1) && kc)))) || ((a == 2) && ((p && (b == 2) && ka) || (q && (c == 2) && kc)))) || ((a == 3) && ((p && (b == 3) && ka) || (q && (c == 3) && kc)))) || ((a == 4) && ((p && (b == 4) && ka) || (q && (c == 4) && kc)))) := by
  rw [BEq.comm (a := a) (b := b), BEq.comm (a := a) (b := c)]
  rcases ha with rfl | rfl | rfl | rfl | rfl
  · simp only [show ((0 : Int32) == 0) = true by decide, show ((0 : Int32) == 1) = false by decide, show ((0 : Int32) == 2) = false by decide, show ((0 : Int32) == 3) = false by decide, show ((0 : Int32) == 4) = false by decide, Bool.true_and, Bool.false_and, Bool.or_false, Bool.false_or]
    generalize (b == (0 : Int32)) = u
    generalize (c == (0 : Int32)) = v
    cases k <;> cases p <;> cases ka <;> cases q <;> cases kc <;> cases u <;> cases v <;> rfl
  · simp only [show ((1 : Int32) == 0) = false by decide, show ((1 : Int32) == 1) = true by decide, show ((1 : Int32) == 2) = false by decide, show ((1 : Int32) == 3) = false by decide, show ((1 : Int32) == 4) = false by decide, Bool.true_and, Bool.false_and, Bool.or_false, Bool.false_or]
    generalize (b == (1 : Int32)) = u
    generalize (c == (1 : Int32)) = v
    cases k <;> cases p <;> cases ka <;> cases q <;> cases kc <;> cases u <;> cases v <;> rfl
  · simp only [show ((2 : Int32) == 0) = false by decide, show ((2 : Int32) == 1) = false by decide, show ((2 : Int32) == 2) = true by decide, show ((2 : Int32) == 3) = false by decide, show ((2 : Int32) == 4) = false by decide, Bool.true_and, Bool.false_and, Bool.or_false, Bool.false_or]
    generalize (b == (2 : Int32)) = u
    generalize (c == (2 : Int32)) = v
    cases k <;> cases p <;> cases ka <;> cases q <;> cases kc <;> cases u <;> cases v <;> rfl
  · simp only [show ((3 : Int32) == 0) = false by decide, show ((3 : Int32) == 1) = false by decide, show ((3 : Int32) == 2) = false by decide, show ((3 : Int32) == 3) = true by decide, show ((3 : Int32) == 4) = false by decide, Bool.true_and, Bool.false_and, Bool.or_false, Bool.false_or]
    generalize (b == (3 : Int32)) = u
    generalize (c == (3 : Int32)) = v
    cases k <;> cases p <;> cases ka <;> cases q <;> cases kc <;> cases u <;> cases v <;> rfl
  · simp only [show ((4 : Int32) == 0) = false by decide, show ((4 : Int32) == 1) = false by decide, show ((4 : Int32) == 2) = false by decide, show ((4 : Int32) == 3) = false by decide, show ((4 : Int32) == 4) = true by decide, Bool.true_and, Bool.false_and, Bool.or_false, Bool.false_or]
    generalize (b == (4 : Int32)) = u
    generalize (c == (4 : Int32)) = v
    cases k <;> cases p <;> cases ka <;> cases q <;> cases kc <;> cases u <;> cases v <;> rfl
def spR (y : XS) (kn m r : Int32) : Int32 := thI y r m &&& (((thI y r m &&& kn) <<< (1 &&& 31)) ||| ((thI y r m &&& kn) >>> (1 &&& 31)))
theorem bt_thI {y : XS} {r m : Int32} (hn : nG y ≤ 10) {i : Nat} (hi : i < 32) : bt (thI y r m) i = (decide (i < nG y) && (rO y i m == r)) := bt_bitsT _ hn hi
theorem bt_spR {y : XS} {kn m r : Int32} (hn : nG y ≤ 10) {i : Nat} (hi : i < nG y) : bt (spR y kn m r) i = ((rO y i m == r) && ((decide (0 < i) && (rO y (i - 1) m == r) && bt kn (i - 1)) || (decide (i + 1 < nG y) && (rO y (i + 1) m == r) && bt kn (i + 1)))) := by
  have hT := S10_thI (y := y) (r := r) (m := m) hn
  unfold spR
  rw [bt_and, bt_or, bt_shl (S10_and hT) (by omega), bt_shr (S10_and hT) (by omega), bt_and, bt_and, bt_thI hn (by omega), bt_thI hn (by omega), bt_thI hn (by omega), decide_eq_true hi, decide_eq_true (show i - 1 < nG y by omega), Bool.true_and, Bool.true_and]
  simp only [Bool.and_assoc]
theorem rO_5 {x y : XS} (C : CPg x y) {g : Nat} (hg : g < nG y) (m : Int32) : rO y g m = 0 ∨ rO y g m = 1 ∨ rO y g m = 2 ∨ rO y g m = 3 ∨ rO y g m = 4 := by
  have h : 0 ≤ (rO y g m).toInt ∧ (rO y g m).toInt ≤ 4 := by
    unfold rO
    split
    · exact C.ok 0 (by omega) hg
    · exact C.ok 1 (by omega) hg
  simp only [← Int32.toInt_inj, tiA]
  omega
theorem kw_spread {x y : XS} (C : CPg x y) {kn m : Int32} (hS : S10 kn) : kwF y kn m = kn ||| spR y kn m 0 ||| spR y kn m 1 ||| spR y kn m 2 ||| spR y kn m 3 ||| spR y kn m 4 := by
  have hn := C.1.2
  have hs : ∀ r, S10 (spR y kn m r) := fun r => S10_and (S10_thI hn)
  refine S10_ext (S10_kwF C.1 hS) (S10_or (S10_or (S10_or (S10_or (S10_or hS (hs 0)) (hs 1)) (hs 2)) (hs 3)) (hs 4)) fun i hi => ?_
  unfold kwF
  rw [bt_or, bt_bitsT _ hn (by omega)]
  simp only [bt_or]
  by_cases q : i < nG y
  · rw [decide_eq_true q, Bool.true_and, bt_spR hn q, bt_spR hn q, bt_spR hn q, bt_spR hn q, bt_spR hn q]
    exact kw_bool _ _ _ _ _ _ _ _ (rO_5 C q m)
  · have z : ∀ r, bt (spR y kn m r) i = false := fun r => by
      unfold spR
      rw [bt_and, bt_thI hn (by omega), decide_eq_false q, Bool.false_and, Bool.false_and]
    rw [decide_eq_false q, z, z, z, z, z]
    simp
theorem sp_Y_spread {z : ZS} {post : Option Value → List PE → Prop} {x y : XS}  {kn m : Int32} (C : CPg x y) (hS : S10 kn) (hm : 0 ≤ m.toInt) (h : post (some (.int (kwF y kn m))) (E x y)) : PW (2, 0, 0, z) m_Y_spread post 0 [some (.ref 44), some (.int kn), some (.int m), none, none, none, none] [] (E x y) := by
  refine PW_iload_n c_Y_spread_0 rfl ?_
  refine PW_istore_n (i := 3) (L2 := [some (.ref 44), some (.int kn), some (.int m), some (.int kn), none, none, none]) c_Y_spread_1 rfl (Nat.le_of_ble_eq_true rfl) rfl rfl ?_
  refine PW_iconst (v := 0) c_Y_spread_2 (by decide) ?_
  refine PW_istore (i := 4) (L2 := [some (.ref 44), some (.int kn), some (.int m), some (.int kn), some (.int 0), none, none]) c_Y_spread_3 (Nat.le_of_ble_eq_true rfl) rfl rfl ?_
  refine PW_iload c_Y_spread_5 rfl ?_
  refine PW_iconst (v := 5) c_Y_spread_7 (by decide) ?_
  refine PW_icmp_ge c_Y_spread_8 (fun h0 => absurd h0 (by decide)) (fun _ => ?_)
  refine PW_aload_n c_Y_spread_11 rfl ?_
  refine PW_get (v := .ref 6) c_Y_spread_12 fl_Y_17 (gf_44_0 _ _) ?_
  refine PW_iload c_Y_spread_15 rfl ?_
  refine PW_iload_n c_Y_spread_17 rfl ?_
  refine PW_V0 (d2 := 1) (st := []) [.int 0, .int m] c_Y_spread_18 lk_Y_spread_51 (po_6 _ _) rfl rfl rfl (Nat.le_of_ble_eq_true rfl) (by first | decide | omega) (Nat.le_of_ble_eq_true rfl) ?_
  refine sp_H_whoIsIn C (by decide) hm ?_
  show PW _ _ _ 21 [some (.ref 44), some (.int kn), some (.int m), some (.int kn), some (.int 0), none, none] [.int (thI y 0 m)] (E x y)
  refine PW_istore (i := 5) (L2 := [some (.ref 44), some (.int kn), some (.int m), some (.int kn), some (.int 0), some (.int (thI y 0 m)), none]) c_Y_spread_21 (Nat.le_of_ble_eq_true rfl) rfl rfl ?_
  refine PW_iload c_Y_spread_23 rfl ?_
  refine PW_iload_n c_Y_spread_25 rfl ?_
  refine PW_iand c_Y_spread_26 ?_
  refine PW_istore (i := 6) (L2 := [some (.ref 44), some (.int kn), some (.int m), some (.int kn), some (.int 0), some (.int (thI y 0 m)), some (.int ((thI y 0 m) &&& kn))]) c_Y_spread_27 (Nat.le_of_ble_eq_true rfl) rfl rfl ?_
  refine PW_iload_n c_Y_spread_29 rfl ?_
  refine PW_iload c_Y_spread_30 rfl ?_
  refine PW_iload c_Y_spread_32 rfl ?_
  refine PW_iconst (v := 1) c_Y_spread_34 (by decide) ?_
  refine PW_ishl c_Y_spread_35 ?_
  refine PW_iload c_Y_spread_36 rfl ?_
  refine PW_iconst (v := 1) c_Y_spread_38 (by decide) ?_
  refine PW_ishr c_Y_spread_39 ?_
  refine PW_ior c_Y_spread_40 ?_
  refine PW_iand c_Y_spread_41 ?_
  refine PW_ior c_Y_spread_42 ?_
  refine PW_istore_n (i := 3) (L2 := [some (.ref 44), some (.int kn), some (.int m), some (.int (kn ||| ((thI y 0 m) &&& ((((thI y 0 m) &&& kn) <<< (1 &&& 31)) ||| (((thI y 0 m) &&& kn) >>> (1 &&& 31)))))), some (.int 0), some (.int (thI y 0 m)), some (.int ((thI y 0 m) &&& kn))]) c_Y_spread_43 rfl (Nat.le_of_ble_eq_true rfl) rfl rfl ?_
  refine PW_iinc (i := 4) (v := 1) (L2 := [some (.ref 44), some (.int kn), some (.int m), some (.int (kn ||| ((thI y 0 m) &&& ((((thI y 0 m) &&& kn) <<< (1 &&& 31)) ||| (((thI y 0 m) &&& kn) >>> (1 &&& 31)))))), some (.int 1), some (.int (thI y 0 m)), some (.int ((thI y 0 m) &&& kn))]) c_Y_spread_44 rfl (by decide) (Nat.le_of_ble_eq_true rfl) rfl rfl ?_
  refine PW_goto c_Y_spread_47 ?_
  refine PW_iload c_Y_spread_5 rfl ?_
  refine PW_iconst (v := 5) c_Y_spread_7 (by decide) ?_
  refine PW_icmp_ge c_Y_spread_8 (fun h1 => absurd h1 (by decide)) (fun _ => ?_)
  refine PW_aload_n c_Y_spread_11 rfl ?_
  refine PW_get (v := .ref 6) c_Y_spread_12 fl_Y_17 (gf_44_0 _ _) ?_
  refine PW_iload c_Y_spread_15 rfl ?_
  refine PW_iload_n c_Y_spread_17 rfl ?_
  refine PW_V0 (d2 := 1) (st := []) [.int 1, .int m] c_Y_spread_18 lk_Y_spread_51 (po_6 _ _) rfl rfl rfl (Nat.le_of_ble_eq_true rfl) (by first | decide | omega) (Nat.le_of_ble_eq_true rfl) ?_
  refine sp_H_whoIsIn C (by decide) hm ?_
  show PW _ _ _ 21 [some (.ref 44), some (.int kn), some (.int m), some (.int (kn ||| ((thI y 0 m) &&& ((((thI y 0 m) &&& kn) <<< (1 &&& 31)) ||| (((thI y 0 m) &&& kn) >>> (1 &&& 31)))))), some (.int 1), some (.int (thI y 0 m)), some (.int ((thI y 0 m) &&& kn))] [.int (thI y 1 m)] (E x y)
  refine PW_istore (i := 5) (L2 := [some (.ref 44), some (.int kn), some (.int m), some (.int (kn ||| ((thI y 0 m) &&& ((((thI y 0 m) &&& kn) <<< (1 &&& 31)) ||| (((thI y 0 m) &&& kn) >>> (1 &&& 31)))))), some (.int 1), some (.int (thI y 1 m)), some (.int ((thI y 0 m) &&& kn))]) c_Y_spread_21 (Nat.le_of_ble_eq_true rfl) rfl rfl ?_
  refine PW_iload c_Y_spread_23 rfl ?_
  refine PW_iload_n c_Y_spread_25 rfl ?_
  refine PW_iand c_Y_spread_26 ?_
  refine PW_istore (i := 6) (L2 := [some (.ref 44), some (.int kn), some (.int m), some (.int (kn ||| ((thI y 0 m) &&& ((((thI y 0 m) &&& kn) <<< (1 &&& 31)) ||| (((thI y 0 m) &&& kn) >>> (1 &&& 31)))))), some (.int 1), some (.int (thI y 1 m)), some (.int ((thI y 1 m) &&& kn))]) c_Y_spread_27 (Nat.le_of_ble_eq_true rfl) rfl rfl ?_
  refine PW_iload_n c_Y_spread_29 rfl ?_
  refine PW_iload c_Y_spread_30 rfl ?_
  refine PW_iload c_Y_spread_32 rfl ?_
  refine PW_iconst (v := 1) c_Y_spread_34 (by decide) ?_
  refine PW_ishl c_Y_spread_35 ?_
  refine PW_iload c_Y_spread_36 rfl ?_
  refine PW_iconst (v := 1) c_Y_spread_38 (by decide) ?_
  refine PW_ishr c_Y_spread_39 ?_
  refine PW_ior c_Y_spread_40 ?_
  refine PW_iand c_Y_spread_41 ?_
  refine PW_ior c_Y_spread_42 ?_
  refine PW_istore_n (i := 3) (L2 := [some (.ref 44), some (.int kn), some (.int m), some (.int ((kn ||| ((thI y 0 m) &&& ((((thI y 0 m) &&& kn) <<< (1 &&& 31)) ||| (((thI y 0 m) &&& kn) >>> (1 &&& 31))))) ||| ((thI y 1 m) &&& ((((thI y 1 m) &&& kn) <<< (1 &&& 31)) ||| (((thI y 1 m) &&& kn) >>> (1 &&& 31)))))), some (.int 1), some (.int (thI y 1 m)), some (.int ((thI y 1 m) &&& kn))]) c_Y_spread_43 rfl (Nat.le_of_ble_eq_true rfl) rfl rfl ?_
  refine PW_iinc (i := 4) (v := 2) (L2 := [some (.ref 44), some (.int kn), some (.int m), some (.int ((kn ||| ((thI y 0 m) &&& ((((thI y 0 m) &&& kn) <<< (1 &&& 31)) ||| (((thI y 0 m) &&& kn) >>> (1 &&& 31))))) ||| ((thI y 1 m) &&& ((((thI y 1 m) &&& kn) <<< (1 &&& 31)) ||| (((thI y 1 m) &&& kn) >>> (1 &&& 31)))))), some (.int 2), some (.int (thI y 1 m)), some (.int ((thI y 1 m) &&& kn))]) c_Y_spread_44 rfl (by decide) (Nat.le_of_ble_eq_true rfl) rfl rfl ?_
  refine PW_goto c_Y_spread_47 ?_
  refine PW_iload c_Y_spread_5 rfl ?_
  refine PW_iconst (v := 5) c_Y_spread_7 (by decide) ?_
  refine PW_icmp_ge c_Y_spread_8 (fun h2 => absurd h2 (by decide)) (fun _ => ?_)
  refine PW_aload_n c_Y_spread_11 rfl ?_
  refine PW_get (v := .ref 6) c_Y_spread_12 fl_Y_17 (gf_44_0 _ _) ?_
  refine PW_iload c_Y_spread_15 rfl ?_
  refine PW_iload_n c_Y_spread_17 rfl ?_
  refine PW_V0 (d2 := 1) (st := []) [.int 2, .int m] c_Y_spread_18 lk_Y_spread_51 (po_6 _ _) rfl rfl rfl (Nat.le_of_ble_eq_true rfl) (by first | decide | omega) (Nat.le_of_ble_eq_true rfl) ?_
  refine sp_H_whoIsIn C (by decide) hm ?_
  show PW _ _ _ 21 [some (.ref 44), some (.int kn), some (.int m), some (.int ((kn ||| ((thI y 0 m) &&& ((((thI y 0 m) &&& kn) <<< (1 &&& 31)) ||| (((thI y 0 m) &&& kn) >>> (1 &&& 31))))) ||| ((thI y 1 m) &&& ((((thI y 1 m) &&& kn) <<< (1 &&& 31)) ||| (((thI y 1 m) &&& kn) >>> (1 &&& 31)))))), some (.int 2), some (.int (thI y 1 m)), some (.int ((thI y 1 m) &&& kn))] [.int (thI y 2 m)] (E x y)
  refine PW_istore (i := 5) (L2 := [some (.ref 44), some (.int kn), some (.int m), some (.int ((kn ||| ((thI y 0 m) &&& ((((thI y 0 m) &&& kn) <<< (1 &&& 31)) ||| (((thI y 0 m) &&& kn) >>> (1 &&& 31))))) ||| ((thI y 1 m) &&& ((((thI y 1 m) &&& kn) <<< (1 &&& 31)) ||| (((thI y 1 m) &&& kn) >>> (1 &&& 31)))))), some (.int 2), some (.int (thI y 2 m)), some (.int ((thI y 1 m) &&& kn))]) c_Y_spread_21 (Nat.le_of_ble_eq_true rfl) rfl rfl ?_
  refine PW_iload c_Y_spread_23 rfl ?_
  refine PW_iload_n c_Y_spread_25 rfl ?_
  refine PW_iand c_Y_spread_26 ?_
  refine PW_istore (i := 6) (L2 := [some (.ref 44), some (.int kn), some (.int m), some (.int ((kn ||| ((thI y 0 m) &&& ((((thI y 0 m) &&& kn) <<< (1 &&& 31)) ||| (((thI y 0 m) &&& kn) >>> (1 &&& 31))))) ||| ((thI y 1 m) &&& ((((thI y 1 m) &&& kn) <<< (1 &&& 31)) ||| (((thI y 1 m) &&& kn) >>> (1 &&& 31)))))), some (.int 2), some (.int (thI y 2 m)), some (.int ((thI y 2 m) &&& kn))]) c_Y_spread_27 (Nat.le_of_ble_eq_true rfl) rfl rfl ?_
  refine PW_iload_n c_Y_spread_29 rfl ?_
  refine PW_iload c_Y_spread_30 rfl ?_
  refine PW_iload c_Y_spread_32 rfl ?_
  refine PW_iconst (v := 1) c_Y_spread_34 (by decide) ?_
  refine PW_ishl c_Y_spread_35 ?_
  refine PW_iload c_Y_spread_36 rfl ?_
  refine PW_iconst (v := 1) c_Y_spread_38 (by decide) ?_
  refine PW_ishr c_Y_spread_39 ?_
  refine PW_ior c_Y_spread_40 ?_
  refine PW_iand c_Y_spread_41 ?_
  refine PW_ior c_Y_spread_42 ?_
  refine PW_istore_n (i := 3) (L2 := [some (.ref 44), some (.int kn), some (.int m), some (.int (((kn ||| ((thI y 0 m) &&& ((((thI y 0 m) &&& kn) <<< (1 &&& 31)) ||| (((thI y 0 m) &&& kn) >>> (1 &&& 31))))) ||| ((thI y 1 m) &&& ((((thI y 1 m) &&& kn) <<< (1 &&& 31)) ||| (((thI y 1 m) &&& kn) >>> (1 &&& 31))))) ||| ((thI y 2 m) &&& ((((thI y 2 m) &&& kn) <<< (1 &&& 31)) ||| (((thI y 2 m) &&& kn) >>> (1 &&& 31)))))), some (.int 2), some (.int (thI y 2 m)), some (.int ((thI y 2 m) &&& kn))]) c_Y_spread_43 rfl (Nat.le_of_ble_eq_true rfl) rfl rfl ?_
  refine PW_iinc (i := 4) (v := 3) (L2 := [some (.ref 44), some (.int kn), some (.int m), some (.int (((kn ||| ((thI y 0 m) &&& ((((thI y 0 m) &&& kn) <<< (1 &&& 31)) ||| (((thI y 0 m) &&& kn) >>> (1 &&& 31))))) ||| ((thI y 1 m) &&& ((((thI y 1 m) &&& kn) <<< (1 &&& 31)) ||| (((thI y 1 m) &&& kn) >>> (1 &&& 31))))) ||| ((thI y 2 m) &&& ((((thI y 2 m) &&& kn) <<< (1 &&& 31)) ||| (((thI y 2 m) &&& kn) >>> (1 &&& 31)))))), some (.int 3), some (.int (thI y 2 m)), some (.int ((thI y 2 m) &&& kn))]) c_Y_spread_44 rfl (by decide) (Nat.le_of_ble_eq_true rfl) rfl rfl ?_
  refine PW_goto c_Y_spread_47 ?_
  refine PW_iload c_Y_spread_5 rfl ?_
  refine PW_iconst (v := 5) c_Y_spread_7 (by decide) ?_
  refine PW_icmp_ge c_Y_spread_8 (fun h3 => absurd h3 (by decide)) (fun _ => ?_)
  refine PW_aload_n c_Y_spread_11 rfl ?_
  refine PW_get (v := .ref 6) c_Y_spread_12 fl_Y_17 (gf_44_0 _ _) ?_
  refine PW_iload c_Y_spread_15 rfl ?_
  refine PW_iload_n c_Y_spread_17 rfl ?_
  refine PW_V0 (d2 := 1) (st := []) [.int 3, .int m] c_Y_spread_18 lk_Y_spread_51 (po_6 _ _) rfl rfl rfl (Nat.le_of_ble_eq_true rfl) (by first | decide | omega) (Nat.le_of_ble_eq_true rfl) ?_
  refine sp_H_whoIsIn C (by decide) hm ?_
  show PW _ _ _ 21 [some (.ref 44), some (.int kn), some (.int m), some (.int (((kn ||| ((thI y 0 m) &&& ((((thI y 0 m) &&& kn) <<< (1 &&& 31)) ||| (((thI y 0 m) &&& kn) >>> (1 &&& 31))))) ||| ((thI y 1 m) &&& ((((thI y 1 m) &&& kn) <<< (1 &&& 31)) ||| (((thI y 1 m) &&& kn) >>> (1 &&& 31))))) ||| ((thI y 2 m) &&& ((((thI y 2 m) &&& kn) <<< (1 &&& 31)) ||| (((thI y 2 m) &&& kn) >>> (1 &&& 31)))))), some (.int 3), some (.int (thI y 2 m)), some (.int ((thI y 2 m) &&& kn))] [.int (thI y 3 m)] (E x y)
  refine PW_istore (i := 5) (L2 := [some (.ref 44), some (.int kn), some (.int m), some (.int (((kn ||| ((thI y 0 m) &&& ((((thI y 0 m) &&& kn) <<< (1 &&& 31)) ||| (((thI y 0 m) &&& kn) >>> (1 &&& 31))))) ||| ((thI y 1 m) &&& ((((thI y 1 m) &&& kn) <<< (1 &&& 31)) ||| (((thI y 1 m) &&& kn) >>> (1 &&& 31))))) ||| ((thI y 2 m) &&& ((((thI y 2 m) &&& kn) <<< (1 &&& 31)) ||| (((thI y 2 m) &&& kn) >>> (1 &&& 31)))))), some (.int 3), some (.int (thI y 3 m)), some (.int ((thI y 2 m) &&& kn))]) c_Y_spread_21 (Nat.le_of_ble_eq_true rfl) rfl rfl ?_
  refine PW_iload c_Y_spread_23 rfl ?_
  refine PW_iload_n c_Y_spread_25 rfl ?_
  refine PW_iand c_Y_spread_26 ?_
  refine PW_istore (i := 6) (L2 := [some (.ref 44), some (.int kn), some (.int m), some (.int (((kn ||| ((thI y 0 m) &&& ((((thI y 0 m) &&& kn) <<< (1 &&& 31)) ||| (((thI y 0 m) &&& kn) >>> (1 &&& 31))))) ||| ((thI y 1 m) &&& ((((thI y 1 m) &&& kn) <<< (1 &&& 31)) ||| (((thI y 1 m) &&& kn) >>> (1 &&& 31))))) ||| ((thI y 2 m) &&& ((((thI y 2 m) &&& kn) <<< (1 &&& 31)) ||| (((thI y 2 m) &&& kn) >>> (1 &&& 31)))))), some (.int 3), some (.int (thI y 3 m)), some (.int ((thI y 3 m) &&& kn))]) c_Y_spread_27 (Nat.le_of_ble_eq_true rfl) rfl rfl ?_
  refine PW_iload_n c_Y_spread_29 rfl ?_
  refine PW_iload c_Y_spread_30 rfl ?_
  refine PW_iload c_Y_spread_32 rfl ?_
  refine PW_iconst (v := 1) c_Y_spread_34 (by decide) ?_
  refine PW_ishl c_Y_spread_35 ?_
  refine PW_iload c_Y_spread_36 rfl ?_
  refine PW_iconst (v := 1) c_Y_spread_38 (by decide) ?_
  refine PW_ishr c_Y_spread_39 ?_
  refine PW_ior c_Y_spread_40 ?_
  refine PW_iand c_Y_spread_41 ?_
  refine PW_ior c_Y_spread_42 ?_
  refine PW_istore_n (i := 3) (L2 := [some (.ref 44), some (.int kn), some (.int m), some (.int ((((kn ||| ((thI y 0 m) &&& ((((thI y 0 m) &&& kn) <<< (1 &&& 31)) ||| (((thI y 0 m) &&& kn) >>> (1 &&& 31))))) ||| ((thI y 1 m) &&& ((((thI y 1 m) &&& kn) <<< (1 &&& 31)) ||| (((thI y 1 m) &&& kn) >>> (1 &&& 31))))) ||| ((thI y 2 m) &&& ((((thI y 2 m) &&& kn) <<< (1 &&& 31)) ||| (((thI y 2 m) &&& kn) >>> (1 &&& 31))))) ||| ((thI y 3 m) &&& ((((thI y 3 m) &&& kn) <<< (1 &&& 31)) ||| (((thI y 3 m) &&& kn) >>> (1 &&& 31)))))), some (.int 3), some (.int (thI y 3 m)), some (.int ((thI y 3 m) &&& kn))]) c_Y_spread_43 rfl (Nat.le_of_ble_eq_true rfl) rfl rfl ?_
  refine PW_iinc (i := 4) (v := 4) (L2 := [some (.ref 44), some (.int kn), some (.int m), some (.int ((((kn ||| ((thI y 0 m) &&& ((((thI y 0 m) &&& kn) <<< (1 &&& 31)) ||| (((thI y 0 m) &&& kn) >>> (1 &&& 31))))) ||| ((thI y 1 m) &&& ((((thI y 1 m) &&& kn) <<< (1 &&& 31)) ||| (((thI y 1 m) &&& kn) >>> (1 &&& 31))))) ||| ((thI y 2 m) &&& ((((thI y 2 m) &&& kn) <<< (1 &&& 31)) ||| (((thI y 2 m) &&& kn) >>> (1 &&& 31))))) ||| ((thI y 3 m) &&& ((((thI y 3 m) &&& kn) <<< (1 &&& 31)) ||| (((thI y 3 m) &&& kn) >>> (1 &&& 31)))))), some (.int 4), some (.int (thI y 3 m)), some (.int ((thI y 3 m) &&& kn))]) c_Y_spread_44 rfl (by decide) (Nat.le_of_ble_eq_true rfl) rfl rfl ?_
  refine PW_goto c_Y_spread_47 ?_
  refine PW_iload c_Y_spread_5 rfl ?_
  refine PW_iconst (v := 5) c_Y_spread_7 (by decide) ?_
  refine PW_icmp_ge c_Y_spread_8 (fun h4 => absurd h4 (by decide)) (fun _ => ?_)
  refine PW_aload_n c_Y_spread_11 rfl ?_
  refine PW_get (v := .ref 6) c_Y_spread_12 fl_Y_17 (gf_44_0 _ _) ?_
  refine PW_iload c_Y_spread_15 rfl ?_
  refine PW_iload_n c_Y_spread_17 rfl ?_
  refine PW_V0 (d2 := 1) (st := []) [.int 4, .int m] c_Y_spread_18 lk_Y_spread_51 (po_6 _ _) rfl rfl rfl (Nat.le_of_ble_eq_true rfl) (by first | decide | omega) (Nat.le_of_ble_eq_true rfl) ?_
  refine sp_H_whoIsIn C (by decide) hm ?_
  show PW _ _ _ 21 [some (.ref 44), some (.int kn), some (.int m), some (.int ((((kn ||| ((thI y 0 m) &&& ((((thI y 0 m) &&& kn) <<< (1 &&& 31)) ||| (((thI y 0 m) &&& kn) >>> (1 &&& 31))))) ||| ((thI y 1 m) &&& ((((thI y 1 m) &&& kn) <<< (1 &&& 31)) ||| (((thI y 1 m) &&& kn) >>> (1 &&& 31))))) ||| ((thI y 2 m) &&& ((((thI y 2 m) &&& kn) <<< (1 &&& 31)) ||| (((thI y 2 m) &&& kn) >>> (1 &&& 31))))) ||| ((thI y 3 m) &&& ((((thI y 3 m) &&& kn) <<< (1 &&& 31)) ||| (((thI y 3 m) &&& kn) >>> (1 &&& 31)))))), some (.int 4), some (.int (thI y 3 m)), some (.int ((thI y 3 m) &&& kn))] [.int (thI y 4 m)] (E x y)
  refine PW_istore (i := 5) (L2 := [some (.ref 44), some (.int kn), some (.int m), some (.int ((((kn ||| ((thI y 0 m) &&& ((((thI y 0 m) &&& kn) <<< (1 &&& 31)) ||| (((thI y 0 m) &&& kn) >>> (1 &&& 31))))) ||| ((thI y 1 m) &&& ((((thI y 1 m) &&& kn) <<< (1 &&& 31)) ||| (((thI y 1 m) &&& kn) >>> (1 &&& 31))))) ||| ((thI y 2 m) &&& ((((thI y 2 m) &&& kn) <<< (1 &&& 31)) ||| (((thI y 2 m) &&& kn) >>> (1 &&& 31))))) ||| ((thI y 3 m) &&& ((((thI y 3 m) &&& kn) <<< (1 &&& 31)) ||| (((thI y 3 m) &&& kn) >>> (1 &&& 31)))))), some (.int 4), some (.int (thI y 4 m)), some (.int ((thI y 3 m) &&& kn))]) c_Y_spread_21 (Nat.le_of_ble_eq_true rfl) rfl rfl ?_
  refine PW_iload c_Y_spread_23 rfl ?_
  refine PW_iload_n c_Y_spread_25 rfl ?_
  refine PW_iand c_Y_spread_26 ?_
  refine PW_istore (i := 6) (L2 := [some (.ref 44), some (.int kn), some (.int m), some (.int ((((kn ||| ((thI y 0 m) &&& ((((thI y 0 m) &&& kn) <<< (1 &&& 31)) ||| (((thI y 0 m) &&& kn) >>> (1 &&& 31))))) ||| ((thI y 1 m) &&& ((((thI y 1 m) &&& kn) <<< (1 &&& 31)) ||| (((thI y 1 m) &&& kn) >>> (1 &&& 31))))) ||| ((thI y 2 m) &&& ((((thI y 2 m) &&& kn) <<< (1 &&& 31)) ||| (((thI y 2 m) &&& kn) >>> (1 &&& 31))))) ||| ((thI y 3 m) &&& ((((thI y 3 m) &&& kn) <<< (1 &&& 31)) ||| (((thI y 3 m) &&& kn) >>> (1 &&& 31)))))), some (.int 4), some (.int (thI y 4 m)), some (.int ((thI y 4 m) &&& kn))]) c_Y_spread_27 (Nat.le_of_ble_eq_true rfl) rfl rfl ?_
  refine PW_iload_n c_Y_spread_29 rfl ?_
  refine PW_iload c_Y_spread_30 rfl ?_
  refine PW_iload c_Y_spread_32 rfl ?_
  refine PW_iconst (v := 1) c_Y_spread_34 (by decide) ?_
  refine PW_ishl c_Y_spread_35 ?_
  refine PW_iload c_Y_spread_36 rfl ?_
  refine PW_iconst (v := 1) c_Y_spread_38 (by decide) ?_
  refine PW_ishr c_Y_spread_39 ?_
  refine PW_ior c_Y_spread_40 ?_
  refine PW_iand c_Y_spread_41 ?_
  refine PW_ior c_Y_spread_42 ?_
  refine PW_istore_n (i := 3) (L2 := [some (.ref 44), some (.int kn), some (.int m), some (.int (((((kn ||| ((thI y 0 m) &&& ((((thI y 0 m) &&& kn) <<< (1 &&& 31)) ||| (((thI y 0 m) &&& kn) >>> (1 &&& 31))))) ||| ((thI y 1 m) &&& ((((thI y 1 m) &&& kn) <<< (1 &&& 31)) ||| (((thI y 1 m) &&& kn) >>> (1 &&& 31))))) ||| ((thI y 2 m) &&& ((((thI y 2 m) &&& kn) <<< (1 &&& 31)) ||| (((thI y 2 m) &&& kn) >>> (1 &&& 31))))) ||| ((thI y 3 m) &&& ((((thI y 3 m) &&& kn) <<< (1 &&& 31)) ||| (((thI y 3 m) &&& kn) >>> (1 &&& 31))))) ||| ((thI y 4 m) &&& ((((thI y 4 m) &&& kn) <<< (1 &&& 31)) ||| (((thI y 4 m) &&& kn) >>> (1 &&& 31)))))), some (.int 4), some (.int (thI y 4 m)), some (.int ((thI y 4 m) &&& kn))]) c_Y_spread_43 rfl (Nat.le_of_ble_eq_true rfl) rfl rfl ?_
  refine PW_iinc (i := 4) (v := 5) (L2 := [some (.ref 44), some (.int kn), some (.int m), some (.int (((((kn ||| ((thI y 0 m) &&& ((((thI y 0 m) &&& kn) <<< (1 &&& 31)) ||| (((thI y 0 m) &&& kn) >>> (1 &&& 31))))) ||| ((thI y 1 m) &&& ((((thI y 1 m) &&& kn) <<< (1 &&& 31)) ||| (((thI y 1 m) &&& kn) >>> (1 &&& 31))))) ||| ((thI y 2 m) &&& ((((thI y 2 m) &&& kn) <<< (1 &&& 31)) ||| (((thI y 2 m) &&& kn) >>> (1 &&& 31))))) ||| ((thI y 3 m) &&& ((((thI y 3 m) &&& kn) <<< (1 &&& 31)) ||| (((thI y 3 m) &&& kn) >>> (1 &&& 31))))) ||| ((thI y 4 m) &&& ((((thI y 4 m) &&& kn) <<< (1 &&& 31)) ||| (((thI y 4 m) &&& kn) >>> (1 &&& 31)))))), some (.int 5), some (.int (thI y 4 m)), some (.int ((thI y 4 m) &&& kn))]) c_Y_spread_44 rfl (by decide) (Nat.le_of_ble_eq_true rfl) rfl rfl ?_
  refine PW_goto c_Y_spread_47 ?_
  refine PW_iload c_Y_spread_5 rfl ?_
  refine PW_iconst (v := 5) c_Y_spread_7 (by decide) ?_
  refine PW_icmp_ge c_Y_spread_8 (fun _ => ?_) (fun h5 => absurd (by decide) h5)
  refine PW_iload_n c_Y_spread_50 rfl ?_
  refine PW_ireturn (ty := .int) c_Y_spread_51 rfl rfl ?_
  exact pqi h (kw_spread C hS)
