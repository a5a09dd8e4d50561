/-! one who walks and says goodbye -/
def xS (x X : XS) : Prop := (∀ n, (n < 181 ∨ n = 219 ∨ 370 < n) → X.1 n = x.1 n) ∧ (∀ a, (a < 25 ∨ a = 28 ∨ 45 < a) → X.2.1 a = x.2.1 a) ∧ X.2.2 = x.2.2
def yS (y Y : XS) : Prop := (∀ n, (n < 578 ∨ n = 589 ∨ 608 ≤ n) → Y.1 n = y.1 n) ∧ (∀ a, (a ≤ 88 ∨ 100 ≤ a) → Y.2.1 a = y.2.1 a) ∧ Y.2.2 = y.2.2
theorem xS_0 (x : XS) : xS x x := ⟨fun _ _ => rfl, fun _ _ => rfl, rfl⟩
theorem yS_0 (y : XS) : yS y y := ⟨fun _ _ => rfl, fun _ _ => rfl, rfl⟩
theorem xS_t {x X X' : XS} (h : xS x X) (h2 : xS X X') : xS x X' := ⟨fun n q => (h2.1 n q).trans (h.1 n q), fun a q => (h2.2.1 a q).trans (h.2.1 a q), h2.2.2.trans h.2.2⟩
theorem yS_t {y Y Y' : XS} (h : yS y Y) (h2 : yS Y Y') : yS y Y' := ⟨fun n q => (h2.1 n q).trans (h.1 n q), fun a q => (h2.2.1 a q).trans (h.2.1 a q), h2.2.2.trans h.2.2⟩
theorem CPg_S {x y X Y : XS} (C : CPg x y) (hx : xS x X) (hy : yS y Y) : CPg X Y := C.cg (fun n q1 q2 => hx.1 n (by omega)) (fun a q1 q2 => hx.2.1 a (by omega)) (hy.1 561 (by omega)) (fun a q1 q2 => hy.2.1 a (by omega))
theorem law_S {T : Option Txt} {x y X Y : XS} (h : lawIs T x y) (hx : xS x X) (hy : yS y Y) : lawIs T X Y := lawIs_cg h (hx.1 180 (by omega)) (hx.2.1 23 (by omega)) (hx.2.1 24 (by omega)) (hy.1 589 (by omega)) (fun a q1 q2 => hy.2.1 a (by omega))
theorem INV_S {t : Nat} {x y X Y : XS} (hI : INV t x y) (hx : xS x X) (hy : yS y Y) : INV t X Y := by
  obtain ⟨hg, hc, ht0, hl, hd, hb, hs⟩ := id hI
  obtain ⟨a1, a2, a3⟩ := id hx
  obtain ⟨b1, b2, b3⟩ := id hy
  exact ⟨CPg_S hg hx hy, hc.cg (fun n q1 q2 => a1 n (by omega)) (fun a q1 q2 => a2 a (by omega)) (fun n q1 q2 => b1 n (by omega)) (fun a q1 q2 => b2 a (by omega)) (Nat.le_of_eq (nG_cg (b1 561 (by omega))).symm), ht0.cg (a1 219 (by omega)) (a2 28 (by omega)) (b1 577 (by omega)) (b2 83 (by omega)), hl.cg (a1 180 (by omega)) (fun a q1 q2 => a2 a (by omega)) (b1 589 (by omega)) (fun a q1 q2 => b2 a (by omega)), hd.cg (Nat.le_refl _) (fun n q1 q2 => a1 n (by omega)) (a2 47 (by omega)) (b1 608 (by omega)) (fun a q1 q2 => b2 a (by omega)), hb.cg (fun n q1 q2 => a1 n (by omega)) (fun a q1 q2 => a2 a (by omega)) (fun n q1 q2 => b1 n (by omega)) (fun a q1 q2 => b2 a (by omega)), hs.cg (fun n q1 q2 => a1 n (by omega)) (fun a q1 q2 => by rw [a3]) (by rw [b1 609 (by omega)]; exact Int.le_refl _) (fun a q1 q2 => b2 a (by omega)) (by rw [b3])⟩
/-- the guests as they are -/
def gE (y Y : XS) : Prop := Y.1 561 = y.1 561 ∧ ∀ a, 71 ≤ a → a ≤ 78 → Y.2.1 a = y.2.1 a
theorem gE_S {y Y : XS} (h : yS y Y) : gE y Y := ⟨h.1 561 (by omega), fun a q1 q2 => h.2.1 a (by omega)⟩
theorem gE_fun {y Y : XS} (h : gE y Y) : nG Y = nG y ∧ (∀ r m, thI Y r m = thI y r m) ∧ mustB Y = mustB y ∧ hostB Y = hostB y ∧ (∀ a b, wayN Y a b = wayN y a b) ∧ (∀ r m t, telF Y r m t = telF y r m t) ∧ ∀ T r m v, mnF T Y r m v = mnF T y r m v := by
  obtain ⟨h1, h2⟩ := h
  have e0 := nG_cg h1
  have e1 : ∀ r m, thI Y r m = thI y r m := fun r m => thI_cg h1 h2 r m
  have e2 : mustB Y = mustB y := by unfold mustB; rw [e0, h2 75 (by omega) (by omega)]
  have e3 : hostB Y = hostB y := by unfold hostB; rw [e0, h2 76 (by omega) (by omega)]
  have e4 : ∀ a k, sumW Y a k = sumW y a k := fun a k => by
    induction k with
    | zero => rfl
    | succ k ih => rw [sumW, sumW, ih, h2 78 (by omega) (by omega)]
  have e5 : ∀ v k, mxT Y v k = mxT y v k := fun v k => by
    induction k with
    | zero => rfl
    | succ k ih => rw [mxT, mxT, ih, h2 74 (by omega) (by omega)]
  have e6 : ∀ r m v, fcN Y r m v = fcN y r m v := fun r m v => funext fun i => by
    unfold fcN
    rw [e5, e0, e1, e3]
  refine ⟨e0, e1, e2, e3, fun a b => by unfold wayN; rw [e4, e4], fun r m t => by unfold telF; rw [e1, e2, e3], fun T r m v => ?_⟩
  unfold mnF
  cases T with
  | none => rw [e5, e0]
  | some p => rw [e6]
def frV (o : Nat) (X X' : XS) : Prop := (∀ n, n ≠ o * 8 + 2 → n ≠ o * 8 + 3 → n ≠ o * 8 + 4 → n ≠ 181 → X'.1 n = X.1 n) ∧ (∀ a, a ≠ 25 → a ≠ 26 → X'.2.1 a = X.2.1 a) ∧ X'.2.2 = X.2.2
theorem xS_frV {o : Nat} {X X' : XS} (h : frV o X X') (ho : o = 31 ∨ o = 42 ∨ o = 43) : xS X X' := ⟨fun n q => h.1 n (by omega) (by omega) (by omega) (by omega), fun a q => h.2.1 a (by omega) (by omega), h.2.2⟩
def lvS (o : Nat) (X : XS) (a : Nat) (m t : Int32) : Prop := X.1 (o * 8 + 2) = nI a ∧ X.1 (o * 8 + 3) = m ∧ X.1 (o * 8 + 4) = t
theorem or_0 (v : Int32) : v ||| 0 = v := bt_ext fun i hi => by rw [bt_or, bt_0, Bool.or_false]
theorem sp_V_tell {T : Option Txt} {X y : XS} {o a : Nat} {m t e : Int32} (hLV : LV o) (C : CPg X y) (hT : lawIs T X y) (s : lvS o X a m t) (ha : a < 5) (hm : 0 ≤ m.toInt) : ∃ X' : XS, lvS o X' a (m + mnF T y (nI a) m (telF y (nI a) m (t ||| e))) (t ||| (telF y (nI a) m (t ||| e))) ∧ frV o X X' ∧ ∀ {z : ZS} {post : Option Value → List PE → Prop}, post (some (.int (telF y (nI a) m (t ||| e)))) (E X' y) → PW (4, 0, 0, z) m_V_tell post 0 [some (.ref o), some (.int e), none] [] (E X y) := by
  have hr : 0 ≤ (nI a).toInt ∧ (nI a).toInt < 5 := by rw [nI_toInt (by omega)]; omega
  have ho : o = 31 ∨ o = 42 ∨ o = 43 ∨ o = 48 := hLV
  obtain ⟨X1, ⟨c1, c2, c3⟩, H⟩ := sp_L_minutes (r := nI a) (m := m) (v := telF y (nI a) m (t ||| e)) C hr hm (S10_telF C.1.2) hT
  refine ⟨sI (sI X1 (o * 8 + 3) (m + mnF T y (nI a) m (telF y (nI a) m (t ||| e)))) (o * 8 + 4) (t ||| (telF y (nI a) m (t ||| e))), ⟨?_, ?_, ?_⟩, ⟨fun n h2 h3 h4 h5 => ?_, fun q h1 h2 => ?_, ?_⟩, fun {z post} h => ?_⟩
  · rw [sI_n (by omega), sI_n (by omega), c1 _ (by omega)]; exact s.1
  · rw [sI_n (by omega), sI_s]
  · rw [sI_s]
  · rw [sI_n h4, sI_n h3, c1 n h5]
  · rw [sI_A, sI_A]; exact c2 q h1 h2
  · exact c3
  refine PW_aload_n c_V_tell_0 rfl ?_
  refine PW_get (v := .ref 6) c_V_tell_1 fl_V_9 (lv_g0 _ _ hLV) ?_
  refine PW_aload_n c_V_tell_4 rfl ?_
  refine PW_get (v := .int (X.1 (o * 8 + 2))) c_V_tell_5 fl_V_23 (lv_g2 _ _ hLV) ?_
  rw [s.1]
  show PW _ _ _ 8 [some (.ref o), some (.int e), none] [.int (nI a), .ref 6] (E X y)
  refine PW_aload_n c_V_tell_8 rfl ?_
  refine PW_get (v := .int (X.1 (o * 8 + 3))) c_V_tell_9 fl_V_27 (lv_g3 _ _ hLV) ?_
  rw [s.2.1]
  show PW _ _ _ 12 [some (.ref o), some (.int e), none] [.int m, .int (nI a), .ref 6] (E X y)
  refine PW_aload_n c_V_tell_12 rfl ?_
  refine PW_get (v := .int (X.1 (o * 8 + 4))) c_V_tell_13 fl_V_30 (lv_g4 _ _ hLV) ?_
  rw [s.2.2]
  show PW _ _ _ 16 [some (.ref o), some (.int e), none] [.int t, .int m, .int (nI a), .ref 6] (E X y)
  refine PW_iload_n c_V_tell_16 rfl ?_
  refine PW_ior c_V_tell_17 ?_
  refine PW_V0 (d2 := 2) (st := []) [.int (nI a), .int m, .int (t ||| e)] c_V_tell_18 lk_V_tell_43 (po_6 _ _) rfl rfl rfl (Nat.le_of_ble_eq_true rfl) (by first | decide | omega) (Nat.le_of_ble_eq_true rfl) ?_
  refine sp_H_whomToTell C hr hm ?_
  show PW _ _ _ 21 [some (.ref o), some (.int e), none] [.int (telF y (nI a) m (t ||| e))] (E X y)
  refine PW_istore_n (i := 2) (L2 := [some (.ref o), some (.int e), some (.int (telF y (nI a) m (t ||| e)))]) c_V_tell_21 rfl (Nat.le_of_ble_eq_true rfl) rfl rfl ?_
  refine PW_aload_n c_V_tell_22 rfl ?_
  refine PW_dup c_V_tell_23 rfl ?_
  refine PW_get (v := .int (X.1 (o * 8 + 3))) c_V_tell_24 fl_V_27 (lv_g3 _ _ hLV) ?_
  rw [s.2.1]
  show PW _ _ _ 27 [some (.ref o), some (.int e), some (.int (telF y (nI a) m (t ||| e)))] [.int m, .ref o] (E X y)
  refine PW_aload_n c_V_tell_27 rfl ?_
  refine PW_get (v := .ref 22) c_V_tell_28 fl_V_15 (lv_g1 _ _ hLV) ?_
  refine PW_aload_n c_V_tell_31 rfl ?_
  refine PW_get (v := .ref 6) c_V_tell_32 fl_V_9 (lv_g0 _ _ hLV) ?_
  refine PW_aload_n c_V_tell_35 rfl ?_
  refine PW_get (v := .int (X.1 (o * 8 + 2))) c_V_tell_36 fl_V_23 (lv_g2 _ _ hLV) ?_
  rw [s.1]
  show PW _ _ _ 39 [some (.ref o), some (.int e), some (.int (telF y (nI a) m (t ||| e)))] [.int (nI a), .ref 6, .ref 22, .int m, .ref o] (E X y)
  refine PW_aload_n c_V_tell_39 rfl ?_
  refine PW_get (v := .int (X.1 (o * 8 + 3))) c_V_tell_40 fl_V_27 (lv_g3 _ _ hLV) ?_
  rw [s.2.1]
  show PW _ _ _ 43 [some (.ref o), some (.int e), some (.int (telF y (nI a) m (t ||| e)))] [.int m, .int (nI a), .ref 6, .ref 22, .int m, .ref o] (E X y)
  refine PW_iload_n c_V_tell_43 rfl ?_
  refine PW_V0 (d2 := 3) (st := [.int m, .ref o]) [.ref 6, .int (nI a), .int m, .int (telF y (nI a) m (t ||| e))] c_V_tell_44 lk_V_tell_47 (po_22 _ _) rfl rfl rfl (Nat.le_of_ble_eq_true rfl) (by first | decide | omega) (Nat.le_of_ble_eq_true rfl) ?_
  refine H ?_
  show PW _ _ _ 47 [some (.ref o), some (.int e), some (.int (telF y (nI a) m (t ||| e)))] [.int (mnF T y (nI a) m (telF y (nI a) m (t ||| e))), .int m, .ref o] (E X1 y)
  refine PW_iadd c_V_tell_47 ?_
  refine PW_put (w2 := E (sI X1 (o * 8 + 3) (m + (mnF T y (nI a) m (telF y (nI a) m (t ||| e))))) y) c_V_tell_48 fp_V_tell_27 rfl (lv_p3 _ _ hLV _) ?_
  refine PW_aload_n c_V_tell_51 rfl ?_
  refine PW_dup c_V_tell_52 rfl ?_
  refine PW_get (v := .int ((sI X1 (o * 8 + 3) (m + (mnF T y (nI a) m (telF y (nI a) m (t ||| e))))).1 (o * 8 + 4))) c_V_tell_53 fl_V_30 (lv_g4 _ _ hLV) ?_
  rw [show (sI X1 (o * 8 + 3) (m + (mnF T y (nI a) m (telF y (nI a) m (t ||| e))))).1 (o * 8 + 4) = t by rw [sI_n (by omega), c1 _ (by omega)]; exact s.2.2]
  show PW _ _ _ 56 [some (.ref o), some (.int e), some (.int (telF y (nI a) m (t ||| e)))] [.int t, .ref o] (E (sI X1 (o * 8 + 3) (m + (mnF T y (nI a) m (telF y (nI a) m (t ||| e))))) y)
  refine PW_iload_n c_V_tell_56 rfl ?_
  refine PW_ior c_V_tell_57 ?_
  refine PW_put (w2 := E (sI (sI X1 (o * 8 + 3) (m + (mnF T y (nI a) m (telF y (nI a) m (t ||| e))))) (o * 8 + 4) (t ||| (telF y (nI a) m (t ||| e)))) y) c_V_tell_58 fp_V_tell_30 rfl (lv_p4 _ _ hLV _) ?_
  refine PW_iload_n c_V_tell_61 rfl ?_
  refine PW_ireturn (ty := .int) c_V_tell_62 rfl rfl ?_
  exact h
theorem sp_V_walkTo {z : ZS} {post : Option Value → List PE → Prop} {X y : XS} {o a b : Nat} {m t : Int32} (hLV : LV o) (C : CPg X y) (s : lvS o X a m t) (ha : a < 5) (hb : b < 5) (h : post none (E (sI (sI X (o * 8 + 3) (m + wayN y a b)) (o * 8 + 2) (nI b)) y)) : PW (3, 0, 0, z) m_V_walkTo post 0 [some (.ref o), some (.int (nI b))] [] (E X y) := by
  refine PW_aload_n c_V_walkTo_0 rfl ?_
  refine PW_aload_n c_V_walkTo_1 rfl ?_
  refine PW_iload_n c_V_walkTo_2 rfl ?_
  refine PW_V0 (d2 := 2) (st := [.ref o]) [.int (nI b)] c_V_walkTo_3 lk_V_walkTo_39 (lv_po _ _ hLV) rfl rfl rfl (Nat.le_of_ble_eq_true rfl) (by first | decide | omega) (Nat.le_of_ble_eq_true rfl) ?_
  show PW _ _ _ 0 [some (.ref o), some (.int (nI b))] [] (E X y)
  refine PW_aload_n c_V_arrival_0 rfl ?_
  refine PW_get (v := .int (X.1 (o * 8 + 3))) c_V_arrival_1 fl_V_27 (lv_g3 _ _ hLV) ?_
  rw [s.2.1]
  show PW _ _ _ 4 [some (.ref o), some (.int (nI b))] [.int m] (E X y)
  refine PW_aload_n c_V_arrival_4 rfl ?_
  refine PW_get (v := .ref 6) c_V_arrival_5 fl_V_9 (lv_g0 _ _ hLV) ?_
  refine PW_aload_n c_V_arrival_8 rfl ?_
  refine PW_get (v := .int (X.1 (o * 8 + 2))) c_V_arrival_9 fl_V_23 (lv_g2 _ _ hLV) ?_
  refine PW_iload_n c_V_arrival_12 rfl ?_
  refine PW_V0 (d2 := 1) (st := [.int m]) [.int (X.1 (o * 8 + 2)), .int (nI b)] c_V_arrival_13 lk_V_arrival_33 (po_6 _ _) rfl rfl rfl (Nat.le_of_ble_eq_true rfl) (by first | decide | omega) (Nat.le_of_ble_eq_true rfl) ?_
  refine sp_H_wayBetween C s.1 rfl ha hb ?_
  show PW _ _ _ 16 [some (.ref o), some (.int (nI b))] [.int (wayN y a b), .int m] (E X y)
  refine PW_iadd c_V_arrival_16 ?_
  refine PW_ireturn (ty := .int) c_V_arrival_17 rfl rfl ?_
  show PW _ _ _ 6 [some (.ref o), some (.int (nI b))] [.int (m + (wayN y a b)), .ref o] (E X y)
  refine PW_put (w2 := E (sI X (o * 8 + 3) (m + (wayN y a b))) y) c_V_walkTo_6 fp_V_walkTo_27 rfl (lv_p3 _ _ hLV _) ?_
  refine PW_aload_n c_V_walkTo_9 rfl ?_
  refine PW_iload_n c_V_walkTo_10 rfl ?_
  refine PW_put (w2 := E (sI (sI X (o * 8 + 3) (m + (wayN y a b))) (o * 8 + 2) (nI b)) y) c_V_walkTo_11 fp_V_walkTo_23 rfl (lv_p2 _ _ hLV _) ?_
  refine PW_vreturn c_V_walkTo_14 rfl ?_
  exact h
theorem sp_V_home {z : ZS} {post : Option Value → List PE → Prop} {X y : XS} {o a : Nat} {m t : Int32} (hLV : LV o) (C : CPg X y) (s : lvS o X a m t) (ha : a < 5) (h : post (some (.int (m + wayN y a 0))) (E X y)) : PW (3, 0, 0, z) m_V_home post 0 [some (.ref o)] [] (E X y) := by
  refine PW_aload_n c_V_home_0 rfl ?_
  refine PW_iconst (v := 0) c_V_home_1 (by decide) ?_
  refine PW_V0 (d2 := 2) (st := []) [.int 0] c_V_home_2 lk_V_home_39 (lv_po _ _ hLV) rfl rfl rfl (Nat.le_of_ble_eq_true rfl) (by first | decide | omega) (Nat.le_of_ble_eq_true rfl) ?_
  show PW _ _ _ 0 [some (.ref o), some (.int 0)] [] (E X y)
  refine PW_aload_n c_V_arrival_0 rfl ?_
  refine PW_get (v := .int (X.1 (o * 8 + 3))) c_V_arrival_1 fl_V_27 (lv_g3 _ _ hLV) ?_
  rw [s.2.1]
  show PW _ _ _ 4 [some (.ref o), some (.int 0)] [.int m] (E X y)
  refine PW_aload_n c_V_arrival_4 rfl ?_
  refine PW_get (v := .ref 6) c_V_arrival_5 fl_V_9 (lv_g0 _ _ hLV) ?_
  refine PW_aload_n c_V_arrival_8 rfl ?_
  refine PW_get (v := .int (X.1 (o * 8 + 2))) c_V_arrival_9 fl_V_23 (lv_g2 _ _ hLV) ?_
  refine PW_iload_n c_V_arrival_12 rfl ?_
  refine PW_V0 (d2 := 1) (st := [.int m]) [.int (X.1 (o * 8 + 2)), .int 0] c_V_arrival_13 lk_V_arrival_33 (po_6 _ _) rfl rfl rfl (Nat.le_of_ble_eq_true rfl) (by first | decide | omega) (Nat.le_of_ble_eq_true rfl) ?_
  refine sp_H_wayBetween (b := 0) C s.1 rfl ha (by decide) ?_
  show PW _ _ _ 16 [some (.ref o), some (.int 0)] [.int (wayN y a 0), .int m] (E X y)
  refine PW_iadd c_V_arrival_16 ?_
  refine PW_ireturn (ty := .int) c_V_arrival_17 rfl rfl ?_
  show PW _ _ _ 5 [some (.ref o)] [.int (m + (wayN y a 0))] (E X y)
  refine PW_ireturn (ty := .int) c_V_home_5 rfl rfl ?_
  exact h
theorem sp_V_arrival {z : ZS} {post : Option Value → List PE → Prop} {X y : XS} {o a b : Nat} {m t : Int32} (hLV : LV o) (C : CPg X y) (s : lvS o X a m t) (ha : a < 5) (hb : b < 5) (h : post (some (.int (m + wayN y a b))) (E X y)) : PW (2, 0, 0, z) m_V_arrival post 0 [some (.ref o), some (.int (nI b))] [] (E X y) := by
  refine PW_aload_n c_V_arrival_0 rfl ?_
  refine PW_get (v := .int (X.1 (o * 8 + 3))) c_V_arrival_1 fl_V_27 (lv_g3 _ _ hLV) ?_
  rw [s.2.1]
  show PW _ _ _ 4 [some (.ref o), some (.int (nI b))] [.int m] (E X y)
  refine PW_aload_n c_V_arrival_4 rfl ?_
  refine PW_get (v := .ref 6) c_V_arrival_5 fl_V_9 (lv_g0 _ _ hLV) ?_
  refine PW_aload_n c_V_arrival_8 rfl ?_
  refine PW_get (v := .int (X.1 (o * 8 + 2))) c_V_arrival_9 fl_V_23 (lv_g2 _ _ hLV) ?_
  refine PW_iload_n c_V_arrival_12 rfl ?_
  refine PW_V0 (d2 := 1) (st := [.int m]) [.int (X.1 (o * 8 + 2)), .int (nI b)] c_V_arrival_13 lk_V_arrival_33 (po_6 _ _) rfl rfl rfl (Nat.le_of_ble_eq_true rfl) (by first | decide | omega) (Nat.le_of_ble_eq_true rfl) ?_
  refine sp_H_wayBetween C s.1 rfl ha hb ?_
  show PW _ _ _ 16 [some (.ref o), some (.int (nI b))] [.int (wayN y a b), .int m] (E X y)
  refine PW_iadd c_V_arrival_16 ?_
  refine PW_ireturn (ty := .int) c_V_arrival_17 rfl rfl ?_
  exact h
theorem lvS_walk {X : XS} {o a b : Nat} {m m2 t : Int32} (s : lvS o X a m t) : lvS o (sI (sI X (o * 8 + 3) m2) (o * 8 + 2) (nI b)) b m2 t ∧ frV o X (sI (sI X (o * 8 + 3) m2) (o * 8 + 2) (nI b)) := by
  refine ⟨⟨sI_s, ?_, ?_⟩, fun n h2 h3 h4 h5 => ?_, fun q h1 h2 => rfl, rfl⟩
  · rw [sI_n (by omega), sI_s]
  · rw [sI_n (by omega), sI_n (by omega)]; exact s.2.2
  · rw [sI_n h2, sI_n h3]
theorem lvS_begin {X : XS} {o a : Nat} {m t : Int32} : lvS o (sI (sI (sI X (o * 8 + 2) (nI a)) (o * 8 + 3) m) (o * 8 + 4) t) a m t ∧ frV o X (sI (sI (sI X (o * 8 + 2) (nI a)) (o * 8 + 3) m) (o * 8 + 4) t) := by
  refine ⟨⟨?_, ?_, sI_s⟩, fun n h2 h3 h4 h5 => ?_, fun q h1 h2 => rfl, rfl⟩
  · rw [sI_n (by omega), sI_n (by omega), sI_s]
  · rw [sI_n (by omega), sI_s]
  · rw [sI_n h4, sI_n h3, sI_n h2]
def frG (Y Y' : XS) : Prop := (∀ n, n ≠ 590 → n ≠ 591 → n ≠ 592 → Y'.1 n = Y.1 n) ∧ (∀ a, a ≠ 89 → a ≠ 90 → Y'.2.1 a = Y.2.1 a) ∧ Y'.2.2 = Y.2.2
theorem yS_frG {Y Y' : XS} (h : frG Y Y') : yS Y Y' := ⟨fun n q => h.1 n (by omega) (by omega) (by omega), fun a q => h.2.1 a (by omega) (by omega), h.2.2⟩
def roS (Y : XS) (a : Nat) (m t : Int32) : Prop := Y.1 590 = nI a ∧ Y.1 591 = m ∧ Y.1 592 = t
theorem sp_M_goTo {T : Option Txt} {x x0 Y : XS} {a b : Nat} {m t : Int32} (hW : WG Y) (hT : lawIs T x0 Y) (s : roS Y a m t) (ha : a < 5) (hb : b < 5) : ∃ Y' : XS, roS Y' b (m + wayN Y a b + mnF T Y (nI b) (m + wayN Y a b) (telF Y (nI b) (m + wayN Y a b) t)) (t ||| (telF Y (nI b) (m + wayN Y a b) t)) ∧ frG Y Y' ∧ ∀ {z : ZS} {post : Option Value → List PE → Prop}, post none (E x Y') → PW (4, 0, 0, z) m_M_goTo post 0 [some (.ref 70), some (.int (nI b)), none] [] (E x Y) := by
  obtain ⟨Y1, ⟨c1, c2, c3⟩, H⟩ := sp_M_takes1 (T := T) (x0 := x0) (y := sI (sI Y 591 (m + wayN Y a b)) 590 (nI b)) (r := nI b) (m := m + wayN Y a b) (v := telF Y (nI b) (m + wayN Y a b) t) hW (S10_telF hW.2) (lawIs_cg hT rfl rfl rfl rfl (fun _ _ _ => rfl))
  have eg : gE Y (sI (sI Y 591 (m + wayN Y a b)) 590 (nI b)) := ⟨rfl, fun _ _ _ => rfl⟩
  rw [(gE_fun eg).2.2.2.2.2.2] at H
  refine ⟨sI (sI Y1 591 (m + wayN Y a b + mnF T Y (nI b) (m + wayN Y a b) (telF Y (nI b) (m + wayN Y a b) t))) 592 (t ||| (telF Y (nI b) (m + wayN Y a b) t)), ⟨?_, ?_, ?_⟩, ⟨fun n h2 h3 h4 => ?_, fun q h1 h2 => ?_, ?_⟩, fun {z post} h => ?_⟩
  · rw [sI_n (by decide), sI_n (by decide), c1]; exact sI_s
  · rw [sI_n (by decide), sI_s]
  · rw [sI_s]
  · rw [sI_n h4, sI_n h3, c1, sI_n h2, sI_n h3]
  · rw [sI_A, sI_A]; exact c2 q h1 h2
  · exact c3
  refine PW_aload_n c_M_goTo_0 rfl ?_
  refine PW_dup c_M_goTo_1 rfl ?_
  refine PW_get (v := .int (Y.1 591)) c_M_goTo_2 fl_M_268 (gf_70_31 _ _) ?_
  rw [s.2.1]
  show PW _ _ _ 5 [some (.ref 70), some (.int (nI b)), none] [.int m, .ref 70] (E x Y)
  refine PW_aload_n c_M_goTo_5 rfl ?_
  refine PW_aload_n c_M_goTo_6 rfl ?_
  refine PW_get (v := .int (Y.1 590)) c_M_goTo_7 fl_M_265 (gf_70_30 _ _) ?_
  refine PW_iload_n c_M_goTo_10 rfl ?_
  refine PW_V0 (d2 := 0) (st := [.int m, .ref 70]) [.int (Y.1 590), .int (nI b)] c_M_goTo_11 lk_M_goTo_274 (po_70 _ _) rfl rfl rfl (Nat.le_of_ble_eq_true rfl) (by first | decide | omega) (Nat.le_of_ble_eq_true rfl) ?_
  refine sp_M_wayOf s.1 rfl ha hb ?_
  show PW _ _ _ 14 [some (.ref 70), some (.int (nI b)), none] [.int (wayN Y a b), .int m, .ref 70] (E x Y)
  refine PW_iadd c_M_goTo_14 ?_
  refine PW_put (w2 := E x (sI Y 591 (m + (wayN Y a b)))) c_M_goTo_15 fp_M_goTo_268 rfl (pf_70_31 _ _ _) ?_
  refine PW_aload_n c_M_goTo_18 rfl ?_
  refine PW_iload_n c_M_goTo_19 rfl ?_
  refine PW_put (w2 := E x (sI (sI Y 591 (m + (wayN Y a b))) 590 (nI b))) c_M_goTo_20 fp_M_goTo_265 rfl (pf_70_30 _ _ _) ?_
  refine PW_aload_n c_M_goTo_23 rfl ?_
  refine PW_iload_n c_M_goTo_24 rfl ?_
  refine PW_aload_n c_M_goTo_25 rfl ?_
  refine PW_get (v := .int (m + (wayN Y a b))) c_M_goTo_26 fl_M_268 (gf_70_31 _ _) ?_
  refine PW_aload_n c_M_goTo_29 rfl ?_
  refine PW_get (v := .int (Y.1 592)) c_M_goTo_30 fl_M_271 (gf_70_32 _ _) ?_
  rw [s.2.2]
  show PW _ _ _ 33 [some (.ref 70), some (.int (nI b)), none] [.int t, .int (m + (wayN Y a b)), .int (nI b), .ref 70] (E x (sI (sI Y 591 (m + (wayN Y a b))) 590 (nI b)))
  refine PW_V0 (d2 := 2) (st := []) [.int (nI b), .int (m + (wayN Y a b)), .int t] c_M_goTo_33 lk_M_goTo_277 (po_70 _ _) rfl rfl rfl (Nat.le_of_ble_eq_true rfl) (by first | decide | omega) (Nat.le_of_ble_eq_true rfl) ?_
  refine sp_M_tells1 hW ?_
  show PW _ _ _ 36 [some (.ref 70), some (.int (nI b)), none] [.int (telF (sI (sI Y 591 (m + (wayN Y a b))) 590 (nI b)) (nI b) (m + (wayN Y a b)) t)] (E x (sI (sI Y 591 (m + (wayN Y a b))) 590 (nI b)))
  show PW _ _ _ 36 [some (.ref 70), some (.int (nI b)), none] [.int (telF Y (nI b) (m + wayN Y a b) t)] (E x (sI (sI Y 591 (m + (wayN Y a b))) 590 (nI b)))
  refine PW_istore_n (i := 2) (L2 := [some (.ref 70), some (.int (nI b)), some (.int (telF Y (nI b) (m + wayN Y a b) t))]) c_M_goTo_36 rfl (Nat.le_of_ble_eq_true rfl) rfl rfl ?_
  refine PW_aload_n c_M_goTo_37 rfl ?_
  refine PW_dup c_M_goTo_38 rfl ?_
  refine PW_get (v := .int (m + (wayN Y a b))) c_M_goTo_39 fl_M_268 (gf_70_31 _ _) ?_
  refine PW_aload_n c_M_goTo_42 rfl ?_
  refine PW_iload_n c_M_goTo_43 rfl ?_
  refine PW_aload_n c_M_goTo_44 rfl ?_
  refine PW_get (v := .int (m + (wayN Y a b))) c_M_goTo_45 fl_M_268 (gf_70_31 _ _) ?_
  refine PW_iload_n c_M_goTo_48 rfl ?_
  refine PW_V0 (d2 := 3) (st := [.int (m + (wayN Y a b)), .ref 70]) [.int (nI b), .int (m + (wayN Y a b)), .int (telF Y (nI b) (m + wayN Y a b) t)] c_M_goTo_49 lk_M_goTo_280 (po_70 _ _) rfl rfl rfl (Nat.le_of_ble_eq_true rfl) (by first | decide | omega) (Nat.le_of_ble_eq_true rfl) ?_
  refine H ?_
  show PW _ _ _ 52 [some (.ref 70), some (.int (nI b)), some (.int (telF Y (nI b) (m + wayN Y a b) t))] [.int (mnF T Y (nI b) (m + wayN Y a b) (telF Y (nI b) (m + wayN Y a b) t)), .int (m + (wayN Y a b)), .ref 70] (E x Y1)
  refine PW_iadd c_M_goTo_52 ?_
  refine PW_put (w2 := E x (sI Y1 591 ((m + (wayN Y a b)) + (mnF T Y (nI b) (m + wayN Y a b) (telF Y (nI b) (m + wayN Y a b) t))))) c_M_goTo_53 fp_M_goTo_268 rfl (pf_70_31 _ _ _) ?_
  refine PW_aload_n c_M_goTo_56 rfl ?_
  refine PW_dup c_M_goTo_57 rfl ?_
  refine PW_get (v := .int (Y1.1 592)) c_M_goTo_58 fl_M_271 (gf_70_32 _ _) ?_
  rw [show Y1.1 592 = t by rw [c1]; exact s.2.2]
  show PW _ _ _ 61 [some (.ref 70), some (.int (nI b)), some (.int (telF Y (nI b) (m + wayN Y a b) t))] [.int t, .ref 70] (E x (sI Y1 591 ((m + (wayN Y a b)) + (mnF T Y (nI b) (m + wayN Y a b) (telF Y (nI b) (m + wayN Y a b) t)))))
  refine PW_iload_n c_M_goTo_61 rfl ?_
  refine PW_ior c_M_goTo_62 ?_
  refine PW_put (w2 := E x (sI (sI Y1 591 ((m + (wayN Y a b)) + (mnF T Y (nI b) (m + wayN Y a b) (telF Y (nI b) (m + wayN Y a b) t)))) 592 (t ||| (telF Y (nI b) (m + wayN Y a b) t)))) c_M_goTo_63 fp_M_goTo_271 rfl (pf_70_32 _ _ _) ?_
  refine PW_vreturn c_M_goTo_66 rfl ?_
  exact h
theorem sp_M_home {z : ZS} {post : Option Value → List PE → Prop} {x Y : XS} {a : Nat} {m t : Int32} (s : roS Y a m t) (ha : a < 5) (h : post (some (.int (m + wayN Y a 0))) (E x Y)) : PW (1, 0, 0, z) m_M_home post 0 [some (.ref 70)] [] (E x Y) := by
  refine PW_aload_n c_M_home_0 rfl ?_
  refine PW_get (v := .int (Y.1 591)) c_M_home_1 fl_M_268 (gf_70_31 _ _) ?_
  rw [s.2.1]
  show PW _ _ _ 4 [some (.ref 70)] [.int m] (E x Y)
  refine PW_aload_n c_M_home_4 rfl ?_
  refine PW_aload_n c_M_home_5 rfl ?_
  refine PW_get (v := .int (Y.1 590)) c_M_home_6 fl_M_265 (gf_70_30 _ _) ?_
  refine PW_iconst (v := 0) c_M_home_9 (by decide) ?_
  refine PW_V0 (d2 := 0) (st := [.int m]) [.int (Y.1 590), .int 0] c_M_home_10 lk_M_home_274 (po_70 _ _) rfl rfl rfl (Nat.le_of_ble_eq_true rfl) (by first | decide | omega) (Nat.le_of_ble_eq_true rfl) ?_
  refine sp_M_wayOf (b := 0) s.1 rfl ha (by decide) ?_
  show PW _ _ _ 13 [some (.ref 70)] [.int (wayN Y a 0), .int m] (E x Y)
  refine PW_iadd c_M_home_13 ?_
  refine PW_ireturn (ty := .int) c_M_home_14 rfl rfl ?_
  exact h
