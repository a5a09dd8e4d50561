/-! guests come, facts are set -/
def wb (v : Int32) (g : Nat) (b : Bool) : Int32 := if b = true then v ||| (1 <<< (nI g &&& 31)) else v &&& ((1 <<< (nI g &&& 31)) ^^^ -1)
theorem bt_wb {v : Int32} {g i : Nat} {b : Bool} (hg : g < 10) (hi : i < 32) : bt (wb v g b) i = if i = g then b else bt v i := by
  unfold wb
  cases b
  · rw [if_neg (by decide), bt_and, bt_com _ hi, bt_sh hg hi]
    by_cases q : i = g
    · rw [if_pos q, decide_eq_true q]; cases bt v i <;> rfl
    · rw [if_neg q, decide_eq_false q]; cases bt v i <;> rfl
  · rw [if_pos rfl, bt_or, bt_sh hg hi]
    by_cases q : i = g
    · rw [if_pos q, decide_eq_true q]; cases bt v i <;> rfl
    · rw [if_neg q, decide_eq_false q]; cases bt v i <;> rfl
theorem wb_wb {v : Int32} {g : Nat} {b c : Bool} (hg : g < 10) : wb (wb v g b) g c = wb v g c := bt_ext fun i hi => by
  rw [bt_wb hg hi, bt_wb hg hi, bt_wb hg hi]
  by_cases q : i = g
  · rw [if_pos q, if_pos q]
  · rw [if_neg q, if_neg q, if_neg q]
theorem wb_bitsT {p : Nat → Bool} {n g : Nat} {b : Bool} (hn : n ≤ 10) (hg : g < n) : wb (bitsT p n) g b = bitsT (fun i => if i = g then b else p i) n := bt_ext fun i hi => by
  rw [bt_wb (by omega) hi, bt_bitsT n hn hi, bt_bitsT n hn hi]
  by_cases q : i = g
  · rw [if_pos q, q, decide_eq_true hg]; simp
  · rw [if_neg q]; simp [q]
theorem wb_new {p : Nat → Bool} {n : Nat} {b : Bool} (hn : n < 10) (hp : p n = b) : wb (bitsT p n) n b = bitsT p (n + 1) := bt_ext fun i hi => by
  rw [bt_wb hn hi, bt_bitsT n (by omega) hi, bt_bitsT (n + 1) (by omega) hi]
  by_cases q : i = n
  · rw [if_pos q, q, decide_eq_true (Nat.lt_succ_self n), hp]; simp
  · rw [if_neg q]
    congr 1
    exact decide_eq_decide.mpr (by omega)
theorem wb_orS {f : Nat → Int32} {n g : Nat} {v : Int32} (hn : n ≤ 10) (hg : g < n) (hf : ∀ k, k < n → f k = 0 ∨ f k = 1) (hv : v = 0 ∨ v = 1) : wb (orS f n) g (decide (v = 1)) = orS (upd f g v) n := bt_ext fun i hi => by
  rw [bt_wb (by omega) hi, bt_orS n hn hi hf, bt_orS n hn hi (fun k hk => by
    by_cases q : k = g
    · rw [q, upd_s]; exact hv
    · rw [upd_n q]; exact hf k hk)]
  by_cases q : i = g
  · rw [if_pos q, q, upd_s, decide_eq_true hg, Bool.true_and]
  · rw [if_neg q, upd_n q]
def rX (x : XS) (g : Nat) (m : Int32) : Int32 := if m < x.2.1 10 g then x.2.1 8 g else x.2.1 9 g
/-- the table of who is in, as minute k and room r are come to -/
def seK (x : XS) (g k r : Nat) : XS := (x.1, fun a => if 17 ≤ a ∧ a < 22 then (fun m => if m < k ∨ (m = k ∧ a < 17 + r) then wb (x.2.1 a m) g (decide (rX x g (nI m) = nI (a - 17))) else x.2.1 a m) else x.2.1 a, x.2.2)
theorem seK_0 (x : XS) (g : Nat) : seK x g 0 0 = x := by
  refine Prod.ext rfl (Prod.ext (funext fun a => ?_) rfl)
  show (if 17 ≤ a ∧ a < 22 then _ else x.2.1 a) = x.2.1 a
  by_cases h : 17 ≤ a ∧ a < 22
  · rw [if_pos h]
    exact funext fun m => if_neg (by omega)
  · rw [if_neg h]
theorem seK_5 (x : XS) (g k : Nat) : seK x g k 5 = seK x g (k + 1) 0 := by
  refine Prod.ext rfl (Prod.ext (funext fun a => ?_) rfl)
  show (if 17 ≤ a ∧ a < 22 then (fun m => if m < k ∨ (m = k ∧ a < 17 + 5) then _ else x.2.1 a m) else x.2.1 a) = (if 17 ≤ a ∧ a < 22 then (fun m => if m < k + 1 ∨ (m = k + 1 ∧ a < 17 + 0) then _ else x.2.1 a m) else x.2.1 a)
  by_cases h : 17 ≤ a ∧ a < 22
  · rw [if_pos h, if_pos h]
    refine funext fun m => ?_
    by_cases q : m < k + 1
    · rw [if_pos (by omega), if_pos (by omega)]
    · rw [if_neg (by omega), if_neg (by omega)]
  · rw [if_neg h, if_neg h]
theorem seK_row {x : XS} {g k r : Nat} (hr : r < 5) (m : Nat) : (seK x g k r).2.1 (17 + r) m = if m < k then wb (x.2.1 (17 + r) m) g (decide (rX x g (nI m) = nI r)) else x.2.1 (17 + r) m := by
  show (if 17 ≤ 17 + r ∧ 17 + r < 22 then (fun m => if m < k ∨ (m = k ∧ 17 + r < 17 + r) then wb (x.2.1 (17 + r) m) g (decide (rX x g (nI m) = nI (17 + r - 17))) else x.2.1 (17 + r) m) else x.2.1 (17 + r)) m = _
  rw [if_pos (by omega), show 17 + r - 17 = r by omega]
  by_cases q : m < k
  · rw [if_pos (Or.inl q), if_pos q]
  · rw [if_neg (by omega), if_neg q]
theorem seK_s {x : XS} {g k r : Nat} (hr : r < 5) : sA (seK x g k r) (17 + r) (upd ((seK x g k r).2.1 (17 + r)) k (wb (x.2.1 (17 + r) k) g (decide (rX x g (nI k) = nI r)))) = seK x g k (r + 1) := by
  refine Prod.ext rfl (Prod.ext (funext fun a => ?_) rfl)
  by_cases h : a = 17 + r
  · subst h
    refine funext fun m => ?_
    show (sA (seK x g k r) (17 + r) _).2.1 (17 + r) m = (if 17 ≤ 17 + r ∧ 17 + r < 22 then (fun m => if m < k ∨ (m = k ∧ 17 + r < 17 + (r + 1)) then wb (x.2.1 (17 + r) m) g (decide (rX x g (nI m) = nI (17 + r - 17))) else x.2.1 (17 + r) m) else x.2.1 (17 + r)) m
    rw [sA_at, if_pos (by omega), show 17 + r - 17 = r by omega]
    by_cases q : m = k
    · subst q
      rw [upd_s, if_pos (by omega)]
    · rw [upd_n q, seK_row hr]
      by_cases q2 : m < k
      · rw [if_pos q2, if_pos (by omega)]
      · rw [if_neg q2, if_neg (by omega)]
  · show (if a = 17 + r then _ else (if 17 ≤ a ∧ a < 22 then (fun m => if m < k ∨ (m = k ∧ a < 17 + r) then wb (x.2.1 a m) g (decide (rX x g (nI m) = nI (a - 17))) else x.2.1 a m) else x.2.1 a)) = (if 17 ≤ a ∧ a < 22 then (fun m => if m < k ∨ (m = k ∧ a < 17 + (r + 1)) then wb (x.2.1 a m) g (decide (rX x g (nI m) = nI (a - 17))) else x.2.1 a m) else x.2.1 a)
    rw [if_neg h]
    by_cases h2 : 17 ≤ a ∧ a < 22
    · rw [if_pos h2, if_pos h2]
      refine funext fun m => ?_
      by_cases q : m < k ∨ (m = k ∧ a < 17 + r)
      · rw [if_pos q, if_pos (by omega)]
      · rw [if_neg q, if_neg (by omega)]
    · rw [if_neg h2, if_neg h2]
theorem seK_lo {x : XS} {g k r a : Nat} (h : a < 17) : (seK x g k r).2.1 a = x.2.1 a := if_neg (by omega)
theorem seK_hi {x : XS} {g k r a : Nat} (h : 22 ≤ a) : (seK x g k r).2.1 a = x.2.1 a := if_neg (by omega)
/-- a fact set, by the class -/
def sfX (w : Nat) (x : XS) (g : Nat) (v : Int32) : XS :=
  if w ≤ 2 then seK (sA x (8 + w) (upd (x.2.1 (8 + w)) g v)) g 100 0
  else if w = 4 then sI (sA x 12 (upd (x.2.1 12) g v)) 52 (wb (x.1 52) g (decide (v = 1)))
  else if w = 5 then sI (sA x 13 (upd (x.2.1 13) g v)) 53 (wb (x.1 53) g (decide (v = 1)))
  else sA x (8 + w) (upd (x.2.1 (8 + w)) g v)
def lyY (w : Nat) (y : XS) (g : Nat) (v : Int32) : XS := sA y (71 + w) (upd (y.2.1 (71 + w)) g v)
theorem wb_t {v : Int32} {g : Nat} {p : Prop} [Decidable p] (h : p) : v ||| (1 <<< (nI g &&& 31)) = wb v g (decide p) := by unfold wb; rw [if_pos (decide_eq_true h)]
theorem wb_f {v : Int32} {g : Nat} {p : Prop} [Decidable p] (h : ¬ p) : v &&& ((1 <<< (nI g &&& 31)) ^^^ -1) = wb v g (decide p) := by unfold wb; rw [if_neg (by rw [decide_eq_false h]; decide)]
theorem le_t {b a : Nat} {x : Int32} (e : x = nI b) (hb : b < 2 ^ 31) (ha : a < 2 ^ 31) : x ≤ nI a ↔ b ≤ a := by rw [e]; exact nI_leI hb ha
theorem sp_H_roomX {z : ZS} {post : Option Value → List PE → Prop} {x y : XS} {g m n : Nat} (h51 : x.1 51 = nI n) (hn : n ≤ 10) (hg : g < n) (h : post (some (.int (rX x g (nI m)))) (E x y)) : PW (1, 0, 0, z) m_H_roomOf post 0 [some (.ref 6), some (.int (nI g)), some (.int (nI m))] [] (E x y) := by
  unfold rX at h
  by_cases hA : nI m < x.2.1 10 g
  · rw [if_pos hA] at h
    refine PW_aload_n c_H_roomOf_0 rfl ?_
    refine PW_iload_n c_H_roomOf_1 rfl ?_
    refine PW_V0 (d2 := 0) (st := []) [.int (nI g)] c_H_roomOf_2 lk_H_roomOf_37 (po_6 _ _) rfl rfl rfl (Nat.le_of_ble_eq_true rfl) (by first | decide | omega) (Nat.le_of_ble_eq_true rfl) ?_
    show PW _ _ _ 0 [some (.ref 6), some (.int (nI g))] [] (E x y)
    refine PW_iload_n c_H_isGuest_0 rfl ?_
    refine PW_if_lt c_H_isGuest_1 (fun h0 => absurd h0 (nI_pos (by omega))) (fun h0 => ?_)
    refine PW_iload_n c_H_isGuest_4 rfl ?_
    refine PW_aload_n c_H_isGuest_5 rfl ?_
    refine PW_get (v := .int (x.1 51)) c_H_isGuest_6 fl_H_29 (gf_6_3 _ _) ?_
    refine PW_icmp_ge c_H_isGuest_9 (fun h1 => absurd h1 (fun q => absurd ((le_t h51 (by omega) (by omega)).mp q) (by omega))) (fun h1 => ?_)
    refine PW_iload_n c_H_isGuest_12 rfl ?_
    refine PW_bipush (v := 10) c_H_isGuest_13 (by decide) ?_
    refine PW_icmp_ge c_H_isGuest_15 (fun h2 => absurd h2 (n10 (by omega))) (fun h2 => ?_)
    refine PW_iconst (v := 1) c_H_isGuest_18 (by decide) ?_
    refine PW_goto c_H_isGuest_19 ?_
    refine PW_ireturn (ty := .boolean) c_H_isGuest_23 rfl (by decide +kernel) ?_
    show PW _ _ _ 5 [some (.ref 6), some (.int (nI g)), some (.int (nI m))] [.int 1] (E x y)
    refine PW_if_ne c_H_roomOf_5 (fun _ => ?_) (fun h3 => absurd h3 (by decide))
    refine PW_aload_n c_H_roomOf_10 rfl ?_
    refine PW_get (v := .ref 7) c_H_roomOf_11 fl_H_13 (gf_6_0 _ _) ?_
    refine PW_iload_n c_H_roomOf_14 rfl ?_
    refine PW_aload_n c_H_roomOf_15 rfl ?_
    refine PW_get (v := .ref 7) c_H_roomOf_16 fl_H_13 (gf_6_0 _ _) ?_
    refine PW_iconst (v := 2) c_H_roomOf_19 (by decide) ?_
    refine PW_aald (j := 2) c_H_roomOf_20 (ar_7 _ _) (t0 := 5) rfl rfl (vp_in_iff.mpr (by decide)) rfl ?_
    rw [if_pos (by decide)]
    show PW _ _ _ 21 [some (.ref 6), some (.int (nI g)), some (.int (nI m))] [.ref 10, .int (nI m), .ref 7] (E x y)
    refine PW_iload_n c_H_roomOf_21 rfl ?_
    refine PW_iald (j := g) c_H_roomOf_22 (ar_10 _ _) (vp_in_nI (by omega) (by decide)) (nI_clamp (by omega)) ?_
    show PW _ _ _ 23 [some (.ref 6), some (.int (nI g)), some (.int (nI m))] [.int ((x.2.1 10) g), .int (nI m), .ref 7] (E x y)
    refine PW_icmp_lt c_H_roomOf_23 (fun h4 => ?_) (fun h4 => absurd hA h4)
    refine PW_iconst (v := 0) c_H_roomOf_30 (by decide) ?_
    refine PW_aald (j := 0) c_H_roomOf_31 (ar_7 _ _) (t0 := 5) rfl rfl (vp_in_iff.mpr (by decide)) rfl ?_
    rw [if_pos (by decide)]
    show PW _ _ _ 32 [some (.ref 6), some (.int (nI g)), some (.int (nI m))] [.ref 8] (E x y)
    refine PW_iload_n c_H_roomOf_32 rfl ?_
    refine PW_iald (j := g) c_H_roomOf_33 (ar_8 _ _) (vp_in_nI (by omega) (by decide)) (nI_clamp (by omega)) ?_
    show PW _ _ _ 34 [some (.ref 6), some (.int (nI g)), some (.int (nI m))] [.int ((x.2.1 8) g)] (E x y)
    refine PW_ireturn (ty := .int) c_H_roomOf_34 rfl rfl ?_
    exact h
  · rw [if_neg hA] at h
    replace hA := Int32.not_lt.mp hA
    refine PW_aload_n c_H_roomOf_0 rfl ?_
    refine PW_iload_n c_H_roomOf_1 rfl ?_
    refine PW_V0 (d2 := 0) (st := []) [.int (nI g)] c_H_roomOf_2 lk_H_roomOf_37 (po_6 _ _) rfl rfl rfl (Nat.le_of_ble_eq_true rfl) (by first | decide | omega) (Nat.le_of_ble_eq_true rfl) ?_
    show PW _ _ _ 0 [some (.ref 6), some (.int (nI g))] [] (E x y)
    refine PW_iload_n c_H_isGuest_0 rfl ?_
    refine PW_if_lt c_H_isGuest_1 (fun h0 => absurd h0 (nI_pos (by omega))) (fun h0 => ?_)
    refine PW_iload_n c_H_isGuest_4 rfl ?_
    refine PW_aload_n c_H_isGuest_5 rfl ?_
    refine PW_get (v := .int (x.1 51)) c_H_isGuest_6 fl_H_29 (gf_6_3 _ _) ?_
    refine PW_icmp_ge c_H_isGuest_9 (fun h1 => absurd h1 (fun q => absurd ((le_t h51 (by omega) (by omega)).mp q) (by omega))) (fun h1 => ?_)
    refine PW_iload_n c_H_isGuest_12 rfl ?_
    refine PW_bipush (v := 10) c_H_isGuest_13 (by decide) ?_
    refine PW_icmp_ge c_H_isGuest_15 (fun h2 => absurd h2 (n10 (by omega))) (fun h2 => ?_)
    refine PW_iconst (v := 1) c_H_isGuest_18 (by decide) ?_
    refine PW_goto c_H_isGuest_19 ?_
    refine PW_ireturn (ty := .boolean) c_H_isGuest_23 rfl (by decide +kernel) ?_
    show PW _ _ _ 5 [some (.ref 6), some (.int (nI g)), some (.int (nI m))] [.int 1] (E x y)
    refine PW_if_ne c_H_roomOf_5 (fun _ => ?_) (fun h3 => absurd h3 (by decide))
    refine PW_aload_n c_H_roomOf_10 rfl ?_
    refine PW_get (v := .ref 7) c_H_roomOf_11 fl_H_13 (gf_6_0 _ _) ?_
    refine PW_iload_n c_H_roomOf_14 rfl ?_
    refine PW_aload_n c_H_roomOf_15 rfl ?_
    refine PW_get (v := .ref 7) c_H_roomOf_16 fl_H_13 (gf_6_0 _ _) ?_
    refine PW_iconst (v := 2) c_H_roomOf_19 (by decide) ?_
    refine PW_aald (j := 2) c_H_roomOf_20 (ar_7 _ _) (t0 := 5) rfl rfl (vp_in_iff.mpr (by decide)) rfl ?_
    rw [if_pos (by decide)]
    show PW _ _ _ 21 [some (.ref 6), some (.int (nI g)), some (.int (nI m))] [.ref 10, .int (nI m), .ref 7] (E x y)
    refine PW_iload_n c_H_roomOf_21 rfl ?_
    refine PW_iald (j := g) c_H_roomOf_22 (ar_10 _ _) (vp_in_nI (by omega) (by decide)) (nI_clamp (by omega)) ?_
    show PW _ _ _ 23 [some (.ref 6), some (.int (nI g)), some (.int (nI m))] [.int ((x.2.1 10) g), .int (nI m), .ref 7] (E x y)
    refine PW_icmp_lt c_H_roomOf_23 (fun h4 => absurd h4 (Int32.not_lt.mpr hA)) (fun h4 => ?_)
    refine PW_iconst (v := 1) c_H_roomOf_26 (by decide) ?_
    refine PW_goto c_H_roomOf_27 ?_
    refine PW_aald (j := 1) c_H_roomOf_31 (ar_7 _ _) (t0 := 5) rfl rfl (vp_in_iff.mpr (by decide)) rfl ?_
    rw [if_pos (by decide)]
    show PW _ _ _ 32 [some (.ref 6), some (.int (nI g)), some (.int (nI m))] [.ref 9] (E x y)
    refine PW_iload_n c_H_roomOf_32 rfl ?_
    refine PW_iald (j := g) c_H_roomOf_33 (ar_9 _ _) (vp_in_nI (by omega) (by decide)) (nI_clamp (by omega)) ?_
    show PW _ _ _ 34 [some (.ref 6), some (.int (nI g)), some (.int (nI m))] [.int ((x.2.1 9) g)] (E x y)
    refine PW_ireturn (ty := .int) c_H_roomOf_34 rfl rfl ?_
    exact h
theorem rX_seK (x : XS) (g k r g' : Nat) (m : Int32) : rX (seK x g k r) g' m = rX x g' m := by
  unfold rX
  rw [seK_lo (by omega), seK_lo (by omega), seK_lo (by omega)]
theorem lp_seat1 {z : ZS} {post : Option Value → List PE → Prop} {x y : XS} {wh : Int32} {g k : Nat} (hk : k < 100) (hwh : wh = rX x g (nI k)) (h : PW (2, 0, 0, z) m_H_seat post 63 [some (.ref 6), some (.int (nI g)), some (.int (nI k)), some (.int wh), some (.int (nI 5))] [] (E (seK x g (k + 1) 0) y)) : ∀ j r : Nat, r + j = 5 → PW (2, 0, 0, z) m_H_seat post 18 [some (.ref 6), some (.int (nI g)), some (.int (nI k)), some (.int wh), some (.int (nI r))] [] (E (seK x g k r) y) := by
  intro j
  induction j with
  | zero =>
    intro r hr5
    refine PW_iload c_H_seat_18 rfl ?_
    refine PW_iconst (v := 5) c_H_seat_20 (by decide) ?_
    refine PW_icmp_ge c_H_seat_21 (fun h0 => ?_) (fun h0 => absurd (by rw [show r = 5 by omega]; decide : (5 : Int32) ≤ nI r) h0)
    rw [show r = 5 by omega, seK_5]
    exact h
  | succ j ih =>
    intro r hr5
    have hr : r < 5 := by omega
    by_cases hB : nI r = wh
    · skip
      refine PW_iload c_H_seat_18 rfl ?_
      refine PW_iconst (v := 5) c_H_seat_20 (by decide) ?_
      refine PW_icmp_ge c_H_seat_21 (fun h0 => absurd h0 (fun q => absurd ((nI_leI (by decide) (by omega)).mp (show nI 5 ≤ nI r from q)) (by omega))) (fun h0 => ?_)
      refine PW_aload_n c_H_seat_24 rfl ?_
      refine PW_get (v := .ref 16) c_H_seat_25 fl_H_20 (gf_6_2 _ _) ?_
      refine PW_iload c_H_seat_28 rfl ?_
      refine PW_aald (j := r) c_H_seat_30 (ar_16 _ _) (t0 := 5) rfl rfl (vp_in_nI hr (by decide)) (nI_clamp (by omega)) ?_
      rw [if_pos hr]
      show PW _ _ _ 31 [some (.ref 6), some (.int (nI g)), some (.int (nI k)), some (.int wh), some (.int (nI r))] [.ref (17 + r)] (E (seK x g k r) y)
      refine PW_iload_n c_H_seat_31 rfl ?_
      refine PW_aload_n c_H_seat_32 rfl ?_
      refine PW_get (v := .ref 16) c_H_seat_33 fl_H_20 (gf_6_2 _ _) ?_
      refine PW_iload c_H_seat_36 rfl ?_
      refine PW_aald (j := r) c_H_seat_38 (ar_16 _ _) (t0 := 5) rfl rfl (vp_in_nI hr (by decide)) (nI_clamp (by omega)) ?_
      rw [if_pos hr]
      show PW _ _ _ 39 [some (.ref 6), some (.int (nI g)), some (.int (nI k)), some (.int wh), some (.int (nI r))] [.ref (17 + r), .int (nI k), .ref (17 + r)] (E (seK x g k r) y)
      refine PW_iload_n c_H_seat_39 rfl ?_
      refine PW_iald (j := k) c_H_seat_40 (fr_present _ _ hr) (vp_in_nI (by omega) (by decide)) (nI_clamp (by omega)) ?_
      show PW _ _ _ 41 [some (.ref 6), some (.int (nI g)), some (.int (nI k)), some (.int wh), some (.int (nI r))] [.int (((seK x g k r).2.1 (17 + r)) k), .int (nI k), .ref (17 + r)] (E (seK x g k r) y)
      refine PW_iload_n c_H_seat_41 rfl ?_
      refine PW_iload c_H_seat_42 rfl ?_
      refine PW_iload_n c_H_seat_44 rfl ?_
      refine PW_icmp_ne c_H_seat_45 (fun h1 => absurd h1 (not_not_intro hB)) (fun h1 => ?_)
      refine PW_iconst (v := 1) c_H_seat_48 (by decide) ?_
      refine PW_goto c_H_seat_49 ?_
      refine PW_S0 (d2 := 0) (st := [.int (nI k), .ref (17 + r)]) [.int (((seK x g k r).2.1 (17 + r)) k), .int (nI g), .int 1] c_H_seat_53 lk_H_seat_48 rfl rfl rfl (Nat.le_of_ble_eq_true rfl) (by first | decide | omega) (Nat.le_of_ble_eq_true rfl) ?_
      show PW _ _ _ 0 [some (.int (((seK x g k r).2.1 (17 + r)) k)), some (.int (nI g)), some (.int 1)] [] (E (seK x g k r) y)
      refine PW_iload_n c_H_withBit_0 rfl ?_
      refine PW_if_eq c_H_withBit_1 (fun h2 => absurd h2 (by decide)) (fun _ => ?_)
      refine PW_iload_n c_H_withBit_4 rfl ?_
      refine PW_iconst (v := 1) c_H_withBit_5 (by decide) ?_
      refine PW_iload_n c_H_withBit_6 rfl ?_
      refine PW_ishl c_H_withBit_7 ?_
      refine PW_ior c_H_withBit_8 ?_
      refine PW_goto c_H_withBit_9 ?_
      refine PW_ireturn (ty := .int) c_H_withBit_19 rfl rfl ?_
      show PW _ _ _ 56 [some (.ref 6), some (.int (nI g)), some (.int (nI k)), some (.int wh), some (.int (nI r))] [.int ((((seK x g k r).2.1 (17 + r)) k) ||| (1 <<< ((nI g) &&& 31))), .int (nI k), .ref (17 + r)] (E (seK x g k r) y)
      refine PW_iast (j := k) (w2 := E (sA (seK x g k r) (17 + r) (upd ((seK x g k r).2.1 (17 + r)) k ((((seK x g k r).2.1 (17 + r)) k) ||| (1 <<< ((nI g) &&& 31))))) y) c_H_seat_56 (fr_present _ _ hr) (vp_in_nI (by omega) (by decide)) (nI_clamp (by omega)) (fw_present _ _ hr _) ?_
      refine PW_iinc (i := 4) (v := (nI r) + 1) (L2 := [some (.ref 6), some (.int (nI g)), some (.int (nI k)), some (.int wh), some (.int ((nI r) + 1))]) c_H_seat_57 rfl (iinc_v (by decide)) (Nat.le_of_ble_eq_true rfl) rfl rfl ?_
      refine PW_goto c_H_seat_60 ?_
      rw [seK_row hr k, if_neg (Nat.lt_irrefl k), wb_t (p := rX x g (nI k) = nI r) (by rw [← hwh]; exact hB.symm), seK_s hr]
      refine PW.eqL ?_ rfl rfl (ih (r + 1) (by omega))
      show ([some (.ref 6), some (.int (nI g)), some (.int (nI k)), some (.int wh), some (.int ((nI r) + 1))] : List (Option Value)) = [some (.ref 6), some (.int (nI g)), some (.int (nI k)), some (.int wh), some (.int (nI (r + 1)))]
      rw [nI_1]
    · skip
      refine PW_iload c_H_seat_18 rfl ?_
      refine PW_iconst (v := 5) c_H_seat_20 (by decide) ?_
      refine PW_icmp_ge c_H_seat_21 (fun h0 => absurd h0 (fun q => absurd ((nI_leI (by decide) (by omega)).mp (show nI 5 ≤ nI r from q)) (by omega))) (fun h0 => ?_)
      refine PW_aload_n c_H_seat_24 rfl ?_
      refine PW_get (v := .ref 16) c_H_seat_25 fl_H_20 (gf_6_2 _ _) ?_
      refine PW_iload c_H_seat_28 rfl ?_
      refine PW_aald (j := r) c_H_seat_30 (ar_16 _ _) (t0 := 5) rfl rfl (vp_in_nI hr (by decide)) (nI_clamp (by omega)) ?_
      rw [if_pos hr]
      show PW _ _ _ 31 [some (.ref 6), some (.int (nI g)), some (.int (nI k)), some (.int wh), some (.int (nI r))] [.ref (17 + r)] (E (seK x g k r) y)
      refine PW_iload_n c_H_seat_31 rfl ?_
      refine PW_aload_n c_H_seat_32 rfl ?_
      refine PW_get (v := .ref 16) c_H_seat_33 fl_H_20 (gf_6_2 _ _) ?_
      refine PW_iload c_H_seat_36 rfl ?_
      refine PW_aald (j := r) c_H_seat_38 (ar_16 _ _) (t0 := 5) rfl rfl (vp_in_nI hr (by decide)) (nI_clamp (by omega)) ?_
      rw [if_pos hr]
      show PW _ _ _ 39 [some (.ref 6), some (.int (nI g)), some (.int (nI k)), some (.int wh), some (.int (nI r))] [.ref (17 + r), .int (nI k), .ref (17 + r)] (E (seK x g k r) y)
      refine PW_iload_n c_H_seat_39 rfl ?_
      refine PW_iald (j := k) c_H_seat_40 (fr_present _ _ hr) (vp_in_nI (by omega) (by decide)) (nI_clamp (by omega)) ?_
      show PW _ _ _ 41 [some (.ref 6), some (.int (nI g)), some (.int (nI k)), some (.int wh), some (.int (nI r))] [.int (((seK x g k r).2.1 (17 + r)) k), .int (nI k), .ref (17 + r)] (E (seK x g k r) y)
      refine PW_iload_n c_H_seat_41 rfl ?_
      refine PW_iload c_H_seat_42 rfl ?_
      refine PW_iload_n c_H_seat_44 rfl ?_
      refine PW_icmp_ne c_H_seat_45 (fun h1 => ?_) (fun h1 => absurd h1 hB)
      refine PW_iconst (v := 0) c_H_seat_52 (by decide) ?_
      refine PW_S0 (d2 := 0) (st := [.int (nI k), .ref (17 + r)]) [.int (((seK x g k r).2.1 (17 + r)) k), .int (nI g), .int 0] c_H_seat_53 lk_H_seat_48 rfl rfl rfl (Nat.le_of_ble_eq_true rfl) (by first | decide | omega) (Nat.le_of_ble_eq_true rfl) ?_
      show PW _ _ _ 0 [some (.int (((seK x g k r).2.1 (17 + r)) k)), some (.int (nI g)), some (.int 0)] [] (E (seK x g k r) y)
      refine PW_iload_n c_H_withBit_0 rfl ?_
      refine PW_if_eq c_H_withBit_1 (fun _ => ?_) (fun h2 => absurd (by decide) h2)
      refine PW_iload_n c_H_withBit_12 rfl ?_
      refine PW_iconst (v := 1) c_H_withBit_13 (by decide) ?_
      refine PW_iload_n c_H_withBit_14 rfl ?_
      refine PW_ishl c_H_withBit_15 ?_
      refine PW_iconst (v := -1) c_H_withBit_16 (by decide) ?_
      refine PW_ixor c_H_withBit_17 ?_
      refine PW_iand c_H_withBit_18 ?_
      refine PW_ireturn (ty := .int) c_H_withBit_19 rfl rfl ?_
      show PW _ _ _ 56 [some (.ref 6), some (.int (nI g)), some (.int (nI k)), some (.int wh), some (.int (nI r))] [.int ((((seK x g k r).2.1 (17 + r)) k) &&& (((1 : Int32) <<< ((nI g) &&& 31)) ^^^ (-1))), .int (nI k), .ref (17 + r)] (E (seK x g k r) y)
      refine PW_iast (j := k) (w2 := E (sA (seK x g k r) (17 + r) (upd ((seK x g k r).2.1 (17 + r)) k ((((seK x g k r).2.1 (17 + r)) k) &&& (((1 : Int32) <<< ((nI g) &&& 31)) ^^^ (-1))))) y) c_H_seat_56 (fr_present _ _ hr) (vp_in_nI (by omega) (by decide)) (nI_clamp (by omega)) (fw_present _ _ hr _) ?_
      refine PW_iinc (i := 4) (v := (nI r) + 1) (L2 := [some (.ref 6), some (.int (nI g)), some (.int (nI k)), some (.int wh), some (.int ((nI r) + 1))]) c_H_seat_57 rfl (iinc_v (by decide)) (Nat.le_of_ble_eq_true rfl) rfl rfl ?_
      refine PW_goto c_H_seat_60 ?_
      rw [seK_row hr k, if_neg (Nat.lt_irrefl k), wb_f (p := rX x g (nI k) = nI r) (by rw [← hwh]; exact fun q => hB q.symm), seK_s hr]
      refine PW.eqL ?_ rfl rfl (ih (r + 1) (by omega))
      show ([some (.ref 6), some (.int (nI g)), some (.int (nI k)), some (.int wh), some (.int ((nI r) + 1))] : List (Option Value)) = [some (.ref 6), some (.int (nI g)), some (.int (nI k)), some (.int wh), some (.int (nI (r + 1)))]
      rw [nI_1]
theorem lp_seat2 {z : ZS} {post : Option Value → List PE → Prop} {x y : XS} {g n : Nat} (h51 : x.1 51 = nI n) (hn : n ≤ 10) (hg : g < n) (h : post none (E (seK x g 100 0) y)) : ∀ j k : Nat, k + j = 100 → ∀ l3 l4 : Option Value, PW (2, 0, 0, z) m_H_seat post 2 [some (.ref 6), some (.int (nI g)), some (.int (nI k)), l3, l4] [] (E (seK x g k 0) y) := by
  intro j
  induction j with
  | zero =>
    intro k hk l3 l4
    refine PW_iload_n c_H_seat_2 rfl ?_
    refine PW_bipush (v := 100) c_H_seat_3 (by decide) ?_
    refine PW_icmp_ge c_H_seat_5 (fun h0 => ?_) (fun h0 => absurd (by rw [show k = 100 by omega]; decide : (100 : Int32) ≤ nI k) h0)
    refine PW_vreturn c_H_seat_69 rfl ?_
    rw [show k = 100 by omega]
    exact h
  | succ j ih =>
    intro k hk l3 l4
    refine PW_iload_n c_H_seat_2 rfl ?_
    refine PW_bipush (v := 100) c_H_seat_3 (by decide) ?_
    refine PW_icmp_ge c_H_seat_5 (fun h0 => absurd h0 (fun q => absurd ((nI_leI (by decide) (by omega)).mp (show nI 100 ≤ nI k from q)) (by omega))) (fun h0 => ?_)
    refine PW_aload_n c_H_seat_8 rfl ?_
    refine PW_iload_n c_H_seat_9 rfl ?_
    refine PW_iload_n c_H_seat_10 rfl ?_
    refine PW_V0 (d2 := 1) (st := []) [.int (nI g), .int (nI k)] c_H_seat_11 lk_H_seat_59 (po_6 _ _) rfl rfl rfl (Nat.le_of_ble_eq_true rfl) (by first | decide | omega) (Nat.le_of_ble_eq_true rfl) ?_
    refine sp_H_roomX h51 hn hg ?_
    show PW _ _ _ 14 [some (.ref 6), some (.int (nI g)), some (.int (nI k)), l3, l4] [.int (rX (seK x g k 0) g (nI k))] (E (seK x g k 0) y)
    refine PW_istore_n (i := 3) (L2 := [some (.ref 6), some (.int (nI g)), some (.int (nI k)), some (.int (rX (seK x g k 0) g (nI k))), l4]) c_H_seat_14 rfl (Nat.le_of_ble_eq_true rfl) rfl rfl ?_
    refine PW_iconst (v := 0) c_H_seat_15 (by decide) ?_
    refine PW_istore (i := 4) (L2 := [some (.ref 6), some (.int (nI g)), some (.int (nI k)), some (.int (rX (seK x g k 0) g (nI k))), some (.int 0)]) c_H_seat_16 (Nat.le_of_ble_eq_true rfl) rfl rfl ?_
    refine PW.eqL ?_ rfl rfl (lp_seat1 (wh := rX x g (nI k)) (by omega) rfl ?_ 5 0 (Nat.zero_add _))
    · show ([some (.ref 6), some (.int (nI g)), some (.int (nI k)), some (.int (rX (seK x g k 0) g (nI k))), some (.int 0)] : List (Option Value)) = _
      rw [rX_seK] <;> rfl
    · show PW _ _ _ 63 [some (.ref 6), some (.int (nI g)), some (.int (nI k)), some (.int (rX x g (nI k))), some (.int (nI 5))] [] (E (seK x g (k + 1) 0) y)
      refine PW_iinc (i := 2) (v := (nI k) + 1) (L2 := [some (.ref 6), some (.int (nI g)), some (.int ((nI k) + 1)), some (.int (rX x g (nI k))), some (.int (nI 5))]) c_H_seat_63 rfl (iinc_v (by decide)) (Nat.le_of_ble_eq_true rfl) rfl rfl ?_
      refine PW_goto c_H_seat_66 ?_
      refine PW.eqL ?_ rfl rfl (ih (k + 1) (by omega) (some (.int (rX x g (nI k)))) (some (.int (nI 5))))
      show ([some (.ref 6), some (.int (nI g)), some (.int ((nI k) + 1)), some (.int (rX x g (nI k))), some (.int (nI 5))] : List (Option Value)) = _
      rw [nI_1]
theorem sp_seat {z : ZS} {post : Option Value → List PE → Prop} {x y : XS} {g n : Nat} (h51 : x.1 51 = nI n) (hn : n ≤ 10) (hg : g < n) (h : post none (E (seK x g 100 0) y)) : PW (2, 0, 0, z) m_H_seat post 0 [some (.ref 6), some (.int (nI g)), none, none, none] [] (E x y) := by
  refine PW_iconst (v := 0) c_H_seat_0 (by decide) ?_
  refine PW_istore_n (i := 2) (L2 := [some (.ref 6), some (.int (nI g)), some (.int 0), none, none]) c_H_seat_1 rfl (Nat.le_of_ble_eq_true rfl) rfl rfl ?_
  refine PW.eqL ?_ rfl ?_ (lp_seat2 h51 hn hg h 100 0 (Nat.zero_add _) none none)
  · rfl
  · rw [seK_0]
theorem sp_set_0 {z : ZS} {post : Option Value → List PE → Prop} {x y : XS} {v : Int32} {g n : Nat} (h51 : x.1 51 = nI n) (hn : n ≤ 10) (hg : g < n) (h : post none (E (sfX 0 x g v) y)) : PW (3, 0, 0, z) m_H_setFact post 0 [some (.ref 6), some (.int (nI g)), some (.int 0), some (.int v)] [] (E x y) := by
  refine PW_aload_n c_H_setFact_0 rfl ?_
  refine PW_iload_n c_H_setFact_1 rfl ?_
  refine PW_iload_n c_H_setFact_2 rfl ?_
  refine PW_V0 (d2 := 1) (st := []) [.int (nI g), .int 0] c_H_setFact_3 lk_H_setFact_41 (po_6 _ _) rfl rfl rfl (Nat.le_of_ble_eq_true rfl) (by first | decide | omega) (Nat.le_of_ble_eq_true rfl) ?_
  show PW _ _ _ 0 [some (.ref 6), some (.int (nI g)), some (.int 0)] [] (E x y)
  refine PW_iload_n c_H_hasFact_0 rfl ?_
  refine PW_bipush (v := 7) c_H_hasFact_1 (by decide) ?_
  refine PW_icmp_ne c_H_hasFact_3 (fun _ => ?_) (fun h0 => absurd h0 (by decide))
  refine PW_iload_n c_H_hasFact_25 rfl ?_
  refine PW_if_lt c_H_hasFact_26 (fun h1 => absurd h1 (by decide)) (fun _ => ?_)
  refine PW_iload_n c_H_hasFact_29 rfl ?_
  refine PW_aload_n c_H_hasFact_30 rfl ?_
  refine PW_get (v := .ref 7) c_H_hasFact_31 fl_H_13 (gf_6_0 _ _) ?_
  refine PW_alen (v := 7) c_H_hasFact_34 (ar_7 _ _) (t0 := 5) rfl (by decide) ?_
  refine PW_icmp_ge c_H_hasFact_35 (fun h2 => absurd h2 (by decide)) (fun _ => ?_)
  refine PW_aload_n c_H_hasFact_38 rfl ?_
  refine PW_iload_n c_H_hasFact_39 rfl ?_
  refine PW_V0 (d2 := 0) (st := []) [.int (nI g)] c_H_hasFact_40 lk_H_hasFact_37 (po_6 _ _) rfl rfl rfl (Nat.le_of_ble_eq_true rfl) (by first | decide | omega) (Nat.le_of_ble_eq_true rfl) ?_
  show PW _ _ _ 0 [some (.ref 6), some (.int (nI g))] [] (E x y)
  refine PW_iload_n c_H_isGuest_0 rfl ?_
  refine PW_if_lt c_H_isGuest_1 (fun h3 => absurd h3 (nI_pos (by omega))) (fun h3 => ?_)
  refine PW_iload_n c_H_isGuest_4 rfl ?_
  refine PW_aload_n c_H_isGuest_5 rfl ?_
  refine PW_get (v := .int (x.1 51)) c_H_isGuest_6 fl_H_29 (gf_6_3 _ _) ?_
  refine PW_icmp_ge c_H_isGuest_9 (fun h4 => absurd h4 (fun q => absurd ((le_t h51 (by omega) (by omega)).mp q) (by omega))) (fun h4 => ?_)
  refine PW_iload_n c_H_isGuest_12 rfl ?_
  refine PW_bipush (v := 10) c_H_isGuest_13 (by decide) ?_
  refine PW_icmp_ge c_H_isGuest_15 (fun h5 => absurd h5 (n10 (by omega))) (fun h5 => ?_)
  refine PW_iconst (v := 1) c_H_isGuest_18 (by decide) ?_
  refine PW_goto c_H_isGuest_19 ?_
  refine PW_ireturn (ty := .boolean) c_H_isGuest_23 rfl (by decide +kernel) ?_
  show PW _ _ _ 43 [some (.ref 6), some (.int (nI g)), some (.int 0)] [.int 1] (E x y)
  refine PW_if_eq c_H_hasFact_43 (fun h6 => absurd h6 (by decide)) (fun _ => ?_)
  refine PW_iconst (v := 1) c_H_hasFact_46 (by decide) ?_
  refine PW_goto c_H_hasFact_47 ?_
  refine PW_ireturn (ty := .boolean) c_H_hasFact_51 rfl (by decide +kernel) ?_
  show PW _ _ _ 6 [some (.ref 6), some (.int (nI g)), some (.int 0), some (.int v)] [.int 1] (E x y)
  refine PW_if_ne c_H_setFact_6 (fun _ => ?_) (fun h7 => absurd h7 (by decide))
  refine PW_iload_n c_H_setFact_10 rfl ?_
  refine PW_bipush (v := 7) c_H_setFact_11 (by decide) ?_
  refine PW_icmp_ne c_H_setFact_13 (fun _ => ?_) (fun h8 => absurd h8 (by decide))
  refine PW_aload_n c_H_setFact_24 rfl ?_
  refine PW_get (v := .ref 7) c_H_setFact_25 fl_H_13 (gf_6_0 _ _) ?_
  refine PW_iload_n c_H_setFact_28 rfl ?_
  refine PW_aald (j := 0) c_H_setFact_29 (ar_7 _ _) (t0 := 5) rfl rfl (vp_in_iff.mpr (by decide)) rfl ?_
  rw [if_pos (by decide)]
  show PW _ _ _ 30 [some (.ref 6), some (.int (nI g)), some (.int 0), some (.int v)] [.ref 8] (E x y)
  refine PW_iload_n c_H_setFact_30 rfl ?_
  refine PW_iload_n c_H_setFact_31 rfl ?_
  refine PW_iast (j := g) (w2 := E (sA x 8 (upd (x.2.1 8) g v)) y) c_H_setFact_32 (ar_8 _ _) (vp_in_nI (by omega) (by decide)) (nI_clamp (by omega)) (aw_8 _ _ _) ?_
  refine PW_iload_n c_H_setFact_33 rfl ?_
  refine PW_iconst (v := 4) c_H_setFact_34 (by decide) ?_
  refine PW_icmp_ne c_H_setFact_35 (fun _ => ?_) (fun h9 => absurd h9 (by decide))
  refine PW_iload_n c_H_setFact_63 rfl ?_
  refine PW_iconst (v := 5) c_H_setFact_64 (by decide) ?_
  refine PW_icmp_ne c_H_setFact_65 (fun _ => ?_) (fun h10 => absurd h10 (by decide))
  refine PW_iload_n c_H_setFact_93 rfl ?_
  refine PW_iconst (v := 2) c_H_setFact_94 (by decide) ?_
  refine PW_icmp_gt c_H_setFact_95 (fun h11 => absurd h11 (by decide)) (fun _ => ?_)
  refine PW_aload_n c_H_setFact_98 rfl ?_
  refine PW_iload_n c_H_setFact_99 rfl ?_
  refine PW_V0 (d2 := 2) (st := []) [.int (nI g)] c_H_setFact_100 lk_H_setFact_55 (po_6 _ _) rfl rfl rfl (Nat.le_of_ble_eq_true rfl) (by first | decide | omega) (Nat.le_of_ble_eq_true rfl) ?_
  refine sp_seat h51 hn hg ?_
  show PW _ _ _ 103 [some (.ref 6), some (.int (nI g)), some (.int 0), some (.int v)] [] (E (seK (sA x 8 (upd (x.2.1 8) g v)) g 100 0) y)
  refine PW_vreturn c_H_setFact_103 rfl ?_
  exact h
theorem sp_set_1 {z : ZS} {post : Option Value → List PE → Prop} {x y : XS} {v : Int32} {g n : Nat} (h51 : x.1 51 = nI n) (hn : n ≤ 10) (hg : g < n) (h : post none (E (sfX 1 x g v) y)) : PW (3, 0, 0, z) m_H_setFact post 0 [some (.ref 6), some (.int (nI g)), some (.int 1), some (.int v)] [] (E x y) := by
  refine PW_aload_n c_H_setFact_0 rfl ?_
  refine PW_iload_n c_H_setFact_1 rfl ?_
  refine PW_iload_n c_H_setFact_2 rfl ?_
  refine PW_V0 (d2 := 1) (st := []) [.int (nI g), .int 1] c_H_setFact_3 lk_H_setFact_41 (po_6 _ _) rfl rfl rfl (Nat.le_of_ble_eq_true rfl) (by first | decide | omega) (Nat.le_of_ble_eq_true rfl) ?_
  show PW _ _ _ 0 [some (.ref 6), some (.int (nI g)), some (.int 1)] [] (E x y)
  refine PW_iload_n c_H_hasFact_0 rfl ?_
  refine PW_bipush (v := 7) c_H_hasFact_1 (by decide) ?_
  refine PW_icmp_ne c_H_hasFact_3 (fun _ => ?_) (fun h0 => absurd h0 (by decide))
  refine PW_iload_n c_H_hasFact_25 rfl ?_
  refine PW_if_lt c_H_hasFact_26 (fun h1 => absurd h1 (by decide)) (fun _ => ?_)
  refine PW_iload_n c_H_hasFact_29 rfl ?_
  refine PW_aload_n c_H_hasFact_30 rfl ?_
  refine PW_get (v := .ref 7) c_H_hasFact_31 fl_H_13 (gf_6_0 _ _) ?_
  refine PW_alen (v := 7) c_H_hasFact_34 (ar_7 _ _) (t0 := 5) rfl (by decide) ?_
  refine PW_icmp_ge c_H_hasFact_35 (fun h2 => absurd h2 (by decide)) (fun _ => ?_)
  refine PW_aload_n c_H_hasFact_38 rfl ?_
  refine PW_iload_n c_H_hasFact_39 rfl ?_
  refine PW_V0 (d2 := 0) (st := []) [.int (nI g)] c_H_hasFact_40 lk_H_hasFact_37 (po_6 _ _) rfl rfl rfl (Nat.le_of_ble_eq_true rfl) (by first | decide | omega) (Nat.le_of_ble_eq_true rfl) ?_
  show PW _ _ _ 0 [some (.ref 6), some (.int (nI g))] [] (E x y)
  refine PW_iload_n c_H_isGuest_0 rfl ?_
  refine PW_if_lt c_H_isGuest_1 (fun h3 => absurd h3 (nI_pos (by omega))) (fun h3 => ?_)
  refine PW_iload_n c_H_isGuest_4 rfl ?_
  refine PW_aload_n c_H_isGuest_5 rfl ?_
  refine PW_get (v := .int (x.1 51)) c_H_isGuest_6 fl_H_29 (gf_6_3 _ _) ?_
  refine PW_icmp_ge c_H_isGuest_9 (fun h4 => absurd h4 (fun q => absurd ((le_t h51 (by omega) (by omega)).mp q) (by omega))) (fun h4 => ?_)
  refine PW_iload_n c_H_isGuest_12 rfl ?_
  refine PW_bipush (v := 10) c_H_isGuest_13 (by decide) ?_
  refine PW_icmp_ge c_H_isGuest_15 (fun h5 => absurd h5 (n10 (by omega))) (fun h5 => ?_)
  refine PW_iconst (v := 1) c_H_isGuest_18 (by decide) ?_
  refine PW_goto c_H_isGuest_19 ?_
  refine PW_ireturn (ty := .boolean) c_H_isGuest_23 rfl (by decide +kernel) ?_
  show PW _ _ _ 43 [some (.ref 6), some (.int (nI g)), some (.int 1)] [.int 1] (E x y)
  refine PW_if_eq c_H_hasFact_43 (fun h6 => absurd h6 (by decide)) (fun _ => ?_)
  refine PW_iconst (v := 1) c_H_hasFact_46 (by decide) ?_
  refine PW_goto c_H_hasFact_47 ?_
  refine PW_ireturn (ty := .boolean) c_H_hasFact_51 rfl (by decide +kernel) ?_
  show PW _ _ _ 6 [some (.ref 6), some (.int (nI g)), some (.int 1), some (.int v)] [.int 1] (E x y)
  refine PW_if_ne c_H_setFact_6 (fun _ => ?_) (fun h7 => absurd h7 (by decide))
  refine PW_iload_n c_H_setFact_10 rfl ?_
  refine PW_bipush (v := 7) c_H_setFact_11 (by decide) ?_
  refine PW_icmp_ne c_H_setFact_13 (fun _ => ?_) (fun h8 => absurd h8 (by decide))
  refine PW_aload_n c_H_setFact_24 rfl ?_
  refine PW_get (v := .ref 7) c_H_setFact_25 fl_H_13 (gf_6_0 _ _) ?_
  refine PW_iload_n c_H_setFact_28 rfl ?_
  refine PW_aald (j := 1) c_H_setFact_29 (ar_7 _ _) (t0 := 5) rfl rfl (vp_in_iff.mpr (by decide)) rfl ?_
  rw [if_pos (by decide)]
  show PW _ _ _ 30 [some (.ref 6), some (.int (nI g)), some (.int 1), some (.int v)] [.ref 9] (E x y)
  refine PW_iload_n c_H_setFact_30 rfl ?_
  refine PW_iload_n c_H_setFact_31 rfl ?_
  refine PW_iast (j := g) (w2 := E (sA x 9 (upd (x.2.1 9) g v)) y) c_H_setFact_32 (ar_9 _ _) (vp_in_nI (by omega) (by decide)) (nI_clamp (by omega)) (aw_9 _ _ _) ?_
  refine PW_iload_n c_H_setFact_33 rfl ?_
  refine PW_iconst (v := 4) c_H_setFact_34 (by decide) ?_
  refine PW_icmp_ne c_H_setFact_35 (fun _ => ?_) (fun h9 => absurd h9 (by decide))
  refine PW_iload_n c_H_setFact_63 rfl ?_
  refine PW_iconst (v := 5) c_H_setFact_64 (by decide) ?_
  refine PW_icmp_ne c_H_setFact_65 (fun _ => ?_) (fun h10 => absurd h10 (by decide))
  refine PW_iload_n c_H_setFact_93 rfl ?_
  refine PW_iconst (v := 2) c_H_setFact_94 (by decide) ?_
  refine PW_icmp_gt c_H_setFact_95 (fun h11 => absurd h11 (by decide)) (fun _ => ?_)
  refine PW_aload_n c_H_setFact_98 rfl ?_
  refine PW_iload_n c_H_setFact_99 rfl ?_
  refine PW_V0 (d2 := 2) (st := []) [.int (nI g)] c_H_setFact_100 lk_H_setFact_55 (po_6 _ _) rfl rfl rfl (Nat.le_of_ble_eq_true rfl) (by first | decide | omega) (Nat.le_of_ble_eq_true rfl) ?_
  refine sp_seat h51 hn hg ?_
  show PW _ _ _ 103 [some (.ref 6), some (.int (nI g)), some (.int 1), some (.int v)] [] (E (seK (sA x 9 (upd (x.2.1 9) g v)) g 100 0) y)
  refine PW_vreturn c_H_setFact_103 rfl ?_
  exact h
theorem sp_set_2 {z : ZS} {post : Option Value → List PE → Prop} {x y : XS} {v : Int32} {g n : Nat} (h51 : x.1 51 = nI n) (hn : n ≤ 10) (hg : g < n) (h : post none (E (sfX 2 x g v) y)) : PW (3, 0, 0, z) m_H_setFact post 0 [some (.ref 6), some (.int (nI g)), some (.int 2), some (.int v)] [] (E x y) := by
  refine PW_aload_n c_H_setFact_0 rfl ?_
  refine PW_iload_n c_H_setFact_1 rfl ?_
  refine PW_iload_n c_H_setFact_2 rfl ?_
  refine PW_V0 (d2 := 1) (st := []) [.int (nI g), .int 2] c_H_setFact_3 lk_H_setFact_41 (po_6 _ _) rfl rfl rfl (Nat.le_of_ble_eq_true rfl) (by first | decide | omega) (Nat.le_of_ble_eq_true rfl) ?_
  show PW _ _ _ 0 [some (.ref 6), some (.int (nI g)), some (.int 2)] [] (E x y)
  refine PW_iload_n c_H_hasFact_0 rfl ?_
  refine PW_bipush (v := 7) c_H_hasFact_1 (by decide) ?_
  refine PW_icmp_ne c_H_hasFact_3 (fun _ => ?_) (fun h0 => absurd h0 (by decide))
  refine PW_iload_n c_H_hasFact_25 rfl ?_
  refine PW_if_lt c_H_hasFact_26 (fun h1 => absurd h1 (by decide)) (fun _ => ?_)
  refine PW_iload_n c_H_hasFact_29 rfl ?_
  refine PW_aload_n c_H_hasFact_30 rfl ?_
  refine PW_get (v := .ref 7) c_H_hasFact_31 fl_H_13 (gf_6_0 _ _) ?_
  refine PW_alen (v := 7) c_H_hasFact_34 (ar_7 _ _) (t0 := 5) rfl (by decide) ?_
  refine PW_icmp_ge c_H_hasFact_35 (fun h2 => absurd h2 (by decide)) (fun _ => ?_)
  refine PW_aload_n c_H_hasFact_38 rfl ?_
  refine PW_iload_n c_H_hasFact_39 rfl ?_
  refine PW_V0 (d2 := 0) (st := []) [.int (nI g)] c_H_hasFact_40 lk_H_hasFact_37 (po_6 _ _) rfl rfl rfl (Nat.le_of_ble_eq_true rfl) (by first | decide | omega) (Nat.le_of_ble_eq_true rfl) ?_
  show PW _ _ _ 0 [some (.ref 6), some (.int (nI g))] [] (E x y)
  refine PW_iload_n c_H_isGuest_0 rfl ?_
  refine PW_if_lt c_H_isGuest_1 (fun h3 => absurd h3 (nI_pos (by omega))) (fun h3 => ?_)
  refine PW_iload_n c_H_isGuest_4 rfl ?_
  refine PW_aload_n c_H_isGuest_5 rfl ?_
  refine PW_get (v := .int (x.1 51)) c_H_isGuest_6 fl_H_29 (gf_6_3 _ _) ?_
  refine PW_icmp_ge c_H_isGuest_9 (fun h4 => absurd h4 (fun q => absurd ((le_t h51 (by omega) (by omega)).mp q) (by omega))) (fun h4 => ?_)
  refine PW_iload_n c_H_isGuest_12 rfl ?_
  refine PW_bipush (v := 10) c_H_isGuest_13 (by decide) ?_
  refine PW_icmp_ge c_H_isGuest_15 (fun h5 => absurd h5 (n10 (by omega))) (fun h5 => ?_)
  refine PW_iconst (v := 1) c_H_isGuest_18 (by decide) ?_
  refine PW_goto c_H_isGuest_19 ?_
  refine PW_ireturn (ty := .boolean) c_H_isGuest_23 rfl (by decide +kernel) ?_
  show PW _ _ _ 43 [some (.ref 6), some (.int (nI g)), some (.int 2)] [.int 1] (E x y)
  refine PW_if_eq c_H_hasFact_43 (fun h6 => absurd h6 (by decide)) (fun _ => ?_)
  refine PW_iconst (v := 1) c_H_hasFact_46 (by decide) ?_
  refine PW_goto c_H_hasFact_47 ?_
  refine PW_ireturn (ty := .boolean) c_H_hasFact_51 rfl (by decide +kernel) ?_
  show PW _ _ _ 6 [some (.ref 6), some (.int (nI g)), some (.int 2), some (.int v)] [.int 1] (E x y)
  refine PW_if_ne c_H_setFact_6 (fun _ => ?_) (fun h7 => absurd h7 (by decide))
  refine PW_iload_n c_H_setFact_10 rfl ?_
  refine PW_bipush (v := 7) c_H_setFact_11 (by decide) ?_
  refine PW_icmp_ne c_H_setFact_13 (fun _ => ?_) (fun h8 => absurd h8 (by decide))
  refine PW_aload_n c_H_setFact_24 rfl ?_
  refine PW_get (v := .ref 7) c_H_setFact_25 fl_H_13 (gf_6_0 _ _) ?_
  refine PW_iload_n c_H_setFact_28 rfl ?_
  refine PW_aald (j := 2) c_H_setFact_29 (ar_7 _ _) (t0 := 5) rfl rfl (vp_in_iff.mpr (by decide)) rfl ?_
  rw [if_pos (by decide)]
  show PW _ _ _ 30 [some (.ref 6), some (.int (nI g)), some (.int 2), some (.int v)] [.ref 10] (E x y)
  refine PW_iload_n c_H_setFact_30 rfl ?_
  refine PW_iload_n c_H_setFact_31 rfl ?_
  refine PW_iast (j := g) (w2 := E (sA x 10 (upd (x.2.1 10) g v)) y) c_H_setFact_32 (ar_10 _ _) (vp_in_nI (by omega) (by decide)) (nI_clamp (by omega)) (aw_10 _ _ _) ?_
  refine PW_iload_n c_H_setFact_33 rfl ?_
  refine PW_iconst (v := 4) c_H_setFact_34 (by decide) ?_
  refine PW_icmp_ne c_H_setFact_35 (fun _ => ?_) (fun h9 => absurd h9 (by decide))
  refine PW_iload_n c_H_setFact_63 rfl ?_
  refine PW_iconst (v := 5) c_H_setFact_64 (by decide) ?_
  refine PW_icmp_ne c_H_setFact_65 (fun _ => ?_) (fun h10 => absurd h10 (by decide))
  refine PW_iload_n c_H_setFact_93 rfl ?_
  refine PW_iconst (v := 2) c_H_setFact_94 (by decide) ?_
  refine PW_icmp_gt c_H_setFact_95 (fun h11 => absurd h11 (by decide)) (fun _ => ?_)
  refine PW_aload_n c_H_setFact_98 rfl ?_
  refine PW_iload_n c_H_setFact_99 rfl ?_
  refine PW_V0 (d2 := 2) (st := []) [.int (nI g)] c_H_setFact_100 lk_H_setFact_55 (po_6 _ _) rfl rfl rfl (Nat.le_of_ble_eq_true rfl) (by first | decide | omega) (Nat.le_of_ble_eq_true rfl) ?_
  refine sp_seat h51 hn hg ?_
  show PW _ _ _ 103 [some (.ref 6), some (.int (nI g)), some (.int 2), some (.int v)] [] (E (seK (sA x 10 (upd (x.2.1 10) g v)) g 100 0) y)
  refine PW_vreturn c_H_setFact_103 rfl ?_
  exact h
theorem sp_set_3 {z : ZS} {post : Option Value → List PE → Prop} {x y : XS} {v : Int32} {g n : Nat} (h51 : x.1 51 = nI n) (hn : n ≤ 10) (hg : g < n) (h : post none (E (sfX 3 x g v) y)) : PW (3, 0, 0, z) m_H_setFact post 0 [some (.ref 6), some (.int (nI g)), some (.int 3), some (.int v)] [] (E x y) := by
  refine PW_aload_n c_H_setFact_0 rfl ?_
  refine PW_iload_n c_H_setFact_1 rfl ?_
  refine PW_iload_n c_H_setFact_2 rfl ?_
  refine PW_V0 (d2 := 1) (st := []) [.int (nI g), .int 3] c_H_setFact_3 lk_H_setFact_41 (po_6 _ _) rfl rfl rfl (Nat.le_of_ble_eq_true rfl) (by first | decide | omega) (Nat.le_of_ble_eq_true rfl) ?_
  show PW _ _ _ 0 [some (.ref 6), some (.int (nI g)), some (.int 3)] [] (E x y)
  refine PW_iload_n c_H_hasFact_0 rfl ?_
  refine PW_bipush (v := 7) c_H_hasFact_1 (by decide) ?_
  refine PW_icmp_ne c_H_hasFact_3 (fun _ => ?_) (fun h0 => absurd h0 (by decide))
  refine PW_iload_n c_H_hasFact_25 rfl ?_
  refine PW_if_lt c_H_hasFact_26 (fun h1 => absurd h1 (by decide)) (fun _ => ?_)
  refine PW_iload_n c_H_hasFact_29 rfl ?_
  refine PW_aload_n c_H_hasFact_30 rfl ?_
  refine PW_get (v := .ref 7) c_H_hasFact_31 fl_H_13 (gf_6_0 _ _) ?_
  refine PW_alen (v := 7) c_H_hasFact_34 (ar_7 _ _) (t0 := 5) rfl (by decide) ?_
  refine PW_icmp_ge c_H_hasFact_35 (fun h2 => absurd h2 (by decide)) (fun _ => ?_)
  refine PW_aload_n c_H_hasFact_38 rfl ?_
  refine PW_iload_n c_H_hasFact_39 rfl ?_
  refine PW_V0 (d2 := 0) (st := []) [.int (nI g)] c_H_hasFact_40 lk_H_hasFact_37 (po_6 _ _) rfl rfl rfl (Nat.le_of_ble_eq_true rfl) (by first | decide | omega) (Nat.le_of_ble_eq_true rfl) ?_
  show PW _ _ _ 0 [some (.ref 6), some (.int (nI g))] [] (E x y)
  refine PW_iload_n c_H_isGuest_0 rfl ?_
  refine PW_if_lt c_H_isGuest_1 (fun h3 => absurd h3 (nI_pos (by omega))) (fun h3 => ?_)
  refine PW_iload_n c_H_isGuest_4 rfl ?_
  refine PW_aload_n c_H_isGuest_5 rfl ?_
  refine PW_get (v := .int (x.1 51)) c_H_isGuest_6 fl_H_29 (gf_6_3 _ _) ?_
  refine PW_icmp_ge c_H_isGuest_9 (fun h4 => absurd h4 (fun q => absurd ((le_t h51 (by omega) (by omega)).mp q) (by omega))) (fun h4 => ?_)
  refine PW_iload_n c_H_isGuest_12 rfl ?_
  refine PW_bipush (v := 10) c_H_isGuest_13 (by decide) ?_
  refine PW_icmp_ge c_H_isGuest_15 (fun h5 => absurd h5 (n10 (by omega))) (fun h5 => ?_)
  refine PW_iconst (v := 1) c_H_isGuest_18 (by decide) ?_
  refine PW_goto c_H_isGuest_19 ?_
  refine PW_ireturn (ty := .boolean) c_H_isGuest_23 rfl (by decide +kernel) ?_
  show PW _ _ _ 43 [some (.ref 6), some (.int (nI g)), some (.int 3)] [.int 1] (E x y)
  refine PW_if_eq c_H_hasFact_43 (fun h6 => absurd h6 (by decide)) (fun _ => ?_)
  refine PW_iconst (v := 1) c_H_hasFact_46 (by decide) ?_
  refine PW_goto c_H_hasFact_47 ?_
  refine PW_ireturn (ty := .boolean) c_H_hasFact_51 rfl (by decide +kernel) ?_
  show PW _ _ _ 6 [some (.ref 6), some (.int (nI g)), some (.int 3), some (.int v)] [.int 1] (E x y)
  refine PW_if_ne c_H_setFact_6 (fun _ => ?_) (fun h7 => absurd h7 (by decide))
  refine PW_iload_n c_H_setFact_10 rfl ?_
  refine PW_bipush (v := 7) c_H_setFact_11 (by decide) ?_
  refine PW_icmp_ne c_H_setFact_13 (fun _ => ?_) (fun h8 => absurd h8 (by decide))
  refine PW_aload_n c_H_setFact_24 rfl ?_
  refine PW_get (v := .ref 7) c_H_setFact_25 fl_H_13 (gf_6_0 _ _) ?_
  refine PW_iload_n c_H_setFact_28 rfl ?_
  refine PW_aald (j := 3) c_H_setFact_29 (ar_7 _ _) (t0 := 5) rfl rfl (vp_in_iff.mpr (by decide)) rfl ?_
  rw [if_pos (by decide)]
  show PW _ _ _ 30 [some (.ref 6), some (.int (nI g)), some (.int 3), some (.int v)] [.ref 11] (E x y)
  refine PW_iload_n c_H_setFact_30 rfl ?_
  refine PW_iload_n c_H_setFact_31 rfl ?_
  refine PW_iast (j := g) (w2 := E (sA x 11 (upd (x.2.1 11) g v)) y) c_H_setFact_32 (ar_11 _ _) (vp_in_nI (by omega) (by decide)) (nI_clamp (by omega)) (aw_11 _ _ _) ?_
  refine PW_iload_n c_H_setFact_33 rfl ?_
  refine PW_iconst (v := 4) c_H_setFact_34 (by decide) ?_
  refine PW_icmp_ne c_H_setFact_35 (fun _ => ?_) (fun h9 => absurd h9 (by decide))
  refine PW_iload_n c_H_setFact_63 rfl ?_
  refine PW_iconst (v := 5) c_H_setFact_64 (by decide) ?_
  refine PW_icmp_ne c_H_setFact_65 (fun _ => ?_) (fun h10 => absurd h10 (by decide))
  refine PW_iload_n c_H_setFact_93 rfl ?_
  refine PW_iconst (v := 2) c_H_setFact_94 (by decide) ?_
  refine PW_icmp_gt c_H_setFact_95 (fun _ => ?_) (fun h11 => absurd (by decide) h11)
  refine PW_vreturn c_H_setFact_103 rfl ?_
  exact h
theorem sp_set_4 {z : ZS} {post : Option Value → List PE → Prop} {x y : XS} {v : Int32} {g n : Nat} (h51 : x.1 51 = nI n) (hn : n ≤ 10) (hg : g < n) (h : post none (E (sfX 4 x g v) y)) : PW (3, 0, 0, z) m_H_setFact post 0 [some (.ref 6), some (.int (nI g)), some (.int 4), some (.int v)] [] (E x y) := by
  by_cases hv : v = 1
  · skip
    refine PW_aload_n c_H_setFact_0 rfl ?_
    refine PW_iload_n c_H_setFact_1 rfl ?_
    refine PW_iload_n c_H_setFact_2 rfl ?_
    refine PW_V0 (d2 := 1) (st := []) [.int (nI g), .int 4] c_H_setFact_3 lk_H_setFact_41 (po_6 _ _) rfl rfl rfl (Nat.le_of_ble_eq_true rfl) (by first | decide | omega) (Nat.le_of_ble_eq_true rfl) ?_
    show PW _ _ _ 0 [some (.ref 6), some (.int (nI g)), some (.int 4)] [] (E x y)
    refine PW_iload_n c_H_hasFact_0 rfl ?_
    refine PW_bipush (v := 7) c_H_hasFact_1 (by decide) ?_
    refine PW_icmp_ne c_H_hasFact_3 (fun _ => ?_) (fun h0 => absurd h0 (by decide))
    refine PW_iload_n c_H_hasFact_25 rfl ?_
    refine PW_if_lt c_H_hasFact_26 (fun h1 => absurd h1 (by decide)) (fun _ => ?_)
    refine PW_iload_n c_H_hasFact_29 rfl ?_
    refine PW_aload_n c_H_hasFact_30 rfl ?_
    refine PW_get (v := .ref 7) c_H_hasFact_31 fl_H_13 (gf_6_0 _ _) ?_
    refine PW_alen (v := 7) c_H_hasFact_34 (ar_7 _ _) (t0 := 5) rfl (by decide) ?_
    refine PW_icmp_ge c_H_hasFact_35 (fun h2 => absurd h2 (by decide)) (fun _ => ?_)
    refine PW_aload_n c_H_hasFact_38 rfl ?_
    refine PW_iload_n c_H_hasFact_39 rfl ?_
    refine PW_V0 (d2 := 0) (st := []) [.int (nI g)] c_H_hasFact_40 lk_H_hasFact_37 (po_6 _ _) rfl rfl rfl (Nat.le_of_ble_eq_true rfl) (by first | decide | omega) (Nat.le_of_ble_eq_true rfl) ?_
    show PW _ _ _ 0 [some (.ref 6), some (.int (nI g))] [] (E x y)
    refine PW_iload_n c_H_isGuest_0 rfl ?_
    refine PW_if_lt c_H_isGuest_1 (fun h3 => absurd h3 (nI_pos (by omega))) (fun h3 => ?_)
    refine PW_iload_n c_H_isGuest_4 rfl ?_
    refine PW_aload_n c_H_isGuest_5 rfl ?_
    refine PW_get (v := .int (x.1 51)) c_H_isGuest_6 fl_H_29 (gf_6_3 _ _) ?_
    refine PW_icmp_ge c_H_isGuest_9 (fun h4 => absurd h4 (fun q => absurd ((le_t h51 (by omega) (by omega)).mp q) (by omega))) (fun h4 => ?_)
    refine PW_iload_n c_H_isGuest_12 rfl ?_
    refine PW_bipush (v := 10) c_H_isGuest_13 (by decide) ?_
    refine PW_icmp_ge c_H_isGuest_15 (fun h5 => absurd h5 (n10 (by omega))) (fun h5 => ?_)
    refine PW_iconst (v := 1) c_H_isGuest_18 (by decide) ?_
    refine PW_goto c_H_isGuest_19 ?_
    refine PW_ireturn (ty := .boolean) c_H_isGuest_23 rfl (by decide +kernel) ?_
    show PW _ _ _ 43 [some (.ref 6), some (.int (nI g)), some (.int 4)] [.int 1] (E x y)
    refine PW_if_eq c_H_hasFact_43 (fun h6 => absurd h6 (by decide)) (fun _ => ?_)
    refine PW_iconst (v := 1) c_H_hasFact_46 (by decide) ?_
    refine PW_goto c_H_hasFact_47 ?_
    refine PW_ireturn (ty := .boolean) c_H_hasFact_51 rfl (by decide +kernel) ?_
    show PW _ _ _ 6 [some (.ref 6), some (.int (nI g)), some (.int 4), some (.int v)] [.int 1] (E x y)
    refine PW_if_ne c_H_setFact_6 (fun _ => ?_) (fun h7 => absurd h7 (by decide))
    refine PW_iload_n c_H_setFact_10 rfl ?_
    refine PW_bipush (v := 7) c_H_setFact_11 (by decide) ?_
    refine PW_icmp_ne c_H_setFact_13 (fun _ => ?_) (fun h8 => absurd h8 (by decide))
    refine PW_aload_n c_H_setFact_24 rfl ?_
    refine PW_get (v := .ref 7) c_H_setFact_25 fl_H_13 (gf_6_0 _ _) ?_
    refine PW_iload_n c_H_setFact_28 rfl ?_
    refine PW_aald (j := 4) c_H_setFact_29 (ar_7 _ _) (t0 := 5) rfl rfl (vp_in_iff.mpr (by decide)) rfl ?_
    rw [if_pos (by decide)]
    show PW _ _ _ 30 [some (.ref 6), some (.int (nI g)), some (.int 4), some (.int v)] [.ref 12] (E x y)
    refine PW_iload_n c_H_setFact_30 rfl ?_
    refine PW_iload_n c_H_setFact_31 rfl ?_
    refine PW_iast (j := g) (w2 := E (sA x 12 (upd (x.2.1 12) g v)) y) c_H_setFact_32 (ar_12 _ _) (vp_in_nI (by omega) (by decide)) (nI_clamp (by omega)) (aw_12 _ _ _) ?_
    refine PW_iload_n c_H_setFact_33 rfl ?_
    refine PW_iconst (v := 4) c_H_setFact_34 (by decide) ?_
    refine PW_icmp_ne c_H_setFact_35 (fun h9 => absurd (by decide) h9) (fun _ => ?_)
    refine PW_aload_n c_H_setFact_38 rfl ?_
    refine PW_aload_n c_H_setFact_39 rfl ?_
    refine PW_get (v := .int (x.1 52)) c_H_setFact_40 fl_H_45 (gf_6_4 _ _) ?_
    refine PW_iload_n c_H_setFact_43 rfl ?_
    refine PW_iload_n c_H_setFact_44 rfl ?_
    refine PW_iconst (v := 1) c_H_setFact_45 (by decide) ?_
    refine PW_icmp_ne c_H_setFact_46 (fun h10 => absurd h10 (not_not_intro hv)) (fun h10 => ?_)
    refine PW_iconst (v := 1) c_H_setFact_49 (by decide) ?_
    refine PW_goto c_H_setFact_50 ?_
    refine PW_S0 (d2 := 0) (st := [.ref 6]) [.int (x.1 52), .int (nI g), .int 1] c_H_setFact_54 lk_H_setFact_48 rfl rfl rfl (Nat.le_of_ble_eq_true rfl) (by first | decide | omega) (Nat.le_of_ble_eq_true rfl) ?_
    show PW _ _ _ 0 [some (.int (x.1 52)), some (.int (nI g)), some (.int 1)] [] (E (sA x 12 (upd (x.2.1 12) g v)) y)
    refine PW_iload_n c_H_withBit_0 rfl ?_
    refine PW_if_eq c_H_withBit_1 (fun h11 => absurd h11 (by decide)) (fun _ => ?_)
    refine PW_iload_n c_H_withBit_4 rfl ?_
    refine PW_iconst (v := 1) c_H_withBit_5 (by decide) ?_
    refine PW_iload_n c_H_withBit_6 rfl ?_
    refine PW_ishl c_H_withBit_7 ?_
    refine PW_ior c_H_withBit_8 ?_
    refine PW_goto c_H_withBit_9 ?_
    refine PW_ireturn (ty := .int) c_H_withBit_19 rfl rfl ?_
    show PW _ _ _ 57 [some (.ref 6), some (.int (nI g)), some (.int 4), some (.int v)] [.int ((x.1 52) ||| (1 <<< ((nI g) &&& 31))), .ref 6] (E (sA x 12 (upd (x.2.1 12) g v)) y)
    refine PW_put (w2 := E (sI (sA x 12 (upd (x.2.1 12) g v)) 52 ((x.1 52) ||| (1 <<< ((nI g) &&& 31)))) y) c_H_setFact_57 fp_H_setFact_45 rfl (pf_6_4 _ _ _) ?_
    refine PW_goto c_H_setFact_60 ?_
    refine PW_vreturn c_H_setFact_103 rfl ?_
    rw [wb_t hv]
    exact h
  · skip
    refine PW_aload_n c_H_setFact_0 rfl ?_
    refine PW_iload_n c_H_setFact_1 rfl ?_
    refine PW_iload_n c_H_setFact_2 rfl ?_
    refine PW_V0 (d2 := 1) (st := []) [.int (nI g), .int 4] c_H_setFact_3 lk_H_setFact_41 (po_6 _ _) rfl rfl rfl (Nat.le_of_ble_eq_true rfl) (by first | decide | omega) (Nat.le_of_ble_eq_true rfl) ?_
    show PW _ _ _ 0 [some (.ref 6), some (.int (nI g)), some (.int 4)] [] (E x y)
    refine PW_iload_n c_H_hasFact_0 rfl ?_
    refine PW_bipush (v := 7) c_H_hasFact_1 (by decide) ?_
    refine PW_icmp_ne c_H_hasFact_3 (fun _ => ?_) (fun h0 => absurd h0 (by decide))
    refine PW_iload_n c_H_hasFact_25 rfl ?_
    refine PW_if_lt c_H_hasFact_26 (fun h1 => absurd h1 (by decide)) (fun _ => ?_)
    refine PW_iload_n c_H_hasFact_29 rfl ?_
    refine PW_aload_n c_H_hasFact_30 rfl ?_
    refine PW_get (v := .ref 7) c_H_hasFact_31 fl_H_13 (gf_6_0 _ _) ?_
    refine PW_alen (v := 7) c_H_hasFact_34 (ar_7 _ _) (t0 := 5) rfl (by decide) ?_
    refine PW_icmp_ge c_H_hasFact_35 (fun h2 => absurd h2 (by decide)) (fun _ => ?_)
    refine PW_aload_n c_H_hasFact_38 rfl ?_
    refine PW_iload_n c_H_hasFact_39 rfl ?_
    refine PW_V0 (d2 := 0) (st := []) [.int (nI g)] c_H_hasFact_40 lk_H_hasFact_37 (po_6 _ _) rfl rfl rfl (Nat.le_of_ble_eq_true rfl) (by first | decide | omega) (Nat.le_of_ble_eq_true rfl) ?_
    show PW _ _ _ 0 [some (.ref 6), some (.int (nI g))] [] (E x y)
    refine PW_iload_n c_H_isGuest_0 rfl ?_
    refine PW_if_lt c_H_isGuest_1 (fun h3 => absurd h3 (nI_pos (by omega))) (fun h3 => ?_)
    refine PW_iload_n c_H_isGuest_4 rfl ?_
    refine PW_aload_n c_H_isGuest_5 rfl ?_
    refine PW_get (v := .int (x.1 51)) c_H_isGuest_6 fl_H_29 (gf_6_3 _ _) ?_
    refine PW_icmp_ge c_H_isGuest_9 (fun h4 => absurd h4 (fun q => absurd ((le_t h51 (by omega) (by omega)).mp q) (by omega))) (fun h4 => ?_)
    refine PW_iload_n c_H_isGuest_12 rfl ?_
    refine PW_bipush (v := 10) c_H_isGuest_13 (by decide) ?_
    refine PW_icmp_ge c_H_isGuest_15 (fun h5 => absurd h5 (n10 (by omega))) (fun h5 => ?_)
    refine PW_iconst (v := 1) c_H_isGuest_18 (by decide) ?_
    refine PW_goto c_H_isGuest_19 ?_
    refine PW_ireturn (ty := .boolean) c_H_isGuest_23 rfl (by decide +kernel) ?_
    show PW _ _ _ 43 [some (.ref 6), some (.int (nI g)), some (.int 4)] [.int 1] (E x y)
    refine PW_if_eq c_H_hasFact_43 (fun h6 => absurd h6 (by decide)) (fun _ => ?_)
    refine PW_iconst (v := 1) c_H_hasFact_46 (by decide) ?_
    refine PW_goto c_H_hasFact_47 ?_
    refine PW_ireturn (ty := .boolean) c_H_hasFact_51 rfl (by decide +kernel) ?_
    show PW _ _ _ 6 [some (.ref 6), some (.int (nI g)), some (.int 4), some (.int v)] [.int 1] (E x y)
    refine PW_if_ne c_H_setFact_6 (fun _ => ?_) (fun h7 => absurd h7 (by decide))
    refine PW_iload_n c_H_setFact_10 rfl ?_
    refine PW_bipush (v := 7) c_H_setFact_11 (by decide) ?_
    refine PW_icmp_ne c_H_setFact_13 (fun _ => ?_) (fun h8 => absurd h8 (by decide))
    refine PW_aload_n c_H_setFact_24 rfl ?_
    refine PW_get (v := .ref 7) c_H_setFact_25 fl_H_13 (gf_6_0 _ _) ?_
    refine PW_iload_n c_H_setFact_28 rfl ?_
    refine PW_aald (j := 4) c_H_setFact_29 (ar_7 _ _) (t0 := 5) rfl rfl (vp_in_iff.mpr (by decide)) rfl ?_
    rw [if_pos (by decide)]
    show PW _ _ _ 30 [some (.ref 6), some (.int (nI g)), some (.int 4), some (.int v)] [.ref 12] (E x y)
    refine PW_iload_n c_H_setFact_30 rfl ?_
    refine PW_iload_n c_H_setFact_31 rfl ?_
    refine PW_iast (j := g) (w2 := E (sA x 12 (upd (x.2.1 12) g v)) y) c_H_setFact_32 (ar_12 _ _) (vp_in_nI (by omega) (by decide)) (nI_clamp (by omega)) (aw_12 _ _ _) ?_
    refine PW_iload_n c_H_setFact_33 rfl ?_
    refine PW_iconst (v := 4) c_H_setFact_34 (by decide) ?_
    refine PW_icmp_ne c_H_setFact_35 (fun h9 => absurd (by decide) h9) (fun _ => ?_)
    refine PW_aload_n c_H_setFact_38 rfl ?_
    refine PW_aload_n c_H_setFact_39 rfl ?_
    refine PW_get (v := .int (x.1 52)) c_H_setFact_40 fl_H_45 (gf_6_4 _ _) ?_
    refine PW_iload_n c_H_setFact_43 rfl ?_
    refine PW_iload_n c_H_setFact_44 rfl ?_
    refine PW_iconst (v := 1) c_H_setFact_45 (by decide) ?_
    refine PW_icmp_ne c_H_setFact_46 (fun h10 => ?_) (fun h10 => absurd h10 hv)
    refine PW_iconst (v := 0) c_H_setFact_53 (by decide) ?_
    refine PW_S0 (d2 := 0) (st := [.ref 6]) [.int (x.1 52), .int (nI g), .int 0] c_H_setFact_54 lk_H_setFact_48 rfl rfl rfl (Nat.le_of_ble_eq_true rfl) (by first | decide | omega) (Nat.le_of_ble_eq_true rfl) ?_
    show PW _ _ _ 0 [some (.int (x.1 52)), some (.int (nI g)), some (.int 0)] [] (E (sA x 12 (upd (x.2.1 12) g v)) y)
    refine PW_iload_n c_H_withBit_0 rfl ?_
    refine PW_if_eq c_H_withBit_1 (fun _ => ?_) (fun h11 => absurd (by decide) h11)
    refine PW_iload_n c_H_withBit_12 rfl ?_
    refine PW_iconst (v := 1) c_H_withBit_13 (by decide) ?_
    refine PW_iload_n c_H_withBit_14 rfl ?_
    refine PW_ishl c_H_withBit_15 ?_
    refine PW_iconst (v := -1) c_H_withBit_16 (by decide) ?_
    refine PW_ixor c_H_withBit_17 ?_
    refine PW_iand c_H_withBit_18 ?_
    refine PW_ireturn (ty := .int) c_H_withBit_19 rfl rfl ?_
    show PW _ _ _ 57 [some (.ref 6), some (.int (nI g)), some (.int 4), some (.int v)] [.int ((x.1 52) &&& (((1 : Int32) <<< ((nI g) &&& 31)) ^^^ (-1))), .ref 6] (E (sA x 12 (upd (x.2.1 12) g v)) y)
    refine PW_put (w2 := E (sI (sA x 12 (upd (x.2.1 12) g v)) 52 ((x.1 52) &&& (((1 : Int32) <<< ((nI g) &&& 31)) ^^^ (-1)))) y) c_H_setFact_57 fp_H_setFact_45 rfl (pf_6_4 _ _ _) ?_
    refine PW_goto c_H_setFact_60 ?_
    refine PW_vreturn c_H_setFact_103 rfl ?_
    rw [wb_f hv]
    exact h
theorem sp_set_5 {z : ZS} {post : Option Value → List PE → Prop} {x y : XS} {v : Int32} {g n : Nat} (h51 : x.1 51 = nI n) (hn : n ≤ 10) (hg : g < n) (h : post none (E (sfX 5 x g v) y)) : PW (3, 0, 0, z) m_H_setFact post 0 [some (.ref 6), some (.int (nI g)), some (.int 5), some (.int v)] [] (E x y) := by
  by_cases hv : v = 1
  · skip
    refine PW_aload_n c_H_setFact_0 rfl ?_
    refine PW_iload_n c_H_setFact_1 rfl ?_
    refine PW_iload_n c_H_setFact_2 rfl ?_
    refine PW_V0 (d2 := 1) (st := []) [.int (nI g), .int 5] c_H_setFact_3 lk_H_setFact_41 (po_6 _ _) rfl rfl rfl (Nat.le_of_ble_eq_true rfl) (by first | decide | omega) (Nat.le_of_ble_eq_true rfl) ?_
    show PW _ _ _ 0 [some (.ref 6), some (.int (nI g)), some (.int 5)] [] (E x y)
    refine PW_iload_n c_H_hasFact_0 rfl ?_
    refine PW_bipush (v := 7) c_H_hasFact_1 (by decide) ?_
    refine PW_icmp_ne c_H_hasFact_3 (fun _ => ?_) (fun h0 => absurd h0 (by decide))
    refine PW_iload_n c_H_hasFact_25 rfl ?_
    refine PW_if_lt c_H_hasFact_26 (fun h1 => absurd h1 (by decide)) (fun _ => ?_)
    refine PW_iload_n c_H_hasFact_29 rfl ?_
    refine PW_aload_n c_H_hasFact_30 rfl ?_
    refine PW_get (v := .ref 7) c_H_hasFact_31 fl_H_13 (gf_6_0 _ _) ?_
    refine PW_alen (v := 7) c_H_hasFact_34 (ar_7 _ _) (t0 := 5) rfl (by decide) ?_
    refine PW_icmp_ge c_H_hasFact_35 (fun h2 => absurd h2 (by decide)) (fun _ => ?_)
    refine PW_aload_n c_H_hasFact_38 rfl ?_
    refine PW_iload_n c_H_hasFact_39 rfl ?_
    refine PW_V0 (d2 := 0) (st := []) [.int (nI g)] c_H_hasFact_40 lk_H_hasFact_37 (po_6 _ _) rfl rfl rfl (Nat.le_of_ble_eq_true rfl) (by first | decide | omega) (Nat.le_of_ble_eq_true rfl) ?_
    show PW _ _ _ 0 [some (.ref 6), some (.int (nI g))] [] (E x y)
    refine PW_iload_n c_H_isGuest_0 rfl ?_
    refine PW_if_lt c_H_isGuest_1 (fun h3 => absurd h3 (nI_pos (by omega))) (fun h3 => ?_)
    refine PW_iload_n c_H_isGuest_4 rfl ?_
    refine PW_aload_n c_H_isGuest_5 rfl ?_
    refine PW_get (v := .int (x.1 51)) c_H_isGuest_6 fl_H_29 (gf_6_3 _ _) ?_
    refine PW_icmp_ge c_H_isGuest_9 (fun h4 => absurd h4 (fun q => absurd ((le_t h51 (by omega) (by omega)).mp q) (by omega))) (fun h4 => ?_)
    refine PW_iload_n c_H_isGuest_12 rfl ?_
    refine PW_bipush (v := 10) c_H_isGuest_13 (by decide) ?_
    refine PW_icmp_ge c_H_isGuest_15 (fun h5 => absurd h5 (n10 (by omega))) (fun h5 => ?_)
    refine PW_iconst (v := 1) c_H_isGuest_18 (by decide) ?_
    refine PW_goto c_H_isGuest_19 ?_
    refine PW_ireturn (ty := .boolean) c_H_isGuest_23 rfl (by decide +kernel) ?_
    show PW _ _ _ 43 [some (.ref 6), some (.int (nI g)), some (.int 5)] [.int 1] (E x y)
    refine PW_if_eq c_H_hasFact_43 (fun h6 => absurd h6 (by decide)) (fun _ => ?_)
    refine PW_iconst (v := 1) c_H_hasFact_46 (by decide) ?_
    refine PW_goto c_H_hasFact_47 ?_
    refine PW_ireturn (ty := .boolean) c_H_hasFact_51 rfl (by decide +kernel) ?_
    show PW _ _ _ 6 [some (.ref 6), some (.int (nI g)), some (.int 5), some (.int v)] [.int 1] (E x y)
    refine PW_if_ne c_H_setFact_6 (fun _ => ?_) (fun h7 => absurd h7 (by decide))
    refine PW_iload_n c_H_setFact_10 rfl ?_
    refine PW_bipush (v := 7) c_H_setFact_11 (by decide) ?_
    refine PW_icmp_ne c_H_setFact_13 (fun _ => ?_) (fun h8 => absurd h8 (by decide))
    refine PW_aload_n c_H_setFact_24 rfl ?_
    refine PW_get (v := .ref 7) c_H_setFact_25 fl_H_13 (gf_6_0 _ _) ?_
    refine PW_iload_n c_H_setFact_28 rfl ?_
    refine PW_aald (j := 5) c_H_setFact_29 (ar_7 _ _) (t0 := 5) rfl rfl (vp_in_iff.mpr (by decide)) rfl ?_
    rw [if_pos (by decide)]
    show PW _ _ _ 30 [some (.ref 6), some (.int (nI g)), some (.int 5), some (.int v)] [.ref 13] (E x y)
    refine PW_iload_n c_H_setFact_30 rfl ?_
    refine PW_iload_n c_H_setFact_31 rfl ?_
    refine PW_iast (j := g) (w2 := E (sA x 13 (upd (x.2.1 13) g v)) y) c_H_setFact_32 (ar_13 _ _) (vp_in_nI (by omega) (by decide)) (nI_clamp (by omega)) (aw_13 _ _ _) ?_
    refine PW_iload_n c_H_setFact_33 rfl ?_
    refine PW_iconst (v := 4) c_H_setFact_34 (by decide) ?_
    refine PW_icmp_ne c_H_setFact_35 (fun _ => ?_) (fun h9 => absurd h9 (by decide))
    refine PW_iload_n c_H_setFact_63 rfl ?_
    refine PW_iconst (v := 5) c_H_setFact_64 (by decide) ?_
    refine PW_icmp_ne c_H_setFact_65 (fun h10 => absurd (by decide) h10) (fun _ => ?_)
    refine PW_aload_n c_H_setFact_68 rfl ?_
    refine PW_aload_n c_H_setFact_69 rfl ?_
    refine PW_get (v := .int (x.1 53)) c_H_setFact_70 fl_H_52 (gf_6_5 _ _) ?_
    refine PW_iload_n c_H_setFact_73 rfl ?_
    refine PW_iload_n c_H_setFact_74 rfl ?_
    refine PW_iconst (v := 1) c_H_setFact_75 (by decide) ?_
    refine PW_icmp_ne c_H_setFact_76 (fun h11 => absurd h11 (not_not_intro hv)) (fun h11 => ?_)
    refine PW_iconst (v := 1) c_H_setFact_79 (by decide) ?_
    refine PW_goto c_H_setFact_80 ?_
    refine PW_S0 (d2 := 0) (st := [.ref 6]) [.int (x.1 53), .int (nI g), .int 1] c_H_setFact_84 lk_H_setFact_48 rfl rfl rfl (Nat.le_of_ble_eq_true rfl) (by first | decide | omega) (Nat.le_of_ble_eq_true rfl) ?_
    show PW _ _ _ 0 [some (.int (x.1 53)), some (.int (nI g)), some (.int 1)] [] (E (sA x 13 (upd (x.2.1 13) g v)) y)
    refine PW_iload_n c_H_withBit_0 rfl ?_
    refine PW_if_eq c_H_withBit_1 (fun h12 => absurd h12 (by decide)) (fun _ => ?_)
    refine PW_iload_n c_H_withBit_4 rfl ?_
    refine PW_iconst (v := 1) c_H_withBit_5 (by decide) ?_
    refine PW_iload_n c_H_withBit_6 rfl ?_
    refine PW_ishl c_H_withBit_7 ?_
    refine PW_ior c_H_withBit_8 ?_
    refine PW_goto c_H_withBit_9 ?_
    refine PW_ireturn (ty := .int) c_H_withBit_19 rfl rfl ?_
    show PW _ _ _ 87 [some (.ref 6), some (.int (nI g)), some (.int 5), some (.int v)] [.int ((x.1 53) ||| (1 <<< ((nI g) &&& 31))), .ref 6] (E (sA x 13 (upd (x.2.1 13) g v)) y)
    refine PW_put (w2 := E (sI (sA x 13 (upd (x.2.1 13) g v)) 53 ((x.1 53) ||| (1 <<< ((nI g) &&& 31)))) y) c_H_setFact_87 fp_H_setFact_52 rfl (pf_6_5 _ _ _) ?_
    refine PW_goto c_H_setFact_90 ?_
    refine PW_vreturn c_H_setFact_103 rfl ?_
    rw [wb_t hv]
    exact h
  · skip
    refine PW_aload_n c_H_setFact_0 rfl ?_
    refine PW_iload_n c_H_setFact_1 rfl ?_
    refine PW_iload_n c_H_setFact_2 rfl ?_
    refine PW_V0 (d2 := 1) (st := []) [.int (nI g), .int 5] c_H_setFact_3 lk_H_setFact_41 (po_6 _ _) rfl rfl rfl (Nat.le_of_ble_eq_true rfl) (by first | decide | omega) (Nat.le_of_ble_eq_true rfl) ?_
    show PW _ _ _ 0 [some (.ref 6), some (.int (nI g)), some (.int 5)] [] (E x y)
    refine PW_iload_n c_H_hasFact_0 rfl ?_
    refine PW_bipush (v := 7) c_H_hasFact_1 (by decide) ?_
    refine PW_icmp_ne c_H_hasFact_3 (fun _ => ?_) (fun h0 => absurd h0 (by decide))
    refine PW_iload_n c_H_hasFact_25 rfl ?_
    refine PW_if_lt c_H_hasFact_26 (fun h1 => absurd h1 (by decide)) (fun _ => ?_)
    refine PW_iload_n c_H_hasFact_29 rfl ?_
    refine PW_aload_n c_H_hasFact_30 rfl ?_
    refine PW_get (v := .ref 7) c_H_hasFact_31 fl_H_13 (gf_6_0 _ _) ?_
    refine PW_alen (v := 7) c_H_hasFact_34 (ar_7 _ _) (t0 := 5) rfl (by decide) ?_
    refine PW_icmp_ge c_H_hasFact_35 (fun h2 => absurd h2 (by decide)) (fun _ => ?_)
    refine PW_aload_n c_H_hasFact_38 rfl ?_
    refine PW_iload_n c_H_hasFact_39 rfl ?_
    refine PW_V0 (d2 := 0) (st := []) [.int (nI g)] c_H_hasFact_40 lk_H_hasFact_37 (po_6 _ _) rfl rfl rfl (Nat.le_of_ble_eq_true rfl) (by first | decide | omega) (Nat.le_of_ble_eq_true rfl) ?_
    show PW _ _ _ 0 [some (.ref 6), some (.int (nI g))] [] (E x y)
    refine PW_iload_n c_H_isGuest_0 rfl ?_
    refine PW_if_lt c_H_isGuest_1 (fun h3 => absurd h3 (nI_pos (by omega))) (fun h3 => ?_)
    refine PW_iload_n c_H_isGuest_4 rfl ?_
    refine PW_aload_n c_H_isGuest_5 rfl ?_
    refine PW_get (v := .int (x.1 51)) c_H_isGuest_6 fl_H_29 (gf_6_3 _ _) ?_
    refine PW_icmp_ge c_H_isGuest_9 (fun h4 => absurd h4 (fun q => absurd ((le_t h51 (by omega) (by omega)).mp q) (by omega))) (fun h4 => ?_)
    refine PW_iload_n c_H_isGuest_12 rfl ?_
    refine PW_bipush (v := 10) c_H_isGuest_13 (by decide) ?_
    refine PW_icmp_ge c_H_isGuest_15 (fun h5 => absurd h5 (n10 (by omega))) (fun h5 => ?_)
    refine PW_iconst (v := 1) c_H_isGuest_18 (by decide) ?_
    refine PW_goto c_H_isGuest_19 ?_
    refine PW_ireturn (ty := .boolean) c_H_isGuest_23 rfl (by decide +kernel) ?_
    show PW _ _ _ 43 [some (.ref 6), some (.int (nI g)), some (.int 5)] [.int 1] (E x y)
    refine PW_if_eq c_H_hasFact_43 (fun h6 => absurd h6 (by decide)) (fun _ => ?_)
    refine PW_iconst (v := 1) c_H_hasFact_46 (by decide) ?_
    refine PW_goto c_H_hasFact_47 ?_
    refine PW_ireturn (ty := .boolean) c_H_hasFact_51 rfl (by decide +kernel) ?_
    show PW _ _ _ 6 [some (.ref 6), some (.int (nI g)), some (.int 5), some (.int v)] [.int 1] (E x y)
    refine PW_if_ne c_H_setFact_6 (fun _ => ?_) (fun h7 => absurd h7 (by decide))
    refine PW_iload_n c_H_setFact_10 rfl ?_
    refine PW_bipush (v := 7) c_H_setFact_11 (by decide) ?_
    refine PW_icmp_ne c_H_setFact_13 (fun _ => ?_) (fun h8 => absurd h8 (by decide))
    refine PW_aload_n c_H_setFact_24 rfl ?_
    refine PW_get (v := .ref 7) c_H_setFact_25 fl_H_13 (gf_6_0 _ _) ?_
    refine PW_iload_n c_H_setFact_28 rfl ?_
    refine PW_aald (j := 5) c_H_setFact_29 (ar_7 _ _) (t0 := 5) rfl rfl (vp_in_iff.mpr (by decide)) rfl ?_
    rw [if_pos (by decide)]
    show PW _ _ _ 30 [some (.ref 6), some (.int (nI g)), some (.int 5), some (.int v)] [.ref 13] (E x y)
    refine PW_iload_n c_H_setFact_30 rfl ?_
    refine PW_iload_n c_H_setFact_31 rfl ?_
    refine PW_iast (j := g) (w2 := E (sA x 13 (upd (x.2.1 13) g v)) y) c_H_setFact_32 (ar_13 _ _) (vp_in_nI (by omega) (by decide)) (nI_clamp (by omega)) (aw_13 _ _ _) ?_
    refine PW_iload_n c_H_setFact_33 rfl ?_
    refine PW_iconst (v := 4) c_H_setFact_34 (by decide) ?_
    refine PW_icmp_ne c_H_setFact_35 (fun _ => ?_) (fun h9 => absurd h9 (by decide))
    refine PW_iload_n c_H_setFact_63 rfl ?_
    refine PW_iconst (v := 5) c_H_setFact_64 (by decide) ?_
    refine PW_icmp_ne c_H_setFact_65 (fun h10 => absurd (by decide) h10) (fun _ => ?_)
    refine PW_aload_n c_H_setFact_68 rfl ?_
    refine PW_aload_n c_H_setFact_69 rfl ?_
    refine PW_get (v := .int (x.1 53)) c_H_setFact_70 fl_H_52 (gf_6_5 _ _) ?_
    refine PW_iload_n c_H_setFact_73 rfl ?_
    refine PW_iload_n c_H_setFact_74 rfl ?_
    refine PW_iconst (v := 1) c_H_setFact_75 (by decide) ?_
    refine PW_icmp_ne c_H_setFact_76 (fun h11 => ?_) (fun h11 => absurd h11 hv)
    refine PW_iconst (v := 0) c_H_setFact_83 (by decide) ?_
    refine PW_S0 (d2 := 0) (st := [.ref 6]) [.int (x.1 53), .int (nI g), .int 0] c_H_setFact_84 lk_H_setFact_48 rfl rfl rfl (Nat.le_of_ble_eq_true rfl) (by first | decide | omega) (Nat.le_of_ble_eq_true rfl) ?_
    show PW _ _ _ 0 [some (.int (x.1 53)), some (.int (nI g)), some (.int 0)] [] (E (sA x 13 (upd (x.2.1 13) g v)) y)
    refine PW_iload_n c_H_withBit_0 rfl ?_
    refine PW_if_eq c_H_withBit_1 (fun _ => ?_) (fun h12 => absurd (by decide) h12)
    refine PW_iload_n c_H_withBit_12 rfl ?_
    refine PW_iconst (v := 1) c_H_withBit_13 (by decide) ?_
    refine PW_iload_n c_H_withBit_14 rfl ?_
    refine PW_ishl c_H_withBit_15 ?_
    refine PW_iconst (v := -1) c_H_withBit_16 (by decide) ?_
    refine PW_ixor c_H_withBit_17 ?_
    refine PW_iand c_H_withBit_18 ?_
    refine PW_ireturn (ty := .int) c_H_withBit_19 rfl rfl ?_
    show PW _ _ _ 87 [some (.ref 6), some (.int (nI g)), some (.int 5), some (.int v)] [.int ((x.1 53) &&& (((1 : Int32) <<< ((nI g) &&& 31)) ^^^ (-1))), .ref 6] (E (sA x 13 (upd (x.2.1 13) g v)) y)
    refine PW_put (w2 := E (sI (sA x 13 (upd (x.2.1 13) g v)) 53 ((x.1 53) &&& (((1 : Int32) <<< ((nI g) &&& 31)) ^^^ (-1)))) y) c_H_setFact_87 fp_H_setFact_52 rfl (pf_6_5 _ _ _) ?_
    refine PW_goto c_H_setFact_90 ?_
    refine PW_vreturn c_H_setFact_103 rfl ?_
    rw [wb_f hv]
    exact h
theorem sp_set_6 {z : ZS} {post : Option Value → List PE → Prop} {x y : XS} {v : Int32} {g n : Nat} (h51 : x.1 51 = nI n) (hn : n ≤ 10) (hg : g < n) (h : post none (E (sfX 6 x g v) y)) : PW (3, 0, 0, z) m_H_setFact post 0 [some (.ref 6), some (.int (nI g)), some (.int 6), some (.int v)] [] (E x y) := by
  refine PW_aload_n c_H_setFact_0 rfl ?_
  refine PW_iload_n c_H_setFact_1 rfl ?_
  refine PW_iload_n c_H_setFact_2 rfl ?_
  refine PW_V0 (d2 := 1) (st := []) [.int (nI g), .int 6] c_H_setFact_3 lk_H_setFact_41 (po_6 _ _) rfl rfl rfl (Nat.le_of_ble_eq_true rfl) (by first | decide | omega) (Nat.le_of_ble_eq_true rfl) ?_
  show PW _ _ _ 0 [some (.ref 6), some (.int (nI g)), some (.int 6)] [] (E x y)
  refine PW_iload_n c_H_hasFact_0 rfl ?_
  refine PW_bipush (v := 7) c_H_hasFact_1 (by decide) ?_
  refine PW_icmp_ne c_H_hasFact_3 (fun _ => ?_) (fun h0 => absurd h0 (by decide))
  refine PW_iload_n c_H_hasFact_25 rfl ?_
  refine PW_if_lt c_H_hasFact_26 (fun h1 => absurd h1 (by decide)) (fun _ => ?_)
  refine PW_iload_n c_H_hasFact_29 rfl ?_
  refine PW_aload_n c_H_hasFact_30 rfl ?_
  refine PW_get (v := .ref 7) c_H_hasFact_31 fl_H_13 (gf_6_0 _ _) ?_
  refine PW_alen (v := 7) c_H_hasFact_34 (ar_7 _ _) (t0 := 5) rfl (by decide) ?_
  refine PW_icmp_ge c_H_hasFact_35 (fun h2 => absurd h2 (by decide)) (fun _ => ?_)
  refine PW_aload_n c_H_hasFact_38 rfl ?_
  refine PW_iload_n c_H_hasFact_39 rfl ?_
  refine PW_V0 (d2 := 0) (st := []) [.int (nI g)] c_H_hasFact_40 lk_H_hasFact_37 (po_6 _ _) rfl rfl rfl (Nat.le_of_ble_eq_true rfl) (by first | decide | omega) (Nat.le_of_ble_eq_true rfl) ?_
  show PW _ _ _ 0 [some (.ref 6), some (.int (nI g))] [] (E x y)
  refine PW_iload_n c_H_isGuest_0 rfl ?_
  refine PW_if_lt c_H_isGuest_1 (fun h3 => absurd h3 (nI_pos (by omega))) (fun h3 => ?_)
  refine PW_iload_n c_H_isGuest_4 rfl ?_
  refine PW_aload_n c_H_isGuest_5 rfl ?_
  refine PW_get (v := .int (x.1 51)) c_H_isGuest_6 fl_H_29 (gf_6_3 _ _) ?_
  refine PW_icmp_ge c_H_isGuest_9 (fun h4 => absurd h4 (fun q => absurd ((le_t h51 (by omega) (by omega)).mp q) (by omega))) (fun h4 => ?_)
  refine PW_iload_n c_H_isGuest_12 rfl ?_
  refine PW_bipush (v := 10) c_H_isGuest_13 (by decide) ?_
  refine PW_icmp_ge c_H_isGuest_15 (fun h5 => absurd h5 (n10 (by omega))) (fun h5 => ?_)
  refine PW_iconst (v := 1) c_H_isGuest_18 (by decide) ?_
  refine PW_goto c_H_isGuest_19 ?_
  refine PW_ireturn (ty := .boolean) c_H_isGuest_23 rfl (by decide +kernel) ?_
  show PW _ _ _ 43 [some (.ref 6), some (.int (nI g)), some (.int 6)] [.int 1] (E x y)
  refine PW_if_eq c_H_hasFact_43 (fun h6 => absurd h6 (by decide)) (fun _ => ?_)
  refine PW_iconst (v := 1) c_H_hasFact_46 (by decide) ?_
  refine PW_goto c_H_hasFact_47 ?_
  refine PW_ireturn (ty := .boolean) c_H_hasFact_51 rfl (by decide +kernel) ?_
  show PW _ _ _ 6 [some (.ref 6), some (.int (nI g)), some (.int 6), some (.int v)] [.int 1] (E x y)
  refine PW_if_ne c_H_setFact_6 (fun _ => ?_) (fun h7 => absurd h7 (by decide))
  refine PW_iload_n c_H_setFact_10 rfl ?_
  refine PW_bipush (v := 7) c_H_setFact_11 (by decide) ?_
  refine PW_icmp_ne c_H_setFact_13 (fun _ => ?_) (fun h8 => absurd h8 (by decide))
  refine PW_aload_n c_H_setFact_24 rfl ?_
  refine PW_get (v := .ref 7) c_H_setFact_25 fl_H_13 (gf_6_0 _ _) ?_
  refine PW_iload_n c_H_setFact_28 rfl ?_
  refine PW_aald (j := 6) c_H_setFact_29 (ar_7 _ _) (t0 := 5) rfl rfl (vp_in_iff.mpr (by decide)) rfl ?_
  rw [if_pos (by decide)]
  show PW _ _ _ 30 [some (.ref 6), some (.int (nI g)), some (.int 6), some (.int v)] [.ref 14] (E x y)
  refine PW_iload_n c_H_setFact_30 rfl ?_
  refine PW_iload_n c_H_setFact_31 rfl ?_
  refine PW_iast (j := g) (w2 := E (sA x 14 (upd (x.2.1 14) g v)) y) c_H_setFact_32 (ar_14 _ _) (vp_in_nI (by omega) (by decide)) (nI_clamp (by omega)) (aw_14 _ _ _) ?_
  refine PW_iload_n c_H_setFact_33 rfl ?_
  refine PW_iconst (v := 4) c_H_setFact_34 (by decide) ?_
  refine PW_icmp_ne c_H_setFact_35 (fun _ => ?_) (fun h9 => absurd h9 (by decide))
  refine PW_iload_n c_H_setFact_63 rfl ?_
  refine PW_iconst (v := 5) c_H_setFact_64 (by decide) ?_
  refine PW_icmp_ne c_H_setFact_65 (fun _ => ?_) (fun h10 => absurd h10 (by decide))
  refine PW_iload_n c_H_setFact_93 rfl ?_
  refine PW_iconst (v := 2) c_H_setFact_94 (by decide) ?_
  refine PW_icmp_gt c_H_setFact_95 (fun _ => ?_) (fun h11 => absurd (by decide) h11)
  refine PW_vreturn c_H_setFact_103 rfl ?_
  exact h
theorem sp_set_7 {z : ZS} {post : Option Value → List PE → Prop} {x y : XS} {v : Int32} {g n : Nat} (hg : g < 4) (h : post none (E (sfX 7 x g v) y)) : PW (3, 0, 0, z) m_H_setFact post 0 [some (.ref 6), some (.int (nI g)), some (.int 7), some (.int v)] [] (E x y) := by
  refine PW_aload_n c_H_setFact_0 rfl ?_
  refine PW_iload_n c_H_setFact_1 rfl ?_
  refine PW_iload_n c_H_setFact_2 rfl ?_
  refine PW_V0 (d2 := 1) (st := []) [.int (nI g), .int 7] c_H_setFact_3 lk_H_setFact_41 (po_6 _ _) rfl rfl rfl (Nat.le_of_ble_eq_true rfl) (by first | decide | omega) (Nat.le_of_ble_eq_true rfl) ?_
  show PW _ _ _ 0 [some (.ref 6), some (.int (nI g)), some (.int 7)] [] (E x y)
  refine PW_iload_n c_H_hasFact_0 rfl ?_
  refine PW_bipush (v := 7) c_H_hasFact_1 (by decide) ?_
  refine PW_icmp_ne c_H_hasFact_3 (fun h0 => absurd (by decide) h0) (fun _ => ?_)
  refine PW_iload_n c_H_hasFact_6 rfl ?_
  refine PW_if_lt c_H_hasFact_7 (fun h1 => absurd h1 (nI_pos (by omega))) (fun h1 => ?_)
  refine PW_iload_n c_H_hasFact_10 rfl ?_
  refine PW_aload_n c_H_hasFact_11 rfl ?_
  refine PW_get (v := .ref 15) c_H_hasFact_12 fl_H_16 (gf_6_1 _ _) ?_
  refine PW_alen (v := 4) c_H_hasFact_15 (ar_15 _ _) (t0 := 0) rfl (by decide) ?_
  refine PW_icmp_ge c_H_hasFact_16 (fun h2 => absurd h2 (fun q => absurd ((nI_leI (by decide) (by omega)).mp (show nI 4 ≤ nI g from q)) (by omega))) (fun h2 => ?_)
  refine PW_iconst (v := 1) c_H_hasFact_19 (by decide) ?_
  refine PW_goto c_H_hasFact_20 ?_
  refine PW_ireturn (ty := .boolean) c_H_hasFact_24 rfl (by decide +kernel) ?_
  show PW _ _ _ 6 [some (.ref 6), some (.int (nI g)), some (.int 7), some (.int v)] [.int 1] (E x y)
  refine PW_if_ne c_H_setFact_6 (fun _ => ?_) (fun h3 => absurd h3 (by decide))
  refine PW_iload_n c_H_setFact_10 rfl ?_
  refine PW_bipush (v := 7) c_H_setFact_11 (by decide) ?_
  refine PW_icmp_ne c_H_setFact_13 (fun h4 => absurd (by decide) h4) (fun _ => ?_)
  refine PW_aload_n c_H_setFact_16 rfl ?_
  refine PW_get (v := .ref 15) c_H_setFact_17 fl_H_16 (gf_6_1 _ _) ?_
  refine PW_iload_n c_H_setFact_20 rfl ?_
  refine PW_iload_n c_H_setFact_21 rfl ?_
  refine PW_iast (j := g) (w2 := E (sA x 15 (upd (x.2.1 15) g v)) y) c_H_setFact_22 (ar_15 _ _) (vp_in_nI (by omega) (by decide)) (nI_clamp (by omega)) (aw_15 _ _ _) ?_
  refine PW_vreturn c_H_setFact_23 rfl ?_
  exact h
theorem sp_set {z : ZS} {post : Option Value → List PE → Prop} {x y : XS} {p u v : Int32} {w g n : Nat} (h51 : x.1 51 = nI n) (hn : n ≤ 10) (hw : w < 8) (hgw : (w = 7 ∧ g < 4) ∨ (w < 7 ∧ g < n)) (ep : p = nI g) (eu : u = nI w) (h : post none (E (sfX w x g v) y)) : PW (3, 0, 0, z) m_H_setFact post 0 [some (.ref 6), some (.int p), some (.int u), some (.int v)] [] (E x y) := by
  subst ep; subst eu
  rcases (show w = 0 ∨ w = 1 ∨ w = 2 ∨ w = 3 ∨ w = 4 ∨ w = 5 ∨ w = 6 ∨ w = 7 by omega) with rfl | rfl | rfl | rfl | rfl | rfl | rfl | rfl
  · exact sp_set_0 h51 hn (by omega) h
  · exact sp_set_1 h51 hn (by omega) h
  · exact sp_set_2 h51 hn (by omega) h
  · exact sp_set_3 h51 hn (by omega) h
  · exact sp_set_4 h51 hn (by omega) h
  · exact sp_set_5 h51 hn (by omega) h
  · exact sp_set_6 h51 hn (by omega) h
  · exact sp_set_7 (n := n) (by omega) h
