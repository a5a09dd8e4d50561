/-! how many minutes a goodbye takes -/
def lawIs (T : Option Txt) (x y : XS) : Prop := match T with
  | none => x.1 180 = 0 ∧ y.1 589 = 0
  | some p => y.1 589 = 1 ∧ (∀ l ∈ p, okL l) ∧ LawX p x ∧ LawM p y ∧ 0 < (txX p).length
def clampM (v : Int32) : Int32 := if v < 1 then 1 else if 30 < v then 30 else v
def fcN (y : XS) (r m v : Int32) : Nat → Int32 := fun i => match i with
  | 0 => mxT y v (nG y)
  | 1 => bcJ v
  | 2 => bcJ (thI y r m)
  | 3 => if v &&& hostB y = 0 then 0 else 1
  | _ => m
def mnF (T : Option Txt) (y : XS) (r m v : Int32) : Int32 := if v = 0 then 0 else clampM (match T with
  | none => mxT y v (nG y) + bcJ v
  | some p => txV (fcN y r m v) p)
theorem lineX_pos (l : List Stp0 × List Stp0) : 0 < (lineX l).length := by
  unfold lineX
  rw [List.length_append, List.length_singleton]
  omega
theorem lawIs_of {x y : XS} (h : CPl x y) : ∃ T, lawIs T x y := by
  rcases h with h | ⟨h1, p, h2, h3, h4, h5⟩
  · exact ⟨none, h⟩
  · refine ⟨some p, h1, h3, h4, h5, ?_⟩
    cases p with
    | nil => exact absurd rfl h2
    | cons l q =>
      unfold txX
      rw [List.flatMap_cons, List.length_append]
      have := lineX_pos l
      omega
theorem lawIs_cg {T : Option Txt} {x y x' y' : XS} (h : lawIs T x y) (a1 : x'.1 180 = x.1 180) (a2 : x'.2.1 23 = x.2.1 23) (a3 : x'.2.1 24 = x.2.1 24) (b1 : y'.1 589 = y.1 589) (b2 : ∀ a, 84 ≤ a → a ≤ 88 → y'.2.1 a = y.2.1 a) : lawIs T x' y' := by
  cases T with
  | none => exact ⟨a1.trans h.1, b1.trans h.2⟩
  | some p =>
    obtain ⟨h1, h2, h3, h4, h5⟩ := h
    refine ⟨b1.trans h1, h2, ?_, ?_, h5⟩
    · unfold LawX
      rw [a1, a2, a3]
      exact h3
    · unfold LawM
      rw [b2 84 (by omega) (by omega), b2 85 (by omega) (by omega), b2 86 (by omega) (by omega), b2 87 (by omega) (by omega), b2 88 (by omega) (by omega)]
      exact h4
theorem txM_mem {p : Txt} : ∀ l ∈ p, l.1.length + l.2.length ≤ (txM p).length := by
  induction p with
  | nil => intro l hl; cases hl
  | cons a q ih =>
    intro l hl
    have e : (txM (a :: q)).length = a.1.length + a.2.length + (txM q).length := by
      unfold txM
      rw [List.flatMap_cons, List.length_append, List.length_append]
    rw [e]
    rcases List.mem_cons.mp hl with rfl | hl
    · omega
    · have := ih l hl; omega
theorem mxT_b {x y : XS} (C : CPg x y) (v : Int32) : ∀ k, k ≤ nG y → 0 ≤ (mxT y v k).toInt ∧ (mxT y v k).toInt ≤ 9
  | 0, _ => (by decide : 0 ≤ (0 : Int32).toInt ∧ (0 : Int32).toInt ≤ 9)
  | k + 1, h => by
    rw [mxT]
    have h3 : 0 ≤ (y.2.1 74 k).toInt ∧ (y.2.1 74 k).toInt ≤ 9 := C.ok 3 (by omega) (show k < nG y by omega)
    split
    · exact h3
    · exact mxT_b C v k (by omega)
theorem clG1 {s : Int32} (h : s.toInt ≤ 19) : clampM s = if 1 < s then s else 1 := by
  unfold clampM
  have t30 : (30 : Int32).toInt = 30 := by decide
  have t1 : (1 : Int32).toInt = 1 := by decide
  by_cases h1 : s < 1
  · rw [if_pos h1, if_neg (fun q => by rw [Int32.lt_iff_toInt_lt] at q h1; omega)]
  · rw [if_neg h1, if_neg (fun q => by rw [Int32.lt_iff_toInt_lt] at q; omega)]
    by_cases h2 : 1 < s
    · rw [if_pos h2]
    · rw [if_neg h2]
      exact Int32.toInt_inj.mp (by rw [Int32.lt_iff_toInt_lt] at h1 h2; omega)
theorem clG2 (s : Int32) : clampM s = if 1 < (if s < 30 then s else 30) then (if s < 30 then s else 30) else 1 := by
  unfold clampM
  have t30 : (30 : Int32).toInt = 30 := by decide
  have t1 : (1 : Int32).toInt = 1 := by decide
  by_cases h3 : s < 30
  · rw [if_pos h3]
    by_cases h1 : s < 1
    · rw [if_pos h1, if_neg (fun q => by rw [Int32.lt_iff_toInt_lt] at q h1; omega)]
    · rw [if_neg h1, if_neg (fun q => by rw [Int32.lt_iff_toInt_lt] at q h3; omega)]
      by_cases h2 : 1 < s
      · rw [if_pos h2]
      · rw [if_neg h2]
        exact Int32.toInt_inj.mp (by rw [Int32.lt_iff_toInt_lt] at h1 h2; omega)
  · rw [if_neg h3, if_pos (by decide : (1 : Int32) < 30), if_neg (fun q => by rw [Int32.lt_iff_toInt_lt] at q h3; omega)]
    by_cases h2 : 30 < s
    · rw [if_pos h2]
    · rw [if_neg h2]
      exact Int32.toInt_inj.mp (by rw [Int32.lt_iff_toInt_lt] at h2 h3; omega)
theorem mnF_b {T : Option Txt} {y : XS} {r m v : Int32} : 0 ≤ (mnF T y r m v).toInt ∧ (mnF T y r m v).toInt ≤ 30 := by
  have key : ∀ w, 0 ≤ (clampM w).toInt ∧ (clampM w).toInt ≤ 30 := fun w => by
    unfold clampM
    split
    · decide
    · split
      · decide
      · rename_i a b
        rw [Int32.lt_iff_toInt_lt, show (1 : Int32).toInt = 1 by decide] at a
        rw [Int32.lt_iff_toInt_lt, show (30 : Int32).toInt = 30 by decide] at b
        omega
  unfold mnF
  split
  · decide
  · exact key _
/-- the class's scratch, the reference's -/
def scX (x x' : XS) : Prop := (∀ n, n ≠ 181 → x'.1 n = x.1 n) ∧ (∀ a, a ≠ 25 → a ≠ 26 → x'.2.1 a = x.2.1 a) ∧ x'.2.2 = x.2.2
def scY (y y' : XS) : Prop := y'.1 = y.1 ∧ (∀ a, a ≠ 89 → a ≠ 90 → y'.2.1 a = y.2.1 a) ∧ y'.2.2 = y.2.2
theorem scX_0 (x : XS) : scX x x := ⟨fun _ _ => rfl, fun _ _ _ => rfl, rfl⟩
theorem scY_0 (y : XS) : scY y y := ⟨rfl, fun _ _ _ => rfl, rfl⟩
theorem fcN_at {y : XS} {r m v a : Int32} {f : Nat → Int32} (ha : a = if v &&& hostB y = 0 then 0 else 1) : ∀ i, i < 5 → (upd (upd (upd (upd (upd f 0 (mxT y v (nG y))) 1 (bcJ v)) 2 (bcJ (thI y r m))) 3 a) 4 m) i = fcN y r m v i := fun i hi => by
  match i, hi with
  | 0, _ => rfl
  | 1, _ => rfl
  | 2, _ => rfl
  | 3, _ => exact ha
  | 4, _ => rfl
  | n + 5, hi => omega
theorem sp_L_worth {x y : XS} {fc : Nat → Int32} {p : Txt} (hfc : ∀ i, i < 5 → x.2.1 25 i = fc i) (hX : LawX p x) (hok : ∀ l ∈ p, okL l) (hlen : (txM p).length ≤ 130) : ∃ (f' : Nat → Int32) (n' : Nat), ∀ {z : ZS} {post : Option Value → List PE → Prop}, post (some (.int (txV fc p))) (E (sI (sA x 26 f') 181 (nI n')) y) → PW (2, 0, 0, z) m_L_worth post 0 [some (.ref 22), none, none, none] [] (E x y) := by
  obtain ⟨h1, h2, h3⟩ := hX
  obtain ⟨f', n', H⟩ := W_lines (y := y) hfc h1 h2 p 0 (x.2.1 26) (fun i s hs => by rw [Nat.zero_add]; exact h3 i s hs) hok (fun l hl => Nat.le_trans (txM_mem l hl) hlen) (Nat.zero_add _)
  refine ⟨f', n', fun {z post} h => ?_⟩
  refine PW_iconst (v := 0) c_L_worth_0 (by decide) ?_
  refine PW_istore_n (i := 1) (L2 := [some (.ref 22), some (.int 0), none, none]) c_L_worth_1 rfl (Nat.le_of_ble_eq_true rfl) rfl rfl ?_
  refine PW_aload_n c_L_worth_2 rfl ?_
  refine PW_iconst (v := 0) c_L_worth_3 (by decide) ?_
  refine PW_put (w2 := E (sI x 181 0) y) c_L_worth_4 fp_L_worth_68 rfl (pf_22_5 _ _ _) ?_
  refine PW_iconst (v := 0) c_L_worth_7 (by decide) ?_
  refine PW_istore_n (i := 2) (L2 := [some (.ref 22), some (.int 0), some (.int 0), none]) c_L_worth_8 rfl (Nat.le_of_ble_eq_true rfl) rfl rfl ?_
  have H' := H (z := z) (post := post) (l3 := none) h
  rw [sA_id] at H'
  refine PW.eqL ?_ rfl rfl H'
  rfl
theorem sp_L_minutes {T : Option Txt} {x y : XS} {r m v : Int32} (C : CPg x y) (hr : 0 ≤ r.toInt ∧ r.toInt < 5) (hm : 0 ≤ m.toInt) (hv : S10 v) (hT : lawIs T x y) : ∃ x' : XS, scX x x' ∧ ∀ {z : ZS} {post : Option Value → List PE → Prop}, post (some (.int (mnF T y r m v))) (E x' y) → PW (3, 0, 0, z) m_L_minutes post 0 [some (.ref 22), some (.ref 6), some (.int r), some (.int m), some (.int v), none, none] [] (E x y) := by
  by_cases hv0 : v = 0
  · refine ⟨x, scX_0 x, fun {z post} h => ?_⟩
    rw [show mnF T y r m v = 0 from if_pos hv0] at h
    refine PW_iload c_L_minutes_0 rfl ?_
    refine PW_if_ne c_L_minutes_2 (fun h0 => absurd h0 (not_not_intro hv0)) (fun h0 => ?_)
    refine PW_iconst (v := 0) c_L_minutes_5 (by decide) ?_
    refine PW_ireturn (ty := .int) c_L_minutes_6 rfl rfl ?_
    exact h
  · cases T with
    | none =>
      refine ⟨x, scX_0 x, fun {z post} h => ?_⟩
      rw [show mnF none y r m v = clampM (mxT y v (nG y) + bcJ v) from if_neg hv0] at h
      have b1 := mxT_b C v (nG y) (Nat.le_refl _)
      have b2 := (kern_S hv).2.2
      refine PW_iload c_L_minutes_0 rfl ?_
      refine PW_if_ne c_L_minutes_2 (fun h0 => ?_) (fun h0 => absurd h0 hv0)
      refine PW_aload_n c_L_minutes_7 rfl ?_
      refine PW_iload c_L_minutes_8 rfl ?_
      refine PW_V0 (d2 := 1) (st := []) [.int v] c_L_minutes_10 lk_L_minutes_45 (po_6 _ _) rfl rfl rfl (Nat.le_of_ble_eq_true rfl) (by first | decide | omega) (Nat.le_of_ble_eq_true rfl) ?_
      refine sp_H_greatestTalk (by assumption) ?_
      show PW _ _ _ 13 [some (.ref 22), some (.ref 6), some (.int r), some (.int m), some (.int v), none, none] [.int (mxT y v (nG y))] (E x y)
      refine PW_istore (i := 5) (L2 := [some (.ref 22), some (.ref 6), some (.int r), some (.int m), some (.int v), some (.int (mxT y v (nG y))), none]) c_L_minutes_13 (Nat.le_of_ble_eq_true rfl) rfl rfl ?_
      refine PW_iload c_L_minutes_15 rfl ?_
      refine PW_S0 (d2 := 0) (st := []) [.int v] c_L_minutes_17 lk_L_minutes_50 rfl rfl rfl (Nat.le_of_ble_eq_true rfl) (by first | decide | omega) (Nat.le_of_ble_eq_true rfl) ?_
      refine sp_J_bitCount  ?_
      show PW _ _ _ 20 [some (.ref 22), some (.ref 6), some (.int r), some (.int m), some (.int v), some (.int (mxT y v (nG y))), none] [.int (bcJ v)] (E x y)
      refine PW_istore (i := 6) (L2 := [some (.ref 22), some (.ref 6), some (.int r), some (.int m), some (.int v), some (.int (mxT y v (nG y))), some (.int (bcJ v))]) c_L_minutes_20 (Nat.le_of_ble_eq_true rfl) rfl rfl ?_
      refine PW_aload_n c_L_minutes_22 rfl ?_
      refine PW_get (v := .int (x.1 180)) c_L_minutes_23 fl_L_34 (gf_22_4 _ _) ?_
      refine PW_if_ne c_L_minutes_26 (fun h1 => absurd h1 (not_not_intro hT.1)) (fun h1 => ?_)
      refine PW_iconst (v := 1) c_L_minutes_29 (by decide) ?_
      refine PW_iload c_L_minutes_30 rfl ?_
      refine PW_iload c_L_minutes_32 rfl ?_
      refine PW_iadd c_L_minutes_34 ?_
      refine PW_mmax c_L_minutes_35 mk_L_minutes_55 (by decide) (by first | decide | exact Nat.le_of_ble_eq_true rfl) ?_
      refine PW_ireturn (ty := .int) c_L_minutes_38 rfl rfl ?_
      exact pqi h (clG1 (by rw [ti_add (by omega) (by omega)]; omega))
    | some p =>
      obtain ⟨h589, hok, hX, hM, hpos⟩ := hT
      have hsz : ¬ x.1 180 = 0 := by rw [hX.1]; exact fun q => absurd ((nI_eq (by have := hX.2.1; omega) (by decide)).mp (show nI (txX p).length = nI 0 from q)) (by omega)
      by_cases hb : v &&& hostB y = 0
      · skip
        obtain ⟨f', n', H⟩ := sp_L_worth (x := sA x 25 (upd (upd (upd (upd (upd (x.2.1 25) 0 (mxT y v (nG y))) 1 (bcJ v)) 2 (bcJ (thI y r m))) 3 0) 4 m)) (y := y) (fc := fcN y r m v) (p := p) (fun i hi => by rw [sA_at]; exact fcN_at (if_pos hb).symm i hi) hX hok hM.2.2.1
        refine ⟨sI (sA (sA x 25 (upd (upd (upd (upd (upd (x.2.1 25) 0 (mxT y v (nG y))) 1 (bcJ v)) 2 (bcJ (thI y r m))) 3 0) 4 m)) 26 f') 181 (nI n'), ⟨fun n hn => by rw [sI_n hn]; rfl, fun q h1 h2 => by rw [sI_A, sA_A, if_neg h2, sA_A, if_neg h1], rfl⟩, fun {z post} h => ?_⟩
        rw [show mnF (some p) y r m v = clampM (txV (fcN y r m v) p) from if_neg hv0] at h
        refine PW_iload c_L_minutes_0 rfl ?_
        refine PW_if_ne c_L_minutes_2 (fun h0 => ?_) (fun h0 => absurd h0 hv0)
        refine PW_aload_n c_L_minutes_7 rfl ?_
        refine PW_iload c_L_minutes_8 rfl ?_
        refine PW_V0 (d2 := 1) (st := []) [.int v] c_L_minutes_10 lk_L_minutes_45 (po_6 _ _) rfl rfl rfl (Nat.le_of_ble_eq_true rfl) (by first | decide | omega) (Nat.le_of_ble_eq_true rfl) ?_
        refine sp_H_greatestTalk (by assumption) ?_
        show PW _ _ _ 13 [some (.ref 22), some (.ref 6), some (.int r), some (.int m), some (.int v), none, none] [.int (mxT y v (nG y))] (E x y)
        refine PW_istore (i := 5) (L2 := [some (.ref 22), some (.ref 6), some (.int r), some (.int m), some (.int v), some (.int (mxT y v (nG y))), none]) c_L_minutes_13 (Nat.le_of_ble_eq_true rfl) rfl rfl ?_
        refine PW_iload c_L_minutes_15 rfl ?_
        refine PW_S0 (d2 := 0) (st := []) [.int v] c_L_minutes_17 lk_L_minutes_50 rfl rfl rfl (Nat.le_of_ble_eq_true rfl) (by first | decide | omega) (Nat.le_of_ble_eq_true rfl) ?_
        refine sp_J_bitCount  ?_
        show PW _ _ _ 20 [some (.ref 22), some (.ref 6), some (.int r), some (.int m), some (.int v), some (.int (mxT y v (nG y))), none] [.int (bcJ v)] (E x y)
        refine PW_istore (i := 6) (L2 := [some (.ref 22), some (.ref 6), some (.int r), some (.int m), some (.int v), some (.int (mxT y v (nG y))), some (.int (bcJ v))]) c_L_minutes_20 (Nat.le_of_ble_eq_true rfl) rfl rfl ?_
        refine PW_aload_n c_L_minutes_22 rfl ?_
        refine PW_get (v := .int (x.1 180)) c_L_minutes_23 fl_L_34 (gf_22_4 _ _) ?_
        refine PW_if_ne c_L_minutes_26 (fun h1 => ?_) (fun h1 => absurd h1 hsz)
        refine PW_aload_n c_L_minutes_39 rfl ?_
        refine PW_get (v := .ref 25) c_L_minutes_40 fl_L_16 (gf_22_2 _ _) ?_
        refine PW_iconst (v := 0) c_L_minutes_43 (by decide) ?_
        refine PW_iload c_L_minutes_44 rfl ?_
        refine PW_iast (j := 0) (w2 := E (sA x 25 (upd (x.2.1 25) 0 (mxT y v (nG y)))) y) c_L_minutes_46 (ar_25 _ _) (vp_in_iff.mpr (by decide)) rfl (aw_25 _ _ _) ?_
        refine PW_aload_n c_L_minutes_47 rfl ?_
        refine PW_get (v := .ref 25) c_L_minutes_48 fl_L_16 (gf_22_2 _ _) ?_
        refine PW_iconst (v := 1) c_L_minutes_51 (by decide) ?_
        refine PW_iload c_L_minutes_52 rfl ?_
        refine PW_iast (j := 1) (w2 := E (sA (sA x 25 (upd (x.2.1 25) 0 (mxT y v (nG y)))) 25 (upd (upd (x.2.1 25) 0 (mxT y v (nG y))) 1 (bcJ v))) y) c_L_minutes_54 (ar_25 _ _) (vp_in_iff.mpr (by decide)) rfl (aw_25 _ _ _) ?_
        refine PW_aload_n c_L_minutes_55 rfl ?_
        refine PW_get (v := .ref 25) c_L_minutes_56 fl_L_16 (gf_22_2 _ _) ?_
        refine PW_iconst (v := 2) c_L_minutes_59 (by decide) ?_
        refine PW_aload_n c_L_minutes_60 rfl ?_
        refine PW_iload_n c_L_minutes_61 rfl ?_
        refine PW_iload_n c_L_minutes_62 rfl ?_
        refine PW_V0 (d2 := 1) (st := [.int 2, .ref 25]) [.int r, .int m] c_L_minutes_63 lk_L_minutes_58 (po_6 _ _) rfl rfl rfl (Nat.le_of_ble_eq_true rfl) (by first | decide | omega) (Nat.le_of_ble_eq_true rfl) ?_
        refine sp_H_whoIsIn (C.cg (fun _ _ _ => rfl) (fun a q1 q2 => by rw [sA_A, if_neg (by omega), sA_A, if_neg (by omega)]) rfl (fun _ _ _ => rfl)) hr hm ?_
        show PW _ _ _ 66 [some (.ref 22), some (.ref 6), some (.int r), some (.int m), some (.int v), some (.int (mxT y v (nG y))), some (.int (bcJ v))] [.int (thI y r m), .int 2, .ref 25] (E (sA (sA x 25 (upd (x.2.1 25) 0 (mxT y v (nG y)))) 25 (upd (upd (x.2.1 25) 0 (mxT y v (nG y))) 1 (bcJ v))) y)
        refine PW_S0 (d2 := 0) (st := [.int 2, .ref 25]) [.int (thI y r m)] c_L_minutes_66 lk_L_minutes_50 rfl rfl rfl (Nat.le_of_ble_eq_true rfl) (by first | decide | omega) (Nat.le_of_ble_eq_true rfl) ?_
        refine sp_J_bitCount  ?_
        show PW _ _ _ 69 [some (.ref 22), some (.ref 6), some (.int r), some (.int m), some (.int v), some (.int (mxT y v (nG y))), some (.int (bcJ v))] [.int (bcJ (thI y r m)), .int 2, .ref 25] (E (sA (sA x 25 (upd (x.2.1 25) 0 (mxT y v (nG y)))) 25 (upd (upd (x.2.1 25) 0 (mxT y v (nG y))) 1 (bcJ v))) y)
        refine PW_iast (j := 2) (w2 := E (sA (sA (sA x 25 (upd (x.2.1 25) 0 (mxT y v (nG y)))) 25 (upd (upd (x.2.1 25) 0 (mxT y v (nG y))) 1 (bcJ v))) 25 (upd (upd (upd (x.2.1 25) 0 (mxT y v (nG y))) 1 (bcJ v)) 2 (bcJ (thI y r m)))) y) c_L_minutes_69 (ar_25 _ _) (vp_in_iff.mpr (by decide)) rfl (aw_25 _ _ _) ?_
        refine PW_aload_n c_L_minutes_70 rfl ?_
        refine PW_get (v := .ref 25) c_L_minutes_71 fl_L_16 (gf_22_2 _ _) ?_
        refine PW_iconst (v := 3) c_L_minutes_74 (by decide) ?_
        refine PW_aload_n c_L_minutes_75 rfl ?_
        refine PW_iload c_L_minutes_76 rfl ?_
        refine PW_V0 (d2 := 0) (st := [.int 3, .ref 25]) [.int v] c_L_minutes_78 lk_L_minutes_61 (po_6 _ _) rfl rfl rfl (Nat.le_of_ble_eq_true rfl) (by first | decide | omega) (Nat.le_of_ble_eq_true rfl) ?_
        show PW _ _ _ 0 [some (.ref 6), some (.int v)] [] (E (sA (sA (sA x 25 (upd (x.2.1 25) 0 (mxT y v (nG y)))) 25 (upd (upd (x.2.1 25) 0 (mxT y v (nG y))) 1 (bcJ v))) 25 (upd (upd (upd (x.2.1 25) 0 (mxT y v (nG y))) 1 (bcJ v)) 2 (bcJ (thI y r m)))) y)
        refine PW_iload_n c_H_hasHost_0 rfl ?_
        refine PW_aload_n c_H_hasHost_1 rfl ?_
        refine PW_get (v := .int (x.1 53)) c_H_hasHost_2 fl_H_52 (gf_6_5 _ _) ?_
        refine PW_iand c_H_hasHost_5 ?_
        refine PW_if_eq c_H_hasHost_6 (fun h2 => ?_) (fun h2 => absurd (by rw [C.x53]; exact hb) h2)
        refine PW_iconst (v := 0) c_H_hasHost_13 (by decide) ?_
        refine PW_ireturn (ty := .boolean) c_H_hasHost_14 rfl (by decide +kernel) ?_
        show PW _ _ _ 81 [some (.ref 22), some (.ref 6), some (.int r), some (.int m), some (.int v), some (.int (mxT y v (nG y))), some (.int (bcJ v))] [.int 0, .int 3, .ref 25] (E (sA (sA (sA x 25 (upd (x.2.1 25) 0 (mxT y v (nG y)))) 25 (upd (upd (x.2.1 25) 0 (mxT y v (nG y))) 1 (bcJ v))) 25 (upd (upd (upd (x.2.1 25) 0 (mxT y v (nG y))) 1 (bcJ v)) 2 (bcJ (thI y r m)))) y)
        refine PW_if_eq c_L_minutes_81 (fun _ => ?_) (fun h3 => absurd (by decide) h3)
        refine PW_iconst (v := 0) c_L_minutes_88 (by decide) ?_
        refine PW_iast (j := 3) (w2 := E (sA (sA (sA (sA x 25 (upd (x.2.1 25) 0 (mxT y v (nG y)))) 25 (upd (upd (x.2.1 25) 0 (mxT y v (nG y))) 1 (bcJ v))) 25 (upd (upd (upd (x.2.1 25) 0 (mxT y v (nG y))) 1 (bcJ v)) 2 (bcJ (thI y r m)))) 25 (upd (upd (upd (upd (x.2.1 25) 0 (mxT y v (nG y))) 1 (bcJ v)) 2 (bcJ (thI y r m))) 3 0)) y) c_L_minutes_89 (ar_25 _ _) (vp_in_iff.mpr (by decide)) rfl (aw_25 _ _ _) ?_
        refine PW_aload_n c_L_minutes_90 rfl ?_
        refine PW_get (v := .ref 25) c_L_minutes_91 fl_L_16 (gf_22_2 _ _) ?_
        refine PW_iconst (v := 4) c_L_minutes_94 (by decide) ?_
        refine PW_iload_n c_L_minutes_95 rfl ?_
        refine PW_iast (j := 4) (w2 := E (sA (sA (sA (sA (sA x 25 (upd (x.2.1 25) 0 (mxT y v (nG y)))) 25 (upd (upd (x.2.1 25) 0 (mxT y v (nG y))) 1 (bcJ v))) 25 (upd (upd (upd (x.2.1 25) 0 (mxT y v (nG y))) 1 (bcJ v)) 2 (bcJ (thI y r m)))) 25 (upd (upd (upd (upd (x.2.1 25) 0 (mxT y v (nG y))) 1 (bcJ v)) 2 (bcJ (thI y r m))) 3 0)) 25 (upd (upd (upd (upd (upd (x.2.1 25) 0 (mxT y v (nG y))) 1 (bcJ v)) 2 (bcJ (thI y r m))) 3 0) 4 m)) y) c_L_minutes_96 (ar_25 _ _) (vp_in_iff.mpr (by decide)) rfl (aw_25 _ _ _) ?_
        refine PW_iconst (v := 1) c_L_minutes_97 (by decide) ?_
        refine PW_bipush (v := 30) c_L_minutes_98 (by decide) ?_
        refine PW_aload_n c_L_minutes_100 rfl ?_
        refine PW_V0 (d2 := 2) (st := [.int 30, .int 1]) [] c_L_minutes_101 lk_L_minutes_65 (po_22 _ _) rfl rfl rfl (Nat.le_of_ble_eq_true rfl) (by first | decide | omega) (Nat.le_of_ble_eq_true rfl) ?_
        rw [sA_sA, sA_sA, sA_sA, sA_sA]
        refine H ?_
        show PW _ _ _ 104 [some (.ref 22), some (.ref 6), some (.int r), some (.int m), some (.int v), some (.int (mxT y v (nG y))), some (.int (bcJ v))] [.int (txV (fcN y r m v) p), .int 30, .int 1] (E (sI (sA (sA x 25 (upd (upd (upd (upd (upd (x.2.1 25) 0 (mxT y v (nG y))) 1 (bcJ v)) 2 (bcJ (thI y r m))) 3 0) 4 m)) 26 f') 181 (nI n')) y)
        refine PW_mmin c_L_minutes_104 mk_L_minutes_28 (by decide) (by first | decide | exact Nat.le_of_ble_eq_true rfl) ?_
        refine PW_mmax c_L_minutes_107 mk_L_minutes_55 (by decide) (by first | decide | exact Nat.le_of_ble_eq_true rfl) ?_
        refine PW_ireturn (ty := .int) c_L_minutes_110 rfl rfl ?_
        exact pqi h (clG2 _)
      · skip
        obtain ⟨f', n', H⟩ := sp_L_worth (x := sA x 25 (upd (upd (upd (upd (upd (x.2.1 25) 0 (mxT y v (nG y))) 1 (bcJ v)) 2 (bcJ (thI y r m))) 3 1) 4 m)) (y := y) (fc := fcN y r m v) (p := p) (fun i hi => by rw [sA_at]; exact fcN_at (if_neg hb).symm i hi) hX hok hM.2.2.1
        refine ⟨sI (sA (sA x 25 (upd (upd (upd (upd (upd (x.2.1 25) 0 (mxT y v (nG y))) 1 (bcJ v)) 2 (bcJ (thI y r m))) 3 1) 4 m)) 26 f') 181 (nI n'), ⟨fun n hn => by rw [sI_n hn]; rfl, fun q h1 h2 => by rw [sI_A, sA_A, if_neg h2, sA_A, if_neg h1], rfl⟩, fun {z post} h => ?_⟩
        rw [show mnF (some p) y r m v = clampM (txV (fcN y r m v) p) from if_neg hv0] at h
        refine PW_iload c_L_minutes_0 rfl ?_
        refine PW_if_ne c_L_minutes_2 (fun h0 => ?_) (fun h0 => absurd h0 hv0)
        refine PW_aload_n c_L_minutes_7 rfl ?_
        refine PW_iload c_L_minutes_8 rfl ?_
        refine PW_V0 (d2 := 1) (st := []) [.int v] c_L_minutes_10 lk_L_minutes_45 (po_6 _ _) rfl rfl rfl (Nat.le_of_ble_eq_true rfl) (by first | decide | omega) (Nat.le_of_ble_eq_true rfl) ?_
        refine sp_H_greatestTalk (by assumption) ?_
        show PW _ _ _ 13 [some (.ref 22), some (.ref 6), some (.int r), some (.int m), some (.int v), none, none] [.int (mxT y v (nG y))] (E x y)
        refine PW_istore (i := 5) (L2 := [some (.ref 22), some (.ref 6), some (.int r), some (.int m), some (.int v), some (.int (mxT y v (nG y))), none]) c_L_minutes_13 (Nat.le_of_ble_eq_true rfl) rfl rfl ?_
        refine PW_iload c_L_minutes_15 rfl ?_
        refine PW_S0 (d2 := 0) (st := []) [.int v] c_L_minutes_17 lk_L_minutes_50 rfl rfl rfl (Nat.le_of_ble_eq_true rfl) (by first | decide | omega) (Nat.le_of_ble_eq_true rfl) ?_
        refine sp_J_bitCount  ?_
        show PW _ _ _ 20 [some (.ref 22), some (.ref 6), some (.int r), some (.int m), some (.int v), some (.int (mxT y v (nG y))), none] [.int (bcJ v)] (E x y)
        refine PW_istore (i := 6) (L2 := [some (.ref 22), some (.ref 6), some (.int r), some (.int m), some (.int v), some (.int (mxT y v (nG y))), some (.int (bcJ v))]) c_L_minutes_20 (Nat.le_of_ble_eq_true rfl) rfl rfl ?_
        refine PW_aload_n c_L_minutes_22 rfl ?_
        refine PW_get (v := .int (x.1 180)) c_L_minutes_23 fl_L_34 (gf_22_4 _ _) ?_
        refine PW_if_ne c_L_minutes_26 (fun h1 => ?_) (fun h1 => absurd h1 hsz)
        refine PW_aload_n c_L_minutes_39 rfl ?_
        refine PW_get (v := .ref 25) c_L_minutes_40 fl_L_16 (gf_22_2 _ _) ?_
        refine PW_iconst (v := 0) c_L_minutes_43 (by decide) ?_
        refine PW_iload c_L_minutes_44 rfl ?_
        refine PW_iast (j := 0) (w2 := E (sA x 25 (upd (x.2.1 25) 0 (mxT y v (nG y)))) y) c_L_minutes_46 (ar_25 _ _) (vp_in_iff.mpr (by decide)) rfl (aw_25 _ _ _) ?_
        refine PW_aload_n c_L_minutes_47 rfl ?_
        refine PW_get (v := .ref 25) c_L_minutes_48 fl_L_16 (gf_22_2 _ _) ?_
        refine PW_iconst (v := 1) c_L_minutes_51 (by decide) ?_
        refine PW_iload c_L_minutes_52 rfl ?_
        refine PW_iast (j := 1) (w2 := E (sA (sA x 25 (upd (x.2.1 25) 0 (mxT y v (nG y)))) 25 (upd (upd (x.2.1 25) 0 (mxT y v (nG y))) 1 (bcJ v))) y) c_L_minutes_54 (ar_25 _ _) (vp_in_iff.mpr (by decide)) rfl (aw_25 _ _ _) ?_
        refine PW_aload_n c_L_minutes_55 rfl ?_
        refine PW_get (v := .ref 25) c_L_minutes_56 fl_L_16 (gf_22_2 _ _) ?_
        refine PW_iconst (v := 2) c_L_minutes_59 (by decide) ?_
        refine PW_aload_n c_L_minutes_60 rfl ?_
        refine PW_iload_n c_L_minutes_61 rfl ?_
        refine PW_iload_n c_L_minutes_62 rfl ?_
        refine PW_V0 (d2 := 1) (st := [.int 2, .ref 25]) [.int r, .int m] c_L_minutes_63 lk_L_minutes_58 (po_6 _ _) rfl rfl rfl (Nat.le_of_ble_eq_true rfl) (by first | decide | omega) (Nat.le_of_ble_eq_true rfl) ?_
        refine sp_H_whoIsIn (C.cg (fun _ _ _ => rfl) (fun a q1 q2 => by rw [sA_A, if_neg (by omega), sA_A, if_neg (by omega)]) rfl (fun _ _ _ => rfl)) hr hm ?_
        show PW _ _ _ 66 [some (.ref 22), some (.ref 6), some (.int r), some (.int m), some (.int v), some (.int (mxT y v (nG y))), some (.int (bcJ v))] [.int (thI y r m), .int 2, .ref 25] (E (sA (sA x 25 (upd (x.2.1 25) 0 (mxT y v (nG y)))) 25 (upd (upd (x.2.1 25) 0 (mxT y v (nG y))) 1 (bcJ v))) y)
        refine PW_S0 (d2 := 0) (st := [.int 2, .ref 25]) [.int (thI y r m)] c_L_minutes_66 lk_L_minutes_50 rfl rfl rfl (Nat.le_of_ble_eq_true rfl) (by first | decide | omega) (Nat.le_of_ble_eq_true rfl) ?_
        refine sp_J_bitCount  ?_
        show PW _ _ _ 69 [some (.ref 22), some (.ref 6), some (.int r), some (.int m), some (.int v), some (.int (mxT y v (nG y))), some (.int (bcJ v))] [.int (bcJ (thI y r m)), .int 2, .ref 25] (E (sA (sA x 25 (upd (x.2.1 25) 0 (mxT y v (nG y)))) 25 (upd (upd (x.2.1 25) 0 (mxT y v (nG y))) 1 (bcJ v))) y)
        refine PW_iast (j := 2) (w2 := E (sA (sA (sA x 25 (upd (x.2.1 25) 0 (mxT y v (nG y)))) 25 (upd (upd (x.2.1 25) 0 (mxT y v (nG y))) 1 (bcJ v))) 25 (upd (upd (upd (x.2.1 25) 0 (mxT y v (nG y))) 1 (bcJ v)) 2 (bcJ (thI y r m)))) y) c_L_minutes_69 (ar_25 _ _) (vp_in_iff.mpr (by decide)) rfl (aw_25 _ _ _) ?_
        refine PW_aload_n c_L_minutes_70 rfl ?_
        refine PW_get (v := .ref 25) c_L_minutes_71 fl_L_16 (gf_22_2 _ _) ?_
        refine PW_iconst (v := 3) c_L_minutes_74 (by decide) ?_
        refine PW_aload_n c_L_minutes_75 rfl ?_
        refine PW_iload c_L_minutes_76 rfl ?_
        refine PW_V0 (d2 := 0) (st := [.int 3, .ref 25]) [.int v] c_L_minutes_78 lk_L_minutes_61 (po_6 _ _) rfl rfl rfl (Nat.le_of_ble_eq_true rfl) (by first | decide | omega) (Nat.le_of_ble_eq_true rfl) ?_
        show PW _ _ _ 0 [some (.ref 6), some (.int v)] [] (E (sA (sA (sA x 25 (upd (x.2.1 25) 0 (mxT y v (nG y)))) 25 (upd (upd (x.2.1 25) 0 (mxT y v (nG y))) 1 (bcJ v))) 25 (upd (upd (upd (x.2.1 25) 0 (mxT y v (nG y))) 1 (bcJ v)) 2 (bcJ (thI y r m)))) y)
        refine PW_iload_n c_H_hasHost_0 rfl ?_
        refine PW_aload_n c_H_hasHost_1 rfl ?_
        refine PW_get (v := .int (x.1 53)) c_H_hasHost_2 fl_H_52 (gf_6_5 _ _) ?_
        refine PW_iand c_H_hasHost_5 ?_
        refine PW_if_eq c_H_hasHost_6 (fun h2 => absurd h2 (by rw [C.x53]; exact hb)) (fun h2 => ?_)
        refine PW_iconst (v := 1) c_H_hasHost_9 (by decide) ?_
        refine PW_goto c_H_hasHost_10 ?_
        refine PW_ireturn (ty := .boolean) c_H_hasHost_14 rfl (by decide +kernel) ?_
        show PW _ _ _ 81 [some (.ref 22), some (.ref 6), some (.int r), some (.int m), some (.int v), some (.int (mxT y v (nG y))), some (.int (bcJ v))] [.int 1, .int 3, .ref 25] (E (sA (sA (sA x 25 (upd (x.2.1 25) 0 (mxT y v (nG y)))) 25 (upd (upd (x.2.1 25) 0 (mxT y v (nG y))) 1 (bcJ v))) 25 (upd (upd (upd (x.2.1 25) 0 (mxT y v (nG y))) 1 (bcJ v)) 2 (bcJ (thI y r m)))) y)
        refine PW_if_eq c_L_minutes_81 (fun h3 => absurd h3 (by decide)) (fun _ => ?_)
        refine PW_iconst (v := 1) c_L_minutes_84 (by decide) ?_
        refine PW_goto c_L_minutes_85 ?_
        refine PW_iast (j := 3) (w2 := E (sA (sA (sA (sA x 25 (upd (x.2.1 25) 0 (mxT y v (nG y)))) 25 (upd (upd (x.2.1 25) 0 (mxT y v (nG y))) 1 (bcJ v))) 25 (upd (upd (upd (x.2.1 25) 0 (mxT y v (nG y))) 1 (bcJ v)) 2 (bcJ (thI y r m)))) 25 (upd (upd (upd (upd (x.2.1 25) 0 (mxT y v (nG y))) 1 (bcJ v)) 2 (bcJ (thI y r m))) 3 1)) y) c_L_minutes_89 (ar_25 _ _) (vp_in_iff.mpr (by decide)) rfl (aw_25 _ _ _) ?_
        refine PW_aload_n c_L_minutes_90 rfl ?_
        refine PW_get (v := .ref 25) c_L_minutes_91 fl_L_16 (gf_22_2 _ _) ?_
        refine PW_iconst (v := 4) c_L_minutes_94 (by decide) ?_
        refine PW_iload_n c_L_minutes_95 rfl ?_
        refine PW_iast (j := 4) (w2 := E (sA (sA (sA (sA (sA x 25 (upd (x.2.1 25) 0 (mxT y v (nG y)))) 25 (upd (upd (x.2.1 25) 0 (mxT y v (nG y))) 1 (bcJ v))) 25 (upd (upd (upd (x.2.1 25) 0 (mxT y v (nG y))) 1 (bcJ v)) 2 (bcJ (thI y r m)))) 25 (upd (upd (upd (upd (x.2.1 25) 0 (mxT y v (nG y))) 1 (bcJ v)) 2 (bcJ (thI y r m))) 3 1)) 25 (upd (upd (upd (upd (upd (x.2.1 25) 0 (mxT y v (nG y))) 1 (bcJ v)) 2 (bcJ (thI y r m))) 3 1) 4 m)) y) c_L_minutes_96 (ar_25 _ _) (vp_in_iff.mpr (by decide)) rfl (aw_25 _ _ _) ?_
        refine PW_iconst (v := 1) c_L_minutes_97 (by decide) ?_
        refine PW_bipush (v := 30) c_L_minutes_98 (by decide) ?_
        refine PW_aload_n c_L_minutes_100 rfl ?_
        refine PW_V0 (d2 := 2) (st := [.int 30, .int 1]) [] c_L_minutes_101 lk_L_minutes_65 (po_22 _ _) rfl rfl rfl (Nat.le_of_ble_eq_true rfl) (by first | decide | omega) (Nat.le_of_ble_eq_true rfl) ?_
        rw [sA_sA, sA_sA, sA_sA, sA_sA]
        refine H ?_
        show PW _ _ _ 104 [some (.ref 22), some (.ref 6), some (.int r), some (.int m), some (.int v), some (.int (mxT y v (nG y))), some (.int (bcJ v))] [.int (txV (fcN y r m v) p), .int 30, .int 1] (E (sI (sA (sA x 25 (upd (upd (upd (upd (upd (x.2.1 25) 0 (mxT y v (nG y))) 1 (bcJ v)) 2 (bcJ (thI y r m))) 3 1) 4 m)) 26 f') 181 (nI n')) y)
        refine PW_mmin c_L_minutes_104 mk_L_minutes_28 (by decide) (by first | decide | exact Nat.le_of_ble_eq_true rfl) ?_
        refine PW_mmax c_L_minutes_107 mk_L_minutes_55 (by decide) (by first | decide | exact Nat.le_of_ble_eq_true rfl) ?_
        refine PW_ireturn (ty := .int) c_L_minutes_110 rfl rfl ?_
        exact pqi h (clG2 _)
theorem lp_takes {z : ZS} {post : Option Value → List PE → Prop} {x y : XS} {r m v : Int32} (hW : WG y) (h : PW (3, 0, 0, z) m_M_takes1 post 58 [some (.ref 70), some (.int r), some (.int m), some (.int v), some (.int (mxT y v (nG y))), some (.int (nI (nG y)))] [] (E x y)) : ∀ j k : Nat, k + j = nG y → PW (3, 0, 0, z) m_M_takes1 post 12 [some (.ref 70), some (.int r), some (.int m), some (.int v), some (.int (mxT y v k)), some (.int (nI k))] [] (E x y) := by
  have hn := hW.2
  intro j
  induction j with
  | zero =>
    intro k hk
    refine PW_iload c_M_takes1_12 rfl ?_
    refine PW_aload_n c_M_takes1_14 rfl ?_
    refine PW_get (v := .int (y.1 561)) c_M_takes1_15 fl_M_128 (gf_70_1 _ _) ?_
    refine PW_icmp_ge c_M_takes1_18 (fun h0 => ?_) (fun h0 => absurd ((ge_t2 hW.1 (by omega) (by omega)).mpr (by omega)) h0)
    rw [show k = nG y by omega]
    exact h
  | succ j ih =>
    intro k hk
    by_cases hA : (v >>> (nI k &&& 31)) &&& 1 = 1
    · by_cases hB : mxT y v k < y.2.1 74 k
      · skip
        refine PW_iload c_M_takes1_12 rfl ?_
        refine PW_aload_n c_M_takes1_14 rfl ?_
        refine PW_get (v := .int (y.1 561)) c_M_takes1_15 fl_M_128 (gf_70_1 _ _) ?_
        refine PW_icmp_ge c_M_takes1_18 (fun h0 => absurd h0 (fun q => absurd ((ge_t2 hW.1 (by omega) (by omega)).mp q) (by omega))) (fun h0 => ?_)
        refine PW_iload_n c_M_takes1_21 rfl ?_
        refine PW_iload c_M_takes1_22 rfl ?_
        refine PW_ishr c_M_takes1_24 ?_
        refine PW_iconst (v := 1) c_M_takes1_25 (by decide) ?_
        refine PW_iand c_M_takes1_26 ?_
        refine PW_iconst (v := 1) c_M_takes1_27 (by decide) ?_
        refine PW_icmp_ne c_M_takes1_28 (fun h1 => absurd h1 (not_not_intro hA)) (fun h1 => ?_)
        refine PW_aload_n c_M_takes1_31 rfl ?_
        refine PW_get (v := .ref 74) c_M_takes1_32 fl_M_19 (gf_70_5 _ _) ?_
        refine PW_iload c_M_takes1_35 rfl ?_
        refine PW_iald (j := k) c_M_takes1_37 (ar_74 _ _) (vp_in_nI (by omega) (by decide)) (nI_clamp (by omega)) ?_
        show PW _ _ _ 38 [some (.ref 70), some (.int r), some (.int m), some (.int v), some (.int (mxT y v k)), some (.int (nI k))] [.int ((y.2.1 74) k)] (E x y)
        refine PW_iload c_M_takes1_38 rfl ?_
        refine PW_icmp_le c_M_takes1_40 (fun h2 => absurd h2 (Int32.not_le.mpr hB)) (fun h2 => ?_)
        refine PW_aload_n c_M_takes1_43 rfl ?_
        refine PW_get (v := .ref 74) c_M_takes1_44 fl_M_19 (gf_70_5 _ _) ?_
        refine PW_iload c_M_takes1_47 rfl ?_
        refine PW_iald (j := k) c_M_takes1_49 (ar_74 _ _) (vp_in_nI (by omega) (by decide)) (nI_clamp (by omega)) ?_
        show PW _ _ _ 50 [some (.ref 70), some (.int r), some (.int m), some (.int v), some (.int (mxT y v k)), some (.int (nI k))] [.int ((y.2.1 74) k)] (E x y)
        refine PW_istore (i := 4) (L2 := [some (.ref 70), some (.int r), some (.int m), some (.int v), some (.int ((y.2.1 74) k)), some (.int (nI k))]) c_M_takes1_50 (Nat.le_of_ble_eq_true rfl) rfl rfl ?_
        refine PW_iinc (i := 5) (v := (nI k) + 1) (L2 := [some (.ref 70), some (.int r), some (.int m), some (.int v), some (.int ((y.2.1 74) k)), some (.int ((nI k) + 1))]) c_M_takes1_52 rfl (iinc_v (by decide)) (Nat.le_of_ble_eq_true rfl) rfl rfl ?_
        refine PW_goto c_M_takes1_55 ?_
        refine PW.eqL ?_ rfl rfl (ih (k + 1) (by omega))
        show ([some (.ref 70), some (.int r), some (.int m), some (.int v), some (.int ((y.2.1 74) k)), some (.int ((nI k) + 1))] : List (Option Value)) = [some (.ref 70), some (.int r), some (.int m), some (.int v), some (.int (mxT y v (k + 1))), some (.int (nI (k + 1)))]
        rw [nI_1, mxT, if_pos ⟨hA, hB⟩]
      · skip
        refine PW_iload c_M_takes1_12 rfl ?_
        refine PW_aload_n c_M_takes1_14 rfl ?_
        refine PW_get (v := .int (y.1 561)) c_M_takes1_15 fl_M_128 (gf_70_1 _ _) ?_
        refine PW_icmp_ge c_M_takes1_18 (fun h0 => absurd h0 (fun q => absurd ((ge_t2 hW.1 (by omega) (by omega)).mp q) (by omega))) (fun h0 => ?_)
        refine PW_iload_n c_M_takes1_21 rfl ?_
        refine PW_iload c_M_takes1_22 rfl ?_
        refine PW_ishr c_M_takes1_24 ?_
        refine PW_iconst (v := 1) c_M_takes1_25 (by decide) ?_
        refine PW_iand c_M_takes1_26 ?_
        refine PW_iconst (v := 1) c_M_takes1_27 (by decide) ?_
        refine PW_icmp_ne c_M_takes1_28 (fun h1 => absurd h1 (not_not_intro hA)) (fun h1 => ?_)
        refine PW_aload_n c_M_takes1_31 rfl ?_
        refine PW_get (v := .ref 74) c_M_takes1_32 fl_M_19 (gf_70_5 _ _) ?_
        refine PW_iload c_M_takes1_35 rfl ?_
        refine PW_iald (j := k) c_M_takes1_37 (ar_74 _ _) (vp_in_nI (by omega) (by decide)) (nI_clamp (by omega)) ?_
        show PW _ _ _ 38 [some (.ref 70), some (.int r), some (.int m), some (.int v), some (.int (mxT y v k)), some (.int (nI k))] [.int ((y.2.1 74) k)] (E x y)
        refine PW_iload c_M_takes1_38 rfl ?_
        refine PW_icmp_le c_M_takes1_40 (fun h2 => ?_) (fun h2 => absurd (Int32.not_lt.mp hB) h2)
        refine PW_iinc (i := 5) (v := (nI k) + 1) (L2 := [some (.ref 70), some (.int r), some (.int m), some (.int v), some (.int (mxT y v k)), some (.int ((nI k) + 1))]) c_M_takes1_52 rfl (iinc_v (by decide)) (Nat.le_of_ble_eq_true rfl) rfl rfl ?_
        refine PW_goto c_M_takes1_55 ?_
        refine PW.eqL ?_ rfl rfl (ih (k + 1) (by omega))
        show ([some (.ref 70), some (.int r), some (.int m), some (.int v), some (.int (mxT y v k)), some (.int ((nI k) + 1))] : List (Option Value)) = [some (.ref 70), some (.int r), some (.int m), some (.int v), some (.int (mxT y v (k + 1))), some (.int (nI (k + 1)))]
        rw [nI_1, mxT, if_neg (fun q => hB q.2)]
    · skip
      refine PW_iload c_M_takes1_12 rfl ?_
      refine PW_aload_n c_M_takes1_14 rfl ?_
      refine PW_get (v := .int (y.1 561)) c_M_takes1_15 fl_M_128 (gf_70_1 _ _) ?_
      refine PW_icmp_ge c_M_takes1_18 (fun h0 => absurd h0 (fun q => absurd ((ge_t2 hW.1 (by omega) (by omega)).mp q) (by omega))) (fun h0 => ?_)
      refine PW_iload_n c_M_takes1_21 rfl ?_
      refine PW_iload c_M_takes1_22 rfl ?_
      refine PW_ishr c_M_takes1_24 ?_
      refine PW_iconst (v := 1) c_M_takes1_25 (by decide) ?_
      refine PW_iand c_M_takes1_26 ?_
      refine PW_iconst (v := 1) c_M_takes1_27 (by decide) ?_
      refine PW_icmp_ne c_M_takes1_28 (fun h1 => ?_) (fun h1 => absurd h1 hA)
      refine PW_iinc (i := 5) (v := (nI k) + 1) (L2 := [some (.ref 70), some (.int r), some (.int m), some (.int v), some (.int (mxT y v k)), some (.int ((nI k) + 1))]) c_M_takes1_52 rfl (iinc_v (by decide)) (Nat.le_of_ble_eq_true rfl) rfl rfl ?_
      refine PW_goto c_M_takes1_55 ?_
      refine PW.eqL ?_ rfl rfl (ih (k + 1) (by omega))
      show ([some (.ref 70), some (.int r), some (.int m), some (.int v), some (.int (mxT y v k)), some (.int ((nI k) + 1))] : List (Option Value)) = [some (.ref 70), some (.int r), some (.int m), some (.int v), some (.int (mxT y v (k + 1))), some (.int (nI (k + 1)))]
      rw [nI_1, mxT, if_neg (fun q => hA q.1)]
theorem sp_M_gives2 {y : XS} {fc : Nat → Int32} {p : Txt} (hfc : ∀ i, i < 5 → y.2.1 89 i = fc i) (hM : LawM p y) (hok : ∀ l ∈ p, okL l) : ∃ f' : Nat → Int32, ∀ {x : XS} {z : ZS} {post : Option Value → List PE → Prop}, post (some (.int (txV fc p))) (E x (sA y 90 f')) → PW (2, 0, 0, z) m_M_gives post 0 [some (.ref 70), some (.int 0), none, none] [] (E x y) := by
  obtain ⟨f', H⟩ := sp_M_gives hfc hM hok (y.2.1 90)
  refine ⟨f', fun {x z post} h => ?_⟩
  have q := H (x := x) (z := z) (post := post) h
  rw [sA_id] at q
  exact q
theorem sp_M_takes1 {T : Option Txt} {x0 y : XS} {r m v : Int32} (hW : WG y) (hv : S10 v) (hT : lawIs T x0 y) : ∃ y' : XS, scY y y' ∧ ∀ {x : XS} {z : ZS} {post : Option Value → List PE → Prop}, post (some (.int (mnF T y r m v))) (E x y') → PW (3, 0, 0, z) m_M_takes1 post 0 [some (.ref 70), some (.int r), some (.int m), some (.int v), none, none] [] (E x y) := by
  by_cases hv0 : v = 0
  · refine ⟨y, scY_0 y, fun {x z post} h => ?_⟩
    rw [show mnF T y r m v = 0 from if_pos hv0] at h
    refine PW_iload_n c_M_takes1_0 rfl ?_
    refine PW_if_ne c_M_takes1_1 (fun h0 => absurd h0 (not_not_intro hv0)) (fun h0 => ?_)
    refine PW_iconst (v := 0) c_M_takes1_4 (by decide) ?_
    refine PW_ireturn (ty := .int) c_M_takes1_5 rfl rfl ?_
    exact h
  · cases T with
    | none =>
      refine ⟨y, scY_0 y, fun {x z post} h => ?_⟩
      rw [show mnF none y r m v = clampM (mxT y v (nG y) + bcJ v) from if_neg hv0] at h
      refine PW_iload_n c_M_takes1_0 rfl ?_
      refine PW_if_ne c_M_takes1_1 (fun h0 => ?_) (fun h0 => absurd h0 hv0)
      refine PW_iconst (v := 0) c_M_takes1_6 (by decide) ?_
      refine PW_istore (i := 4) (L2 := [some (.ref 70), some (.int r), some (.int m), some (.int v), some (.int 0), none]) c_M_takes1_7 (Nat.le_of_ble_eq_true rfl) rfl rfl ?_
      refine PW_iconst (v := 0) c_M_takes1_9 (by decide) ?_
      refine PW_istore (i := 5) (L2 := [some (.ref 70), some (.int r), some (.int m), some (.int v), some (.int 0), some (.int 0)]) c_M_takes1_10 (Nat.le_of_ble_eq_true rfl) rfl rfl ?_
      refine PW.eqL ?_ rfl rfl (lp_takes (r := r) (m := m) (v := v) hW ?_ (nG y) 0 (Nat.zero_add _))
      · rfl
      · show PW _ _ _ 58 [some (.ref 70), some (.int r), some (.int m), some (.int v), some (.int (mxT y v (nG y))), some (.int (nI (nG y)))] [] (E x y)
        refine PW_iload c_M_takes1_58 rfl ?_
        refine PW_iload_n c_M_takes1_60 rfl ?_
        refine PW_S0 (d2 := 0) (st := [.int (mxT y v (nG y))]) [.int v] c_M_takes1_61 lk_M_takes1_259 rfl rfl rfl (Nat.le_of_ble_eq_true rfl) (by first | decide | omega) (Nat.le_of_ble_eq_true rfl) ?_
        refine sp_M_bitsOf hv ?_
        show PW _ _ _ 64 [some (.ref 70), some (.int r), some (.int m), some (.int v), some (.int (mxT y v (nG y))), some (.int (nI (nG y)))] [.int (bcJ v), .int (mxT y v (nG y))] (E x y)
        refine PW_iadd c_M_takes1_64 ?_
        refine PW_istore (i := 5) (L2 := [some (.ref 70), some (.int r), some (.int m), some (.int v), some (.int (mxT y v (nG y))), some (.int ((mxT y v (nG y)) + (bcJ v)))]) c_M_takes1_65 (Nat.le_of_ble_eq_true rfl) rfl rfl ?_
        refine PW_aload_n c_M_takes1_67 rfl ?_
        refine PW_get (v := .int (y.1 589)) c_M_takes1_68 fl_M_249 (gf_70_29 _ _) ?_
        refine PW_if_eq c_M_takes1_71 (fun h0 => ?_) (fun h0 => absurd hT.2 h0)
        refine PW_iload c_M_takes1_141 rfl ?_
        refine PW_iconst (v := 1) c_M_takes1_143 (by decide) ?_
        refine PW_icmp_ge c_M_takes1_144 (fun h1 => ?_) (fun h1 => ?_)
        · refine PW_iload c_M_takes1_151 rfl ?_
          refine PW_bipush (v := 30) c_M_takes1_153 (by decide) ?_
          refine PW_icmp_le c_M_takes1_155 (fun h2 => ?_) (fun h2 => ?_)
          · refine PW_iload c_M_takes1_163 rfl ?_
            refine PW_ireturn (ty := .int) c_M_takes1_165 rfl rfl ?_
            exact pqi h (by unfold clampM; rw [if_neg (Int32.not_lt.mpr h1), if_neg (Int32.not_lt.mpr h2)])
          · refine PW_bipush (v := 30) c_M_takes1_158 (by decide) ?_
            refine PW_goto c_M_takes1_160 ?_
            refine PW_ireturn (ty := .int) c_M_takes1_165 rfl rfl ?_
            exact pqi h (by unfold clampM; rw [if_neg (Int32.not_lt.mpr h1), if_pos (Int32.not_le.mp h2)])
        · refine PW_iconst (v := 1) c_M_takes1_147 (by decide) ?_
          refine PW_goto c_M_takes1_148 ?_
          refine PW_ireturn (ty := .int) c_M_takes1_165 rfl rfl ?_
          exact pqi h (by unfold clampM; exact if_pos (Int32.not_le.mp h1))
    | some p =>
      obtain ⟨h589, hok, hX, hM, hpos⟩ := hT
      by_cases hb : v &&& hostB y = 0
      · skip
        obtain ⟨f', H⟩ := sp_M_gives2 (y := sA y 89 (upd (upd (upd (upd (upd (y.2.1 89) 0 (mxT y v (nG y))) 1 (bcJ v)) 2 (bcJ (thI y r m))) 3 0) 4 m)) (fc := fcN y r m v) (p := p) (fun i hi => by rw [sA_at]; exact fcN_at (if_pos hb).symm i hi) hM hok
        refine ⟨sA (sA y 89 (upd (upd (upd (upd (upd (y.2.1 89) 0 (mxT y v (nG y))) 1 (bcJ v)) 2 (bcJ (thI y r m))) 3 0) 4 m)) 90 f', ⟨rfl, fun q h1 h2 => by rw [sA_A, if_neg h2, sA_A, if_neg h1], rfl⟩, fun {x z post} h => ?_⟩
        rw [show mnF (some p) y r m v = clampM (txV (fcN y r m v) p) from if_neg hv0] at h
        refine PW_iload_n c_M_takes1_0 rfl ?_
        refine PW_if_ne c_M_takes1_1 (fun h0 => ?_) (fun h0 => absurd h0 hv0)
        refine PW_iconst (v := 0) c_M_takes1_6 (by decide) ?_
        refine PW_istore (i := 4) (L2 := [some (.ref 70), some (.int r), some (.int m), some (.int v), some (.int 0), none]) c_M_takes1_7 (Nat.le_of_ble_eq_true rfl) rfl rfl ?_
        refine PW_iconst (v := 0) c_M_takes1_9 (by decide) ?_
        refine PW_istore (i := 5) (L2 := [some (.ref 70), some (.int r), some (.int m), some (.int v), some (.int 0), some (.int 0)]) c_M_takes1_10 (Nat.le_of_ble_eq_true rfl) rfl rfl ?_
        refine PW.eqL ?_ rfl rfl (lp_takes (r := r) (m := m) (v := v) hW ?_ (nG y) 0 (Nat.zero_add _))
        · rfl
        · show PW _ _ _ 58 [some (.ref 70), some (.int r), some (.int m), some (.int v), some (.int (mxT y v (nG y))), some (.int (nI (nG y)))] [] (E x y)
          refine PW_iload c_M_takes1_58 rfl ?_
          refine PW_iload_n c_M_takes1_60 rfl ?_
          refine PW_S0 (d2 := 0) (st := [.int (mxT y v (nG y))]) [.int v] c_M_takes1_61 lk_M_takes1_259 rfl rfl rfl (Nat.le_of_ble_eq_true rfl) (by first | decide | omega) (Nat.le_of_ble_eq_true rfl) ?_
          refine sp_M_bitsOf hv ?_
          show PW _ _ _ 64 [some (.ref 70), some (.int r), some (.int m), some (.int v), some (.int (mxT y v (nG y))), some (.int (nI (nG y)))] [.int (bcJ v), .int (mxT y v (nG y))] (E x y)
          refine PW_iadd c_M_takes1_64 ?_
          refine PW_istore (i := 5) (L2 := [some (.ref 70), some (.int r), some (.int m), some (.int v), some (.int (mxT y v (nG y))), some (.int ((mxT y v (nG y)) + (bcJ v)))]) c_M_takes1_65 (Nat.le_of_ble_eq_true rfl) rfl rfl ?_
          refine PW_aload_n c_M_takes1_67 rfl ?_
          refine PW_get (v := .int (y.1 589)) c_M_takes1_68 fl_M_249 (gf_70_29 _ _) ?_
          refine PW_if_eq c_M_takes1_71 (fun h0 => absurd h0 (by rw [h589]; decide)) (fun h0 => ?_)
          refine PW_aload_n c_M_takes1_74 rfl ?_
          refine PW_get (v := .ref 89) c_M_takes1_75 fl_M_66 (gf_70_27 _ _) ?_
          refine PW_iconst (v := 0) c_M_takes1_78 (by decide) ?_
          refine PW_iload c_M_takes1_79 rfl ?_
          refine PW_iast (j := 0) (w2 := E x (sA y 89 (upd (y.2.1 89) 0 (mxT y v (nG y))))) c_M_takes1_81 (ar_89 _ _) (vp_in_iff.mpr (by decide)) rfl (aw_89 _ _ _) ?_
          refine PW_aload_n c_M_takes1_82 rfl ?_
          refine PW_get (v := .ref 89) c_M_takes1_83 fl_M_66 (gf_70_27 _ _) ?_
          refine PW_iconst (v := 1) c_M_takes1_86 (by decide) ?_
          refine PW_iload_n c_M_takes1_87 rfl ?_
          refine PW_S0 (d2 := 0) (st := [.int 1, .ref 89]) [.int v] c_M_takes1_88 lk_M_takes1_259 rfl rfl rfl (Nat.le_of_ble_eq_true rfl) (by first | decide | omega) (Nat.le_of_ble_eq_true rfl) ?_
          refine sp_M_bitsOf hv ?_
          show PW _ _ _ 91 [some (.ref 70), some (.int r), some (.int m), some (.int v), some (.int (mxT y v (nG y))), some (.int ((mxT y v (nG y)) + (bcJ v)))] [.int (bcJ v), .int 1, .ref 89] (E x (sA y 89 (upd (y.2.1 89) 0 (mxT y v (nG y)))))
          refine PW_iast (j := 1) (w2 := E x (sA (sA y 89 (upd (y.2.1 89) 0 (mxT y v (nG y)))) 89 (upd (upd (y.2.1 89) 0 (mxT y v (nG y))) 1 (bcJ v)))) c_M_takes1_91 (ar_89 _ _) (vp_in_iff.mpr (by decide)) rfl (aw_89 _ _ _) ?_
          refine PW_aload_n c_M_takes1_92 rfl ?_
          refine PW_get (v := .ref 89) c_M_takes1_93 fl_M_66 (gf_70_27 _ _) ?_
          refine PW_iconst (v := 2) c_M_takes1_96 (by decide) ?_
          refine PW_aload_n c_M_takes1_97 rfl ?_
          refine PW_iload_n c_M_takes1_98 rfl ?_
          refine PW_iload_n c_M_takes1_99 rfl ?_
          refine PW_V0 (d2 := 1) (st := [.int 2, .ref 89]) [.int r, .int m] c_M_takes1_100 lk_M_takes1_179 (po_70 _ _) rfl rfl rfl (Nat.le_of_ble_eq_true rfl) (by first | decide | omega) (Nat.le_of_ble_eq_true rfl) ?_
          refine sp_M_thereIn hW ?_
          show PW _ _ _ 103 [some (.ref 70), some (.int r), some (.int m), some (.int v), some (.int (mxT y v (nG y))), some (.int ((mxT y v (nG y)) + (bcJ v)))] [.int (thI (sA (sA y 89 (upd (y.2.1 89) 0 (mxT y v (nG y)))) 89 (upd (upd (y.2.1 89) 0 (mxT y v (nG y))) 1 (bcJ v))) r m), .int 2, .ref 89] (E x (sA (sA y 89 (upd (y.2.1 89) 0 (mxT y v (nG y)))) 89 (upd (upd (y.2.1 89) 0 (mxT y v (nG y))) 1 (bcJ v))))
          show PW _ _ _ 103 [some (.ref 70), some (.int r), some (.int m), some (.int v), some (.int (mxT y v (nG y))), some (.int ((mxT y v (nG y)) + (bcJ v)))] [.int (thI y r m), .int 2, .ref 89] (E x (sA (sA y 89 (upd (y.2.1 89) 0 (mxT y v (nG y)))) 89 (upd (upd (y.2.1 89) 0 (mxT y v (nG y))) 1 (bcJ v))))
          refine PW_S0 (d2 := 0) (st := [.int 2, .ref 89]) [.int (thI y r m)] c_M_takes1_103 lk_M_takes1_259 rfl rfl rfl (Nat.le_of_ble_eq_true rfl) (by first | decide | omega) (Nat.le_of_ble_eq_true rfl) ?_
          refine sp_M_bitsOf (S10_thI hW.2) ?_
          show PW _ _ _ 106 [some (.ref 70), some (.int r), some (.int m), some (.int v), some (.int (mxT y v (nG y))), some (.int ((mxT y v (nG y)) + (bcJ v)))] [.int (bcJ (thI y r m)), .int 2, .ref 89] (E x (sA (sA y 89 (upd (y.2.1 89) 0 (mxT y v (nG y)))) 89 (upd (upd (y.2.1 89) 0 (mxT y v (nG y))) 1 (bcJ v))))
          refine PW_iast (j := 2) (w2 := E x (sA (sA (sA y 89 (upd (y.2.1 89) 0 (mxT y v (nG y)))) 89 (upd (upd (y.2.1 89) 0 (mxT y v (nG y))) 1 (bcJ v))) 89 (upd (upd (upd (y.2.1 89) 0 (mxT y v (nG y))) 1 (bcJ v)) 2 (bcJ (thI y r m))))) c_M_takes1_106 (ar_89 _ _) (vp_in_iff.mpr (by decide)) rfl (aw_89 _ _ _) ?_
          refine PW_aload_n c_M_takes1_107 rfl ?_
          refine PW_get (v := .ref 89) c_M_takes1_108 fl_M_66 (gf_70_27 _ _) ?_
          refine PW_iconst (v := 3) c_M_takes1_111 (by decide) ?_
          refine PW_iload_n c_M_takes1_112 rfl ?_
          refine PW_aload_n c_M_takes1_113 rfl ?_
          refine PW_V0 (d2 := 0) (st := [.int v, .int 3, .ref 89]) [] c_M_takes1_114 lk_M_takes1_256 (po_70 _ _) rfl rfl rfl (Nat.le_of_ble_eq_true rfl) (by first | decide | omega) (Nat.le_of_ble_eq_true rfl) ?_
          refine sp_M_hosts hW ?_
          show PW _ _ _ 117 [some (.ref 70), some (.int r), some (.int m), some (.int v), some (.int (mxT y v (nG y))), some (.int ((mxT y v (nG y)) + (bcJ v)))] [.int (hostB (sA (sA (sA y 89 (upd (y.2.1 89) 0 (mxT y v (nG y)))) 89 (upd (upd (y.2.1 89) 0 (mxT y v (nG y))) 1 (bcJ v))) 89 (upd (upd (upd (y.2.1 89) 0 (mxT y v (nG y))) 1 (bcJ v)) 2 (bcJ (thI y r m))))), .int v, .int 3, .ref 89] (E x (sA (sA (sA y 89 (upd (y.2.1 89) 0 (mxT y v (nG y)))) 89 (upd (upd (y.2.1 89) 0 (mxT y v (nG y))) 1 (bcJ v))) 89 (upd (upd (upd (y.2.1 89) 0 (mxT y v (nG y))) 1 (bcJ v)) 2 (bcJ (thI y r m)))))
          show PW _ _ _ 117 [some (.ref 70), some (.int r), some (.int m), some (.int v), some (.int (mxT y v (nG y))), some (.int ((mxT y v (nG y)) + (bcJ v)))] [.int (hostB y), .int v, .int 3, .ref 89] (E x (sA (sA (sA y 89 (upd (y.2.1 89) 0 (mxT y v (nG y)))) 89 (upd (upd (y.2.1 89) 0 (mxT y v (nG y))) 1 (bcJ v))) 89 (upd (upd (upd (y.2.1 89) 0 (mxT y v (nG y))) 1 (bcJ v)) 2 (bcJ (thI y r m)))))
          refine PW_iand c_M_takes1_117 ?_
          refine PW_if_ne c_M_takes1_118 (fun h1 => absurd h1 (not_not_intro hb)) (fun h1 => ?_)
          refine PW_iconst (v := 0) c_M_takes1_121 (by decide) ?_
          refine PW_goto c_M_takes1_122 ?_
          refine PW_iast (j := 3) (w2 := E x (sA (sA (sA (sA y 89 (upd (y.2.1 89) 0 (mxT y v (nG y)))) 89 (upd (upd (y.2.1 89) 0 (mxT y v (nG y))) 1 (bcJ v))) 89 (upd (upd (upd (y.2.1 89) 0 (mxT y v (nG y))) 1 (bcJ v)) 2 (bcJ (thI y r m)))) 89 (upd (upd (upd (upd (y.2.1 89) 0 (mxT y v (nG y))) 1 (bcJ v)) 2 (bcJ (thI y r m))) 3 0))) c_M_takes1_126 (ar_89 _ _) (vp_in_iff.mpr (by decide)) rfl (aw_89 _ _ _) ?_
          refine PW_aload_n c_M_takes1_127 rfl ?_
          refine PW_get (v := .ref 89) c_M_takes1_128 fl_M_66 (gf_70_27 _ _) ?_
          refine PW_iconst (v := 4) c_M_takes1_131 (by decide) ?_
          refine PW_iload_n c_M_takes1_132 rfl ?_
          refine PW_iast (j := 4) (w2 := E x (sA (sA (sA (sA (sA y 89 (upd (y.2.1 89) 0 (mxT y v (nG y)))) 89 (upd (upd (y.2.1 89) 0 (mxT y v (nG y))) 1 (bcJ v))) 89 (upd (upd (upd (y.2.1 89) 0 (mxT y v (nG y))) 1 (bcJ v)) 2 (bcJ (thI y r m)))) 89 (upd (upd (upd (upd (y.2.1 89) 0 (mxT y v (nG y))) 1 (bcJ v)) 2 (bcJ (thI y r m))) 3 0)) 89 (upd (upd (upd (upd (upd (y.2.1 89) 0 (mxT y v (nG y))) 1 (bcJ v)) 2 (bcJ (thI y r m))) 3 0) 4 m))) c_M_takes1_133 (ar_89 _ _) (vp_in_iff.mpr (by decide)) rfl (aw_89 _ _ _) ?_
          refine PW_aload_n c_M_takes1_134 rfl ?_
          refine PW_iconst (v := 0) c_M_takes1_135 (by decide) ?_
          refine PW_V0 (d2 := 2) (st := []) [.int 0] c_M_takes1_136 lk_M_takes1_262 (po_70 _ _) rfl rfl rfl (Nat.le_of_ble_eq_true rfl) (by first | decide | omega) (Nat.le_of_ble_eq_true rfl) ?_
          rw [sA_sA, sA_sA, sA_sA, sA_sA]
          refine H ?_
          show PW _ _ _ 139 [some (.ref 70), some (.int r), some (.int m), some (.int v), some (.int (mxT y v (nG y))), some (.int ((mxT y v (nG y)) + (bcJ v)))] [.int (txV (fcN y r m v) p)] (E x (sA (sA y 89 (upd (upd (upd (upd (upd (y.2.1 89) 0 (mxT y v (nG y))) 1 (bcJ v)) 2 (bcJ (thI y r m))) 3 0) 4 m)) 90 f'))
          refine PW_istore (i := 5) (L2 := [some (.ref 70), some (.int r), some (.int m), some (.int v), some (.int (mxT y v (nG y))), some (.int (txV (fcN y r m v) p))]) c_M_takes1_139 (Nat.le_of_ble_eq_true rfl) rfl rfl ?_
          refine PW_iload c_M_takes1_141 rfl ?_
          refine PW_iconst (v := 1) c_M_takes1_143 (by decide) ?_
          refine PW_icmp_ge c_M_takes1_144 (fun h2 => ?_) (fun h2 => ?_)
          · refine PW_iload c_M_takes1_151 rfl ?_
            refine PW_bipush (v := 30) c_M_takes1_153 (by decide) ?_
            refine PW_icmp_le c_M_takes1_155 (fun h3 => ?_) (fun h3 => ?_)
            · refine PW_iload c_M_takes1_163 rfl ?_
              refine PW_ireturn (ty := .int) c_M_takes1_165 rfl rfl ?_
              exact pqi h (by unfold clampM; rw [if_neg (Int32.not_lt.mpr h2), if_neg (Int32.not_lt.mpr h3)])
            · refine PW_bipush (v := 30) c_M_takes1_158 (by decide) ?_
              refine PW_goto c_M_takes1_160 ?_
              refine PW_ireturn (ty := .int) c_M_takes1_165 rfl rfl ?_
              exact pqi h (by unfold clampM; rw [if_neg (Int32.not_lt.mpr h2), if_pos (Int32.not_le.mp h3)])
          · refine PW_iconst (v := 1) c_M_takes1_147 (by decide) ?_
            refine PW_goto c_M_takes1_148 ?_
            refine PW_ireturn (ty := .int) c_M_takes1_165 rfl rfl ?_
            exact pqi h (by unfold clampM; exact if_pos (Int32.not_le.mp h2))
      · skip
        obtain ⟨f', H⟩ := sp_M_gives2 (y := sA y 89 (upd (upd (upd (upd (upd (y.2.1 89) 0 (mxT y v (nG y))) 1 (bcJ v)) 2 (bcJ (thI y r m))) 3 1) 4 m)) (fc := fcN y r m v) (p := p) (fun i hi => by rw [sA_at]; exact fcN_at (if_neg hb).symm i hi) hM hok
        refine ⟨sA (sA y 89 (upd (upd (upd (upd (upd (y.2.1 89) 0 (mxT y v (nG y))) 1 (bcJ v)) 2 (bcJ (thI y r m))) 3 1) 4 m)) 90 f', ⟨rfl, fun q h1 h2 => by rw [sA_A, if_neg h2, sA_A, if_neg h1], rfl⟩, fun {x z post} h => ?_⟩
        rw [show mnF (some p) y r m v = clampM (txV (fcN y r m v) p) from if_neg hv0] at h
        refine PW_iload_n c_M_takes1_0 rfl ?_
        refine PW_if_ne c_M_takes1_1 (fun h0 => ?_) (fun h0 => absurd h0 hv0)
        refine PW_iconst (v := 0) c_M_takes1_6 (by decide) ?_
        refine PW_istore (i := 4) (L2 := [some (.ref 70), some (.int r), some (.int m), some (.int v), some (.int 0), none]) c_M_takes1_7 (Nat.le_of_ble_eq_true rfl) rfl rfl ?_
        refine PW_iconst (v := 0) c_M_takes1_9 (by decide) ?_
        refine PW_istore (i := 5) (L2 := [some (.ref 70), some (.int r), some (.int m), some (.int v), some (.int 0), some (.int 0)]) c_M_takes1_10 (Nat.le_of_ble_eq_true rfl) rfl rfl ?_
        refine PW.eqL ?_ rfl rfl (lp_takes (r := r) (m := m) (v := v) hW ?_ (nG y) 0 (Nat.zero_add _))
        · rfl
        · show PW _ _ _ 58 [some (.ref 70), some (.int r), some (.int m), some (.int v), some (.int (mxT y v (nG y))), some (.int (nI (nG y)))] [] (E x y)
          refine PW_iload c_M_takes1_58 rfl ?_
          refine PW_iload_n c_M_takes1_60 rfl ?_
          refine PW_S0 (d2 := 0) (st := [.int (mxT y v (nG y))]) [.int v] c_M_takes1_61 lk_M_takes1_259 rfl rfl rfl (Nat.le_of_ble_eq_true rfl) (by first | decide | omega) (Nat.le_of_ble_eq_true rfl) ?_
          refine sp_M_bitsOf hv ?_
          show PW _ _ _ 64 [some (.ref 70), some (.int r), some (.int m), some (.int v), some (.int (mxT y v (nG y))), some (.int (nI (nG y)))] [.int (bcJ v), .int (mxT y v (nG y))] (E x y)
          refine PW_iadd c_M_takes1_64 ?_
          refine PW_istore (i := 5) (L2 := [some (.ref 70), some (.int r), some (.int m), some (.int v), some (.int (mxT y v (nG y))), some (.int ((mxT y v (nG y)) + (bcJ v)))]) c_M_takes1_65 (Nat.le_of_ble_eq_true rfl) rfl rfl ?_
          refine PW_aload_n c_M_takes1_67 rfl ?_
          refine PW_get (v := .int (y.1 589)) c_M_takes1_68 fl_M_249 (gf_70_29 _ _) ?_
          refine PW_if_eq c_M_takes1_71 (fun h0 => absurd h0 (by rw [h589]; decide)) (fun h0 => ?_)
          refine PW_aload_n c_M_takes1_74 rfl ?_
          refine PW_get (v := .ref 89) c_M_takes1_75 fl_M_66 (gf_70_27 _ _) ?_
          refine PW_iconst (v := 0) c_M_takes1_78 (by decide) ?_
          refine PW_iload c_M_takes1_79 rfl ?_
          refine PW_iast (j := 0) (w2 := E x (sA y 89 (upd (y.2.1 89) 0 (mxT y v (nG y))))) c_M_takes1_81 (ar_89 _ _) (vp_in_iff.mpr (by decide)) rfl (aw_89 _ _ _) ?_
          refine PW_aload_n c_M_takes1_82 rfl ?_
          refine PW_get (v := .ref 89) c_M_takes1_83 fl_M_66 (gf_70_27 _ _) ?_
          refine PW_iconst (v := 1) c_M_takes1_86 (by decide) ?_
          refine PW_iload_n c_M_takes1_87 rfl ?_
          refine PW_S0 (d2 := 0) (st := [.int 1, .ref 89]) [.int v] c_M_takes1_88 lk_M_takes1_259 rfl rfl rfl (Nat.le_of_ble_eq_true rfl) (by first | decide | omega) (Nat.le_of_ble_eq_true rfl) ?_
          refine sp_M_bitsOf hv ?_
          show PW _ _ _ 91 [some (.ref 70), some (.int r), some (.int m), some (.int v), some (.int (mxT y v (nG y))), some (.int ((mxT y v (nG y)) + (bcJ v)))] [.int (bcJ v), .int 1, .ref 89] (E x (sA y 89 (upd (y.2.1 89) 0 (mxT y v (nG y)))))
          refine PW_iast (j := 1) (w2 := E x (sA (sA y 89 (upd (y.2.1 89) 0 (mxT y v (nG y)))) 89 (upd (upd (y.2.1 89) 0 (mxT y v (nG y))) 1 (bcJ v)))) c_M_takes1_91 (ar_89 _ _) (vp_in_iff.mpr (by decide)) rfl (aw_89 _ _ _) ?_
          refine PW_aload_n c_M_takes1_92 rfl ?_
          refine PW_get (v := .ref 89) c_M_takes1_93 fl_M_66 (gf_70_27 _ _) ?_
          refine PW_iconst (v := 2) c_M_takes1_96 (by decide) ?_
          refine PW_aload_n c_M_takes1_97 rfl ?_
          refine PW_iload_n c_M_takes1_98 rfl ?_
          refine PW_iload_n c_M_takes1_99 rfl ?_
          refine PW_V0 (d2 := 1) (st := [.int 2, .ref 89]) [.int r, .int m] c_M_takes1_100 lk_M_takes1_179 (po_70 _ _) rfl rfl rfl (Nat.le_of_ble_eq_true rfl) (by first | decide | omega) (Nat.le_of_ble_eq_true rfl) ?_
          refine sp_M_thereIn hW ?_
          show PW _ _ _ 103 [some (.ref 70), some (.int r), some (.int m), some (.int v), some (.int (mxT y v (nG y))), some (.int ((mxT y v (nG y)) + (bcJ v)))] [.int (thI (sA (sA y 89 (upd (y.2.1 89) 0 (mxT y v (nG y)))) 89 (upd (upd (y.2.1 89) 0 (mxT y v (nG y))) 1 (bcJ v))) r m), .int 2, .ref 89] (E x (sA (sA y 89 (upd (y.2.1 89) 0 (mxT y v (nG y)))) 89 (upd (upd (y.2.1 89) 0 (mxT y v (nG y))) 1 (bcJ v))))
          show PW _ _ _ 103 [some (.ref 70), some (.int r), some (.int m), some (.int v), some (.int (mxT y v (nG y))), some (.int ((mxT y v (nG y)) + (bcJ v)))] [.int (thI y r m), .int 2, .ref 89] (E x (sA (sA y 89 (upd (y.2.1 89) 0 (mxT y v (nG y)))) 89 (upd (upd (y.2.1 89) 0 (mxT y v (nG y))) 1 (bcJ v))))
          refine PW_S0 (d2 := 0) (st := [.int 2, .ref 89]) [.int (thI y r m)] c_M_takes1_103 lk_M_takes1_259 rfl rfl rfl (Nat.le_of_ble_eq_true rfl) (by first | decide | omega) (Nat.le_of_ble_eq_true rfl) ?_
          refine sp_M_bitsOf (S10_thI hW.2) ?_
          show PW _ _ _ 106 [some (.ref 70), some (.int r), some (.int m), some (.int v), some (.int (mxT y v (nG y))), some (.int ((mxT y v (nG y)) + (bcJ v)))] [.int (bcJ (thI y r m)), .int 2, .ref 89] (E x (sA (sA y 89 (upd (y.2.1 89) 0 (mxT y v (nG y)))) 89 (upd (upd (y.2.1 89) 0 (mxT y v (nG y))) 1 (bcJ v))))
          refine PW_iast (j := 2) (w2 := E x (sA (sA (sA y 89 (upd (y.2.1 89) 0 (mxT y v (nG y)))) 89 (upd (upd (y.2.1 89) 0 (mxT y v (nG y))) 1 (bcJ v))) 89 (upd (upd (upd (y.2.1 89) 0 (mxT y v (nG y))) 1 (bcJ v)) 2 (bcJ (thI y r m))))) c_M_takes1_106 (ar_89 _ _) (vp_in_iff.mpr (by decide)) rfl (aw_89 _ _ _) ?_
          refine PW_aload_n c_M_takes1_107 rfl ?_
          refine PW_get (v := .ref 89) c_M_takes1_108 fl_M_66 (gf_70_27 _ _) ?_
          refine PW_iconst (v := 3) c_M_takes1_111 (by decide) ?_
          refine PW_iload_n c_M_takes1_112 rfl ?_
          refine PW_aload_n c_M_takes1_113 rfl ?_
          refine PW_V0 (d2 := 0) (st := [.int v, .int 3, .ref 89]) [] c_M_takes1_114 lk_M_takes1_256 (po_70 _ _) rfl rfl rfl (Nat.le_of_ble_eq_true rfl) (by first | decide | omega) (Nat.le_of_ble_eq_true rfl) ?_
          refine sp_M_hosts hW ?_
          show PW _ _ _ 117 [some (.ref 70), some (.int r), some (.int m), some (.int v), some (.int (mxT y v (nG y))), some (.int ((mxT y v (nG y)) + (bcJ v)))] [.int (hostB (sA (sA (sA y 89 (upd (y.2.1 89) 0 (mxT y v (nG y)))) 89 (upd (upd (y.2.1 89) 0 (mxT y v (nG y))) 1 (bcJ v))) 89 (upd (upd (upd (y.2.1 89) 0 (mxT y v (nG y))) 1 (bcJ v)) 2 (bcJ (thI y r m))))), .int v, .int 3, .ref 89] (E x (sA (sA (sA y 89 (upd (y.2.1 89) 0 (mxT y v (nG y)))) 89 (upd (upd (y.2.1 89) 0 (mxT y v (nG y))) 1 (bcJ v))) 89 (upd (upd (upd (y.2.1 89) 0 (mxT y v (nG y))) 1 (bcJ v)) 2 (bcJ (thI y r m)))))
          show PW _ _ _ 117 [some (.ref 70), some (.int r), some (.int m), some (.int v), some (.int (mxT y v (nG y))), some (.int ((mxT y v (nG y)) + (bcJ v)))] [.int (hostB y), .int v, .int 3, .ref 89] (E x (sA (sA (sA y 89 (upd (y.2.1 89) 0 (mxT y v (nG y)))) 89 (upd (upd (y.2.1 89) 0 (mxT y v (nG y))) 1 (bcJ v))) 89 (upd (upd (upd (y.2.1 89) 0 (mxT y v (nG y))) 1 (bcJ v)) 2 (bcJ (thI y r m)))))
          refine PW_iand c_M_takes1_117 ?_
          refine PW_if_ne c_M_takes1_118 (fun h1 => ?_) (fun h1 => absurd h1 hb)
          refine PW_iconst (v := 1) c_M_takes1_125 (by decide) ?_
          refine PW_iast (j := 3) (w2 := E x (sA (sA (sA (sA y 89 (upd (y.2.1 89) 0 (mxT y v (nG y)))) 89 (upd (upd (y.2.1 89) 0 (mxT y v (nG y))) 1 (bcJ v))) 89 (upd (upd (upd (y.2.1 89) 0 (mxT y v (nG y))) 1 (bcJ v)) 2 (bcJ (thI y r m)))) 89 (upd (upd (upd (upd (y.2.1 89) 0 (mxT y v (nG y))) 1 (bcJ v)) 2 (bcJ (thI y r m))) 3 1))) c_M_takes1_126 (ar_89 _ _) (vp_in_iff.mpr (by decide)) rfl (aw_89 _ _ _) ?_
          refine PW_aload_n c_M_takes1_127 rfl ?_
          refine PW_get (v := .ref 89) c_M_takes1_128 fl_M_66 (gf_70_27 _ _) ?_
          refine PW_iconst (v := 4) c_M_takes1_131 (by decide) ?_
          refine PW_iload_n c_M_takes1_132 rfl ?_
          refine PW_iast (j := 4) (w2 := E x (sA (sA (sA (sA (sA y 89 (upd (y.2.1 89) 0 (mxT y v (nG y)))) 89 (upd (upd (y.2.1 89) 0 (mxT y v (nG y))) 1 (bcJ v))) 89 (upd (upd (upd (y.2.1 89) 0 (mxT y v (nG y))) 1 (bcJ v)) 2 (bcJ (thI y r m)))) 89 (upd (upd (upd (upd (y.2.1 89) 0 (mxT y v (nG y))) 1 (bcJ v)) 2 (bcJ (thI y r m))) 3 1)) 89 (upd (upd (upd (upd (upd (y.2.1 89) 0 (mxT y v (nG y))) 1 (bcJ v)) 2 (bcJ (thI y r m))) 3 1) 4 m))) c_M_takes1_133 (ar_89 _ _) (vp_in_iff.mpr (by decide)) rfl (aw_89 _ _ _) ?_
          refine PW_aload_n c_M_takes1_134 rfl ?_
          refine PW_iconst (v := 0) c_M_takes1_135 (by decide) ?_
          refine PW_V0 (d2 := 2) (st := []) [.int 0] c_M_takes1_136 lk_M_takes1_262 (po_70 _ _) rfl rfl rfl (Nat.le_of_ble_eq_true rfl) (by first | decide | omega) (Nat.le_of_ble_eq_true rfl) ?_
          rw [sA_sA, sA_sA, sA_sA, sA_sA]
          refine H ?_
          show PW _ _ _ 139 [some (.ref 70), some (.int r), some (.int m), some (.int v), some (.int (mxT y v (nG y))), some (.int ((mxT y v (nG y)) + (bcJ v)))] [.int (txV (fcN y r m v) p)] (E x (sA (sA y 89 (upd (upd (upd (upd (upd (y.2.1 89) 0 (mxT y v (nG y))) 1 (bcJ v)) 2 (bcJ (thI y r m))) 3 1) 4 m)) 90 f'))
          refine PW_istore (i := 5) (L2 := [some (.ref 70), some (.int r), some (.int m), some (.int v), some (.int (mxT y v (nG y))), some (.int (txV (fcN y r m v) p))]) c_M_takes1_139 (Nat.le_of_ble_eq_true rfl) rfl rfl ?_
          refine PW_iload c_M_takes1_141 rfl ?_
          refine PW_iconst (v := 1) c_M_takes1_143 (by decide) ?_
          refine PW_icmp_ge c_M_takes1_144 (fun h2 => ?_) (fun h2 => ?_)
          · refine PW_iload c_M_takes1_151 rfl ?_
            refine PW_bipush (v := 30) c_M_takes1_153 (by decide) ?_
            refine PW_icmp_le c_M_takes1_155 (fun h3 => ?_) (fun h3 => ?_)
            · refine PW_iload c_M_takes1_163 rfl ?_
              refine PW_ireturn (ty := .int) c_M_takes1_165 rfl rfl ?_
              exact pqi h (by unfold clampM; rw [if_neg (Int32.not_lt.mpr h2), if_neg (Int32.not_lt.mpr h3)])
            · refine PW_bipush (v := 30) c_M_takes1_158 (by decide) ?_
              refine PW_goto c_M_takes1_160 ?_
              refine PW_ireturn (ty := .int) c_M_takes1_165 rfl rfl ?_
              exact pqi h (by unfold clampM; rw [if_neg (Int32.not_lt.mpr h2), if_pos (Int32.not_le.mp h3)])
          · refine PW_iconst (v := 1) c_M_takes1_147 (by decide) ?_
            refine PW_goto c_M_takes1_148 ?_
            refine PW_ireturn (ty := .int) c_M_takes1_165 rfl rfl ?_
            exact pqi h (by unfold clampM; exact if_pos (Int32.not_le.mp h2))
