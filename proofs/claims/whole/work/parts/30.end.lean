/-! how the party ends -/
def AL (y : XS) : Int32 := (1 <<< (y.1 561 &&& 31)) - 1
def lvT (y : XS) (m : Int32) : Int32 := bitsT (fun g => decide (y.2.1 77 g ≤ m)) (nG y)
def enS (y : XS) (gone : Int32) : Int32 := gone ||| lvT y (bcJ gone)
def enI (y : XS) : Nat → Nat → Int32 → Nat × Int32
  | 0, w, g => (w, g)
  | j + 1, w, g => if enS y g = g then (w, g) else enI y j (w + 1) (enS y g)
def enR (y : XS) (g : Int32) : Int32 := (enI y 11 0 g).2
def enW (y : XS) (g : Int32) : Nat := (enI y 11 0 g).1
def lvd (y : XS) (f : Nat → Int32) : Prop := ∀ i, i < 11 → f i = lvT y (nI i)
theorem sI_sI (x : XS) (n : Nat) (a b : Int32) : sI (sI x n a) n b = sI x n b := by
  refine Prod.ext (funext fun m => ?_) rfl
  show (if m = n then b else if m = n then a else x.1 m) = if m = n then b else x.1 m
  by_cases h : m = n
  · rw [if_pos h, if_pos h]
  · rw [if_neg h, if_neg h, if_neg h]
theorem an2 (a b c : Int32) : a &&& (b ^^^ -1) &&& (c ^^^ -1) = a &&& ((b ||| c) ^^^ -1) := bt_ext fun i hi => by
  simp only [bt_and, bt_or, bt_com _ hi]
  cases bt a i <;> cases bt b i <;> cases bt c i <;> rfl
theorem an3 {a b : Int32} {k : Nat} (hS : S10 a) (hk : k < 10) (h : ¬ ((a >>> (nI k &&& 31)) &&& 1 = 1)) : a &&& (b ^^^ -1) = a &&& ((b ||| ((1 : Int32) <<< (nI k &&& 31))) ^^^ -1) := bt_ext fun i hi => by
  simp only [bt_and, bt_or, bt_com _ hi, bt_sh hk hi]
  by_cases q : i = k
  · subst q
    have h2 : bt a i = false := by
      cases e : bt a i
      · rfl
      · exact absurd ((bt_at hS hk).mpr e) h
    rw [h2]; rfl
  · rw [decide_eq_false q, Bool.or_false]
theorem AL_bit_all : ∀ n : Nat, n < 11 → ∀ i : Nat, i < 32 → bt ((1 <<< (nI n &&& 31)) - 1) i = decide (i < n) := by decide +kernel
theorem AL_bit {y : XS} (hW : WG y) {i : Nat} (hi : i < 32) : bt (AL y) i = decide (i < nG y) := by
  unfold AL
  rw [hW.1]
  exact AL_bit_all _ (by have := hW.2; omega) i hi
theorem AL_nI_all : ∀ n : Nat, n < 11 → ((1 <<< (nI n &&& 31)) - 1 : Int32) = nI (2 ^ n - 1) ∧ (1 <<< (nI n &&& 31) : Int32) = nI (2 ^ n) ∧ 2 ^ n ≤ 1024 := by decide +kernel
theorem AL_nI {y : XS} (hW : WG y) : AL y = nI (2 ^ nG y - 1) ∧ (1 <<< (y.1 561 &&& 31) : Int32) = nI (2 ^ nG y) ∧ 2 ^ nG y ≤ 1024 := by
  unfold AL
  rw [hW.1]
  exact AL_nI_all _ (by have := hW.2; omega)
theorem S10_AL {y : XS} (hW : WG y) : S10 (AL y) := by
  obtain ⟨e, -, h⟩ := AL_nI hW
  exact ⟨2 ^ nG y - 1, by omega, e⟩
/-- a set of those who are there -/
def sbG (y : XS) (v : Int32) : Prop := v &&& (AL y ^^^ -1) = 0
theorem sbG_bit {y : XS} (hW : WG y) {v : Int32} (h : sbG y v) {i : Nat} (hi : i < 32) (hb : bt v i = true) : i < nG y := by
  have q := congrArg (fun w => bt w i) h
  simp only [bt_and, bt_com _ hi, bt_0, hb, Bool.true_and, AL_bit hW hi] at q
  simpa using q
theorem sbG_of {y : XS} (hW : WG y) {v : Int32} (h : ∀ i, i < 32 → bt v i = true → i < nG y) : sbG y v := bt_ext fun i hi => by
  rw [bt_and, bt_com _ hi, bt_0, AL_bit hW hi]
  cases e : bt v i
  · rfl
  · rw [decide_eq_true (h i hi e)]; rfl
theorem sbG_or {y : XS} (hW : WG y) {v w : Int32} (h : sbG y v) (h2 : sbG y w) : sbG y (v ||| w) := sbG_of hW fun i hi hb => by
  rw [bt_or] at hb
  cases e : bt v i
  · rw [e, Bool.false_or] at hb; exact sbG_bit hW h2 hi hb
  · exact sbG_bit hW h hi e
theorem sbG_lvT {y : XS} (hW : WG y) (m : Int32) : sbG y (lvT y m) := sbG_of hW fun i hi hb => by
  unfold lvT at hb
  rw [bt_bitsT _ hW.2 hi] at hb
  cases e : decide (i < nG y)
  · rw [e] at hb; exact absurd hb (by simp)
  · exact of_decide_eq_true e
theorem sbG_sh {y : XS} (hW : WG y) {g : Nat} (hg : g < nG y) : sbG y (1 <<< (nI g &&& 31)) := sbG_of hW fun i hi hb => by
  rw [bt_sh (by have := hW.2; omega) hi] at hb
  rw [of_decide_eq_true hb]; exact hg
theorem bc_left_all : ∀ n : Nat, n < 11 → ∀ g : Nat, g < 1024 → (nI g &&& (((1 <<< (nI n &&& 31)) - 1) ^^^ -1) = 0) → nI n - bcJ (((1 <<< (nI n &&& 31)) - 1) &&& (nI g ^^^ -1)) = bcJ (nI g) := by decide +kernel
theorem bc_left {y : XS} (hW : WG y) {v : Int32} (hS : S10 v) (h : sbG y v) : y.1 561 - bcJ (AL y &&& (v ^^^ -1)) = bcJ v := by
  obtain ⟨k, hk, rfl⟩ := hS
  unfold sbG at h
  unfold AL at h ⊢
  rw [hW.1] at h ⊢
  exact bc_left_all _ (by have := hW.2; omega) k hk h
theorem en_iff {y : XS} (hW : WG y) {v l : Int32} (h1 : sbG y v) (h2 : sbG y l) : AL y &&& (v ^^^ -1) &&& (l ^^^ -1) = AL y &&& (v ^^^ -1) ↔ v ||| l = v := by
  constructor
  · intro h
    refine bt_ext fun i hi => ?_
    have q := congrArg (fun w => bt w i) h
    have q1 := congrArg (fun w => bt w i) h1
    have q2 := congrArg (fun w => bt w i) h2
    simp only [bt_and, bt_or, bt_com _ hi, bt_0] at q q1 q2 ⊢
    revert q q1 q2
    cases bt (AL y) i <;> cases bt v i <;> cases bt l i <;> decide
  · intro h
    rw [an2, h]
theorem enS_up {y : XS} {v : Int32} (i : Nat) (h : bt v i = true) : bt (enS y v) i = true := by
  unfold enS
  rw [bt_or, h, Bool.true_or]
theorem S10_lvT {y : XS} (hW : WG y) (m : Int32) : S10 (lvT y m) := S10_bitsT _ hW.2
theorem S10_enS {y : XS} (hW : WG y) {v : Int32} (h : S10 v) : S10 (enS y v) := S10_or h (S10_lvT hW _)
theorem sbG_enS {y : XS} (hW : WG y) {v : Int32} (h : sbG y v) : sbG y (enS y v) := sbG_or hW h (sbG_lvT hW _)
theorem S10_left {y : XS} (hW : WG y) (v : Int32) : S10 (AL y &&& (v ^^^ -1)) := S10_and (S10_AL hW)
theorem CPg.s45 {x y : XS} (C : CPg x y) (f : Nat → Int32) : CPg (sA x 45 f) y := C.cg (fun _ _ _ => rfl) (fun a q1 q2 => if_neg (by omega)) rfl (fun _ _ _ => rfl)
theorem CPg.s354 {x y : XS} (C : CPg x y) (v : Int32) : CPg (sI x 354 v) y := C.cg (fun n q1 q2 => if_neg (by omega)) (fun _ _ _ => rfl) rfl (fun _ _ _ => rfl)
theorem CPg.s605 {x y : XS} (C : CPg x y) (v : Int32) : CPg x (sI y 605 v) := C.cg (fun _ _ _ => rfl) (fun _ _ _ => rfl) rfl (fun _ _ _ => rfl)
theorem sp_H_ev {z : ZS} {post : Option Value → List PE → Prop} {x y : XS} (C : CPg x y) (h : post (some (.int (AL y))) (E x y)) : PW (0, 0, 0, z) m_H_everybody post 0 [some (.ref 6)] [] (E x y) := sp_H_everybody (by rw [C.x51]; exact h)
theorem lp3_Y_readLeaving {x y : XS} {gc : Int32} (C : CPg x y) (hgc : gc = y.1 561) : ∀ (j k : Nat) (f : Nat → Int32), k + j = 11 → (∀ i, i < k → f i = lvT y (nI i)) → ∃ f' : Nat → Int32, lvd y f' ∧ ∀ {z : ZS} {post : Option Value → List PE → Prop} {l3 l4 : Option Value}, post none (E (sA x 45 f') y) → PW (3, 0, 0, z) m_Y_readLeaving post 10 [some (.ref 44), some (.int gc), some (.int (nI k)), l3, l4] [] (E (sA x 45 f) y) := by
  intro j
  induction j with
  | zero =>
    intro k f hk hf
    refine ⟨f, fun i hi => hf i (by omega), fun {z post l3 l4} h => ?_⟩
    refine PW_iload_n c_Y_readLeaving_10 rfl ?_
    refine PW_aload_n c_Y_readLeaving_11 rfl ?_
    refine PW_get (v := .ref 45) c_Y_readLeaving_12 fl_Y_11 (gf_44_1 _ _) ?_
    refine PW_alen (v := 11) c_Y_readLeaving_15 (ar_45 _ _) (t0 := 0) rfl (by decide) ?_
    refine PW_icmp_ge c_Y_readLeaving_16 (fun h0 => ?_) (fun h0 => absurd (by rw [show k = 11 by omega]; decide : (11 : Int32) ≤ nI k) h0)
    refine PW_vreturn c_Y_readLeaving_71 rfl ?_
    exact h
  | succ j ih =>
    intro k f hk hf
    obtain ⟨f', h1, h2⟩ := ih (k + 1) (upd f k (lvT y (nI k))) (by omega) (fun i hi => by
      by_cases q : i = k
      · rw [q, upd_s]
      · rw [upd_n q]; exact hf i (by omega))
    refine ⟨f', h1, fun {z post l3 l4} h => ?_⟩
    refine PW_iload_n c_Y_readLeaving_10 rfl ?_
    refine PW_aload_n c_Y_readLeaving_11 rfl ?_
    refine PW_get (v := .ref 45) c_Y_readLeaving_12 fl_Y_11 (gf_44_1 _ _) ?_
    refine PW_alen (v := 11) c_Y_readLeaving_15 (ar_45 _ _) (t0 := 0) rfl (by decide) ?_
    refine PW_icmp_ge c_Y_readLeaving_16 (fun h0 => absurd h0 (fun q => absurd ((nI_leI (by decide) (by omega)).mp (show nI 11 ≤ nI k from q)) (by omega))) (fun h0 => ?_)
    refine PW_iconst (v := 0) c_Y_readLeaving_19 (by decide) ?_
    refine PW_istore_n (i := 3) (L2 := [some (.ref 44), some (.int gc), some (.int (nI k)), some (.int 0), l4]) c_Y_readLeaving_20 rfl (Nat.le_of_ble_eq_true rfl) rfl rfl ?_
    refine PW_iconst (v := 0) c_Y_readLeaving_21 (by decide) ?_
    refine PW_istore (i := 4) (L2 := [some (.ref 44), some (.int gc), some (.int (nI k)), some (.int 0), some (.int 0)]) c_Y_readLeaving_22 (Nat.le_of_ble_eq_true rfl) rfl rfl ?_
    refine PW.eqL ?_ rfl rfl (lp_Y_readLeaving (m := nI k) (C.s45 f) ?_ (nG y) 0 (Nat.zero_add _))
    · rw [hgc] <;> rfl
    · refine PW_aload_n c_Y_readLeaving_58 rfl ?_
      refine PW_get (v := .ref 45) c_Y_readLeaving_59 fl_Y_11 (gf_44_1 _ _) ?_
      refine PW_iload_n c_Y_readLeaving_62 rfl ?_
      refine PW_iload_n c_Y_readLeaving_63 rfl ?_
      refine PW_iast (j := k) (w2 := E (sA (sA x 45 f) 45 (upd f k (bitsT (fun g => decide (y.2.1 77 g ≤ nI k)) (nG y)))) y) c_Y_readLeaving_64 (ar_45 _ _) (vp_in_nI (by omega) (by decide)) (nI_clamp (by omega)) (aw_45 _ _ _) ?_
      refine PW_iinc (i := 2) (v := (nI k) + 1) (L2 := [some (.ref 44), some (.int (y.1 561)), some (.int ((nI k) + 1)), some (.int (bitsT (fun g => decide (y.2.1 77 g ≤ nI k)) (nG y))), some (.int (nI (nG y)))]) c_Y_readLeaving_65 rfl (iinc_v (by decide)) (Nat.le_of_ble_eq_true rfl) rfl rfl ?_
      refine PW_goto c_Y_readLeaving_68 ?_
      rw [sA_sA]
      refine PW.eqL ?_ rfl rfl (h2 (l3 := some (.int (bitsT (fun g => decide (y.2.1 77 g ≤ nI k)) (nG y)))) (l4 := some (.int (nI (nG y)))) h)
      show ([some (.ref 44), some (.int (y.1 561)), some (.int ((nI k) + 1)), some (.int (bitsT (fun g => decide (y.2.1 77 g ≤ nI k)) (nG y))), some (.int (nI (nG y)))] : List (Option Value)) = _
      rw [nI_1, hgc]
theorem sp_Y_readLeaving {x y : XS} (C : CPg x y) : ∃ f' : Nat → Int32, lvd y f' ∧ ∀ {z : ZS} {post : Option Value → List PE → Prop}, post none (E (sA x 45 f') y) → PW (3, 0, 0, z) m_Y_readLeaving post 0 [some (.ref 44), none, none, none, none] [] (E x y) := by
  obtain ⟨f', h1, h2⟩ := lp3_Y_readLeaving (gc := x.1 51) C C.x51 11 0 (x.2.1 45) (Nat.zero_add _) (fun i hi => by omega)
  refine ⟨f', h1, fun {z post} h => ?_⟩
  refine PW_aload_n c_Y_readLeaving_0 rfl ?_
  refine PW_get (v := .ref 6) c_Y_readLeaving_1 fl_Y_17 (gf_44_0 _ _) ?_
  refine PW_V0 (d2 := 0) (st := []) [] c_Y_readLeaving_4 lk_Y_readLeaving_32 (po_6 _ _) rfl rfl rfl (Nat.le_of_ble_eq_true rfl) (by first | decide | omega) (Nat.le_of_ble_eq_true rfl) ?_
  show PW _ _ _ 0 [some (.ref 6)] [] (E x y)
  refine PW_aload_n c_H_guestCount_0 rfl ?_
  refine PW_get (v := .int (x.1 51)) c_H_guestCount_1 fl_H_29 (gf_6_3 _ _) ?_
  refine PW_ireturn (ty := .int) c_H_guestCount_4 rfl rfl ?_
  show PW _ _ _ 7 [some (.ref 44), none, none, none, none] [.int (x.1 51)] (E x y)
  refine PW_istore_n (i := 1) (L2 := [some (.ref 44), some (.int (x.1 51)), none, none, none]) c_Y_readLeaving_7 rfl (Nat.le_of_ble_eq_true rfl) rfl rfl ?_
  refine PW_iconst (v := 0) c_Y_readLeaving_8 (by decide) ?_
  refine PW_istore_n (i := 2) (L2 := [some (.ref 44), some (.int (x.1 51)), some (.int 0), none, none]) c_Y_readLeaving_9 rfl (Nat.le_of_ble_eq_true rfl) rfl rfl ?_
  have h3 := h2 (z := z) (post := post) (l3 := none) (l4 := none) h
  rw [sA_id] at h3
  exact h3
theorem lp_Y_staying {x y : XS} {first : Int32} (C : CPg x y) (hL : lvd y (x.2.1 45)) : ∀ (j k w : Nat) (gone : Int32), k + j = 11 → S10 gone → ∀ {z : ZS} {post : Option Value → List PE → Prop} {l4 l5 : Option Value}, post (some (.int (AL y &&& ((enI y j w gone).2 ^^^ -1)))) (E (sI x 354 (nI (enI y j w gone).1)) y) → PW (1, 0, 0, z) m_Y_stayingBehind post 9 [some (.ref 44), some (.int first), some (.int gone), some (.int (nI k)), l4, l5] [] (E (sI x 354 (nI w)) y) := by
  intro j
  induction j with
  | zero =>
    intro k w gone hk hS z post l4 l5 h
    rw [enI] at h
    refine PW_iload_n c_Y_stayingBehind_9 rfl ?_
    refine PW_bipush (v := 10) c_Y_stayingBehind_10 (by decide) ?_
    refine PW_icmp_gt c_Y_stayingBehind_12 (fun h0 => ?_) (fun h0 => absurd (by rw [show k = 11 by omega]; decide : nI k > 10) h0)
    refine PW_aload_n c_Y_stayingBehind_74 rfl ?_
    refine PW_get (v := .ref 6) c_Y_stayingBehind_75 fl_Y_17 (gf_44_0 _ _) ?_
    refine PW_V0 (d2 := 0) (st := []) [] c_Y_stayingBehind_78 lk_Y_stayingBehind_41 (po_6 _ _) rfl rfl rfl (Nat.le_of_ble_eq_true rfl) (by first | decide | omega) (Nat.le_of_ble_eq_true rfl) ?_
    refine sp_H_ev (C.s354 _) ?_
    show PW _ _ _ 81 [some (.ref 44), some (.int first), some (.int gone), some (.int (nI k)), l4, l5] [.int (AL y)] (E (sI x 354 (nI w)) y)
    refine PW_iload_n c_Y_stayingBehind_81 rfl ?_
    refine PW_iconst (v := -1) c_Y_stayingBehind_82 (by decide) ?_
    refine PW_ixor c_Y_stayingBehind_83 ?_
    refine PW_iand c_Y_stayingBehind_84 ?_
    refine PW_ireturn (ty := .int) c_Y_stayingBehind_85 rfl rfl ?_
    exact h
  | succ j ih =>
    intro k w gone hk hS z post l4 l5 h
    have hb := (kern_S hS).2.2
    obtain ⟨m, m1, m2, m3, m4⟩ := nI_ex hb.1
    have hn : gone ||| x.2.1 45 m = enS y gone := by rw [hL m (by omega), enS, m2]
    rw [enI] at h
    by_cases hE : enS y gone = gone
    · rw [if_pos hE] at h
      refine PW_iload_n c_Y_stayingBehind_9 rfl ?_
      refine PW_bipush (v := 10) c_Y_stayingBehind_10 (by decide) ?_
      refine PW_icmp_gt c_Y_stayingBehind_12 (fun h0 => absurd h0 (fun q => absurd ((nI_ltI (by decide) (by omega)).mp (show nI 10 < nI k from q)) (by omega))) (fun h0 => ?_)
      refine PW_iload_n c_Y_stayingBehind_15 rfl ?_
      refine PW_S0 (d2 := 0) (st := []) [.int gone] c_Y_stayingBehind_16 lk_Y_stayingBehind_36 rfl rfl rfl (Nat.le_of_ble_eq_true rfl) (by first | decide | omega) (Nat.le_of_ble_eq_true rfl) ?_
      refine sp_J_bitCount  ?_
      show PW _ _ _ 19 [some (.ref 44), some (.int first), some (.int gone), some (.int (nI k)), l4, l5] [.int (bcJ gone)] (E (sI x 354 (nI w)) y)
      refine PW_istore (i := 4) (L2 := [some (.ref 44), some (.int first), some (.int gone), some (.int (nI k)), some (.int (bcJ gone)), l5]) c_Y_stayingBehind_19 (Nat.le_of_ble_eq_true rfl) rfl rfl ?_
      refine PW_iload c_Y_stayingBehind_21 rfl ?_
      refine PW_aload_n c_Y_stayingBehind_23 rfl ?_
      refine PW_get (v := .ref 45) c_Y_stayingBehind_24 fl_Y_11 (gf_44_1 _ _) ?_
      refine PW_alen (v := 11) c_Y_stayingBehind_27 (ar_45 _ _) (t0 := 0) rfl (by decide) ?_
      refine PW_icmp_ge c_Y_stayingBehind_28 (fun h1 => absurd h1 (by rw [Int32.le_iff_toInt_le, show (11 : Int32).toInt = 11 by decide]; omega)) (fun h1 => ?_)
      refine PW_iload_n c_Y_stayingBehind_31 rfl ?_
      refine PW_aload_n c_Y_stayingBehind_32 rfl ?_
      refine PW_get (v := .ref 45) c_Y_stayingBehind_33 fl_Y_11 (gf_44_1 _ _) ?_
      refine PW_iload c_Y_stayingBehind_36 rfl ?_
      refine PW_iald (j := m) c_Y_stayingBehind_38 (ar_45 _ _) (by rw [m2]; exact vp_in_nI (by omega) (by decide)) (by rw [m2]; exact nI_clamp (by omega)) ?_
      show PW _ _ _ 39 [some (.ref 44), some (.int first), some (.int gone), some (.int (nI k)), some (.int (bcJ gone)), l5] [.int ((x.2.1 45) m), .int gone] (E (sI x 354 (nI w)) y)
      refine PW_ior c_Y_stayingBehind_39 ?_
      refine PW_goto c_Y_stayingBehind_40 ?_
      refine PW_istore (i := 5) (L2 := [some (.ref 44), some (.int first), some (.int gone), some (.int (nI k)), some (.int (bcJ gone)), some (.int (gone ||| ((x.2.1 45) m)))]) c_Y_stayingBehind_44 (Nat.le_of_ble_eq_true rfl) rfl rfl ?_
      refine PW_iload c_Y_stayingBehind_46 rfl ?_
      refine PW_iload_n c_Y_stayingBehind_48 rfl ?_
      refine PW_icmp_ne c_Y_stayingBehind_49 (fun h2 => absurd h2 (not_not_intro (hn.trans hE))) (fun h2 => ?_)
      refine PW_goto c_Y_stayingBehind_52 ?_
      refine PW_aload_n c_Y_stayingBehind_74 rfl ?_
      refine PW_get (v := .ref 6) c_Y_stayingBehind_75 fl_Y_17 (gf_44_0 _ _) ?_
      refine PW_V0 (d2 := 0) (st := []) [] c_Y_stayingBehind_78 lk_Y_stayingBehind_41 (po_6 _ _) rfl rfl rfl (Nat.le_of_ble_eq_true rfl) (by first | decide | omega) (Nat.le_of_ble_eq_true rfl) ?_
      refine sp_H_ev (C.s354 _) ?_
      show PW _ _ _ 81 [some (.ref 44), some (.int first), some (.int gone), some (.int (nI k)), some (.int (bcJ gone)), some (.int (gone ||| ((x.2.1 45) m)))] [.int (AL y)] (E (sI x 354 (nI w)) y)
      refine PW_iload_n c_Y_stayingBehind_81 rfl ?_
      refine PW_iconst (v := -1) c_Y_stayingBehind_82 (by decide) ?_
      refine PW_ixor c_Y_stayingBehind_83 ?_
      refine PW_iand c_Y_stayingBehind_84 ?_
      refine PW_ireturn (ty := .int) c_Y_stayingBehind_85 rfl rfl ?_
      exact h
    · rw [if_neg hE] at h
      refine PW_iload_n c_Y_stayingBehind_9 rfl ?_
      refine PW_bipush (v := 10) c_Y_stayingBehind_10 (by decide) ?_
      refine PW_icmp_gt c_Y_stayingBehind_12 (fun h0 => absurd h0 (fun q => absurd ((nI_ltI (by decide) (by omega)).mp (show nI 10 < nI k from q)) (by omega))) (fun h0 => ?_)
      refine PW_iload_n c_Y_stayingBehind_15 rfl ?_
      refine PW_S0 (d2 := 0) (st := []) [.int gone] c_Y_stayingBehind_16 lk_Y_stayingBehind_36 rfl rfl rfl (Nat.le_of_ble_eq_true rfl) (by first | decide | omega) (Nat.le_of_ble_eq_true rfl) ?_
      refine sp_J_bitCount  ?_
      show PW _ _ _ 19 [some (.ref 44), some (.int first), some (.int gone), some (.int (nI k)), l4, l5] [.int (bcJ gone)] (E (sI x 354 (nI w)) y)
      refine PW_istore (i := 4) (L2 := [some (.ref 44), some (.int first), some (.int gone), some (.int (nI k)), some (.int (bcJ gone)), l5]) c_Y_stayingBehind_19 (Nat.le_of_ble_eq_true rfl) rfl rfl ?_
      refine PW_iload c_Y_stayingBehind_21 rfl ?_
      refine PW_aload_n c_Y_stayingBehind_23 rfl ?_
      refine PW_get (v := .ref 45) c_Y_stayingBehind_24 fl_Y_11 (gf_44_1 _ _) ?_
      refine PW_alen (v := 11) c_Y_stayingBehind_27 (ar_45 _ _) (t0 := 0) rfl (by decide) ?_
      refine PW_icmp_ge c_Y_stayingBehind_28 (fun h1 => absurd h1 (by rw [Int32.le_iff_toInt_le, show (11 : Int32).toInt = 11 by decide]; omega)) (fun h1 => ?_)
      refine PW_iload_n c_Y_stayingBehind_31 rfl ?_
      refine PW_aload_n c_Y_stayingBehind_32 rfl ?_
      refine PW_get (v := .ref 45) c_Y_stayingBehind_33 fl_Y_11 (gf_44_1 _ _) ?_
      refine PW_iload c_Y_stayingBehind_36 rfl ?_
      refine PW_iald (j := m) c_Y_stayingBehind_38 (ar_45 _ _) (by rw [m2]; exact vp_in_nI (by omega) (by decide)) (by rw [m2]; exact nI_clamp (by omega)) ?_
      show PW _ _ _ 39 [some (.ref 44), some (.int first), some (.int gone), some (.int (nI k)), some (.int (bcJ gone)), l5] [.int ((x.2.1 45) m), .int gone] (E (sI x 354 (nI w)) y)
      refine PW_ior c_Y_stayingBehind_39 ?_
      refine PW_goto c_Y_stayingBehind_40 ?_
      refine PW_istore (i := 5) (L2 := [some (.ref 44), some (.int first), some (.int gone), some (.int (nI k)), some (.int (bcJ gone)), some (.int (gone ||| ((x.2.1 45) m)))]) c_Y_stayingBehind_44 (Nat.le_of_ble_eq_true rfl) rfl rfl ?_
      refine PW_iload c_Y_stayingBehind_46 rfl ?_
      refine PW_iload_n c_Y_stayingBehind_48 rfl ?_
      refine PW_icmp_ne c_Y_stayingBehind_49 (fun h2 => ?_) (fun h2 => absurd h2 (fun q => hE (hn.symm.trans q)))
      refine PW_iload c_Y_stayingBehind_55 rfl ?_
      refine PW_istore_n (i := 2) (L2 := [some (.ref 44), some (.int first), some (.int (gone ||| ((x.2.1 45) m))), some (.int (nI k)), some (.int (bcJ gone)), some (.int (gone ||| ((x.2.1 45) m)))]) c_Y_stayingBehind_57 rfl (Nat.le_of_ble_eq_true rfl) rfl rfl ?_
      refine PW_aload_n c_Y_stayingBehind_58 rfl ?_
      refine PW_dup c_Y_stayingBehind_59 rfl ?_
      refine PW_get (v := .int (nI w)) c_Y_stayingBehind_60 fl_Y_21 (gf_44_2 _ _) ?_
      refine PW_iconst (v := 1) c_Y_stayingBehind_63 (by decide) ?_
      refine PW_iadd c_Y_stayingBehind_64 ?_
      refine PW_put (w2 := E (sI (sI x 354 (nI w)) 354 ((nI w) + 1)) y) c_Y_stayingBehind_65 fp_Y_stayingBehind_21 rfl (pf_44_2 _ _ _) ?_
      refine PW_iinc (i := 3) (v := (nI k) + 1) (L2 := [some (.ref 44), some (.int first), some (.int (gone ||| ((x.2.1 45) m))), some (.int ((nI k) + 1)), some (.int (bcJ gone)), some (.int (gone ||| ((x.2.1 45) m)))]) c_Y_stayingBehind_68 rfl (iinc_v (by decide)) (Nat.le_of_ble_eq_true rfl) rfl rfl ?_
      refine PW_goto c_Y_stayingBehind_71 ?_
      refine PW.eqL ?_ rfl ?_ (ih (k + 1) (w + 1) (enS y gone) (by omega) (S10_enS C.1 hS) (l4 := some (.int (bcJ gone))) (l5 := some (.int (gone ||| ((x.2.1 45) m)))) h)
      · show ([some (.ref 44), some (.int first), some (.int (gone ||| ((x.2.1 45) m))), some (.int ((nI k) + 1)), some (.int (bcJ gone)), some (.int (gone ||| ((x.2.1 45) m)))] : List (Option Value)) = _
        rw [nI_1, hn]
      · rw [sI_sI, nI_1]
theorem sp_Y_stay {z : ZS} {post : Option Value → List PE → Prop} {x y : XS} {gone : Int32} (C : CPg x y) (hL : lvd y (x.2.1 45)) (hS : S10 gone) (h : post (some (.int (AL y &&& (enR y gone ^^^ -1)))) (E (sI x 354 (nI (enW y gone))) y)) : PW (1, 0, 0, z) m_Y_stayingBehind post 0 [some (.ref 44), some (.int gone), none, none, none, none] [] (E x y) := by
  refine PW_iload_n c_Y_stayingBehind_0 rfl ?_
  refine PW_istore_n (i := 2) (L2 := [some (.ref 44), some (.int gone), some (.int gone), none, none, none]) c_Y_stayingBehind_1 rfl (Nat.le_of_ble_eq_true rfl) rfl rfl ?_
  refine PW_aload_n c_Y_stayingBehind_2 rfl ?_
  refine PW_iconst (v := 0) c_Y_stayingBehind_3 (by decide) ?_
  refine PW_put (w2 := E (sI x 354 0) y) c_Y_stayingBehind_4 fp_Y_stayingBehind_21 rfl (pf_44_2 _ _ _) ?_
  refine PW_iconst (v := 0) c_Y_stayingBehind_7 (by decide) ?_
  refine PW_istore_n (i := 3) (L2 := [some (.ref 44), some (.int gone), some (.int gone), some (.int 0), none, none]) c_Y_stayingBehind_8 rfl (Nat.le_of_ble_eq_true rfl) rfl rfl ?_
  exact lp_Y_staying C hL 11 0 0 gone (Nat.zero_add _) hS h
theorem lp_M_goEnd1 {z : ZS} {post : Option Value → List PE → Prop} {x y : XS} {first left many : Int32} (hW : WG y) (hS : S10 left) (h : PW (1, 0, 0, z) m_M_goEnd post 89 [some (.ref 70), some (.int first), some (.int left), some (.int 1), some (.int many), some (.int (left &&& (bitsT (fun g => decide (y.2.1 77 g ≤ many)) (nG y) ^^^ -1))), some (.int (nI (nG y)))] [] (E x y)) : ∀ j k : Nat, k + j = nG y → PW (1, 0, 0, z) m_M_goEnd post 41 [some (.ref 70), some (.int first), some (.int left), some (.int 1), some (.int many), some (.int (left &&& (bitsT (fun g => decide (y.2.1 77 g ≤ many)) k ^^^ -1))), some (.int (nI k))] [] (E x y) := by
  have hn := hW.2
  intro j
  induction j with
  | zero =>
    intro k hk
    refine PW_iload c_M_goEnd_41 rfl ?_
    refine PW_aload_n c_M_goEnd_43 rfl ?_
    refine PW_get (v := .int (y.1 561)) c_M_goEnd_44 fl_M_128 (gf_70_1 _ _) ?_
    refine PW_icmp_ge c_M_goEnd_47 (fun h0 => ?_) (fun h0 => absurd ((ge_t2 hW.1 (by omega) (by omega)).mpr (by omega)) h0)
    rw [show k = nG y by omega]
    exact h
  | succ j ih =>
    intro k hk
    by_cases hA : (left >>> (nI k &&& 31)) &&& 1 = 1
    · by_cases hB : y.2.1 77 k ≤ many
      · skip
        refine PW_iload c_M_goEnd_41 rfl ?_
        refine PW_aload_n c_M_goEnd_43 rfl ?_
        refine PW_get (v := .int (y.1 561)) c_M_goEnd_44 fl_M_128 (gf_70_1 _ _) ?_
        refine PW_icmp_ge c_M_goEnd_47 (fun h0 => absurd h0 (fun q => absurd ((ge_t2 hW.1 (by omega) (by omega)).mp q) (by omega))) (fun h0 => ?_)
        refine PW_iload_n c_M_goEnd_50 rfl ?_
        refine PW_iload c_M_goEnd_51 rfl ?_
        refine PW_ishr c_M_goEnd_53 ?_
        refine PW_iconst (v := 1) c_M_goEnd_54 (by decide) ?_
        refine PW_iand c_M_goEnd_55 ?_
        refine PW_iconst (v := 1) c_M_goEnd_56 (by decide) ?_
        refine PW_icmp_ne c_M_goEnd_57 (fun h1 => absurd h1 (not_not_intro hA)) (fun h1 => ?_)
        refine PW_aload_n c_M_goEnd_60 rfl ?_
        refine PW_get (v := .ref 77) c_M_goEnd_61 fl_M_28 (gf_70_8 _ _) ?_
        refine PW_iload c_M_goEnd_64 rfl ?_
        refine PW_iald (j := k) c_M_goEnd_66 (ar_77 _ _) (vp_in_nI (by omega) (by decide)) (nI_clamp (by omega)) ?_
        show PW _ _ _ 67 [some (.ref 70), some (.int first), some (.int left), some (.int 1), some (.int many), some (.int (left &&& (bitsT (fun g => decide (y.2.1 77 g ≤ many)) k ^^^ -1))), some (.int (nI k))] [.int ((y.2.1 77) k)] (E x y)
        refine PW_iload c_M_goEnd_67 rfl ?_
        refine PW_icmp_gt c_M_goEnd_69 (fun h2 => absurd h2 (Int32.not_lt.mpr hB)) (fun h2 => ?_)
        refine PW_iload c_M_goEnd_72 rfl ?_
        refine PW_iconst (v := 1) c_M_goEnd_74 (by decide) ?_
        refine PW_iload c_M_goEnd_75 rfl ?_
        refine PW_ishl c_M_goEnd_77 ?_
        refine PW_iconst (v := -1) c_M_goEnd_78 (by decide) ?_
        refine PW_ixor c_M_goEnd_79 ?_
        refine PW_iand c_M_goEnd_80 ?_
        refine PW_istore (i := 5) (L2 := [some (.ref 70), some (.int first), some (.int left), some (.int 1), some (.int many), some (.int ((left &&& (bitsT (fun g => decide (y.2.1 77 g ≤ many)) k ^^^ -1)) &&& (((1 : Int32) <<< ((nI k) &&& 31)) ^^^ (-1)))), some (.int (nI k))]) c_M_goEnd_81 (Nat.le_of_ble_eq_true rfl) rfl rfl ?_
        refine PW_iinc (i := 6) (v := (nI k) + 1) (L2 := [some (.ref 70), some (.int first), some (.int left), some (.int 1), some (.int many), some (.int ((left &&& (bitsT (fun g => decide (y.2.1 77 g ≤ many)) k ^^^ -1)) &&& (((1 : Int32) <<< ((nI k) &&& 31)) ^^^ (-1)))), some (.int ((nI k) + 1))]) c_M_goEnd_83 rfl (iinc_v (by decide)) (Nat.le_of_ble_eq_true rfl) rfl rfl ?_
        refine PW_goto c_M_goEnd_86 ?_
        refine PW.eqL ?_ rfl rfl (ih (k + 1) (by omega))
        show ([some (.ref 70), some (.int first), some (.int left), some (.int 1), some (.int many), some (.int ((left &&& (bitsT (fun g => decide (y.2.1 77 g ≤ many)) k ^^^ -1)) &&& (((1 : Int32) <<< ((nI k) &&& 31)) ^^^ (-1)))), some (.int ((nI k) + 1))] : List (Option Value)) = [some (.ref 70), some (.int first), some (.int left), some (.int 1), some (.int many), some (.int (left &&& (bitsT (fun g => decide (y.2.1 77 g ≤ many)) (k + 1) ^^^ -1))), some (.int (nI (k + 1)))]
        rw [nI_1, bitsT, if_pos (by simp [hB]), an2]
      · skip
        refine PW_iload c_M_goEnd_41 rfl ?_
        refine PW_aload_n c_M_goEnd_43 rfl ?_
        refine PW_get (v := .int (y.1 561)) c_M_goEnd_44 fl_M_128 (gf_70_1 _ _) ?_
        refine PW_icmp_ge c_M_goEnd_47 (fun h0 => absurd h0 (fun q => absurd ((ge_t2 hW.1 (by omega) (by omega)).mp q) (by omega))) (fun h0 => ?_)
        refine PW_iload_n c_M_goEnd_50 rfl ?_
        refine PW_iload c_M_goEnd_51 rfl ?_
        refine PW_ishr c_M_goEnd_53 ?_
        refine PW_iconst (v := 1) c_M_goEnd_54 (by decide) ?_
        refine PW_iand c_M_goEnd_55 ?_
        refine PW_iconst (v := 1) c_M_goEnd_56 (by decide) ?_
        refine PW_icmp_ne c_M_goEnd_57 (fun h1 => absurd h1 (not_not_intro hA)) (fun h1 => ?_)
        refine PW_aload_n c_M_goEnd_60 rfl ?_
        refine PW_get (v := .ref 77) c_M_goEnd_61 fl_M_28 (gf_70_8 _ _) ?_
        refine PW_iload c_M_goEnd_64 rfl ?_
        refine PW_iald (j := k) c_M_goEnd_66 (ar_77 _ _) (vp_in_nI (by omega) (by decide)) (nI_clamp (by omega)) ?_
        show PW _ _ _ 67 [some (.ref 70), some (.int first), some (.int left), some (.int 1), some (.int many), some (.int (left &&& (bitsT (fun g => decide (y.2.1 77 g ≤ many)) k ^^^ -1))), some (.int (nI k))] [.int ((y.2.1 77) k)] (E x y)
        refine PW_iload c_M_goEnd_67 rfl ?_
        refine PW_icmp_gt c_M_goEnd_69 (fun h2 => ?_) (fun h2 => absurd (Int32.not_le.mp hB) h2)
        refine PW_iinc (i := 6) (v := (nI k) + 1) (L2 := [some (.ref 70), some (.int first), some (.int left), some (.int 1), some (.int many), some (.int (left &&& (bitsT (fun g => decide (y.2.1 77 g ≤ many)) k ^^^ -1))), some (.int ((nI k) + 1))]) c_M_goEnd_83 rfl (iinc_v (by decide)) (Nat.le_of_ble_eq_true rfl) rfl rfl ?_
        refine PW_goto c_M_goEnd_86 ?_
        refine PW.eqL ?_ rfl rfl (ih (k + 1) (by omega))
        show ([some (.ref 70), some (.int first), some (.int left), some (.int 1), some (.int many), some (.int (left &&& (bitsT (fun g => decide (y.2.1 77 g ≤ many)) k ^^^ -1))), some (.int ((nI k) + 1))] : List (Option Value)) = [some (.ref 70), some (.int first), some (.int left), some (.int 1), some (.int many), some (.int (left &&& (bitsT (fun g => decide (y.2.1 77 g ≤ many)) (k + 1) ^^^ -1))), some (.int (nI (k + 1)))]
        rw [nI_1, bitsT, if_neg (by simp [hB])]
    · by_cases hB : y.2.1 77 k ≤ many
      · skip
        refine PW_iload c_M_goEnd_41 rfl ?_
        refine PW_aload_n c_M_goEnd_43 rfl ?_
        refine PW_get (v := .int (y.1 561)) c_M_goEnd_44 fl_M_128 (gf_70_1 _ _) ?_
        refine PW_icmp_ge c_M_goEnd_47 (fun h0 => absurd h0 (fun q => absurd ((ge_t2 hW.1 (by omega) (by omega)).mp q) (by omega))) (fun h0 => ?_)
        refine PW_iload_n c_M_goEnd_50 rfl ?_
        refine PW_iload c_M_goEnd_51 rfl ?_
        refine PW_ishr c_M_goEnd_53 ?_
        refine PW_iconst (v := 1) c_M_goEnd_54 (by decide) ?_
        refine PW_iand c_M_goEnd_55 ?_
        refine PW_iconst (v := 1) c_M_goEnd_56 (by decide) ?_
        refine PW_icmp_ne c_M_goEnd_57 (fun h1 => ?_) (fun h1 => absurd h1 hA)
        refine PW_iinc (i := 6) (v := (nI k) + 1) (L2 := [some (.ref 70), some (.int first), some (.int left), some (.int 1), some (.int many), some (.int (left &&& (bitsT (fun g => decide (y.2.1 77 g ≤ many)) k ^^^ -1))), some (.int ((nI k) + 1))]) c_M_goEnd_83 rfl (iinc_v (by decide)) (Nat.le_of_ble_eq_true rfl) rfl rfl ?_
        refine PW_goto c_M_goEnd_86 ?_
        refine PW.eqL ?_ rfl rfl (ih (k + 1) (by omega))
        show ([some (.ref 70), some (.int first), some (.int left), some (.int 1), some (.int many), some (.int (left &&& (bitsT (fun g => decide (y.2.1 77 g ≤ many)) k ^^^ -1))), some (.int ((nI k) + 1))] : List (Option Value)) = [some (.ref 70), some (.int first), some (.int left), some (.int 1), some (.int many), some (.int (left &&& (bitsT (fun g => decide (y.2.1 77 g ≤ many)) (k + 1) ^^^ -1))), some (.int (nI (k + 1)))]
        rw [nI_1, bitsT, if_pos (by simp [hB]), ← an3 hS (by omega) hA]
      · skip
        refine PW_iload c_M_goEnd_41 rfl ?_
        refine PW_aload_n c_M_goEnd_43 rfl ?_
        refine PW_get (v := .int (y.1 561)) c_M_goEnd_44 fl_M_128 (gf_70_1 _ _) ?_
        refine PW_icmp_ge c_M_goEnd_47 (fun h0 => absurd h0 (fun q => absurd ((ge_t2 hW.1 (by omega) (by omega)).mp q) (by omega))) (fun h0 => ?_)
        refine PW_iload_n c_M_goEnd_50 rfl ?_
        refine PW_iload c_M_goEnd_51 rfl ?_
        refine PW_ishr c_M_goEnd_53 ?_
        refine PW_iconst (v := 1) c_M_goEnd_54 (by decide) ?_
        refine PW_iand c_M_goEnd_55 ?_
        refine PW_iconst (v := 1) c_M_goEnd_56 (by decide) ?_
        refine PW_icmp_ne c_M_goEnd_57 (fun h1 => ?_) (fun h1 => absurd h1 hA)
        refine PW_iinc (i := 6) (v := (nI k) + 1) (L2 := [some (.ref 70), some (.int first), some (.int left), some (.int 1), some (.int many), some (.int (left &&& (bitsT (fun g => decide (y.2.1 77 g ≤ many)) k ^^^ -1))), some (.int ((nI k) + 1))]) c_M_goEnd_83 rfl (iinc_v (by decide)) (Nat.le_of_ble_eq_true rfl) rfl rfl ?_
        refine PW_goto c_M_goEnd_86 ?_
        refine PW.eqL ?_ rfl rfl (ih (k + 1) (by omega))
        show ([some (.ref 70), some (.int first), some (.int left), some (.int 1), some (.int many), some (.int (left &&& (bitsT (fun g => decide (y.2.1 77 g ≤ many)) k ^^^ -1))), some (.int ((nI k) + 1))] : List (Option Value)) = [some (.ref 70), some (.int first), some (.int left), some (.int 1), some (.int many), some (.int (left &&& (bitsT (fun g => decide (y.2.1 77 g ≤ many)) (k + 1) ^^^ -1))), some (.int (nI (k + 1)))]
        rw [nI_1, bitsT, if_neg (by simp [hB])]
theorem lp_M_goEnd {x y : XS} {first : Int32} (hW : WG y) : ∀ (j w : Nat) (gone : Int32), S10 gone → sbG y gone → 10 < cd gone + j → ∀ {z : ZS} {post : Option Value → List PE → Prop} {l4 l5 l6 : Option Value}, post (some (.int (AL y &&& ((enI y j w gone).2 ^^^ -1)))) (E x (sI y 605 (nI (enI y j w gone).1))) → PW (1, 0, 0, z) m_M_goEnd post 20 [some (.ref 70), some (.int first), some (.int (AL y &&& (gone ^^^ -1))), some (.int 1), l4, l5, l6] [] (E x (sI y 605 (nI w))) := by
  intro j
  induction j with
  | zero =>
    intro w gone hS hU hc z post l4 l5 l6 h
    exact absurd (cd_10 gone) (by omega)
  | succ j ih =>
    intro w gone hS hU hc z post l4 l5 l6 h
    have hmany := bc_left hW hS hU
    rw [enI] at h
    by_cases hE : enS y gone = gone
    · rw [if_pos hE] at h
      refine PW_iload_n c_M_goEnd_20 rfl ?_
      refine PW_if_eq c_M_goEnd_21 (fun h0 => absurd h0 (by decide)) (fun _ => ?_)
      refine PW_aload_n c_M_goEnd_24 rfl ?_
      refine PW_get (v := .int (y.1 561)) c_M_goEnd_25 fl_M_128 (gf_70_1 _ _) ?_
      refine PW_iload_n c_M_goEnd_28 rfl ?_
      refine PW_S0 (d2 := 0) (st := [.int (y.1 561)]) [.int (AL y &&& (gone ^^^ -1))] c_M_goEnd_29 lk_M_goEnd_259 rfl rfl rfl (Nat.le_of_ble_eq_true rfl) (by first | decide | omega) (Nat.le_of_ble_eq_true rfl) ?_
      refine sp_M_bitsOf (S10_left hW gone) ?_
      show PW _ _ _ 32 [some (.ref 70), some (.int first), some (.int (AL y &&& (gone ^^^ -1))), some (.int 1), l4, l5, l6] [.int (bcJ (AL y &&& (gone ^^^ -1))), .int (y.1 561)] (E x (sI y 605 (nI w)))
      refine PW_isub c_M_goEnd_32 ?_
      refine PW_istore (i := 4) (L2 := [some (.ref 70), some (.int first), some (.int (AL y &&& (gone ^^^ -1))), some (.int 1), some (.int ((y.1 561) - (bcJ (AL y &&& (gone ^^^ -1))))), l5, l6]) c_M_goEnd_33 (Nat.le_of_ble_eq_true rfl) rfl rfl ?_
      refine PW_iload_n c_M_goEnd_35 rfl ?_
      refine PW_istore (i := 5) (L2 := [some (.ref 70), some (.int first), some (.int (AL y &&& (gone ^^^ -1))), some (.int 1), some (.int ((y.1 561) - (bcJ (AL y &&& (gone ^^^ -1))))), some (.int (AL y &&& (gone ^^^ -1))), l6]) c_M_goEnd_36 (Nat.le_of_ble_eq_true rfl) rfl rfl ?_
      refine PW_iconst (v := 0) c_M_goEnd_38 (by decide) ?_
      refine PW_istore (i := 6) (L2 := [some (.ref 70), some (.int first), some (.int (AL y &&& (gone ^^^ -1))), some (.int 1), some (.int ((y.1 561) - (bcJ (AL y &&& (gone ^^^ -1))))), some (.int (AL y &&& (gone ^^^ -1))), some (.int 0)]) c_M_goEnd_39 (Nat.le_of_ble_eq_true rfl) rfl rfl ?_
      refine PW.eqL ?_ rfl rfl (lp_M_goEnd1 (first := first) (y := sI y 605 (nI w)) (many := bcJ gone) hW (S10_left hW gone) ?_ (nG y) 0 (Nat.zero_add _))
      · show ([some (.ref 70), some (.int first), some (.int (AL y &&& (gone ^^^ -1))), some (.int 1), some (.int ((y.1 561) - (bcJ (AL y &&& (gone ^^^ -1))))), some (.int (AL y &&& (gone ^^^ -1))), some (.int 0)] : List (Option Value)) = [some (.ref 70), some (.int first), some (.int (AL y &&& (gone ^^^ -1))), some (.int 1), some (.int (bcJ gone)), some (.int (AL y &&& (gone ^^^ -1) &&& (bitsT (fun g => decide (y.2.1 77 g ≤ bcJ gone)) 0 ^^^ -1))), some (.int (nI 0))]
        rw [bitsT, and_m1, hmany] <;> rfl
      · show PW _ _ _ 89 [some (.ref 70), some (.int first), some (.int (AL y &&& (gone ^^^ -1))), some (.int 1), some (.int (bcJ gone)), some (.int (AL y &&& (gone ^^^ -1) &&& (lvT y (bcJ gone) ^^^ -1))), some (.int (nI (nG y)))] [] (E x (sI y 605 (nI w)))
        refine PW_iload c_M_goEnd_89 rfl ?_
        refine PW_iload_n c_M_goEnd_91 rfl ?_
        refine PW_icmp_eq c_M_goEnd_92 (fun h0 => ?_) (fun h0 => absurd ((en_iff hW hU (sbG_lvT hW _)).mpr hE) h0)
        refine PW_iconst (v := 0) c_M_goEnd_99 (by decide) ?_
        refine PW_istore_n (i := 3) (L2 := [some (.ref 70), some (.int first), some (.int (AL y &&& (gone ^^^ -1))), some (.int 0), some (.int (bcJ gone)), some (.int (AL y &&& (gone ^^^ -1) &&& (lvT y (bcJ gone) ^^^ -1))), some (.int (nI (nG y)))]) c_M_goEnd_100 rfl (Nat.le_of_ble_eq_true rfl) rfl rfl ?_
        refine PW_iload_n c_M_goEnd_101 rfl ?_
        refine PW_if_eq c_M_goEnd_102 (fun _ => ?_) (fun h1 => absurd (by decide) h1)
        refine PW_iload c_M_goEnd_115 rfl ?_
        refine PW_istore_n (i := 2) (L2 := [some (.ref 70), some (.int first), some (.int (AL y &&& (gone ^^^ -1) &&& (lvT y (bcJ gone) ^^^ -1))), some (.int 0), some (.int (bcJ gone)), some (.int (AL y &&& (gone ^^^ -1) &&& (lvT y (bcJ gone) ^^^ -1))), some (.int (nI (nG y)))]) c_M_goEnd_117 rfl (Nat.le_of_ble_eq_true rfl) rfl rfl ?_
        refine PW_goto c_M_goEnd_118 ?_
        refine PW_iload_n c_M_goEnd_20 rfl ?_
        refine PW_if_eq c_M_goEnd_21 (fun _ => ?_) (fun h2 => absurd (by decide) h2)
        refine PW_iload_n c_M_goEnd_121 rfl ?_
        refine PW_ireturn (ty := .int) c_M_goEnd_122 rfl rfl ?_
        exact pqi h ((en_iff hW hU (sbG_lvT hW _)).mpr hE).symm
    · rw [if_neg hE] at h
      refine PW_iload_n c_M_goEnd_20 rfl ?_
      refine PW_if_eq c_M_goEnd_21 (fun h0 => absurd h0 (by decide)) (fun _ => ?_)
      refine PW_aload_n c_M_goEnd_24 rfl ?_
      refine PW_get (v := .int (y.1 561)) c_M_goEnd_25 fl_M_128 (gf_70_1 _ _) ?_
      refine PW_iload_n c_M_goEnd_28 rfl ?_
      refine PW_S0 (d2 := 0) (st := [.int (y.1 561)]) [.int (AL y &&& (gone ^^^ -1))] c_M_goEnd_29 lk_M_goEnd_259 rfl rfl rfl (Nat.le_of_ble_eq_true rfl) (by first | decide | omega) (Nat.le_of_ble_eq_true rfl) ?_
      refine sp_M_bitsOf (S10_left hW gone) ?_
      show PW _ _ _ 32 [some (.ref 70), some (.int first), some (.int (AL y &&& (gone ^^^ -1))), some (.int 1), l4, l5, l6] [.int (bcJ (AL y &&& (gone ^^^ -1))), .int (y.1 561)] (E x (sI y 605 (nI w)))
      refine PW_isub c_M_goEnd_32 ?_
      refine PW_istore (i := 4) (L2 := [some (.ref 70), some (.int first), some (.int (AL y &&& (gone ^^^ -1))), some (.int 1), some (.int ((y.1 561) - (bcJ (AL y &&& (gone ^^^ -1))))), l5, l6]) c_M_goEnd_33 (Nat.le_of_ble_eq_true rfl) rfl rfl ?_
      refine PW_iload_n c_M_goEnd_35 rfl ?_
      refine PW_istore (i := 5) (L2 := [some (.ref 70), some (.int first), some (.int (AL y &&& (gone ^^^ -1))), some (.int 1), some (.int ((y.1 561) - (bcJ (AL y &&& (gone ^^^ -1))))), some (.int (AL y &&& (gone ^^^ -1))), l6]) c_M_goEnd_36 (Nat.le_of_ble_eq_true rfl) rfl rfl ?_
      refine PW_iconst (v := 0) c_M_goEnd_38 (by decide) ?_
      refine PW_istore (i := 6) (L2 := [some (.ref 70), some (.int first), some (.int (AL y &&& (gone ^^^ -1))), some (.int 1), some (.int ((y.1 561) - (bcJ (AL y &&& (gone ^^^ -1))))), some (.int (AL y &&& (gone ^^^ -1))), some (.int 0)]) c_M_goEnd_39 (Nat.le_of_ble_eq_true rfl) rfl rfl ?_
      refine PW.eqL ?_ rfl rfl (lp_M_goEnd1 (first := first) (y := sI y 605 (nI w)) (many := bcJ gone) hW (S10_left hW gone) ?_ (nG y) 0 (Nat.zero_add _))
      · show ([some (.ref 70), some (.int first), some (.int (AL y &&& (gone ^^^ -1))), some (.int 1), some (.int ((y.1 561) - (bcJ (AL y &&& (gone ^^^ -1))))), some (.int (AL y &&& (gone ^^^ -1))), some (.int 0)] : List (Option Value)) = [some (.ref 70), some (.int first), some (.int (AL y &&& (gone ^^^ -1))), some (.int 1), some (.int (bcJ gone)), some (.int (AL y &&& (gone ^^^ -1) &&& (bitsT (fun g => decide (y.2.1 77 g ≤ bcJ gone)) 0 ^^^ -1))), some (.int (nI 0))]
        rw [bitsT, and_m1, hmany] <;> rfl
      · show PW _ _ _ 89 [some (.ref 70), some (.int first), some (.int (AL y &&& (gone ^^^ -1))), some (.int 1), some (.int (bcJ gone)), some (.int (AL y &&& (gone ^^^ -1) &&& (lvT y (bcJ gone) ^^^ -1))), some (.int (nI (nG y)))] [] (E x (sI y 605 (nI w)))
        refine PW_iload c_M_goEnd_89 rfl ?_
        refine PW_iload_n c_M_goEnd_91 rfl ?_
        refine PW_icmp_eq c_M_goEnd_92 (fun h0 => absurd h0 (fun q => hE ((en_iff hW hU (sbG_lvT hW _)).mp q))) (fun h0 => ?_)
        refine PW_iconst (v := 1) c_M_goEnd_95 (by decide) ?_
        refine PW_goto c_M_goEnd_96 ?_
        refine PW_istore_n (i := 3) (L2 := [some (.ref 70), some (.int first), some (.int (AL y &&& (gone ^^^ -1))), some (.int 1), some (.int (bcJ gone)), some (.int (AL y &&& (gone ^^^ -1) &&& (lvT y (bcJ gone) ^^^ -1))), some (.int (nI (nG y)))]) c_M_goEnd_100 rfl (Nat.le_of_ble_eq_true rfl) rfl rfl ?_
        refine PW_iload_n c_M_goEnd_101 rfl ?_
        refine PW_if_eq c_M_goEnd_102 (fun h1 => absurd h1 (by decide)) (fun _ => ?_)
        refine PW_aload_n c_M_goEnd_105 rfl ?_
        refine PW_dup c_M_goEnd_106 rfl ?_
        refine PW_get (v := .int (nI w)) c_M_goEnd_107 fl_M_342 (gf_70_45 _ _) ?_
        refine PW_iconst (v := 1) c_M_goEnd_110 (by decide) ?_
        refine PW_iadd c_M_goEnd_111 ?_
        refine PW_put (w2 := E x (sI (sI y 605 (nI w)) 605 ((nI w) + 1))) c_M_goEnd_112 fp_M_goEnd_342 rfl (pf_70_45 _ _ _) ?_
        refine PW_iload c_M_goEnd_115 rfl ?_
        refine PW_istore_n (i := 2) (L2 := [some (.ref 70), some (.int first), some (.int (AL y &&& (gone ^^^ -1) &&& (lvT y (bcJ gone) ^^^ -1))), some (.int 1), some (.int (bcJ gone)), some (.int (AL y &&& (gone ^^^ -1) &&& (lvT y (bcJ gone) ^^^ -1))), some (.int (nI (nG y)))]) c_M_goEnd_117 rfl (Nat.le_of_ble_eq_true rfl) rfl rfl ?_
        refine PW_goto c_M_goEnd_118 ?_
        refine PW.eqL ?_ rfl ?_ (ih (w + 1) (enS y gone) (S10_enS hW hS) (sbG_enS hW hU) (by have := cd_lt hS (S10_enS hW hS) (fun i hi => enS_up i hi) hE; omega) (l4 := some (.int (bcJ gone))) (l5 := some (.int (AL y &&& (gone ^^^ -1) &&& (lvT y (bcJ gone) ^^^ -1)))) (l6 := some (.int (nI (nG y)))) h)
        · show ([some (.ref 70), some (.int first), some (.int (AL y &&& (gone ^^^ -1) &&& (lvT y (bcJ gone) ^^^ -1))), some (.int 1), some (.int (bcJ gone)), some (.int (AL y &&& (gone ^^^ -1) &&& (lvT y (bcJ gone) ^^^ -1))), some (.int (nI (nG y)))] : List (Option Value)) = _
          rw [an2, enS]
        · rw [sI_sI, nI_1]
theorem sp_M_goEnd {z : ZS} {post : Option Value → List PE → Prop} {x y : XS} {gone : Int32} (hW : WG y) (hS : S10 gone) (hU : sbG y gone) (h : post (some (.int (AL y &&& (enR y gone ^^^ -1)))) (E x (sI y 605 (nI (enW y gone))))) : PW (1, 0, 0, z) m_M_goEnd post 0 [some (.ref 70), some (.int gone), none, none, none, none, none] [] (E x y) := by
  refine PW_iconst (v := 1) c_M_goEnd_0 (by decide) ?_
  refine PW_aload_n c_M_goEnd_1 rfl ?_
  refine PW_get (v := .int (y.1 561)) c_M_goEnd_2 fl_M_128 (gf_70_1 _ _) ?_
  refine PW_ishl c_M_goEnd_5 ?_
  refine PW_iconst (v := 1) c_M_goEnd_6 (by decide) ?_
  refine PW_isub c_M_goEnd_7 ?_
  refine PW_iload_n c_M_goEnd_8 rfl ?_
  refine PW_iconst (v := -1) c_M_goEnd_9 (by decide) ?_
  refine PW_ixor c_M_goEnd_10 ?_
  refine PW_iand c_M_goEnd_11 ?_
  refine PW_istore_n (i := 2) (L2 := [some (.ref 70), some (.int gone), some (.int (((1 <<< ((y.1 561) &&& 31)) - 1) &&& (gone ^^^ (-1)))), none, none, none, none]) c_M_goEnd_12 rfl (Nat.le_of_ble_eq_true rfl) rfl rfl ?_
  refine PW_aload_n c_M_goEnd_13 rfl ?_
  refine PW_iconst (v := 0) c_M_goEnd_14 (by decide) ?_
  refine PW_put (w2 := E x (sI y 605 0)) c_M_goEnd_15 fp_M_goEnd_342 rfl (pf_70_45 _ _ _) ?_
  refine PW_iconst (v := 1) c_M_goEnd_18 (by decide) ?_
  refine PW_istore_n (i := 3) (L2 := [some (.ref 70), some (.int gone), some (.int (((1 <<< ((y.1 561) &&& 31)) - 1) &&& (gone ^^^ (-1)))), some (.int 1), none, none, none]) c_M_goEnd_19 rfl (Nat.le_of_ble_eq_true rfl) rfl rfl ?_
  exact lp_M_goEnd hW 11 0 gone hS hU (by omega) h
