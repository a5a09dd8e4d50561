/-! guests from a row -/
theorem lg_lt {a b : Int64} : lg_cmp a b < 0 ↔ a.toInt < b.toInt := by
  unfold lg_cmp
  by_cases h : a > b
  · rw [if_pos h]
    rw [gt_iff_lt, Int64.lt_iff_toInt_lt] at h
    exact ⟨fun q => absurd q (by decide), fun q => by omega⟩
  · rw [if_neg h]
    by_cases h2 : a = b
    · rw [if_pos h2, h2]
      exact ⟨fun q => absurd q (by decide), fun q => by omega⟩
    · rw [if_neg h2]
      rw [gt_iff_lt, Int64.lt_iff_toInt_lt] at h
      have h3 : ¬ a.toInt = b.toInt := fun q => h2 (Int64.toInt_inj.mp q)
      exact ⟨fun _ => by omega, fun _ => by decide⟩
theorem lg_ge {a b : Int64} : 0 ≤ lg_cmp a b ↔ b.toInt ≤ a.toInt := by
  have h := lg_lt (a := a) (b := b)
  rw [← Int32.not_lt, h]
  omega
theorem at_ti {v : Int32} {k : Nat} (hk : k < 20) : (v.toInt64 + ((3 : Int32) * nI k).toInt64).toInt = v.toInt + 3 * k ∧ (v.toInt64 + ((3 : Int32) * nI k).toInt64 + 2).toInt = v.toInt + 3 * k + 2 := by
  have h1 := ti_rng v
  have h2 : ((3 : Int32) * nI k).toInt64.toInt = 3 * k := by
    rw [Int32.toInt_toInt64, show (3 : Int32) = nI 3 from rfl, pk_mul, nI_toInt (by omega)]; omega
  have h3 : (v.toInt64 + ((3 : Int32) * nI k).toInt64).toInt = v.toInt + 3 * k := by
    rw [Int64.toInt_add, Int32.toInt_toInt64, h2, Int.bmod_def]; split <;> omega
  refine ⟨h3, ?_⟩
  rw [Int64.toInt_add, h3, show (2 : Int64).toInt = 2 by decide, Int.bmod_def]; split <;> omega
theorem at_32 {v : Int32} {k q : Nat} (hk : k < 20) (h : v.toInt + 3 * k = q) (hq : q < 100) : (v.toInt64 + ((3 : Int32) * nI k).toInt64).toInt32 = nI q := by
  refine nI_of_ti ?_ (by omega)
  rw [Int64.toInt_toInt32, (at_ti hk).1, h]
  exact bmod_in (by omega) (by omega)
theorem frX_t {x X X' : XS} (h : frX x X) (h2 : frX X X') : frX x X' := ⟨fun n q => (h2.1 n q).trans (h.1 n q), fun a q => (h2.2.1 a q).trans (h.2.1 a q), h2.2.2.trans h.2.2⟩
theorem frY_t {y Y Y' : XS} (h : frY y Y) (h2 : frY Y Y') : frY y Y' := ⟨fun n q => (h2.1 n q).trans (h.1 n q), fun a q => (h2.2.1 a q).trans (h.2.1 a q), h2.2.2.trans h.2.2⟩
theorem frX_0 (x : XS) : frX x x := ⟨fun _ _ => rfl, fun _ _ => rfl, rfl⟩
theorem frY_0 (y : XS) : frY y y := ⟨fun _ _ => rfl, fun _ _ => rfl, rfl⟩
theorem sp_wf0 {z : ZS} {post : Option Value → List PE → Prop} {x y : XS} {v : Int32} {sj n : Nat} (hsj : sj < 6) (hb : x.1 ((58 + 2 * sj) * 8 + 1) = 2 ∧ x.1 ((58 + 2 * sj) * 8 + 3) = 0) (hz : x.1 ((58 + 2 * sj) * 8 + 4) = nI n) (hn : n ≤ 60) (hv : ¬ (0 ≤ v.toInt ∧ v.toInt + 3 ≤ n)) (h : post (some (.int 0)) (E x y)) : PW (5, 0, 0, z) m_G_welcomeFrom post 0 [some (.ref 5), some (.ref (58 + 2 * sj)), some (.int v), none, none, none] [] (E x y) := by
  have hz2 : (x.1 ((58 + 2 * sj) * 8 + 4)).toInt = n := by rw [hz, nI_toInt (by omega)]
  have hz0 : 0 ≤ (x.1 ((58 + 2 * sj) * 8 + 4)).toInt := by omega
  have hp : ¬ (0 ≤ v.toInt ∧ 0 ≤ (3 : Int32).toInt ∧ (3 : Int32).toInt ≤ (x.1 ((58 + 2 * sj) * 8 + 4)).toInt ∧ v.toInt ≤ (x.1 ((58 + 2 * sj) * 8 + 4)).toInt - (3 : Int32).toInt) := fun w => hv (by rw [hz2, show (3 : Int32).toInt = 3 by decide] at w; omega)
  refine PW_aload_n c_G_welcomeFrom_0 rfl ?_
  refine PW_iload_n c_G_welcomeFrom_1 rfl ?_
  refine PW_iconst (v := 3) c_G_welcomeFrom_2 (by decide) ?_
  refine PW_V0 (d2 := 1) (st := []) [.int v, .int 3] c_G_welcomeFrom_3 lk_G_welcomeFrom_114 (sh_po _ _ hsj) rfl rfl rfl (Nat.le_of_ble_eq_true rfl) (by first | decide | omega) (Nat.le_of_ble_eq_true rfl) ?_
  show PW _ _ _ 0 [some (.ref (58 + 2 * sj)), some (.int v), some (.int 3)] [] (E x y)
  refine PW_aload_n c_F_hasBytes_0 rfl ?_
  refine PW_V0 (d2 := 0) (st := []) [] c_F_hasBytes_1 lk_F_hasBytes_41 (sh_po _ _ hsj) rfl rfl rfl (Nat.le_of_ble_eq_true rfl) (by first | decide | omega) (Nat.le_of_ble_eq_true rfl) ?_
  refine sp_F_holdsBytes hsj  ?_
  show PW _ _ _ 4 [some (.ref (58 + 2 * sj)), some (.int v), some (.int 3)] [.int (b2i (x.1 ((58 + 2 * sj) * 8 + 1) = 2 ∧ x.1 ((58 + 2 * sj) * 8 + 3) = 0))] (E x y)
  refine PW_if_eq c_F_hasBytes_4 (fun h0 => absurd hb (b2i_0.mp h0)) (fun _ => ?_)
  refine PW_aload_n c_F_hasBytes_7 rfl ?_
  refine PW_iload_n c_F_hasBytes_8 rfl ?_
  refine PW_iload_n c_F_hasBytes_9 rfl ?_
  refine PW_V0 (d2 := 0) (st := []) [.int v, .int 3] c_F_hasBytes_10 lk_F_hasBytes_47 (sh_po _ _ hsj) rfl rfl rfl (Nat.le_of_ble_eq_true rfl) (by first | decide | omega) (Nat.le_of_ble_eq_true rfl) ?_
  refine sp_F_hasPlaces hsj hz0 ?_
  show PW _ _ _ 13 [some (.ref (58 + 2 * sj)), some (.int v), some (.int 3)] [.int (b2i (0 ≤ v.toInt ∧ 0 ≤ (3 : Int32).toInt ∧ (3 : Int32).toInt ≤ (x.1 ((58 + 2 * sj) * 8 + 4)).toInt ∧ v.toInt ≤ (x.1 ((58 + 2 * sj) * 8 + 4)).toInt - (3 : Int32).toInt))] (E x y)
  refine PW_if_eq c_F_hasBytes_13 (fun _ => ?_) (fun h1 => absurd (b2i_n0.mp h1) hp)
  refine PW_iconst (v := 0) c_F_hasBytes_20 (by decide) ?_
  refine PW_ireturn (ty := .boolean) c_F_hasBytes_21 rfl (by decide +kernel) ?_
  show PW _ _ _ 6 [some (.ref 5), some (.ref (58 + 2 * sj)), some (.int v), none, none, none] [.int 0] (E x y)
  refine PW_if_ne c_G_welcomeFrom_6 (fun h2 => absurd (by decide) h2) (fun _ => ?_)
  refine PW_iconst (v := 0) c_G_welcomeFrom_9 (by decide) ?_
  refine PW_ireturn (ty := .boolean) c_G_welcomeFrom_10 rfl (by decide +kernel) ?_
  exact h
theorem sp_wf1 {z : ZS} {post : Option Value → List PE → Prop} {x y : XS} {q sj n : Nat} {y0 : XS} (hsj : sj < 6) (hb : x.1 ((58 + 2 * sj) * 8 + 1) = 2 ∧ x.1 ((58 + 2 * sj) * 8 + 3) = 0) (hz : x.1 ((58 + 2 * sj) * 8 + 4) = nI n) (hn : n ≤ 60) (hR : ∀ i, i < n → (x.2.2 (59 + 2 * sj) i).toInt32 = plF y0 sj i) (hq : q + 3 ≤ n) (hb2 : ¬ ((0 ≤ (plF y0 sj q) ∧ (plF y0 sj q) ≤ 4) ∧ (0 ≤ (plF y0 sj (q + 1)) ∧ (plF y0 sj (q + 1)) ≤ 4) ∧ fitP 3 (plF y0 sj (q + 2)))) (h : post (some (.int 0)) (E x y)) : PW (5, 0, 0, z) m_G_welcomeFrom post 0 [some (.ref 5), some (.ref (58 + 2 * sj)), some (.int (nI q)), none, none, none] [] (E x y) := by
  have hz2 : (x.1 ((58 + 2 * sj) * 8 + 4)).toInt = n := by rw [hz, nI_toInt (by omega)]
  have hz0 : 0 ≤ (x.1 ((58 + 2 * sj) * 8 + 4)).toInt := by omega
  have hp : 0 ≤ (nI q).toInt ∧ 0 ≤ (3 : Int32).toInt ∧ (3 : Int32).toInt ≤ (x.1 ((58 + 2 * sj) * 8 + 4)).toInt ∧ (nI q).toInt ≤ (x.1 ((58 + 2 * sj) * 8 + 4)).toInt - (3 : Int32).toInt := by rw [hz2, nI_toInt (by omega), show (3 : Int32).toInt = 3 by decide]; omega
  by_cases k1 : 0 ≤ (plF y0 sj q) ∧ (plF y0 sj q) ≤ 4
  · by_cases k2 : 0 ≤ (plF y0 sj (q + 1)) ∧ (plF y0 sj (q + 1)) ≤ 4
    · have k3 : ¬ fitP 3 (plF y0 sj (q + 2)) := fun q => hb2 ⟨k1, k2, q⟩
      refine PW_aload_n c_G_welcomeFrom_0 rfl ?_
      refine PW_iload_n c_G_welcomeFrom_1 rfl ?_
      refine PW_iconst (v := 3) c_G_welcomeFrom_2 (by decide) ?_
      refine PW_V0 (d2 := 1) (st := []) [.int (nI q), .int 3] c_G_welcomeFrom_3 lk_G_welcomeFrom_114 (sh_po _ _ hsj) rfl rfl rfl (Nat.le_of_ble_eq_true rfl) (by first | decide | omega) (Nat.le_of_ble_eq_true rfl) ?_
      show PW _ _ _ 0 [some (.ref (58 + 2 * sj)), some (.int (nI q)), some (.int 3)] [] (E x y)
      refine PW_aload_n c_F_hasBytes_0 rfl ?_
      refine PW_V0 (d2 := 0) (st := []) [] c_F_hasBytes_1 lk_F_hasBytes_41 (sh_po _ _ hsj) rfl rfl rfl (Nat.le_of_ble_eq_true rfl) (by first | decide | omega) (Nat.le_of_ble_eq_true rfl) ?_
      refine sp_F_holdsBytes hsj  ?_
      show PW _ _ _ 4 [some (.ref (58 + 2 * sj)), some (.int (nI q)), some (.int 3)] [.int (b2i (x.1 ((58 + 2 * sj) * 8 + 1) = 2 ∧ x.1 ((58 + 2 * sj) * 8 + 3) = 0))] (E x y)
      refine PW_if_eq c_F_hasBytes_4 (fun h0 => absurd hb (b2i_0.mp h0)) (fun _ => ?_)
      refine PW_aload_n c_F_hasBytes_7 rfl ?_
      refine PW_iload_n c_F_hasBytes_8 rfl ?_
      refine PW_iload_n c_F_hasBytes_9 rfl ?_
      refine PW_V0 (d2 := 0) (st := []) [.int (nI q), .int 3] c_F_hasBytes_10 lk_F_hasBytes_47 (sh_po _ _ hsj) rfl rfl rfl (Nat.le_of_ble_eq_true rfl) (by first | decide | omega) (Nat.le_of_ble_eq_true rfl) ?_
      refine sp_F_hasPlaces hsj hz0 ?_
      show PW _ _ _ 13 [some (.ref (58 + 2 * sj)), some (.int (nI q)), some (.int 3)] [.int (b2i (0 ≤ (nI q).toInt ∧ 0 ≤ (3 : Int32).toInt ∧ (3 : Int32).toInt ≤ (x.1 ((58 + 2 * sj) * 8 + 4)).toInt ∧ (nI q).toInt ≤ (x.1 ((58 + 2 * sj) * 8 + 4)).toInt - (3 : Int32).toInt))] (E x y)
      refine PW_if_eq c_F_hasBytes_13 (fun h1 => absurd hp (b2i_0.mp h1)) (fun _ => ?_)
      refine PW_iconst (v := 1) c_F_hasBytes_16 (by decide) ?_
      refine PW_goto c_F_hasBytes_17 ?_
      refine PW_ireturn (ty := .boolean) c_F_hasBytes_21 rfl (by decide +kernel) ?_
      show PW _ _ _ 6 [some (.ref 5), some (.ref (58 + 2 * sj)), some (.int (nI q)), none, none, none] [.int 1] (E x y)
      refine PW_if_ne c_G_welcomeFrom_6 (fun _ => ?_) (fun h2 => absurd h2 (by decide))
      refine PW_aload_n c_G_welcomeFrom_11 rfl ?_
      refine PW_iload_n c_G_welcomeFrom_12 rfl ?_
      refine PW_V0 (d2 := 2) (st := []) [.int (nI q)] c_G_welcomeFrom_13 lk_G_welcomeFrom_117 (sh_po _ _ hsj) rfl rfl rfl (Nat.le_of_ble_eq_true rfl) (by first | decide | omega) (Nat.le_of_ble_eq_true rfl) ?_
      refine sp_F_small hsj hb hz hn (i := q) rfl (by omega) ?_
      rw [if_pos (by omega), hR q (by omega)]
      show PW _ _ _ 16 [some (.ref 5), some (.ref (58 + 2 * sj)), some (.int (nI q)), none, none, none] [.int (plF y0 sj q)] (E x y)
      refine PW_istore_n (i := 3) (L2 := [some (.ref 5), some (.ref (58 + 2 * sj)), some (.int (nI q)), some (.int (plF y0 sj q)), none, none]) c_G_welcomeFrom_16 rfl (Nat.le_of_ble_eq_true rfl) rfl rfl ?_
      refine PW_aload_n c_G_welcomeFrom_17 rfl ?_
      refine PW_iload_n c_G_welcomeFrom_18 rfl ?_
      refine PW_iconst (v := 1) c_G_welcomeFrom_19 (by decide) ?_
      refine PW_iadd c_G_welcomeFrom_20 ?_
      refine PW_V0 (d2 := 2) (st := []) [.int ((nI q) + 1)] c_G_welcomeFrom_21 lk_G_welcomeFrom_117 (sh_po _ _ hsj) rfl rfl rfl (Nat.le_of_ble_eq_true rfl) (by first | decide | omega) (Nat.le_of_ble_eq_true rfl) ?_
      refine sp_F_small hsj hb hz hn (i := (q + 1)) (by rw [show (1 : Int32) = nI 1 from rfl, nI_add]) (by omega) ?_
      rw [if_pos (by omega), hR (q + 1) (by omega)]
      show PW _ _ _ 24 [some (.ref 5), some (.ref (58 + 2 * sj)), some (.int (nI q)), some (.int (plF y0 sj q)), none, none] [.int (plF y0 sj (q + 1))] (E x y)
      refine PW_istore (i := 4) (L2 := [some (.ref 5), some (.ref (58 + 2 * sj)), some (.int (nI q)), some (.int (plF y0 sj q)), some (.int (plF y0 sj (q + 1))), none]) c_G_welcomeFrom_24 (Nat.le_of_ble_eq_true rfl) rfl rfl ?_
      refine PW_aload_n c_G_welcomeFrom_26 rfl ?_
      refine PW_iload_n c_G_welcomeFrom_27 rfl ?_
      refine PW_iconst (v := 2) c_G_welcomeFrom_28 (by decide) ?_
      refine PW_iadd c_G_welcomeFrom_29 ?_
      refine PW_V0 (d2 := 2) (st := []) [.int ((nI q) + 2)] c_G_welcomeFrom_30 lk_G_welcomeFrom_117 (sh_po _ _ hsj) rfl rfl rfl (Nat.le_of_ble_eq_true rfl) (by first | decide | omega) (Nat.le_of_ble_eq_true rfl) ?_
      refine sp_F_small hsj hb hz hn (i := (q + 2)) (by rw [show (2 : Int32) = nI 2 from rfl, nI_add]) (by omega) ?_
      rw [if_pos (by omega), hR (q + 2) (by omega)]
      show PW _ _ _ 33 [some (.ref 5), some (.ref (58 + 2 * sj)), some (.int (nI q)), some (.int (plF y0 sj q)), some (.int (plF y0 sj (q + 1))), none] [.int (plF y0 sj (q + 2))] (E x y)
      refine PW_istore (i := 5) (L2 := [some (.ref 5), some (.ref (58 + 2 * sj)), some (.int (nI q)), some (.int (plF y0 sj q)), some (.int (plF y0 sj (q + 1))), some (.int (plF y0 sj (q + 2)))]) c_G_welcomeFrom_33 (Nat.le_of_ble_eq_true rfl) rfl rfl ?_
      refine PW_iload_n c_G_welcomeFrom_35 rfl ?_
      refine PW_S0 (d2 := 0) (st := []) [.int (plF y0 sj q)] c_G_welcomeFrom_36 lk_G_welcomeFrom_121 rfl rfl rfl (Nat.le_of_ble_eq_true rfl) (by first | decide | omega) (Nat.le_of_ble_eq_true rfl) ?_
      refine sp_H_isRoom  ?_
      show PW _ _ _ 39 [some (.ref 5), some (.ref (58 + 2 * sj)), some (.int (nI q)), some (.int (plF y0 sj q)), some (.int (plF y0 sj (q + 1))), some (.int (plF y0 sj (q + 2)))] [.int (b2i (0 ≤ (plF y0 sj q) ∧ (plF y0 sj q) ≤ 4))] (E x y)
      refine PW_if_eq c_G_welcomeFrom_39 (fun h3 => absurd k1 (b2i_0.mp h3)) (fun _ => ?_)
      refine PW_iload c_G_welcomeFrom_42 rfl ?_
      refine PW_S0 (d2 := 0) (st := []) [.int (plF y0 sj (q + 1))] c_G_welcomeFrom_44 lk_G_welcomeFrom_121 rfl rfl rfl (Nat.le_of_ble_eq_true rfl) (by first | decide | omega) (Nat.le_of_ble_eq_true rfl) ?_
      refine sp_H_isRoom  ?_
      show PW _ _ _ 47 [some (.ref 5), some (.ref (58 + 2 * sj)), some (.int (nI q)), some (.int (plF y0 sj q)), some (.int (plF y0 sj (q + 1))), some (.int (plF y0 sj (q + 2)))] [.int (b2i (0 ≤ (plF y0 sj (q + 1)) ∧ (plF y0 sj (q + 1)) ≤ 4))] (E x y)
      refine PW_if_eq c_G_welcomeFrom_47 (fun h4 => absurd k2 (b2i_0.mp h4)) (fun _ => ?_)
      refine PW_iconst (v := 3) c_G_welcomeFrom_50 (by decide) ?_
      refine PW_iload c_G_welcomeFrom_51 rfl ?_
      refine PW_S0 (d2 := 0) (st := []) [.int 3, .int (plF y0 sj (q + 2))] c_G_welcomeFrom_53 lk_G_welcomeFrom_94 rfl rfl rfl (Nat.le_of_ble_eq_true rfl) (by first | decide | omega) (Nat.le_of_ble_eq_true rfl) ?_
      refine sp_H_fits8 (w := 3) (by decide) rfl ?_
      show PW _ _ _ 56 [some (.ref 5), some (.ref (58 + 2 * sj)), some (.int (nI q)), some (.int (plF y0 sj q)), some (.int (plF y0 sj (q + 1))), some (.int (plF y0 sj (q + 2)))] [.int (b2i (fitP 3 (plF y0 sj (q + 2))))] (E x y)
      refine PW_if_ne c_G_welcomeFrom_56 (fun h5 => absurd (b2i_n0.mp h5) k3) (fun _ => ?_)
      refine PW_iconst (v := 0) c_G_welcomeFrom_59 (by decide) ?_
      refine PW_ireturn (ty := .boolean) c_G_welcomeFrom_60 rfl (by decide +kernel) ?_
      exact h
    · skip
      refine PW_aload_n c_G_welcomeFrom_0 rfl ?_
      refine PW_iload_n c_G_welcomeFrom_1 rfl ?_
      refine PW_iconst (v := 3) c_G_welcomeFrom_2 (by decide) ?_
      refine PW_V0 (d2 := 1) (st := []) [.int (nI q), .int 3] c_G_welcomeFrom_3 lk_G_welcomeFrom_114 (sh_po _ _ hsj) rfl rfl rfl (Nat.le_of_ble_eq_true rfl) (by first | decide | omega) (Nat.le_of_ble_eq_true rfl) ?_
      show PW _ _ _ 0 [some (.ref (58 + 2 * sj)), some (.int (nI q)), some (.int 3)] [] (E x y)
      refine PW_aload_n c_F_hasBytes_0 rfl ?_
      refine PW_V0 (d2 := 0) (st := []) [] c_F_hasBytes_1 lk_F_hasBytes_41 (sh_po _ _ hsj) rfl rfl rfl (Nat.le_of_ble_eq_true rfl) (by first | decide | omega) (Nat.le_of_ble_eq_true rfl) ?_
      refine sp_F_holdsBytes hsj  ?_
      show PW _ _ _ 4 [some (.ref (58 + 2 * sj)), some (.int (nI q)), some (.int 3)] [.int (b2i (x.1 ((58 + 2 * sj) * 8 + 1) = 2 ∧ x.1 ((58 + 2 * sj) * 8 + 3) = 0))] (E x y)
      refine PW_if_eq c_F_hasBytes_4 (fun h0 => absurd hb (b2i_0.mp h0)) (fun _ => ?_)
      refine PW_aload_n c_F_hasBytes_7 rfl ?_
      refine PW_iload_n c_F_hasBytes_8 rfl ?_
      refine PW_iload_n c_F_hasBytes_9 rfl ?_
      refine PW_V0 (d2 := 0) (st := []) [.int (nI q), .int 3] c_F_hasBytes_10 lk_F_hasBytes_47 (sh_po _ _ hsj) rfl rfl rfl (Nat.le_of_ble_eq_true rfl) (by first | decide | omega) (Nat.le_of_ble_eq_true rfl) ?_
      refine sp_F_hasPlaces hsj hz0 ?_
      show PW _ _ _ 13 [some (.ref (58 + 2 * sj)), some (.int (nI q)), some (.int 3)] [.int (b2i (0 ≤ (nI q).toInt ∧ 0 ≤ (3 : Int32).toInt ∧ (3 : Int32).toInt ≤ (x.1 ((58 + 2 * sj) * 8 + 4)).toInt ∧ (nI q).toInt ≤ (x.1 ((58 + 2 * sj) * 8 + 4)).toInt - (3 : Int32).toInt))] (E x y)
      refine PW_if_eq c_F_hasBytes_13 (fun h1 => absurd hp (b2i_0.mp h1)) (fun _ => ?_)
      refine PW_iconst (v := 1) c_F_hasBytes_16 (by decide) ?_
      refine PW_goto c_F_hasBytes_17 ?_
      refine PW_ireturn (ty := .boolean) c_F_hasBytes_21 rfl (by decide +kernel) ?_
      show PW _ _ _ 6 [some (.ref 5), some (.ref (58 + 2 * sj)), some (.int (nI q)), none, none, none] [.int 1] (E x y)
      refine PW_if_ne c_G_welcomeFrom_6 (fun _ => ?_) (fun h2 => absurd h2 (by decide))
      refine PW_aload_n c_G_welcomeFrom_11 rfl ?_
      refine PW_iload_n c_G_welcomeFrom_12 rfl ?_
      refine PW_V0 (d2 := 2) (st := []) [.int (nI q)] c_G_welcomeFrom_13 lk_G_welcomeFrom_117 (sh_po _ _ hsj) rfl rfl rfl (Nat.le_of_ble_eq_true rfl) (by first | decide | omega) (Nat.le_of_ble_eq_true rfl) ?_
      refine sp_F_small hsj hb hz hn (i := q) rfl (by omega) ?_
      rw [if_pos (by omega), hR q (by omega)]
      show PW _ _ _ 16 [some (.ref 5), some (.ref (58 + 2 * sj)), some (.int (nI q)), none, none, none] [.int (plF y0 sj q)] (E x y)
      refine PW_istore_n (i := 3) (L2 := [some (.ref 5), some (.ref (58 + 2 * sj)), some (.int (nI q)), some (.int (plF y0 sj q)), none, none]) c_G_welcomeFrom_16 rfl (Nat.le_of_ble_eq_true rfl) rfl rfl ?_
      refine PW_aload_n c_G_welcomeFrom_17 rfl ?_
      refine PW_iload_n c_G_welcomeFrom_18 rfl ?_
      refine PW_iconst (v := 1) c_G_welcomeFrom_19 (by decide) ?_
      refine PW_iadd c_G_welcomeFrom_20 ?_
      refine PW_V0 (d2 := 2) (st := []) [.int ((nI q) + 1)] c_G_welcomeFrom_21 lk_G_welcomeFrom_117 (sh_po _ _ hsj) rfl rfl rfl (Nat.le_of_ble_eq_true rfl) (by first | decide | omega) (Nat.le_of_ble_eq_true rfl) ?_
      refine sp_F_small hsj hb hz hn (i := (q + 1)) (by rw [show (1 : Int32) = nI 1 from rfl, nI_add]) (by omega) ?_
      rw [if_pos (by omega), hR (q + 1) (by omega)]
      show PW _ _ _ 24 [some (.ref 5), some (.ref (58 + 2 * sj)), some (.int (nI q)), some (.int (plF y0 sj q)), none, none] [.int (plF y0 sj (q + 1))] (E x y)
      refine PW_istore (i := 4) (L2 := [some (.ref 5), some (.ref (58 + 2 * sj)), some (.int (nI q)), some (.int (plF y0 sj q)), some (.int (plF y0 sj (q + 1))), none]) c_G_welcomeFrom_24 (Nat.le_of_ble_eq_true rfl) rfl rfl ?_
      refine PW_aload_n c_G_welcomeFrom_26 rfl ?_
      refine PW_iload_n c_G_welcomeFrom_27 rfl ?_
      refine PW_iconst (v := 2) c_G_welcomeFrom_28 (by decide) ?_
      refine PW_iadd c_G_welcomeFrom_29 ?_
      refine PW_V0 (d2 := 2) (st := []) [.int ((nI q) + 2)] c_G_welcomeFrom_30 lk_G_welcomeFrom_117 (sh_po _ _ hsj) rfl rfl rfl (Nat.le_of_ble_eq_true rfl) (by first | decide | omega) (Nat.le_of_ble_eq_true rfl) ?_
      refine sp_F_small hsj hb hz hn (i := (q + 2)) (by rw [show (2 : Int32) = nI 2 from rfl, nI_add]) (by omega) ?_
      rw [if_pos (by omega), hR (q + 2) (by omega)]
      show PW _ _ _ 33 [some (.ref 5), some (.ref (58 + 2 * sj)), some (.int (nI q)), some (.int (plF y0 sj q)), some (.int (plF y0 sj (q + 1))), none] [.int (plF y0 sj (q + 2))] (E x y)
      refine PW_istore (i := 5) (L2 := [some (.ref 5), some (.ref (58 + 2 * sj)), some (.int (nI q)), some (.int (plF y0 sj q)), some (.int (plF y0 sj (q + 1))), some (.int (plF y0 sj (q + 2)))]) c_G_welcomeFrom_33 (Nat.le_of_ble_eq_true rfl) rfl rfl ?_
      refine PW_iload_n c_G_welcomeFrom_35 rfl ?_
      refine PW_S0 (d2 := 0) (st := []) [.int (plF y0 sj q)] c_G_welcomeFrom_36 lk_G_welcomeFrom_121 rfl rfl rfl (Nat.le_of_ble_eq_true rfl) (by first | decide | omega) (Nat.le_of_ble_eq_true rfl) ?_
      refine sp_H_isRoom  ?_
      show PW _ _ _ 39 [some (.ref 5), some (.ref (58 + 2 * sj)), some (.int (nI q)), some (.int (plF y0 sj q)), some (.int (plF y0 sj (q + 1))), some (.int (plF y0 sj (q + 2)))] [.int (b2i (0 ≤ (plF y0 sj q) ∧ (plF y0 sj q) ≤ 4))] (E x y)
      refine PW_if_eq c_G_welcomeFrom_39 (fun h3 => absurd k1 (b2i_0.mp h3)) (fun _ => ?_)
      refine PW_iload c_G_welcomeFrom_42 rfl ?_
      refine PW_S0 (d2 := 0) (st := []) [.int (plF y0 sj (q + 1))] c_G_welcomeFrom_44 lk_G_welcomeFrom_121 rfl rfl rfl (Nat.le_of_ble_eq_true rfl) (by first | decide | omega) (Nat.le_of_ble_eq_true rfl) ?_
      refine sp_H_isRoom  ?_
      show PW _ _ _ 47 [some (.ref 5), some (.ref (58 + 2 * sj)), some (.int (nI q)), some (.int (plF y0 sj q)), some (.int (plF y0 sj (q + 1))), some (.int (plF y0 sj (q + 2)))] [.int (b2i (0 ≤ (plF y0 sj (q + 1)) ∧ (plF y0 sj (q + 1)) ≤ 4))] (E x y)
      refine PW_if_eq c_G_welcomeFrom_47 (fun _ => ?_) (fun h4 => absurd (b2i_n0.mp h4) k2)
      refine PW_iconst (v := 0) c_G_welcomeFrom_59 (by decide) ?_
      refine PW_ireturn (ty := .boolean) c_G_welcomeFrom_60 rfl (by decide +kernel) ?_
      exact h
  · skip
    refine PW_aload_n c_G_welcomeFrom_0 rfl ?_
    refine PW_iload_n c_G_welcomeFrom_1 rfl ?_
    refine PW_iconst (v := 3) c_G_welcomeFrom_2 (by decide) ?_
    refine PW_V0 (d2 := 1) (st := []) [.int (nI q), .int 3] c_G_welcomeFrom_3 lk_G_welcomeFrom_114 (sh_po _ _ hsj) rfl rfl rfl (Nat.le_of_ble_eq_true rfl) (by first | decide | omega) (Nat.le_of_ble_eq_true rfl) ?_
    show PW _ _ _ 0 [some (.ref (58 + 2 * sj)), some (.int (nI q)), some (.int 3)] [] (E x y)
    refine PW_aload_n c_F_hasBytes_0 rfl ?_
    refine PW_V0 (d2 := 0) (st := []) [] c_F_hasBytes_1 lk_F_hasBytes_41 (sh_po _ _ hsj) rfl rfl rfl (Nat.le_of_ble_eq_true rfl) (by first | decide | omega) (Nat.le_of_ble_eq_true rfl) ?_
    refine sp_F_holdsBytes hsj  ?_
    show PW _ _ _ 4 [some (.ref (58 + 2 * sj)), some (.int (nI q)), some (.int 3)] [.int (b2i (x.1 ((58 + 2 * sj) * 8 + 1) = 2 ∧ x.1 ((58 + 2 * sj) * 8 + 3) = 0))] (E x y)
    refine PW_if_eq c_F_hasBytes_4 (fun h0 => absurd hb (b2i_0.mp h0)) (fun _ => ?_)
    refine PW_aload_n c_F_hasBytes_7 rfl ?_
    refine PW_iload_n c_F_hasBytes_8 rfl ?_
    refine PW_iload_n c_F_hasBytes_9 rfl ?_
    refine PW_V0 (d2 := 0) (st := []) [.int (nI q), .int 3] c_F_hasBytes_10 lk_F_hasBytes_47 (sh_po _ _ hsj) rfl rfl rfl (Nat.le_of_ble_eq_true rfl) (by first | decide | omega) (Nat.le_of_ble_eq_true rfl) ?_
    refine sp_F_hasPlaces hsj hz0 ?_
    show PW _ _ _ 13 [some (.ref (58 + 2 * sj)), some (.int (nI q)), some (.int 3)] [.int (b2i (0 ≤ (nI q).toInt ∧ 0 ≤ (3 : Int32).toInt ∧ (3 : Int32).toInt ≤ (x.1 ((58 + 2 * sj) * 8 + 4)).toInt ∧ (nI q).toInt ≤ (x.1 ((58 + 2 * sj) * 8 + 4)).toInt - (3 : Int32).toInt))] (E x y)
    refine PW_if_eq c_F_hasBytes_13 (fun h1 => absurd hp (b2i_0.mp h1)) (fun _ => ?_)
    refine PW_iconst (v := 1) c_F_hasBytes_16 (by decide) ?_
    refine PW_goto c_F_hasBytes_17 ?_
    refine PW_ireturn (ty := .boolean) c_F_hasBytes_21 rfl (by decide +kernel) ?_
    show PW _ _ _ 6 [some (.ref 5), some (.ref (58 + 2 * sj)), some (.int (nI q)), none, none, none] [.int 1] (E x y)
    refine PW_if_ne c_G_welcomeFrom_6 (fun _ => ?_) (fun h2 => absurd h2 (by decide))
    refine PW_aload_n c_G_welcomeFrom_11 rfl ?_
    refine PW_iload_n c_G_welcomeFrom_12 rfl ?_
    refine PW_V0 (d2 := 2) (st := []) [.int (nI q)] c_G_welcomeFrom_13 lk_G_welcomeFrom_117 (sh_po _ _ hsj) rfl rfl rfl (Nat.le_of_ble_eq_true rfl) (by first | decide | omega) (Nat.le_of_ble_eq_true rfl) ?_
    refine sp_F_small hsj hb hz hn (i := q) rfl (by omega) ?_
    rw [if_pos (by omega), hR q (by omega)]
    show PW _ _ _ 16 [some (.ref 5), some (.ref (58 + 2 * sj)), some (.int (nI q)), none, none, none] [.int (plF y0 sj q)] (E x y)
    refine PW_istore_n (i := 3) (L2 := [some (.ref 5), some (.ref (58 + 2 * sj)), some (.int (nI q)), some (.int (plF y0 sj q)), none, none]) c_G_welcomeFrom_16 rfl (Nat.le_of_ble_eq_true rfl) rfl rfl ?_
    refine PW_aload_n c_G_welcomeFrom_17 rfl ?_
    refine PW_iload_n c_G_welcomeFrom_18 rfl ?_
    refine PW_iconst (v := 1) c_G_welcomeFrom_19 (by decide) ?_
    refine PW_iadd c_G_welcomeFrom_20 ?_
    refine PW_V0 (d2 := 2) (st := []) [.int ((nI q) + 1)] c_G_welcomeFrom_21 lk_G_welcomeFrom_117 (sh_po _ _ hsj) rfl rfl rfl (Nat.le_of_ble_eq_true rfl) (by first | decide | omega) (Nat.le_of_ble_eq_true rfl) ?_
    refine sp_F_small hsj hb hz hn (i := (q + 1)) (by rw [show (1 : Int32) = nI 1 from rfl, nI_add]) (by omega) ?_
    rw [if_pos (by omega), hR (q + 1) (by omega)]
    show PW _ _ _ 24 [some (.ref 5), some (.ref (58 + 2 * sj)), some (.int (nI q)), some (.int (plF y0 sj q)), none, none] [.int (plF y0 sj (q + 1))] (E x y)
    refine PW_istore (i := 4) (L2 := [some (.ref 5), some (.ref (58 + 2 * sj)), some (.int (nI q)), some (.int (plF y0 sj q)), some (.int (plF y0 sj (q + 1))), none]) c_G_welcomeFrom_24 (Nat.le_of_ble_eq_true rfl) rfl rfl ?_
    refine PW_aload_n c_G_welcomeFrom_26 rfl ?_
    refine PW_iload_n c_G_welcomeFrom_27 rfl ?_
    refine PW_iconst (v := 2) c_G_welcomeFrom_28 (by decide) ?_
    refine PW_iadd c_G_welcomeFrom_29 ?_
    refine PW_V0 (d2 := 2) (st := []) [.int ((nI q) + 2)] c_G_welcomeFrom_30 lk_G_welcomeFrom_117 (sh_po _ _ hsj) rfl rfl rfl (Nat.le_of_ble_eq_true rfl) (by first | decide | omega) (Nat.le_of_ble_eq_true rfl) ?_
    refine sp_F_small hsj hb hz hn (i := (q + 2)) (by rw [show (2 : Int32) = nI 2 from rfl, nI_add]) (by omega) ?_
    rw [if_pos (by omega), hR (q + 2) (by omega)]
    show PW _ _ _ 33 [some (.ref 5), some (.ref (58 + 2 * sj)), some (.int (nI q)), some (.int (plF y0 sj q)), some (.int (plF y0 sj (q + 1))), none] [.int (plF y0 sj (q + 2))] (E x y)
    refine PW_istore (i := 5) (L2 := [some (.ref 5), some (.ref (58 + 2 * sj)), some (.int (nI q)), some (.int (plF y0 sj q)), some (.int (plF y0 sj (q + 1))), some (.int (plF y0 sj (q + 2)))]) c_G_welcomeFrom_33 (Nat.le_of_ble_eq_true rfl) rfl rfl ?_
    refine PW_iload_n c_G_welcomeFrom_35 rfl ?_
    refine PW_S0 (d2 := 0) (st := []) [.int (plF y0 sj q)] c_G_welcomeFrom_36 lk_G_welcomeFrom_121 rfl rfl rfl (Nat.le_of_ble_eq_true rfl) (by first | decide | omega) (Nat.le_of_ble_eq_true rfl) ?_
    refine sp_H_isRoom  ?_
    show PW _ _ _ 39 [some (.ref 5), some (.ref (58 + 2 * sj)), some (.int (nI q)), some (.int (plF y0 sj q)), some (.int (plF y0 sj (q + 1))), some (.int (plF y0 sj (q + 2)))] [.int (b2i (0 ≤ (plF y0 sj q) ∧ (plF y0 sj q) ≤ 4))] (E x y)
    refine PW_if_eq c_G_welcomeFrom_39 (fun _ => ?_) (fun h3 => absurd (b2i_n0.mp h3) k1)
    refine PW_iconst (v := 0) c_G_welcomeFrom_59 (by decide) ?_
    refine PW_ireturn (ty := .boolean) c_G_welcomeFrom_60 rfl (by decide +kernel) ?_
    exact h
theorem sp_wf2 {z : ZS} {post : Option Value → List PE → Prop} {x y : XS} {q sj n : Nat} {y0 : XS} (hsj : sj < 6) (hb : x.1 ((58 + 2 * sj) * 8 + 1) = 2 ∧ x.1 ((58 + 2 * sj) * 8 + 3) = 0) (hz : x.1 ((58 + 2 * sj) * 8 + 4) = nI n) (hn : n ≤ 60) (hR : ∀ i, i < n → (x.2.2 (59 + 2 * sj) i).toInt32 = plF y0 sj i) (hq : q + 3 ≤ n) (hg : (0 ≤ (plF y0 sj q) ∧ (plF y0 sj q) ≤ 4) ∧ (0 ≤ (plF y0 sj (q + 1)) ∧ (plF y0 sj (q + 1)) ≤ 4) ∧ fitP 3 (plF y0 sj (q + 2))) (h51 : x.1 51 = nI 10) (h : post (some (.int 0)) (E x y)) : PW (5, 0, 0, z) m_G_welcomeFrom post 0 [some (.ref 5), some (.ref (58 + 2 * sj)), some (.int (nI q)), none, none, none] [] (E x y) := by
  obtain ⟨k1, k2, k3⟩ := hg
  have hz2 : (x.1 ((58 + 2 * sj) * 8 + 4)).toInt = n := by rw [hz, nI_toInt (by omega)]
  have hz0 : 0 ≤ (x.1 ((58 + 2 * sj) * 8 + 4)).toInt := by omega
  have hp : 0 ≤ (nI q).toInt ∧ 0 ≤ (3 : Int32).toInt ∧ (3 : Int32).toInt ≤ (x.1 ((58 + 2 * sj) * 8 + 4)).toInt ∧ (nI q).toInt ≤ (x.1 ((58 + 2 * sj) * 8 + 4)).toInt - (3 : Int32).toInt := by rw [hz2, nI_toInt (by omega), show (3 : Int32).toInt = 3 by decide]; omega
  refine PW_aload_n c_G_welcomeFrom_0 rfl ?_
  refine PW_iload_n c_G_welcomeFrom_1 rfl ?_
  refine PW_iconst (v := 3) c_G_welcomeFrom_2 (by decide) ?_
  refine PW_V0 (d2 := 1) (st := []) [.int (nI q), .int 3] c_G_welcomeFrom_3 lk_G_welcomeFrom_114 (sh_po _ _ hsj) rfl rfl rfl (Nat.le_of_ble_eq_true rfl) (by first | decide | omega) (Nat.le_of_ble_eq_true rfl) ?_
  show PW _ _ _ 0 [some (.ref (58 + 2 * sj)), some (.int (nI q)), some (.int 3)] [] (E x y)
  refine PW_aload_n c_F_hasBytes_0 rfl ?_
  refine PW_V0 (d2 := 0) (st := []) [] c_F_hasBytes_1 lk_F_hasBytes_41 (sh_po _ _ hsj) rfl rfl rfl (Nat.le_of_ble_eq_true rfl) (by first | decide | omega) (Nat.le_of_ble_eq_true rfl) ?_
  refine sp_F_holdsBytes hsj  ?_
  show PW _ _ _ 4 [some (.ref (58 + 2 * sj)), some (.int (nI q)), some (.int 3)] [.int (b2i (x.1 ((58 + 2 * sj) * 8 + 1) = 2 ∧ x.1 ((58 + 2 * sj) * 8 + 3) = 0))] (E x y)
  refine PW_if_eq c_F_hasBytes_4 (fun h0 => absurd hb (b2i_0.mp h0)) (fun _ => ?_)
  refine PW_aload_n c_F_hasBytes_7 rfl ?_
  refine PW_iload_n c_F_hasBytes_8 rfl ?_
  refine PW_iload_n c_F_hasBytes_9 rfl ?_
  refine PW_V0 (d2 := 0) (st := []) [.int (nI q), .int 3] c_F_hasBytes_10 lk_F_hasBytes_47 (sh_po _ _ hsj) rfl rfl rfl (Nat.le_of_ble_eq_true rfl) (by first | decide | omega) (Nat.le_of_ble_eq_true rfl) ?_
  refine sp_F_hasPlaces hsj hz0 ?_
  show PW _ _ _ 13 [some (.ref (58 + 2 * sj)), some (.int (nI q)), some (.int 3)] [.int (b2i (0 ≤ (nI q).toInt ∧ 0 ≤ (3 : Int32).toInt ∧ (3 : Int32).toInt ≤ (x.1 ((58 + 2 * sj) * 8 + 4)).toInt ∧ (nI q).toInt ≤ (x.1 ((58 + 2 * sj) * 8 + 4)).toInt - (3 : Int32).toInt))] (E x y)
  refine PW_if_eq c_F_hasBytes_13 (fun h1 => absurd hp (b2i_0.mp h1)) (fun _ => ?_)
  refine PW_iconst (v := 1) c_F_hasBytes_16 (by decide) ?_
  refine PW_goto c_F_hasBytes_17 ?_
  refine PW_ireturn (ty := .boolean) c_F_hasBytes_21 rfl (by decide +kernel) ?_
  show PW _ _ _ 6 [some (.ref 5), some (.ref (58 + 2 * sj)), some (.int (nI q)), none, none, none] [.int 1] (E x y)
  refine PW_if_ne c_G_welcomeFrom_6 (fun _ => ?_) (fun h2 => absurd h2 (by decide))
  refine PW_aload_n c_G_welcomeFrom_11 rfl ?_
  refine PW_iload_n c_G_welcomeFrom_12 rfl ?_
  refine PW_V0 (d2 := 2) (st := []) [.int (nI q)] c_G_welcomeFrom_13 lk_G_welcomeFrom_117 (sh_po _ _ hsj) rfl rfl rfl (Nat.le_of_ble_eq_true rfl) (by first | decide | omega) (Nat.le_of_ble_eq_true rfl) ?_
  refine sp_F_small hsj hb hz hn (i := q) rfl (by omega) ?_
  rw [if_pos (by omega), hR q (by omega)]
  show PW _ _ _ 16 [some (.ref 5), some (.ref (58 + 2 * sj)), some (.int (nI q)), none, none, none] [.int (plF y0 sj q)] (E x y)
  refine PW_istore_n (i := 3) (L2 := [some (.ref 5), some (.ref (58 + 2 * sj)), some (.int (nI q)), some (.int (plF y0 sj q)), none, none]) c_G_welcomeFrom_16 rfl (Nat.le_of_ble_eq_true rfl) rfl rfl ?_
  refine PW_aload_n c_G_welcomeFrom_17 rfl ?_
  refine PW_iload_n c_G_welcomeFrom_18 rfl ?_
  refine PW_iconst (v := 1) c_G_welcomeFrom_19 (by decide) ?_
  refine PW_iadd c_G_welcomeFrom_20 ?_
  refine PW_V0 (d2 := 2) (st := []) [.int ((nI q) + 1)] c_G_welcomeFrom_21 lk_G_welcomeFrom_117 (sh_po _ _ hsj) rfl rfl rfl (Nat.le_of_ble_eq_true rfl) (by first | decide | omega) (Nat.le_of_ble_eq_true rfl) ?_
  refine sp_F_small hsj hb hz hn (i := (q + 1)) (by rw [show (1 : Int32) = nI 1 from rfl, nI_add]) (by omega) ?_
  rw [if_pos (by omega), hR (q + 1) (by omega)]
  show PW _ _ _ 24 [some (.ref 5), some (.ref (58 + 2 * sj)), some (.int (nI q)), some (.int (plF y0 sj q)), none, none] [.int (plF y0 sj (q + 1))] (E x y)
  refine PW_istore (i := 4) (L2 := [some (.ref 5), some (.ref (58 + 2 * sj)), some (.int (nI q)), some (.int (plF y0 sj q)), some (.int (plF y0 sj (q + 1))), none]) c_G_welcomeFrom_24 (Nat.le_of_ble_eq_true rfl) rfl rfl ?_
  refine PW_aload_n c_G_welcomeFrom_26 rfl ?_
  refine PW_iload_n c_G_welcomeFrom_27 rfl ?_
  refine PW_iconst (v := 2) c_G_welcomeFrom_28 (by decide) ?_
  refine PW_iadd c_G_welcomeFrom_29 ?_
  refine PW_V0 (d2 := 2) (st := []) [.int ((nI q) + 2)] c_G_welcomeFrom_30 lk_G_welcomeFrom_117 (sh_po _ _ hsj) rfl rfl rfl (Nat.le_of_ble_eq_true rfl) (by first | decide | omega) (Nat.le_of_ble_eq_true rfl) ?_
  refine sp_F_small hsj hb hz hn (i := (q + 2)) (by rw [show (2 : Int32) = nI 2 from rfl, nI_add]) (by omega) ?_
  rw [if_pos (by omega), hR (q + 2) (by omega)]
  show PW _ _ _ 33 [some (.ref 5), some (.ref (58 + 2 * sj)), some (.int (nI q)), some (.int (plF y0 sj q)), some (.int (plF y0 sj (q + 1))), none] [.int (plF y0 sj (q + 2))] (E x y)
  refine PW_istore (i := 5) (L2 := [some (.ref 5), some (.ref (58 + 2 * sj)), some (.int (nI q)), some (.int (plF y0 sj q)), some (.int (plF y0 sj (q + 1))), some (.int (plF y0 sj (q + 2)))]) c_G_welcomeFrom_33 (Nat.le_of_ble_eq_true rfl) rfl rfl ?_
  refine PW_iload_n c_G_welcomeFrom_35 rfl ?_
  refine PW_S0 (d2 := 0) (st := []) [.int (plF y0 sj q)] c_G_welcomeFrom_36 lk_G_welcomeFrom_121 rfl rfl rfl (Nat.le_of_ble_eq_true rfl) (by first | decide | omega) (Nat.le_of_ble_eq_true rfl) ?_
  refine sp_H_isRoom  ?_
  show PW _ _ _ 39 [some (.ref 5), some (.ref (58 + 2 * sj)), some (.int (nI q)), some (.int (plF y0 sj q)), some (.int (plF y0 sj (q + 1))), some (.int (plF y0 sj (q + 2)))] [.int (b2i (0 ≤ (plF y0 sj q) ∧ (plF y0 sj q) ≤ 4))] (E x y)
  refine PW_if_eq c_G_welcomeFrom_39 (fun h3 => absurd k1 (b2i_0.mp h3)) (fun _ => ?_)
  refine PW_iload c_G_welcomeFrom_42 rfl ?_
  refine PW_S0 (d2 := 0) (st := []) [.int (plF y0 sj (q + 1))] c_G_welcomeFrom_44 lk_G_welcomeFrom_121 rfl rfl rfl (Nat.le_of_ble_eq_true rfl) (by first | decide | omega) (Nat.le_of_ble_eq_true rfl) ?_
  refine sp_H_isRoom  ?_
  show PW _ _ _ 47 [some (.ref 5), some (.ref (58 + 2 * sj)), some (.int (nI q)), some (.int (plF y0 sj q)), some (.int (plF y0 sj (q + 1))), some (.int (plF y0 sj (q + 2)))] [.int (b2i (0 ≤ (plF y0 sj (q + 1)) ∧ (plF y0 sj (q + 1)) ≤ 4))] (E x y)
  refine PW_if_eq c_G_welcomeFrom_47 (fun h4 => absurd k2 (b2i_0.mp h4)) (fun _ => ?_)
  refine PW_iconst (v := 3) c_G_welcomeFrom_50 (by decide) ?_
  refine PW_iload c_G_welcomeFrom_51 rfl ?_
  refine PW_S0 (d2 := 0) (st := []) [.int 3, .int (plF y0 sj (q + 2))] c_G_welcomeFrom_53 lk_G_welcomeFrom_94 rfl rfl rfl (Nat.le_of_ble_eq_true rfl) (by first | decide | omega) (Nat.le_of_ble_eq_true rfl) ?_
  refine sp_H_fits8 (w := 3) (by decide) rfl ?_
  show PW _ _ _ 56 [some (.ref 5), some (.ref (58 + 2 * sj)), some (.int (nI q)), some (.int (plF y0 sj q)), some (.int (plF y0 sj (q + 1))), some (.int (plF y0 sj (q + 2)))] [.int (b2i (fitP 3 (plF y0 sj (q + 2))))] (E x y)
  refine PW_if_ne c_G_welcomeFrom_56 (fun _ => ?_) (fun h5 => absurd k3 (b2i_0.mp h5))
  refine PW_aload_n c_G_welcomeFrom_61 rfl ?_
  refine PW_get (v := .ref 6) c_G_welcomeFrom_62 fl_G_13 (gf_5_0 _ _) ?_
  refine PW_iload_n c_G_welcomeFrom_65 rfl ?_
  refine PW_iload c_G_welcomeFrom_66 rfl ?_
  refine PW_bipush (v := 50) c_G_welcomeFrom_68 (by decide) ?_
  refine PW_iload c_G_welcomeFrom_70 rfl ?_
  refine PW_V0 (d2 := 4) (st := []) [.int (plF y0 sj q), .int (plF y0 sj (q + 1)), .int 50, .int (plF y0 sj (q + 2))] c_G_welcomeFrom_72 lk_G_welcomeFrom_98 (po_6 _ _) rfl rfl rfl (Nat.le_of_ble_eq_true rfl) (by first | decide | omega) (Nat.le_of_ble_eq_true rfl) ?_
  refine sp_welcome_full h51 ?_
  show PW _ _ _ 75 [some (.ref 5), some (.ref (58 + 2 * sj)), some (.int (nI q)), some (.int (plF y0 sj q)), some (.int (plF y0 sj (q + 1))), some (.int (plF y0 sj (q + 2)))] [.int (-3)] (E x y)
  refine PW_bipush (v := -3) c_G_welcomeFrom_75 (by decide) ?_
  refine PW_icmp_eq c_G_welcomeFrom_77 (fun _ => ?_) (fun h6 => absurd (by decide) h6)
  refine PW_iconst (v := 0) c_G_welcomeFrom_84 (by decide) ?_
  refine PW_ireturn (ty := .boolean) c_G_welcomeFrom_85 rfl (by decide +kernel) ?_
  exact h
theorem nIm3 {m : Nat} (h : m < 10) : ¬ nI m = -3 := (by decide : ∀ m : Nat, m < 10 → ¬ nI m = -3) m h
theorem sp_wf3 {z : ZS} {post : Option Value → List PE → Prop} {x y : XS} {m : Nat} {q sj n : Nat} {y0 : XS} (hsj : sj < 6) (hb : x.1 ((58 + 2 * sj) * 8 + 1) = 2 ∧ x.1 ((58 + 2 * sj) * 8 + 3) = 0) (hz : x.1 ((58 + 2 * sj) * 8 + 4) = nI n) (hn : n ≤ 60) (hR : ∀ i, i < n → (x.2.2 (59 + 2 * sj) i).toInt32 = plF y0 sj i) (hq : q + 3 ≤ n) (hg : (0 ≤ (plF y0 sj q) ∧ (plF y0 sj q) ≤ 4) ∧ (0 ≤ (plF y0 sj (q + 1)) ∧ (plF y0 sj (q + 1)) ≤ 4) ∧ fitP 3 (plF y0 sj (q + 2))) (h51 : x.1 51 = nI m) (hm : m < 10) (h : post (some (.int 1)) (E (wcX x m (plF y0 sj q) (plF y0 sj (q + 1)) 50 (plF y0 sj (q + 2))) y)) : PW (5, 0, 0, z) m_G_welcomeFrom post 0 [some (.ref 5), some (.ref (58 + 2 * sj)), some (.int (nI q)), none, none, none] [] (E x y) := by
  obtain ⟨k1, k2, k3⟩ := hg
  have hz2 : (x.1 ((58 + 2 * sj) * 8 + 4)).toInt = n := by rw [hz, nI_toInt (by omega)]
  have hz0 : 0 ≤ (x.1 ((58 + 2 * sj) * 8 + 4)).toInt := by omega
  have hp : 0 ≤ (nI q).toInt ∧ 0 ≤ (3 : Int32).toInt ∧ (3 : Int32).toInt ≤ (x.1 ((58 + 2 * sj) * 8 + 4)).toInt ∧ (nI q).toInt ≤ (x.1 ((58 + 2 * sj) * 8 + 4)).toInt - (3 : Int32).toInt := by rw [hz2, nI_toInt (by omega), show (3 : Int32).toInt = 3 by decide]; omega
  refine PW_aload_n c_G_welcomeFrom_0 rfl ?_
  refine PW_iload_n c_G_welcomeFrom_1 rfl ?_
  refine PW_iconst (v := 3) c_G_welcomeFrom_2 (by decide) ?_
  refine PW_V0 (d2 := 1) (st := []) [.int (nI q), .int 3] c_G_welcomeFrom_3 lk_G_welcomeFrom_114 (sh_po _ _ hsj) rfl rfl rfl (Nat.le_of_ble_eq_true rfl) (by first | decide | omega) (Nat.le_of_ble_eq_true rfl) ?_
  show PW _ _ _ 0 [some (.ref (58 + 2 * sj)), some (.int (nI q)), some (.int 3)] [] (E x y)
  refine PW_aload_n c_F_hasBytes_0 rfl ?_
  refine PW_V0 (d2 := 0) (st := []) [] c_F_hasBytes_1 lk_F_hasBytes_41 (sh_po _ _ hsj) rfl rfl rfl (Nat.le_of_ble_eq_true rfl) (by first | decide | omega) (Nat.le_of_ble_eq_true rfl) ?_
  refine sp_F_holdsBytes hsj  ?_
  show PW _ _ _ 4 [some (.ref (58 + 2 * sj)), some (.int (nI q)), some (.int 3)] [.int (b2i (x.1 ((58 + 2 * sj) * 8 + 1) = 2 ∧ x.1 ((58 + 2 * sj) * 8 + 3) = 0))] (E x y)
  refine PW_if_eq c_F_hasBytes_4 (fun h0 => absurd hb (b2i_0.mp h0)) (fun _ => ?_)
  refine PW_aload_n c_F_hasBytes_7 rfl ?_
  refine PW_iload_n c_F_hasBytes_8 rfl ?_
  refine PW_iload_n c_F_hasBytes_9 rfl ?_
  refine PW_V0 (d2 := 0) (st := []) [.int (nI q), .int 3] c_F_hasBytes_10 lk_F_hasBytes_47 (sh_po _ _ hsj) rfl rfl rfl (Nat.le_of_ble_eq_true rfl) (by first | decide | omega) (Nat.le_of_ble_eq_true rfl) ?_
  refine sp_F_hasPlaces hsj hz0 ?_
  show PW _ _ _ 13 [some (.ref (58 + 2 * sj)), some (.int (nI q)), some (.int 3)] [.int (b2i (0 ≤ (nI q).toInt ∧ 0 ≤ (3 : Int32).toInt ∧ (3 : Int32).toInt ≤ (x.1 ((58 + 2 * sj) * 8 + 4)).toInt ∧ (nI q).toInt ≤ (x.1 ((58 + 2 * sj) * 8 + 4)).toInt - (3 : Int32).toInt))] (E x y)
  refine PW_if_eq c_F_hasBytes_13 (fun h1 => absurd hp (b2i_0.mp h1)) (fun _ => ?_)
  refine PW_iconst (v := 1) c_F_hasBytes_16 (by decide) ?_
  refine PW_goto c_F_hasBytes_17 ?_
  refine PW_ireturn (ty := .boolean) c_F_hasBytes_21 rfl (by decide +kernel) ?_
  show PW _ _ _ 6 [some (.ref 5), some (.ref (58 + 2 * sj)), some (.int (nI q)), none, none, none] [.int 1] (E x y)
  refine PW_if_ne c_G_welcomeFrom_6 (fun _ => ?_) (fun h2 => absurd h2 (by decide))
  refine PW_aload_n c_G_welcomeFrom_11 rfl ?_
  refine PW_iload_n c_G_welcomeFrom_12 rfl ?_
  refine PW_V0 (d2 := 2) (st := []) [.int (nI q)] c_G_welcomeFrom_13 lk_G_welcomeFrom_117 (sh_po _ _ hsj) rfl rfl rfl (Nat.le_of_ble_eq_true rfl) (by first | decide | omega) (Nat.le_of_ble_eq_true rfl) ?_
  refine sp_F_small hsj hb hz hn (i := q) rfl (by omega) ?_
  rw [if_pos (by omega), hR q (by omega)]
  show PW _ _ _ 16 [some (.ref 5), some (.ref (58 + 2 * sj)), some (.int (nI q)), none, none, none] [.int (plF y0 sj q)] (E x y)
  refine PW_istore_n (i := 3) (L2 := [some (.ref 5), some (.ref (58 + 2 * sj)), some (.int (nI q)), some (.int (plF y0 sj q)), none, none]) c_G_welcomeFrom_16 rfl (Nat.le_of_ble_eq_true rfl) rfl rfl ?_
  refine PW_aload_n c_G_welcomeFrom_17 rfl ?_
  refine PW_iload_n c_G_welcomeFrom_18 rfl ?_
  refine PW_iconst (v := 1) c_G_welcomeFrom_19 (by decide) ?_
  refine PW_iadd c_G_welcomeFrom_20 ?_
  refine PW_V0 (d2 := 2) (st := []) [.int ((nI q) + 1)] c_G_welcomeFrom_21 lk_G_welcomeFrom_117 (sh_po _ _ hsj) rfl rfl rfl (Nat.le_of_ble_eq_true rfl) (by first | decide | omega) (Nat.le_of_ble_eq_true rfl) ?_
  refine sp_F_small hsj hb hz hn (i := (q + 1)) (by rw [show (1 : Int32) = nI 1 from rfl, nI_add]) (by omega) ?_
  rw [if_pos (by omega), hR (q + 1) (by omega)]
  show PW _ _ _ 24 [some (.ref 5), some (.ref (58 + 2 * sj)), some (.int (nI q)), some (.int (plF y0 sj q)), none, none] [.int (plF y0 sj (q + 1))] (E x y)
  refine PW_istore (i := 4) (L2 := [some (.ref 5), some (.ref (58 + 2 * sj)), some (.int (nI q)), some (.int (plF y0 sj q)), some (.int (plF y0 sj (q + 1))), none]) c_G_welcomeFrom_24 (Nat.le_of_ble_eq_true rfl) rfl rfl ?_
  refine PW_aload_n c_G_welcomeFrom_26 rfl ?_
  refine PW_iload_n c_G_welcomeFrom_27 rfl ?_
  refine PW_iconst (v := 2) c_G_welcomeFrom_28 (by decide) ?_
  refine PW_iadd c_G_welcomeFrom_29 ?_
  refine PW_V0 (d2 := 2) (st := []) [.int ((nI q) + 2)] c_G_welcomeFrom_30 lk_G_welcomeFrom_117 (sh_po _ _ hsj) rfl rfl rfl (Nat.le_of_ble_eq_true rfl) (by first | decide | omega) (Nat.le_of_ble_eq_true rfl) ?_
  refine sp_F_small hsj hb hz hn (i := (q + 2)) (by rw [show (2 : Int32) = nI 2 from rfl, nI_add]) (by omega) ?_
  rw [if_pos (by omega), hR (q + 2) (by omega)]
  show PW _ _ _ 33 [some (.ref 5), some (.ref (58 + 2 * sj)), some (.int (nI q)), some (.int (plF y0 sj q)), some (.int (plF y0 sj (q + 1))), none] [.int (plF y0 sj (q + 2))] (E x y)
  refine PW_istore (i := 5) (L2 := [some (.ref 5), some (.ref (58 + 2 * sj)), some (.int (nI q)), some (.int (plF y0 sj q)), some (.int (plF y0 sj (q + 1))), some (.int (plF y0 sj (q + 2)))]) c_G_welcomeFrom_33 (Nat.le_of_ble_eq_true rfl) rfl rfl ?_
  refine PW_iload_n c_G_welcomeFrom_35 rfl ?_
  refine PW_S0 (d2 := 0) (st := []) [.int (plF y0 sj q)] c_G_welcomeFrom_36 lk_G_welcomeFrom_121 rfl rfl rfl (Nat.le_of_ble_eq_true rfl) (by first | decide | omega) (Nat.le_of_ble_eq_true rfl) ?_
  refine sp_H_isRoom  ?_
  show PW _ _ _ 39 [some (.ref 5), some (.ref (58 + 2 * sj)), some (.int (nI q)), some (.int (plF y0 sj q)), some (.int (plF y0 sj (q + 1))), some (.int (plF y0 sj (q + 2)))] [.int (b2i (0 ≤ (plF y0 sj q) ∧ (plF y0 sj q) ≤ 4))] (E x y)
  refine PW_if_eq c_G_welcomeFrom_39 (fun h3 => absurd k1 (b2i_0.mp h3)) (fun _ => ?_)
  refine PW_iload c_G_welcomeFrom_42 rfl ?_
  refine PW_S0 (d2 := 0) (st := []) [.int (plF y0 sj (q + 1))] c_G_welcomeFrom_44 lk_G_welcomeFrom_121 rfl rfl rfl (Nat.le_of_ble_eq_true rfl) (by first | decide | omega) (Nat.le_of_ble_eq_true rfl) ?_
  refine sp_H_isRoom  ?_
  show PW _ _ _ 47 [some (.ref 5), some (.ref (58 + 2 * sj)), some (.int (nI q)), some (.int (plF y0 sj q)), some (.int (plF y0 sj (q + 1))), some (.int (plF y0 sj (q + 2)))] [.int (b2i (0 ≤ (plF y0 sj (q + 1)) ∧ (plF y0 sj (q + 1)) ≤ 4))] (E x y)
  refine PW_if_eq c_G_welcomeFrom_47 (fun h4 => absurd k2 (b2i_0.mp h4)) (fun _ => ?_)
  refine PW_iconst (v := 3) c_G_welcomeFrom_50 (by decide) ?_
  refine PW_iload c_G_welcomeFrom_51 rfl ?_
  refine PW_S0 (d2 := 0) (st := []) [.int 3, .int (plF y0 sj (q + 2))] c_G_welcomeFrom_53 lk_G_welcomeFrom_94 rfl rfl rfl (Nat.le_of_ble_eq_true rfl) (by first | decide | omega) (Nat.le_of_ble_eq_true rfl) ?_
  refine sp_H_fits8 (w := 3) (by decide) rfl ?_
  show PW _ _ _ 56 [some (.ref 5), some (.ref (58 + 2 * sj)), some (.int (nI q)), some (.int (plF y0 sj q)), some (.int (plF y0 sj (q + 1))), some (.int (plF y0 sj (q + 2)))] [.int (b2i (fitP 3 (plF y0 sj (q + 2))))] (E x y)
  refine PW_if_ne c_G_welcomeFrom_56 (fun _ => ?_) (fun h5 => absurd k3 (b2i_0.mp h5))
  refine PW_aload_n c_G_welcomeFrom_61 rfl ?_
  refine PW_get (v := .ref 6) c_G_welcomeFrom_62 fl_G_13 (gf_5_0 _ _) ?_
  refine PW_iload_n c_G_welcomeFrom_65 rfl ?_
  refine PW_iload c_G_welcomeFrom_66 rfl ?_
  refine PW_bipush (v := 50) c_G_welcomeFrom_68 (by decide) ?_
  refine PW_iload c_G_welcomeFrom_70 rfl ?_
  refine PW_V0 (d2 := 4) (st := []) [.int (plF y0 sj q), .int (plF y0 sj (q + 1)), .int 50, .int (plF y0 sj (q + 2))] c_G_welcomeFrom_72 lk_G_welcomeFrom_98 (po_6 _ _) rfl rfl rfl (Nat.le_of_ble_eq_true rfl) (by first | decide | omega) (Nat.le_of_ble_eq_true rfl) ?_
  refine sp_welcome h51 hm ?_
  show PW _ _ _ 75 [some (.ref 5), some (.ref (58 + 2 * sj)), some (.int (nI q)), some (.int (plF y0 sj q)), some (.int (plF y0 sj (q + 1))), some (.int (plF y0 sj (q + 2)))] [.int (nI m)] (E (wcX x m (plF y0 sj q) (plF y0 sj (q + 1)) 50 (plF y0 sj (q + 2))) y)
  refine PW_bipush (v := -3) c_G_welcomeFrom_75 (by decide) ?_
  refine PW_icmp_eq c_G_welcomeFrom_77 (fun h6 => absurd h6 (fun q => absurd (show nI m = -3 from q) (nIm3 hm))) (fun h6 => ?_)
  refine PW_iconst (v := 1) c_G_welcomeFrom_80 (by decide) ?_
  refine PW_goto c_G_welcomeFrom_81 ?_
  refine PW_ireturn (ty := .boolean) c_G_welcomeFrom_85 rfl (by decide +kernel) ?_
  exact h
