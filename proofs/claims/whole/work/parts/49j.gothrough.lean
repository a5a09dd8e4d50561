theorem sp_go {z : ZS} {post : Option Value → List PE → Prop} {y : XS} {XX : XS} {pj qj n0 n1 N0 N1 : Nat} {X : XS} (hpj : pj < 6) (hn0 : n0 ≤ 60) (hqj : qj < 6) (hn1 : n1 ≤ 60) (hNd0 : ldF (plF y pj) n0 12 0 = N0) (hNd1 : ldF (plF y qj) n1 12 0 = N1) {x : XS} (hX : xS x X) (hb0 : x.1 ((58 + 2 * pj) * 8 + 1) = 2 ∧ x.1 ((58 + 2 * pj) * 8 + 3) = 0) (hz0 : x.1 ((58 + 2 * pj) * 8 + 4) = nI n0) (hR0 : ∀ i, i < n0 → (x.2.2 (59 + 2 * pj) i).toInt32 = plF y pj i) (hb1 : x.1 ((58 + 2 * qj) * 8 + 1) = 2 ∧ x.1 ((58 + 2 * qj) * 8 + 3) = 0) (hz1 : x.1 ((58 + 2 * qj) * 8 + 4) = nI n1) (hR1 : ∀ i, i < n1 → (x.2.2 (59 + 2 * qj) i).toInt32 = plF y qj i) (h : post none (E XX y)) (HG : ∀ {l6 l7 l8 l9 : Option Value}, post none (E XX y) → PW (6, 0, 0, z) m_P_goThrough post 14 [some (.ref 35), some (.ref (58 + 2 * pj)), some (.ref (58 + 2 * qj)), some (.int (nI N0)), some (.int (nI N1)), some (.int 0), l6, l7, l8, l9] [] (E X y)) : PW (6, 0, 0, z) m_P_goThrough post 0 [some (.ref 35), some (.ref (58 + 2 * pj)), some (.ref (58 + 2 * qj)), none, none, none, none, none, none, none] [] (E X y) := by
  have hXb0 : X.1 ((58 + 2 * pj) * 8 + 1) = 2 ∧ X.1 ((58 + 2 * pj) * 8 + 3) = 0 := by rw [hX.1 _ (by omega), hX.1 _ (by omega)]; exact hb0
  have hXz0 : X.1 ((58 + 2 * pj) * 8 + 4) = nI n0 := by rw [hX.1 _ (by omega)]; exact hz0
  have hXR0 : ∀ i, i < n0 → (X.2.2 (59 + 2 * pj) i).toInt32 = plF y pj i := fun i hi => by rw [hX.2.2]; exact hR0 i hi
  have hXb1 : X.1 ((58 + 2 * qj) * 8 + 1) = 2 ∧ X.1 ((58 + 2 * qj) * 8 + 3) = 0 := by rw [hX.1 _ (by omega), hX.1 _ (by omega)]; exact hb1
  have hXz1 : X.1 ((58 + 2 * qj) * 8 + 4) = nI n1 := by rw [hX.1 _ (by omega)]; exact hz1
  have hXR1 : ∀ i, i < n1 → (X.2.2 (59 + 2 * qj) i).toInt32 = plF y qj i := fun i hi => by rw [hX.2.2]; exact hR1 i hi
  refine PW_aload_n c_P_goThrough_0 rfl ?_
  refine PW_V0 (d2 := 3) (st := []) [] c_P_goThrough_1 lk_P_goThrough_46 (sh_po _ _ hpj) rfl rfl rfl (Nat.le_of_ble_eq_true rfl) (by first | decide | omega) (Nat.le_of_ble_eq_true rfl) ?_
  refine sp_F_lead (gs := plF y pj) hpj hXb0 hXz0 hn0 hXR0 ?_
  rw [hNd0]
  show PW _ _ _ 4 [some (.ref 35), some (.ref (58 + 2 * pj)), some (.ref (58 + 2 * qj)), none, none, none, none, none, none, none] [.int (nI N0)] (E X y)
  refine PW_istore_n (i := 3) (L2 := [some (.ref 35), some (.ref (58 + 2 * pj)), some (.ref (58 + 2 * qj)), some (.int (nI N0)), none, none, none, none, none, none]) c_P_goThrough_4 rfl (Nat.le_of_ble_eq_true rfl) rfl rfl ?_
  refine PW_aload_n c_P_goThrough_5 rfl ?_
  refine PW_V0 (d2 := 3) (st := []) [] c_P_goThrough_6 lk_P_goThrough_46 (sh_po _ _ hqj) rfl rfl rfl (Nat.le_of_ble_eq_true rfl) (by first | decide | omega) (Nat.le_of_ble_eq_true rfl) ?_
  refine sp_F_lead (gs := plF y qj) hqj hXb1 hXz1 hn1 hXR1 ?_
  rw [hNd1]
  show PW _ _ _ 9 [some (.ref 35), some (.ref (58 + 2 * pj)), some (.ref (58 + 2 * qj)), some (.int (nI N0)), none, none, none, none, none, none] [.int (nI N1)] (E X y)
  refine PW_istore (i := 4) (L2 := [some (.ref 35), some (.ref (58 + 2 * pj)), some (.ref (58 + 2 * qj)), some (.int (nI N0)), some (.int (nI N1)), none, none, none, none, none]) c_P_goThrough_9 (Nat.le_of_ble_eq_true rfl) rfl rfl ?_
  refine PW_iconst (v := 0) c_P_goThrough_11 (by decide) ?_
  refine PW_istore (i := 5) (L2 := [some (.ref 35), some (.ref (58 + 2 * pj)), some (.ref (58 + 2 * qj)), some (.int (nI N0)), some (.int (nI N1)), some (.int 0), none, none, none, none]) c_P_goThrough_12 (Nat.le_of_ble_eq_true rfl) rfl rfl ?_
  exact HG (l6 := none) (l7 := none) (l8 := none) (l9 := none) h
theorem or_dup (a b : Int32) : a ||| b ||| (b ||| a) = a ||| b := bt_ext fun i hi => by
  simp only [bt_or]
  cases bt a i <;> cases bt b i <;> rfl
theorem mx_le {a b : Int32} (h : a ≤ b) : (if a < b then b else a) = b := by
  by_cases q : a < b
  · rw [if_pos q]
  · rw [if_neg q]
    rw [Int32.le_iff_toInt_le] at h
    rw [Int32.lt_iff_toInt_lt] at q
    exact Int32.toInt_inj.mp (by omega)
