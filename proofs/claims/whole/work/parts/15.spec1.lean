theorem sp_M_within {z : ZS} {post : Option Value → List PE → Prop} {x y : XS}  {v a b : Int32}  (h : post (some (.int (b2i (a ≤ v ∧ v ≤ b)))) (E x y)) : PW (0, 0, 0, z) m_M_within post 0 [some (.int v), some (.int a), some (.int b)] [] (E x y) := by
  refine PW_iload_n c_M_within_0 rfl ?_
  refine PW_iload_n c_M_within_1 rfl ?_
  refine PW_icmp_lt c_M_within_2 (fun h0 => ?_) (fun h0 => ?_)
  · refine PW_iconst (v := 0) c_M_within_14 (by decide) ?_
    refine PW_ireturn (ty := .boolean) c_M_within_15 rfl (by decide +kernel) ?_
    exact pq0 h (by simp only [Int32.lt_iff_toInt_lt, Int32.le_iff_toInt_le, Int32.not_lt, Int32.not_le, ← Int32.toInt_inj, tiA] at *; omega)
  · refine PW_iload_n c_M_within_5 rfl ?_
    refine PW_iload_n c_M_within_6 rfl ?_
    refine PW_icmp_gt c_M_within_7 (fun h1 => ?_) (fun h1 => ?_)
    · refine PW_iconst (v := 0) c_M_within_14 (by decide) ?_
      refine PW_ireturn (ty := .boolean) c_M_within_15 rfl (by decide +kernel) ?_
      exact pq0 h (by simp only [Int32.lt_iff_toInt_lt, Int32.le_iff_toInt_le, Int32.not_lt, Int32.not_le, ← Int32.toInt_inj, tiA] at *; omega)
    · refine PW_iconst (v := 1) c_M_within_10 (by decide) ?_
      refine PW_goto c_M_within_11 ?_
      refine PW_ireturn (ty := .boolean) c_M_within_15 rfl (by decide +kernel) ?_
      exact pq1 h (by simp only [Int32.lt_iff_toInt_lt, Int32.le_iff_toInt_le, Int32.not_lt, Int32.not_le, ← Int32.toInt_inj, tiA] at *; omega)
theorem sp_M_isGuest {z : ZS} {post : Option Value → List PE → Prop} {x y : XS}  {g : Int32}  (h : post (some (.int (b2i (0 ≤ g ∧ g ≤ y.1 561 - 1)))) (E x y)) : PW (1, 0, 0, z) m_M_isGuest post 0 [some (.ref 70), some (.int g)] [] (E x y) := by
  refine PW_iload_n c_M_isGuest_0 rfl ?_
  refine PW_iconst (v := 0) c_M_isGuest_1 (by decide) ?_
  refine PW_aload_n c_M_isGuest_2 rfl ?_
  refine PW_get (v := .int (y.1 561)) c_M_isGuest_3 fl_M_128 (gf_70_1 _ _) ?_
  refine PW_iconst (v := 1) c_M_isGuest_6 (by decide) ?_
  refine PW_isub c_M_isGuest_7 ?_
  refine PW_S0 (d2 := 0) (st := []) [.int g, .int 0, .int ((y.1 561) - 1)] c_M_isGuest_8 lk_M_isGuest_131 rfl rfl rfl (Nat.le_of_ble_eq_true rfl) (by first | decide | omega) (Nat.le_of_ble_eq_true rfl) ?_
  refine sp_M_within  ?_
  show PW _ _ _ 11 [some (.ref 70), some (.int g)] [.int (b2i ((0 : Int32) ≤ g ∧ g ≤ ((y.1 561) - 1)))] (E x y)
  refine PW_ireturn (ty := .boolean) c_M_isGuest_11 rfl (nb_b2i _) ?_
  exact h
theorem sp_M_isRoom {z : ZS} {post : Option Value → List PE → Prop} {x y : XS}  {r : Int32}  (h : post (some (.int (b2i (0 ≤ r ∧ r ≤ 4)))) (E x y)) : PW (1, 0, 0, z) m_M_isRoom post 0 [some (.int r)] [] (E x y) := by
  refine PW_iload_n c_M_isRoom_0 rfl ?_
  refine PW_iconst (v := 0) c_M_isRoom_1 (by decide) ?_
  refine PW_iconst (v := 4) c_M_isRoom_2 (by decide) ?_
  refine PW_S0 (d2 := 0) (st := []) [.int r, .int 0, .int 4] c_M_isRoom_3 lk_M_isRoom_131 rfl rfl rfl (Nat.le_of_ble_eq_true rfl) (by first | decide | omega) (Nat.le_of_ble_eq_true rfl) ?_
  refine sp_M_within  ?_
  show PW _ _ _ 6 [some (.int r)] [.int (b2i ((0 : Int32) ≤ r ∧ r ≤ (4 : Int32)))] (E x y)
  refine PW_ireturn (ty := .boolean) c_M_isRoom_6 rfl (nb_b2i _) ?_
  exact h
theorem sp_M_isShelf {z : ZS} {post : Option Value → List PE → Prop} {x y : XS}  {s : Int32}  (h : post (some (.int (b2i (0 ≤ s ∧ s ≤ 5)))) (E x y)) : PW (1, 0, 0, z) m_M_isShelf post 0 [some (.int s)] [] (E x y) := by
  refine PW_iload_n c_M_isShelf_0 rfl ?_
  refine PW_iconst (v := 0) c_M_isShelf_1 (by decide) ?_
  refine PW_iconst (v := 5) c_M_isShelf_2 (by decide) ?_
  refine PW_S0 (d2 := 0) (st := []) [.int s, .int 0, .int 5] c_M_isShelf_3 lk_M_isShelf_131 rfl rfl rfl (Nat.le_of_ble_eq_true rfl) (by first | decide | omega) (Nat.le_of_ble_eq_true rfl) ?_
  refine sp_M_within  ?_
  show PW _ _ _ 6 [some (.int s)] [.int (b2i ((0 : Int32) ≤ s ∧ s ≤ (5 : Int32)))] (E x y)
  refine PW_ireturn (ty := .boolean) c_M_isShelf_6 rfl (nb_b2i _) ?_
  exact h
theorem sp_M_isTime {z : ZS} {post : Option Value → List PE → Prop} {x y : XS}  {r : Int32}  (h : post (some (.int (b2i (0 ≤ r ∧ 0 ≤ r / 100 ∧ r / 100 ≤ 4)))) (E x y)) : PW (2, 0, 0, z) m_M_isTime post 0 [some (.int r)] [] (E x y) := by
  refine PW_iload_n c_M_isTime_0 rfl ?_
  refine PW_if_lt c_M_isTime_1 (fun h0 => ?_) (fun h0 => ?_)
  · refine PW_iconst (v := 0) c_M_isTime_18 (by decide) ?_
    refine PW_ireturn (ty := .boolean) c_M_isTime_19 rfl (by decide +kernel) ?_
    exact pq0 h (fun q => absurd q.1 (Int32.not_le.mpr h0))
  · refine PW_iload_n c_M_isTime_4 rfl ?_
    refine PW_bipush (v := 100) c_M_isTime_5 (by decide) ?_
    refine PW_idiv c_M_isTime_7 (by decide) ?_
    refine PW_S0 (d2 := 1) (st := []) [.int (r / 100)] c_M_isTime_8 lk_M_isTime_135 rfl rfl rfl (Nat.le_of_ble_eq_true rfl) (by first | decide | omega) (Nat.le_of_ble_eq_true rfl) ?_
    refine sp_M_isRoom  ?_
    show PW _ _ _ 11 [some (.int r)] [.int (b2i (0 ≤ (r / 100) ∧ (r / 100) ≤ 4))] (E x y)
    refine PW_if_eq c_M_isTime_11 (fun h1 => ?_) (fun h1 => ?_)
    · replace h1 := b2i_0.mp h1
      refine PW_iconst (v := 0) c_M_isTime_18 (by decide) ?_
      refine PW_ireturn (ty := .boolean) c_M_isTime_19 rfl (by decide +kernel) ?_
      exact pq0 h (fun q => h1 ⟨q.2.1, q.2.2⟩)
    · replace h1 := b2i_n0.mp h1
      refine PW_iconst (v := 1) c_M_isTime_14 (by decide) ?_
      refine PW_goto c_M_isTime_15 ?_
      refine PW_ireturn (ty := .boolean) c_M_isTime_19 rfl (by decide +kernel) ?_
      exact pq1 h ⟨Int32.not_lt.mp h0, h1.1, h1.2⟩
theorem sp_M_isBody {z : ZS} {post : Option Value → List PE → Prop} {x y : XS}  {b : Int32}  (h : post (some (.int (b2i (0 ≤ b ∧ b ≤ y.1 609 - 1)))) (E x y)) : PW (1, 0, 0, z) m_M_isBody post 0 [some (.ref 70), some (.int b)] [] (E x y) := by
  refine PW_iload_n c_M_isBody_0 rfl ?_
  refine PW_iconst (v := 0) c_M_isBody_1 (by decide) ?_
  refine PW_aload_n c_M_isBody_2 rfl ?_
  refine PW_get (v := .int (y.1 609)) c_M_isBody_3 fl_M_355 (gf_70_49 _ _) ?_
  refine PW_iconst (v := 1) c_M_isBody_6 (by decide) ?_
  refine PW_isub c_M_isBody_7 ?_
  refine PW_S0 (d2 := 0) (st := []) [.int b, .int 0, .int ((y.1 609) - 1)] c_M_isBody_8 lk_M_isBody_131 rfl rfl rfl (Nat.le_of_ble_eq_true rfl) (by first | decide | omega) (Nat.le_of_ble_eq_true rfl) ?_
  refine sp_M_within  ?_
  show PW _ _ _ 11 [some (.ref 70), some (.int b)] [.int (b2i ((0 : Int32) ≤ b ∧ b ≤ ((y.1 609) - 1)))] (E x y)
  refine PW_ireturn (ty := .boolean) c_M_isBody_11 rfl (nb_b2i _) ?_
  exact h
theorem sp_H_isRoom {z : ZS} {post : Option Value → List PE → Prop} {x y : XS}  {r : Int32}  (h : post (some (.int (b2i (0 ≤ r ∧ r ≤ 4)))) (E x y)) : PW (0, 0, 0, z) m_H_isRoom post 0 [some (.int r)] [] (E x y) := by
  refine PW_iload_n c_H_isRoom_0 rfl ?_
  refine PW_if_lt c_H_isRoom_1 (fun h0 => ?_) (fun h0 => ?_)
  · refine PW_iconst (v := 0) c_H_isRoom_13 (by decide) ?_
    refine PW_ireturn (ty := .boolean) c_H_isRoom_14 rfl (by decide +kernel) ?_
    exact pq0 h (by simp only [Int32.lt_iff_toInt_lt, Int32.le_iff_toInt_le, Int32.not_lt, Int32.not_le, ← Int32.toInt_inj, tiA] at *; omega)
  · refine PW_iload_n c_H_isRoom_4 rfl ?_
    refine PW_iconst (v := 5) c_H_isRoom_5 (by decide) ?_
    refine PW_icmp_ge c_H_isRoom_6 (fun h1 => ?_) (fun h1 => ?_)
    · refine PW_iconst (v := 0) c_H_isRoom_13 (by decide) ?_
      refine PW_ireturn (ty := .boolean) c_H_isRoom_14 rfl (by decide +kernel) ?_
      exact pq0 h (by simp only [Int32.lt_iff_toInt_lt, Int32.le_iff_toInt_le, Int32.not_lt, Int32.not_le, ← Int32.toInt_inj, tiA] at *; omega)
    · refine PW_iconst (v := 1) c_H_isRoom_9 (by decide) ?_
      refine PW_goto c_H_isRoom_10 ?_
      refine PW_ireturn (ty := .boolean) c_H_isRoom_14 rfl (by decide +kernel) ?_
      exact pq1 h (by simp only [Int32.lt_iff_toInt_lt, Int32.le_iff_toInt_le, Int32.not_lt, Int32.not_le, ← Int32.toInt_inj, tiA] at *; omega)
theorem sp_B_isKind {z : ZS} {post : Option Value → List PE → Prop} {x y : XS}  {k : Int32}  (h : post (some (.int (b2i (0 ≤ k ∧ k ≤ 7)))) (E x y)) : PW (0, 0, 0, z) m_B_isKind post 0 [some (.int k)] [] (E x y) := by
  refine PW_iload_n c_B_isKind_0 rfl ?_
  refine PW_if_lt c_B_isKind_1 (fun h0 => ?_) (fun h0 => ?_)
  · refine PW_iconst (v := 0) c_B_isKind_14 (by decide) ?_
    refine PW_ireturn (ty := .boolean) c_B_isKind_15 rfl (by decide +kernel) ?_
    exact pq0 h (by simp only [Int32.lt_iff_toInt_lt, Int32.le_iff_toInt_le, Int32.not_lt, Int32.not_le, ← Int32.toInt_inj, tiA] at *; omega)
  · refine PW_iload_n c_B_isKind_4 rfl ?_
    refine PW_bipush (v := 8) c_B_isKind_5 (by decide) ?_
    refine PW_icmp_ge c_B_isKind_7 (fun h1 => ?_) (fun h1 => ?_)
    · refine PW_iconst (v := 0) c_B_isKind_14 (by decide) ?_
      refine PW_ireturn (ty := .boolean) c_B_isKind_15 rfl (by decide +kernel) ?_
      exact pq0 h (by simp only [Int32.lt_iff_toInt_lt, Int32.le_iff_toInt_le, Int32.not_lt, Int32.not_le, ← Int32.toInt_inj, tiA] at *; omega)
    · refine PW_iconst (v := 1) c_B_isKind_10 (by decide) ?_
      refine PW_goto c_B_isKind_11 ?_
      refine PW_ireturn (ty := .boolean) c_B_isKind_15 rfl (by decide +kernel) ?_
      exact pq1 h (by simp only [Int32.lt_iff_toInt_lt, Int32.le_iff_toInt_le, Int32.not_lt, Int32.not_le, ← Int32.toInt_inj, tiA] at *; omega)
