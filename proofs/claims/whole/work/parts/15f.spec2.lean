theorem isB {b v : Int32} {n : Nat} (e : v = nI n) (hn : n < 2 ^ 30) : (0 ≤ b ∧ b ≤ v - 1) ↔ (0 ≤ b.toInt ∧ b.toInt < n) := by
  rw [e, Int32.le_iff_toInt_le, Int32.le_iff_toInt_le, show (1 : Int32) = nI 1 from rfl, pk_sub_toInt (by omega) (by omega), tiA.1]
  omega
theorem b2i_c {p q : Prop} [Decidable p] [Decidable q] (h : p ↔ q) : b2i p = b2i q := by
  unfold b2i
  by_cases hp : p
  · rw [if_pos hp, if_pos (h.mp hp)]
  · rw [if_neg hp, if_neg (fun z => hp (h.mpr z))]
def nB (y : XS) : Nat := (y.1 609).toNatClampNeg
def WB (y : XS) : Prop := y.1 609 = nI (nB y) ∧ nB y ≤ 50
theorem WB_of {x y : XS} (h : CPb x y) : WB y ∧ x.1 434 = y.1 609 ∧ ∀ i, i < nB y → x.2.1 55 i = y.2.1 102 i ∧ 0 ≤ (y.2.1 102 i).toInt ∧ (y.2.1 102 i).toInt < 8 := by
  obtain ⟨⟨b, h1, h2, h3, h4⟩, -⟩ := h
  have e : nB y = b := by unfold nB; rw [h2]; exact nI_clamp (by omega)
  exact ⟨⟨by rw [e]; exact h2, by rw [e]; exact h1⟩, by rw [h3, h2], fun i hi => h4 i (by rw [← e]; exact hi)⟩
theorem sp_M_isGuest2 {z : ZS} {post : Option Value → List PE → Prop} {x y : XS}  {g : Int32} (hW : WG y) (h : post (some (.int (b2i (0 ≤ g.toInt ∧ g.toInt < (nG y : Int))))) (E x y)) : PW (1, 0, 0, z) m_M_isGuest post 0 [some (.ref 70), some (.int g)] [] (E x y) := by
  refine PW_iload_n c_M_isGuest_0 rfl ?_
  refine PW_iconst (v := 0) c_M_isGuest_1 (by decide) ?_
  refine PW_aload_n c_M_isGuest_2 rfl ?_
  refine PW_get (v := .int (y.1 561)) c_M_isGuest_3 fl_M_128 (gf_70_1 _ _) ?_
  refine PW_iconst (v := 1) c_M_isGuest_6 (by decide) ?_
  refine PW_isub c_M_isGuest_7 ?_
  refine PW_S0 (d2 := 0) (st := []) [.int g, .int 0, .int ((y.1 561) - 1)] c_M_isGuest_8 lk_M_isGuest_131 rfl rfl rfl (Nat.le_of_ble_eq_true rfl) (by first | decide | omega) (Nat.le_of_ble_eq_true rfl) ?_
  refine sp_M_within  ?_
  show PW _ _ _ 11 [some (.ref 70), some (.int g)] [.int (b2i ((0 : Int32) ≤ g ∧ g ≤ ((y.1 561) - 1)))] (E x y)
  refine PW_ireturn (ty := .boolean) c_M_isGuest_11 rfl (nb_b2i _) ?_
  exact pqi h (b2i_c (isB hW.1 (by have := hW.2; omega)).symm)
theorem sp_M_isBody2 {z : ZS} {post : Option Value → List PE → Prop} {x y : XS}  {b : Int32} (hB : WB y) (h : post (some (.int (b2i (0 ≤ b.toInt ∧ b.toInt < (nB y : Int))))) (E x y)) : PW (1, 0, 0, z) m_M_isBody post 0 [some (.ref 70), some (.int b)] [] (E x y) := by
  refine PW_iload_n c_M_isBody_0 rfl ?_
  refine PW_iconst (v := 0) c_M_isBody_1 (by decide) ?_
  refine PW_aload_n c_M_isBody_2 rfl ?_
  refine PW_get (v := .int (y.1 609)) c_M_isBody_3 fl_M_355 (gf_70_49 _ _) ?_
  refine PW_iconst (v := 1) c_M_isBody_6 (by decide) ?_
  refine PW_isub c_M_isBody_7 ?_
  refine PW_S0 (d2 := 0) (st := []) [.int b, .int 0, .int ((y.1 609) - 1)] c_M_isBody_8 lk_M_isBody_131 rfl rfl rfl (Nat.le_of_ble_eq_true rfl) (by first | decide | omega) (Nat.le_of_ble_eq_true rfl) ?_
  refine sp_M_within  ?_
  show PW _ _ _ 11 [some (.ref 70), some (.int b)] [.int (b2i ((0 : Int32) ≤ b ∧ b ≤ ((y.1 609) - 1)))] (E x y)
  refine PW_ireturn (ty := .boolean) c_M_isBody_11 rfl (nb_b2i _) ?_
  exact pqi h (b2i_c (isB hB.1 (by have := hB.2; omega)).symm)
theorem sp_H_isGuest {z : ZS} {post : Option Value → List PE → Prop} {x y : XS}  {g : Int32} (hW : WG y) (hx : x.1 51 = y.1 561) (h : post (some (.int (b2i (0 ≤ g.toInt ∧ g.toInt < (nG y : Int))))) (E x y)) : PW (0, 0, 0, z) m_H_isGuest post 0 [some (.ref 6), some (.int g)] [] (E x y) := by
  have hq : (x.1 51).toInt = nG y := by rw [hx, hW.1, nI_toInt (by have := hW.2; omega)]
  have hq2 := hW.2
  refine PW_iload_n c_H_isGuest_0 rfl ?_
  refine PW_if_lt c_H_isGuest_1 (fun h0 => ?_) (fun h0 => ?_)
  · refine PW_iconst (v := 0) c_H_isGuest_22 (by decide) ?_
    refine PW_ireturn (ty := .boolean) c_H_isGuest_23 rfl (by decide +kernel) ?_
    exact pq0 h (by simp only [Int32.lt_iff_toInt_lt, Int32.le_iff_toInt_le, Int32.not_lt, Int32.not_le, ← Int32.toInt_inj, tiA] at *; omega)
  · refine PW_iload_n c_H_isGuest_4 rfl ?_
    refine PW_aload_n c_H_isGuest_5 rfl ?_
    refine PW_get (v := .int (x.1 51)) c_H_isGuest_6 fl_H_29 (gf_6_3 _ _) ?_
    refine PW_icmp_ge c_H_isGuest_9 (fun h1 => ?_) (fun h1 => ?_)
    · refine PW_iconst (v := 0) c_H_isGuest_22 (by decide) ?_
      refine PW_ireturn (ty := .boolean) c_H_isGuest_23 rfl (by decide +kernel) ?_
      exact pq0 h (by simp only [Int32.lt_iff_toInt_lt, Int32.le_iff_toInt_le, Int32.not_lt, Int32.not_le, ← Int32.toInt_inj, tiA] at *; omega)
    · refine PW_iload_n c_H_isGuest_12 rfl ?_
      refine PW_bipush (v := 10) c_H_isGuest_13 (by decide) ?_
      refine PW_icmp_ge c_H_isGuest_15 (fun h2 => ?_) (fun h2 => ?_)
      · refine PW_iconst (v := 0) c_H_isGuest_22 (by decide) ?_
        refine PW_ireturn (ty := .boolean) c_H_isGuest_23 rfl (by decide +kernel) ?_
        exact pq0 h (by simp only [Int32.lt_iff_toInt_lt, Int32.le_iff_toInt_le, Int32.not_lt, Int32.not_le, ← Int32.toInt_inj, tiA] at *; omega)
      · refine PW_iconst (v := 1) c_H_isGuest_18 (by decide) ?_
        refine PW_goto c_H_isGuest_19 ?_
        refine PW_ireturn (ty := .boolean) c_H_isGuest_23 rfl (by decide +kernel) ?_
        exact pq1 h (by simp only [Int32.lt_iff_toInt_lt, Int32.le_iff_toInt_le, Int32.not_lt, Int32.not_le, ← Int32.toInt_inj, tiA] at *; omega)
theorem sp_B_isBody {z : ZS} {post : Option Value → List PE → Prop} {x y : XS}  {b : Int32} (hB : WB y) (hx : x.1 434 = y.1 609) (h : post (some (.int (b2i (0 ≤ b.toInt ∧ b.toInt < (nB y : Int))))) (E x y)) : PW (0, 0, 0, z) m_B_isBody post 0 [some (.ref 54), some (.int b)] [] (E x y) := by
  have hq : (x.1 434).toInt = nB y := by rw [hx, hB.1, nI_toInt (by have := hB.2; omega)]
  have hq2 := hB.2
  refine PW_iload_n c_B_isBody_0 rfl ?_
  refine PW_if_lt c_B_isBody_1 (fun h0 => ?_) (fun h0 => ?_)
  · refine PW_iconst (v := 0) c_B_isBody_22 (by decide) ?_
    refine PW_ireturn (ty := .boolean) c_B_isBody_23 rfl (by decide +kernel) ?_
    exact pq0 h (by simp only [Int32.lt_iff_toInt_lt, Int32.le_iff_toInt_le, Int32.not_lt, Int32.not_le, ← Int32.toInt_inj, tiA] at *; omega)
  · refine PW_iload_n c_B_isBody_4 rfl ?_
    refine PW_aload_n c_B_isBody_5 rfl ?_
    refine PW_get (v := .int (x.1 434)) c_B_isBody_6 fl_B_32 (gf_54_2 _ _) ?_
    refine PW_icmp_ge c_B_isBody_9 (fun h1 => ?_) (fun h1 => ?_)
    · refine PW_iconst (v := 0) c_B_isBody_22 (by decide) ?_
      refine PW_ireturn (ty := .boolean) c_B_isBody_23 rfl (by decide +kernel) ?_
      exact pq0 h (by simp only [Int32.lt_iff_toInt_lt, Int32.le_iff_toInt_le, Int32.not_lt, Int32.not_le, ← Int32.toInt_inj, tiA] at *; omega)
    · refine PW_iload_n c_B_isBody_12 rfl ?_
      refine PW_bipush (v := 50) c_B_isBody_13 (by decide) ?_
      refine PW_icmp_ge c_B_isBody_15 (fun h2 => ?_) (fun h2 => ?_)
      · refine PW_iconst (v := 0) c_B_isBody_22 (by decide) ?_
        refine PW_ireturn (ty := .boolean) c_B_isBody_23 rfl (by decide +kernel) ?_
        exact pq0 h (by simp only [Int32.lt_iff_toInt_lt, Int32.le_iff_toInt_le, Int32.not_lt, Int32.not_le, ← Int32.toInt_inj, tiA] at *; omega)
      · refine PW_iconst (v := 1) c_B_isBody_18 (by decide) ?_
        refine PW_goto c_B_isBody_19 ?_
        refine PW_ireturn (ty := .boolean) c_B_isBody_23 rfl (by decide +kernel) ?_
        exact pq1 h (by simp only [Int32.lt_iff_toInt_lt, Int32.le_iff_toInt_le, Int32.not_lt, Int32.not_le, ← Int32.toInt_inj, tiA] at *; omega)
theorem sp_M_isShelf2 {z : ZS} {post : Option Value → List PE → Prop} {x y : XS}  {s : Int32}  (h : post (some (.int (b2i (0 ≤ s.toInt ∧ s.toInt < 6)))) (E x y)) : PW (1, 0, 0, z) m_M_isShelf post 0 [some (.int s)] [] (E x y) := by
  refine PW_iload_n c_M_isShelf_0 rfl ?_
  refine PW_iconst (v := 0) c_M_isShelf_1 (by decide) ?_
  refine PW_iconst (v := 5) c_M_isShelf_2 (by decide) ?_
  refine PW_S0 (d2 := 0) (st := []) [.int s, .int 0, .int 5] c_M_isShelf_3 lk_M_isShelf_131 rfl rfl rfl (Nat.le_of_ble_eq_true rfl) (by first | decide | omega) (Nat.le_of_ble_eq_true rfl) ?_
  refine sp_M_within  ?_
  show PW _ _ _ 6 [some (.int s)] [.int (b2i ((0 : Int32) ≤ s ∧ s ≤ (5 : Int32)))] (E x y)
  refine PW_ireturn (ty := .boolean) c_M_isShelf_6 rfl (nb_b2i _) ?_
  exact pqi h (b2i_c (by simp only [Int32.le_iff_toInt_le, tiA]; omega))
theorem sp_F_isSort {z : ZS} {post : Option Value → List PE → Prop} {x y : XS}  {s : Int32}  (h : post (some (.int (b2i (0 ≤ s ∧ s ≤ 4)))) (E x y)) : PW (0, 0, 0, z) m_F_isSort post 0 [some (.int s)] [] (E x y) := by
  refine PW_iload_n c_F_isSort_0 rfl ?_
  refine PW_if_lt c_F_isSort_1 (fun h0 => ?_) (fun h0 => ?_)
  · refine PW_iconst (v := 0) c_F_isSort_13 (by decide) ?_
    refine PW_ireturn (ty := .boolean) c_F_isSort_14 rfl (by decide +kernel) ?_
    exact pq0 h (by simp only [Int32.lt_iff_toInt_lt, Int32.le_iff_toInt_le, Int32.not_lt, Int32.not_le, ← Int32.toInt_inj, tiA] at *; omega)
  · refine PW_iload_n c_F_isSort_4 rfl ?_
    refine PW_iconst (v := 4) c_F_isSort_5 (by decide) ?_
    refine PW_icmp_gt c_F_isSort_6 (fun h1 => ?_) (fun h1 => ?_)
    · refine PW_iconst (v := 0) c_F_isSort_13 (by decide) ?_
      refine PW_ireturn (ty := .boolean) c_F_isSort_14 rfl (by decide +kernel) ?_
      exact pq0 h (by simp only [Int32.lt_iff_toInt_lt, Int32.le_iff_toInt_le, Int32.not_lt, Int32.not_le, ← Int32.toInt_inj, tiA] at *; omega)
    · refine PW_iconst (v := 1) c_F_isSort_9 (by decide) ?_
      refine PW_goto c_F_isSort_10 ?_
      refine PW_ireturn (ty := .boolean) c_F_isSort_14 rfl (by decide +kernel) ?_
      exact pq1 h (by simp only [Int32.lt_iff_toInt_lt, Int32.le_iff_toInt_le, Int32.not_lt, Int32.not_le, ← Int32.toInt_inj, tiA] at *; omega)
theorem six_le {j : Nat} (h : j < 6) : ¬ (6 : Int32) ≤ nI j := by
  rw [show (6 : Int32) = nI 6 from rfl, nI_leI (by omega) (by omega)]; omega
theorem sp_shelf {z : ZS} {post : Option Value → List PE → Prop} {x y : XS} {j : Nat} (hj : j < 6) (h : post (some (.ref (58 + 2 * j))) (E x y)) : PW (0, 0, 0, z) m_G_shelfAt post 0 [some (.ref 5), some (.int (nI j))] [] (E x y) := by
  refine PW_iload_n c_G_shelfAt_0 rfl ?_
  refine PW_if_lt c_G_shelfAt_1 (fun h0 => absurd h0 (nI_pos (by omega))) (fun h0 => ?_)
  refine PW_iload_n c_G_shelfAt_4 rfl ?_
  refine PW_aload_n c_G_shelfAt_5 rfl ?_
  refine PW_get (v := .ref 57) c_G_shelfAt_6 fl_G_86 (gf_5_10 _ _) ?_
  refine PW_alen (v := 6) c_G_shelfAt_9 (ar_57 _ _) (t0 := 4) rfl (by decide) ?_
  refine PW_icmp_ge c_G_shelfAt_10 (fun h1 => absurd h1 (six_le hj)) (fun h1 => ?_)
  refine PW_aload_n c_G_shelfAt_13 rfl ?_
  refine PW_get (v := .ref 57) c_G_shelfAt_14 fl_G_86 (gf_5_10 _ _) ?_
  refine PW_iload_n c_G_shelfAt_17 rfl ?_
  refine PW_aald (j := j) c_G_shelfAt_18 (ar_57 _ _) (t0 := 4) rfl rfl (vp_in_nI hj (by decide)) (nI_clamp (by omega)) ?_
  rw [if_pos hj]
  show PW _ _ _ 19 [some (.ref 5), some (.int (nI j))] [.ref (58 + 2 * j)] (E x y)
  refine PW_goto c_G_shelfAt_19 ?_
  refine PW_areturn c_G_shelfAt_23 rfl ?_
  exact h
theorem sp_noshelf {z : ZS} {post : Option Value → List PE → Prop} {x y : XS} {s : Int32} (hs : ¬ (0 ≤ s.toInt ∧ s.toInt < 6)) (h : post (some .null) (E x y)) : PW (0, 0, 0, z) m_G_shelfAt post 0 [some (.ref 5), some (.int s)] [] (E x y) := by
  refine PW_iload_n c_G_shelfAt_0 rfl ?_
  refine PW_if_lt c_G_shelfAt_1 (fun h0 => ?_) (fun h0 => ?_)
  · refine PW_null c_G_shelfAt_22 ?_
    refine PW_areturnN c_G_shelfAt_23 rfl ?_
    exact h
  · refine PW_iload_n c_G_shelfAt_4 rfl ?_
    refine PW_aload_n c_G_shelfAt_5 rfl ?_
    refine PW_get (v := .ref 57) c_G_shelfAt_6 fl_G_86 (gf_5_10 _ _) ?_
    refine PW_alen (v := 6) c_G_shelfAt_9 (ar_57 _ _) (t0 := 4) rfl (by decide) ?_
    refine PW_icmp_ge c_G_shelfAt_10 (fun h1 => ?_) (fun h1 => ?_)
    · refine PW_null c_G_shelfAt_22 ?_
      refine PW_areturnN c_G_shelfAt_23 rfl ?_
      exact h
    · exact absurd ⟨by simp only [Int32.not_lt, Int32.le_iff_toInt_le, tiA] at h0; omega, by simp only [Int32.not_le, Int32.lt_iff_toInt_lt, tiA] at h1; omega⟩ hs
theorem sp_F_isEmpty {z : ZS} {post : Option Value → List PE → Prop} {x y : XS} {j : Nat} (hj : j < 6)   (h : post (some (.int (b2i (x.1 ((58 + 2 * j) * 8 + 1) = 0)))) (E x y)) : PW (0, 0, 0, z) m_F_isEmpty post 0 [some (.ref (58 + 2 * j))] [] (E x y) := by
  refine PW_aload_n c_F_isEmpty_0 rfl ?_
  refine PW_get (v := .int (x.1 ((58 + 2 * j) * 8 + 1))) c_F_isEmpty_1 fl_F_15 (sh_g1 _ _ hj) ?_
  refine PW_if_ne c_F_isEmpty_4 (fun h0 => ?_) (fun h0 => ?_)
  · refine PW_iconst (v := 0) c_F_isEmpty_11 (by decide) ?_
    refine PW_ireturn (ty := .boolean) c_F_isEmpty_12 rfl (by decide +kernel) ?_
    exact pq0 h (by first | assumption | (rintro ⟨q1, q2⟩; contradiction))
  · refine PW_iconst (v := 1) c_F_isEmpty_7 (by decide) ?_
    refine PW_goto c_F_isEmpty_8 ?_
    refine PW_ireturn (ty := .boolean) c_F_isEmpty_12 rfl (by decide +kernel) ?_
    exact pq1 h (by first | assumption | exact ⟨by assumption, by assumption⟩)
theorem sp_F_holdsBody {z : ZS} {post : Option Value → List PE → Prop} {x y : XS} {j : Nat} (hj : j < 6)   (h : post (some (.int (b2i (x.1 ((58 + 2 * j) * 8 + 1) = 1)))) (E x y)) : PW (0, 0, 0, z) m_F_holdsBody post 0 [some (.ref (58 + 2 * j))] [] (E x y) := by
  refine PW_aload_n c_F_holdsBody_0 rfl ?_
  refine PW_get (v := .int (x.1 ((58 + 2 * j) * 8 + 1))) c_F_holdsBody_1 fl_F_15 (sh_g1 _ _ hj) ?_
  refine PW_iconst (v := 1) c_F_holdsBody_4 (by decide) ?_
  refine PW_icmp_ne c_F_holdsBody_5 (fun h0 => ?_) (fun h0 => ?_)
  · refine PW_iconst (v := 0) c_F_holdsBody_12 (by decide) ?_
    refine PW_ireturn (ty := .boolean) c_F_holdsBody_13 rfl (by decide +kernel) ?_
    exact pq0 h (by first | assumption | (rintro ⟨q1, q2⟩; contradiction))
  · refine PW_iconst (v := 1) c_F_holdsBody_8 (by decide) ?_
    refine PW_goto c_F_holdsBody_9 ?_
    refine PW_ireturn (ty := .boolean) c_F_holdsBody_13 rfl (by decide +kernel) ?_
    exact pq1 h (by first | assumption | exact ⟨by assumption, by assumption⟩)
theorem sp_F_holdsRow {z : ZS} {post : Option Value → List PE → Prop} {x y : XS} {j : Nat} (hj : j < 6)   (h : post (some (.int (b2i (x.1 ((58 + 2 * j) * 8 + 1) = 2)))) (E x y)) : PW (0, 0, 0, z) m_F_holdsRow post 0 [some (.ref (58 + 2 * j))] [] (E x y) := by
  refine PW_aload_n c_F_holdsRow_0 rfl ?_
  refine PW_get (v := .int (x.1 ((58 + 2 * j) * 8 + 1))) c_F_holdsRow_1 fl_F_15 (sh_g1 _ _ hj) ?_
  refine PW_iconst (v := 2) c_F_holdsRow_4 (by decide) ?_
  refine PW_icmp_ne c_F_holdsRow_5 (fun h0 => ?_) (fun h0 => ?_)
  · refine PW_iconst (v := 0) c_F_holdsRow_12 (by decide) ?_
    refine PW_ireturn (ty := .boolean) c_F_holdsRow_13 rfl (by decide +kernel) ?_
    exact pq0 h (by first | assumption | (rintro ⟨q1, q2⟩; contradiction))
  · refine PW_iconst (v := 1) c_F_holdsRow_8 (by decide) ?_
    refine PW_goto c_F_holdsRow_9 ?_
    refine PW_ireturn (ty := .boolean) c_F_holdsRow_13 rfl (by decide +kernel) ?_
    exact pq1 h (by first | assumption | exact ⟨by assumption, by assumption⟩)
theorem sp_F_holdsBytes {z : ZS} {post : Option Value → List PE → Prop} {x y : XS} {j : Nat} (hj : j < 6)   (h : post (some (.int (b2i (x.1 ((58 + 2 * j) * 8 + 1) = 2 ∧ x.1 ((58 + 2 * j) * 8 + 3) = 0)))) (E x y)) : PW (0, 0, 0, z) m_F_holdsBytes post 0 [some (.ref (58 + 2 * j))] [] (E x y) := by
  refine PW_aload_n c_F_holdsBytes_0 rfl ?_
  refine PW_get (v := .int (x.1 ((58 + 2 * j) * 8 + 1))) c_F_holdsBytes_1 fl_F_15 (sh_g1 _ _ hj) ?_
  refine PW_iconst (v := 2) c_F_holdsBytes_4 (by decide) ?_
  refine PW_icmp_ne c_F_holdsBytes_5 (fun h0 => ?_) (fun h0 => ?_)
  · refine PW_iconst (v := 0) c_F_holdsBytes_19 (by decide) ?_
    refine PW_ireturn (ty := .boolean) c_F_holdsBytes_20 rfl (by decide +kernel) ?_
    exact pq0 h (by first | assumption | (rintro ⟨q1, q2⟩; contradiction))
  · refine PW_aload_n c_F_holdsBytes_8 rfl ?_
    refine PW_get (v := .int (x.1 ((58 + 2 * j) * 8 + 3))) c_F_holdsBytes_9 fl_F_19 (sh_g3 _ _ hj) ?_
    refine PW_if_ne c_F_holdsBytes_12 (fun h1 => ?_) (fun h1 => ?_)
    · refine PW_iconst (v := 0) c_F_holdsBytes_19 (by decide) ?_
      refine PW_ireturn (ty := .boolean) c_F_holdsBytes_20 rfl (by decide +kernel) ?_
      exact pq0 h (by first | assumption | (rintro ⟨q1, q2⟩; contradiction))
    · refine PW_iconst (v := 1) c_F_holdsBytes_15 (by decide) ?_
      refine PW_goto c_F_holdsBytes_16 ?_
      refine PW_ireturn (ty := .boolean) c_F_holdsBytes_20 rfl (by decide +kernel) ?_
      exact pq1 h (by first | assumption | exact ⟨by assumption, by assumption⟩)
theorem sp_F_hasPlaces {z : ZS} {post : Option Value → List PE → Prop} {x y : XS} {j : Nat} (hj : j < 6)  {i n : Int32} (hz : 0 ≤ (x.1 ((58 + 2 * j) * 8 + 4)).toInt) (h : post (some (.int (b2i (0 ≤ i.toInt ∧ 0 ≤ n.toInt ∧ n.toInt ≤ (x.1 ((58 + 2 * j) * 8 + 4)).toInt ∧ i.toInt ≤ (x.1 ((58 + 2 * j) * 8 + 4)).toInt - n.toInt)))) (E x y)) : PW (0, 0, 0, z) m_F_hasPlaces post 0 [some (.ref (58 + 2 * j)), some (.int i), some (.int n)] [] (E x y) := by
  refine PW_iload_n c_F_hasPlaces_0 rfl ?_
  refine PW_if_lt c_F_hasPlaces_1 (fun h0 => ?_) (fun h0 => ?_)
  · refine PW_iconst (v := 0) c_F_hasPlaces_30 (by decide) ?_
    refine PW_ireturn (ty := .boolean) c_F_hasPlaces_31 rfl (by decide +kernel) ?_
    exact pq0 h (by simp only [Int32.lt_iff_toInt_lt, Int32.le_iff_toInt_le, Int32.not_lt, Int32.not_le, ← Int32.toInt_inj, tiA] at *; omega)
  · refine PW_iload_n c_F_hasPlaces_4 rfl ?_
    refine PW_if_lt c_F_hasPlaces_5 (fun h1 => ?_) (fun h1 => ?_)
    · refine PW_iconst (v := 0) c_F_hasPlaces_30 (by decide) ?_
      refine PW_ireturn (ty := .boolean) c_F_hasPlaces_31 rfl (by decide +kernel) ?_
      exact pq0 h (by simp only [Int32.lt_iff_toInt_lt, Int32.le_iff_toInt_le, Int32.not_lt, Int32.not_le, ← Int32.toInt_inj, tiA] at *; omega)
    · refine PW_iload_n c_F_hasPlaces_8 rfl ?_
      refine PW_aload_n c_F_hasPlaces_9 rfl ?_
      refine PW_get (v := .int (x.1 ((58 + 2 * j) * 8 + 4))) c_F_hasPlaces_10 fl_F_25 (sh_g4 _ _ hj) ?_
      refine PW_icmp_gt c_F_hasPlaces_13 (fun h2 => ?_) (fun h2 => ?_)
      · refine PW_iconst (v := 0) c_F_hasPlaces_30 (by decide) ?_
        refine PW_ireturn (ty := .boolean) c_F_hasPlaces_31 rfl (by decide +kernel) ?_
        exact pq0 h (by simp only [Int32.lt_iff_toInt_lt, Int32.le_iff_toInt_le, Int32.not_lt, Int32.not_le, ← Int32.toInt_inj, tiA] at *; omega)
      · refine PW_iload_n c_F_hasPlaces_16 rfl ?_
        refine PW_aload_n c_F_hasPlaces_17 rfl ?_
        refine PW_get (v := .int (x.1 ((58 + 2 * j) * 8 + 4))) c_F_hasPlaces_18 fl_F_25 (sh_g4 _ _ hj) ?_
        refine PW_iload_n c_F_hasPlaces_21 rfl ?_
        refine PW_isub c_F_hasPlaces_22 ?_
        refine PW_icmp_gt c_F_hasPlaces_23 (fun h3 => ?_) (fun h3 => ?_)
        · refine PW_iconst (v := 0) c_F_hasPlaces_30 (by decide) ?_
          refine PW_ireturn (ty := .boolean) c_F_hasPlaces_31 rfl (by decide +kernel) ?_
          have e := ti_sub (x := x.1 ((58 + 2 * j) * 8 + 4)) (y := n) (by have := ti_rng n; simp only [Int32.not_lt, Int32.le_iff_toInt_le, tiA] at h1; omega) (by have := ti_rng (x.1 ((58 + 2 * j) * 8 + 4)); simp only [Int32.not_lt, Int32.le_iff_toInt_le, tiA] at h1; omega)
          exact pq0 h (by simp only [Int32.lt_iff_toInt_lt, Int32.le_iff_toInt_le, Int32.not_lt, Int32.not_le, ← Int32.toInt_inj, tiA] at *; omega)
        · refine PW_iconst (v := 1) c_F_hasPlaces_26 (by decide) ?_
          refine PW_goto c_F_hasPlaces_27 ?_
          refine PW_ireturn (ty := .boolean) c_F_hasPlaces_31 rfl (by decide +kernel) ?_
          have e := ti_sub (x := x.1 ((58 + 2 * j) * 8 + 4)) (y := n) (by have := ti_rng n; simp only [Int32.not_lt, Int32.le_iff_toInt_le, tiA] at h1; omega) (by have := ti_rng (x.1 ((58 + 2 * j) * 8 + 4)); simp only [Int32.not_lt, Int32.le_iff_toInt_le, tiA] at h1; omega)
          exact pq1 h (by simp only [Int32.lt_iff_toInt_lt, Int32.le_iff_toInt_le, Int32.not_lt, Int32.not_le, ← Int32.toInt_inj, tiA] at *; omega)
