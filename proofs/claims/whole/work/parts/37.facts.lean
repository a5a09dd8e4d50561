/-! the facts of guests and ways, by their number -/
abbrev hasP (y : XS) (w : Nat) (p : Int32) : Prop := (w = 7 ∧ 0 ≤ p.toInt ∧ p.toInt < 4) ∨ (w < 7 ∧ 0 ≤ p.toInt ∧ p.toInt < (nG y : Int))
abbrev fitP (w : Nat) (v : Int32) : Prop := ([0, 0, 0, 0, 0, 0, 1, 1] : List Int).getD w 0 ≤ v.toInt ∧ v.toInt ≤ ([4, 4, 99, 9, 1, 1, 11, 9] : List Int).getD w 0
theorem tiB : (7 : Int32).toInt = 7 ∧ (4 : Int32).toInt = 4 ∧ (99 : Int32).toInt = 99 := by decide
theorem sp_H_hasFact8 {z : ZS} {post : Option Value → List PE → Prop} {x y : XS} {p u : Int32} {w : Nat} (hw : w < 8) (eu : u = nI w) (hW : WG y) (hx : x.1 51 = y.1 561) (h : post (some (.int (b2i (hasP y w p)))) (E x y)) : PW (1, 0, 0, z) m_H_hasFact post 0 [some (.ref 6), some (.int p), some (.int u)] [] (E x y) := by
  subst eu
  rcases (show w = 0 ∨ w = 1 ∨ w = 2 ∨ w = 3 ∨ w = 4 ∨ w = 5 ∨ w = 6 ∨ w = 7 by omega) with rfl | rfl | rfl | rfl | rfl | rfl | rfl | rfl
  · show PW (1, 0, 0, z) m_H_hasFact post 0 [some (.ref 6), some (.int p), some (.int 0)] [] (E x y)
    refine PW_iload_n c_H_hasFact_0 rfl ?_
    refine PW_bipush (v := 7) c_H_hasFact_1 (by decide) ?_
    refine PW_icmp_ne c_H_hasFact_3 (fun _ => ?_) (fun h0 => absurd h0 (by decide))
    refine PW_iload_n c_H_hasFact_25 rfl ?_
    refine PW_if_lt c_H_hasFact_26 (fun h1 => absurd h1 (by decide)) (fun _ => ?_)
    refine PW_iload_n c_H_hasFact_29 rfl ?_
    refine PW_aload_n c_H_hasFact_30 rfl ?_
    refine PW_get (v := .ref 7) c_H_hasFact_31 fl_H_13 (gf_6_0 _ _) ?_
    refine PW_alen (v := 7) c_H_hasFact_34 (ar_7 _ _) (t0 := 5) rfl (by decide) ?_
    refine PW_icmp_ge c_H_hasFact_35 (fun h2 => absurd h2 (by decide)) (fun _ => ?_)
    refine PW_aload_n c_H_hasFact_38 rfl ?_
    refine PW_iload_n c_H_hasFact_39 rfl ?_
    refine PW_V0 (d2 := 0) (st := []) [.int p] c_H_hasFact_40 lk_H_hasFact_37 (po_6 _ _) rfl rfl rfl (Nat.le_of_ble_eq_true rfl) (by first | decide | omega) (Nat.le_of_ble_eq_true rfl) ?_
    refine sp_H_isGuest hW hx ?_
    show PW _ _ _ 43 [some (.ref 6), some (.int p), some (.int 0)] [.int (b2i (0 ≤ p.toInt ∧ p.toInt < (nG y : Int)))] (E x y)
    refine PW_if_eq c_H_hasFact_43 (fun h3 => ?_) (fun h3 => ?_)
    · replace h3 := b2i_0.mp h3
      refine PW_iconst (v := 0) c_H_hasFact_50 (by decide) ?_
      refine PW_ireturn (ty := .boolean) c_H_hasFact_51 rfl (by decide +kernel) ?_
      exact pq0 h (by simp only [Int32.lt_iff_toInt_lt, Int32.le_iff_toInt_le, Int32.not_lt, Int32.not_le, tiA] at *; omega)
    · replace h3 := b2i_n0.mp h3
      refine PW_iconst (v := 1) c_H_hasFact_46 (by decide) ?_
      refine PW_goto c_H_hasFact_47 ?_
      refine PW_ireturn (ty := .boolean) c_H_hasFact_51 rfl (by decide +kernel) ?_
      exact pq1 h (by simp only [Int32.lt_iff_toInt_lt, Int32.le_iff_toInt_le, Int32.not_lt, Int32.not_le, tiA] at *; omega)
  · show PW (1, 0, 0, z) m_H_hasFact post 0 [some (.ref 6), some (.int p), some (.int 1)] [] (E x y)
    refine PW_iload_n c_H_hasFact_0 rfl ?_
    refine PW_bipush (v := 7) c_H_hasFact_1 (by decide) ?_
    refine PW_icmp_ne c_H_hasFact_3 (fun _ => ?_) (fun h0 => absurd h0 (by decide))
    refine PW_iload_n c_H_hasFact_25 rfl ?_
    refine PW_if_lt c_H_hasFact_26 (fun h1 => absurd h1 (by decide)) (fun _ => ?_)
    refine PW_iload_n c_H_hasFact_29 rfl ?_
    refine PW_aload_n c_H_hasFact_30 rfl ?_
    refine PW_get (v := .ref 7) c_H_hasFact_31 fl_H_13 (gf_6_0 _ _) ?_
    refine PW_alen (v := 7) c_H_hasFact_34 (ar_7 _ _) (t0 := 5) rfl (by decide) ?_
    refine PW_icmp_ge c_H_hasFact_35 (fun h2 => absurd h2 (by decide)) (fun _ => ?_)
    refine PW_aload_n c_H_hasFact_38 rfl ?_
    refine PW_iload_n c_H_hasFact_39 rfl ?_
    refine PW_V0 (d2 := 0) (st := []) [.int p] c_H_hasFact_40 lk_H_hasFact_37 (po_6 _ _) rfl rfl rfl (Nat.le_of_ble_eq_true rfl) (by first | decide | omega) (Nat.le_of_ble_eq_true rfl) ?_
    refine sp_H_isGuest hW hx ?_
    show PW _ _ _ 43 [some (.ref 6), some (.int p), some (.int 1)] [.int (b2i (0 ≤ p.toInt ∧ p.toInt < (nG y : Int)))] (E x y)
    refine PW_if_eq c_H_hasFact_43 (fun h3 => ?_) (fun h3 => ?_)
    · replace h3 := b2i_0.mp h3
      refine PW_iconst (v := 0) c_H_hasFact_50 (by decide) ?_
      refine PW_ireturn (ty := .boolean) c_H_hasFact_51 rfl (by decide +kernel) ?_
      exact pq0 h (by simp only [Int32.lt_iff_toInt_lt, Int32.le_iff_toInt_le, Int32.not_lt, Int32.not_le, tiA] at *; omega)
    · replace h3 := b2i_n0.mp h3
      refine PW_iconst (v := 1) c_H_hasFact_46 (by decide) ?_
      refine PW_goto c_H_hasFact_47 ?_
      refine PW_ireturn (ty := .boolean) c_H_hasFact_51 rfl (by decide +kernel) ?_
      exact pq1 h (by simp only [Int32.lt_iff_toInt_lt, Int32.le_iff_toInt_le, Int32.not_lt, Int32.not_le, tiA] at *; omega)
  · show PW (1, 0, 0, z) m_H_hasFact post 0 [some (.ref 6), some (.int p), some (.int 2)] [] (E x y)
    refine PW_iload_n c_H_hasFact_0 rfl ?_
    refine PW_bipush (v := 7) c_H_hasFact_1 (by decide) ?_
    refine PW_icmp_ne c_H_hasFact_3 (fun _ => ?_) (fun h0 => absurd h0 (by decide))
    refine PW_iload_n c_H_hasFact_25 rfl ?_
    refine PW_if_lt c_H_hasFact_26 (fun h1 => absurd h1 (by decide)) (fun _ => ?_)
    refine PW_iload_n c_H_hasFact_29 rfl ?_
    refine PW_aload_n c_H_hasFact_30 rfl ?_
    refine PW_get (v := .ref 7) c_H_hasFact_31 fl_H_13 (gf_6_0 _ _) ?_
    refine PW_alen (v := 7) c_H_hasFact_34 (ar_7 _ _) (t0 := 5) rfl (by decide) ?_
    refine PW_icmp_ge c_H_hasFact_35 (fun h2 => absurd h2 (by decide)) (fun _ => ?_)
    refine PW_aload_n c_H_hasFact_38 rfl ?_
    refine PW_iload_n c_H_hasFact_39 rfl ?_
    refine PW_V0 (d2 := 0) (st := []) [.int p] c_H_hasFact_40 lk_H_hasFact_37 (po_6 _ _) rfl rfl rfl (Nat.le_of_ble_eq_true rfl) (by first | decide | omega) (Nat.le_of_ble_eq_true rfl) ?_
    refine sp_H_isGuest hW hx ?_
    show PW _ _ _ 43 [some (.ref 6), some (.int p), some (.int 2)] [.int (b2i (0 ≤ p.toInt ∧ p.toInt < (nG y : Int)))] (E x y)
    refine PW_if_eq c_H_hasFact_43 (fun h3 => ?_) (fun h3 => ?_)
    · replace h3 := b2i_0.mp h3
      refine PW_iconst (v := 0) c_H_hasFact_50 (by decide) ?_
      refine PW_ireturn (ty := .boolean) c_H_hasFact_51 rfl (by decide +kernel) ?_
      exact pq0 h (by simp only [Int32.lt_iff_toInt_lt, Int32.le_iff_toInt_le, Int32.not_lt, Int32.not_le, tiA] at *; omega)
    · replace h3 := b2i_n0.mp h3
      refine PW_iconst (v := 1) c_H_hasFact_46 (by decide) ?_
      refine PW_goto c_H_hasFact_47 ?_
      refine PW_ireturn (ty := .boolean) c_H_hasFact_51 rfl (by decide +kernel) ?_
      exact pq1 h (by simp only [Int32.lt_iff_toInt_lt, Int32.le_iff_toInt_le, Int32.not_lt, Int32.not_le, tiA] at *; omega)
  · show PW (1, 0, 0, z) m_H_hasFact post 0 [some (.ref 6), some (.int p), some (.int 3)] [] (E x y)
    refine PW_iload_n c_H_hasFact_0 rfl ?_
    refine PW_bipush (v := 7) c_H_hasFact_1 (by decide) ?_
    refine PW_icmp_ne c_H_hasFact_3 (fun _ => ?_) (fun h0 => absurd h0 (by decide))
    refine PW_iload_n c_H_hasFact_25 rfl ?_
    refine PW_if_lt c_H_hasFact_26 (fun h1 => absurd h1 (by decide)) (fun _ => ?_)
    refine PW_iload_n c_H_hasFact_29 rfl ?_
    refine PW_aload_n c_H_hasFact_30 rfl ?_
    refine PW_get (v := .ref 7) c_H_hasFact_31 fl_H_13 (gf_6_0 _ _) ?_
    refine PW_alen (v := 7) c_H_hasFact_34 (ar_7 _ _) (t0 := 5) rfl (by decide) ?_
    refine PW_icmp_ge c_H_hasFact_35 (fun h2 => absurd h2 (by decide)) (fun _ => ?_)
    refine PW_aload_n c_H_hasFact_38 rfl ?_
    refine PW_iload_n c_H_hasFact_39 rfl ?_
    refine PW_V0 (d2 := 0) (st := []) [.int p] c_H_hasFact_40 lk_H_hasFact_37 (po_6 _ _) rfl rfl rfl (Nat.le_of_ble_eq_true rfl) (by first | decide | omega) (Nat.le_of_ble_eq_true rfl) ?_
    refine sp_H_isGuest hW hx ?_
    show PW _ _ _ 43 [some (.ref 6), some (.int p), some (.int 3)] [.int (b2i (0 ≤ p.toInt ∧ p.toInt < (nG y : Int)))] (E x y)
    refine PW_if_eq c_H_hasFact_43 (fun h3 => ?_) (fun h3 => ?_)
    · replace h3 := b2i_0.mp h3
      refine PW_iconst (v := 0) c_H_hasFact_50 (by decide) ?_
      refine PW_ireturn (ty := .boolean) c_H_hasFact_51 rfl (by decide +kernel) ?_
      exact pq0 h (by simp only [Int32.lt_iff_toInt_lt, Int32.le_iff_toInt_le, Int32.not_lt, Int32.not_le, tiA] at *; omega)
    · replace h3 := b2i_n0.mp h3
      refine PW_iconst (v := 1) c_H_hasFact_46 (by decide) ?_
      refine PW_goto c_H_hasFact_47 ?_
      refine PW_ireturn (ty := .boolean) c_H_hasFact_51 rfl (by decide +kernel) ?_
      exact pq1 h (by simp only [Int32.lt_iff_toInt_lt, Int32.le_iff_toInt_le, Int32.not_lt, Int32.not_le, tiA] at *; omega)
  · show PW (1, 0, 0, z) m_H_hasFact post 0 [some (.ref 6), some (.int p), some (.int 4)] [] (E x y)
    refine PW_iload_n c_H_hasFact_0 rfl ?_
    refine PW_bipush (v := 7) c_H_hasFact_1 (by decide) ?_
    refine PW_icmp_ne c_H_hasFact_3 (fun _ => ?_) (fun h0 => absurd h0 (by decide))
    refine PW_iload_n c_H_hasFact_25 rfl ?_
    refine PW_if_lt c_H_hasFact_26 (fun h1 => absurd h1 (by decide)) (fun _ => ?_)
    refine PW_iload_n c_H_hasFact_29 rfl ?_
    refine PW_aload_n c_H_hasFact_30 rfl ?_
    refine PW_get (v := .ref 7) c_H_hasFact_31 fl_H_13 (gf_6_0 _ _) ?_
    refine PW_alen (v := 7) c_H_hasFact_34 (ar_7 _ _) (t0 := 5) rfl (by decide) ?_
    refine PW_icmp_ge c_H_hasFact_35 (fun h2 => absurd h2 (by decide)) (fun _ => ?_)
    refine PW_aload_n c_H_hasFact_38 rfl ?_
    refine PW_iload_n c_H_hasFact_39 rfl ?_
    refine PW_V0 (d2 := 0) (st := []) [.int p] c_H_hasFact_40 lk_H_hasFact_37 (po_6 _ _) rfl rfl rfl (Nat.le_of_ble_eq_true rfl) (by first | decide | omega) (Nat.le_of_ble_eq_true rfl) ?_
    refine sp_H_isGuest hW hx ?_
    show PW _ _ _ 43 [some (.ref 6), some (.int p), some (.int 4)] [.int (b2i (0 ≤ p.toInt ∧ p.toInt < (nG y : Int)))] (E x y)
    refine PW_if_eq c_H_hasFact_43 (fun h3 => ?_) (fun h3 => ?_)
    · replace h3 := b2i_0.mp h3
      refine PW_iconst (v := 0) c_H_hasFact_50 (by decide) ?_
      refine PW_ireturn (ty := .boolean) c_H_hasFact_51 rfl (by decide +kernel) ?_
      exact pq0 h (by simp only [Int32.lt_iff_toInt_lt, Int32.le_iff_toInt_le, Int32.not_lt, Int32.not_le, tiA] at *; omega)
    · replace h3 := b2i_n0.mp h3
      refine PW_iconst (v := 1) c_H_hasFact_46 (by decide) ?_
      refine PW_goto c_H_hasFact_47 ?_
      refine PW_ireturn (ty := .boolean) c_H_hasFact_51 rfl (by decide +kernel) ?_
      exact pq1 h (by simp only [Int32.lt_iff_toInt_lt, Int32.le_iff_toInt_le, Int32.not_lt, Int32.not_le, tiA] at *; omega)
  · show PW (1, 0, 0, z) m_H_hasFact post 0 [some (.ref 6), some (.int p), some (.int 5)] [] (E x y)
    refine PW_iload_n c_H_hasFact_0 rfl ?_
    refine PW_bipush (v := 7) c_H_hasFact_1 (by decide) ?_
    refine PW_icmp_ne c_H_hasFact_3 (fun _ => ?_) (fun h0 => absurd h0 (by decide))
    refine PW_iload_n c_H_hasFact_25 rfl ?_
    refine PW_if_lt c_H_hasFact_26 (fun h1 => absurd h1 (by decide)) (fun _ => ?_)
    refine PW_iload_n c_H_hasFact_29 rfl ?_
    refine PW_aload_n c_H_hasFact_30 rfl ?_
    refine PW_get (v := .ref 7) c_H_hasFact_31 fl_H_13 (gf_6_0 _ _) ?_
    refine PW_alen (v := 7) c_H_hasFact_34 (ar_7 _ _) (t0 := 5) rfl (by decide) ?_
    refine PW_icmp_ge c_H_hasFact_35 (fun h2 => absurd h2 (by decide)) (fun _ => ?_)
    refine PW_aload_n c_H_hasFact_38 rfl ?_
    refine PW_iload_n c_H_hasFact_39 rfl ?_
    refine PW_V0 (d2 := 0) (st := []) [.int p] c_H_hasFact_40 lk_H_hasFact_37 (po_6 _ _) rfl rfl rfl (Nat.le_of_ble_eq_true rfl) (by first | decide | omega) (Nat.le_of_ble_eq_true rfl) ?_
    refine sp_H_isGuest hW hx ?_
    show PW _ _ _ 43 [some (.ref 6), some (.int p), some (.int 5)] [.int (b2i (0 ≤ p.toInt ∧ p.toInt < (nG y : Int)))] (E x y)
    refine PW_if_eq c_H_hasFact_43 (fun h3 => ?_) (fun h3 => ?_)
    · replace h3 := b2i_0.mp h3
      refine PW_iconst (v := 0) c_H_hasFact_50 (by decide) ?_
      refine PW_ireturn (ty := .boolean) c_H_hasFact_51 rfl (by decide +kernel) ?_
      exact pq0 h (by simp only [Int32.lt_iff_toInt_lt, Int32.le_iff_toInt_le, Int32.not_lt, Int32.not_le, tiA] at *; omega)
    · replace h3 := b2i_n0.mp h3
      refine PW_iconst (v := 1) c_H_hasFact_46 (by decide) ?_
      refine PW_goto c_H_hasFact_47 ?_
      refine PW_ireturn (ty := .boolean) c_H_hasFact_51 rfl (by decide +kernel) ?_
      exact pq1 h (by simp only [Int32.lt_iff_toInt_lt, Int32.le_iff_toInt_le, Int32.not_lt, Int32.not_le, tiA] at *; omega)
  · show PW (1, 0, 0, z) m_H_hasFact post 0 [some (.ref 6), some (.int p), some (.int 6)] [] (E x y)
    refine PW_iload_n c_H_hasFact_0 rfl ?_
    refine PW_bipush (v := 7) c_H_hasFact_1 (by decide) ?_
    refine PW_icmp_ne c_H_hasFact_3 (fun _ => ?_) (fun h0 => absurd h0 (by decide))
    refine PW_iload_n c_H_hasFact_25 rfl ?_
    refine PW_if_lt c_H_hasFact_26 (fun h1 => absurd h1 (by decide)) (fun _ => ?_)
    refine PW_iload_n c_H_hasFact_29 rfl ?_
    refine PW_aload_n c_H_hasFact_30 rfl ?_
    refine PW_get (v := .ref 7) c_H_hasFact_31 fl_H_13 (gf_6_0 _ _) ?_
    refine PW_alen (v := 7) c_H_hasFact_34 (ar_7 _ _) (t0 := 5) rfl (by decide) ?_
    refine PW_icmp_ge c_H_hasFact_35 (fun h2 => absurd h2 (by decide)) (fun _ => ?_)
    refine PW_aload_n c_H_hasFact_38 rfl ?_
    refine PW_iload_n c_H_hasFact_39 rfl ?_
    refine PW_V0 (d2 := 0) (st := []) [.int p] c_H_hasFact_40 lk_H_hasFact_37 (po_6 _ _) rfl rfl rfl (Nat.le_of_ble_eq_true rfl) (by first | decide | omega) (Nat.le_of_ble_eq_true rfl) ?_
    refine sp_H_isGuest hW hx ?_
    show PW _ _ _ 43 [some (.ref 6), some (.int p), some (.int 6)] [.int (b2i (0 ≤ p.toInt ∧ p.toInt < (nG y : Int)))] (E x y)
    refine PW_if_eq c_H_hasFact_43 (fun h3 => ?_) (fun h3 => ?_)
    · replace h3 := b2i_0.mp h3
      refine PW_iconst (v := 0) c_H_hasFact_50 (by decide) ?_
      refine PW_ireturn (ty := .boolean) c_H_hasFact_51 rfl (by decide +kernel) ?_
      exact pq0 h (by simp only [Int32.lt_iff_toInt_lt, Int32.le_iff_toInt_le, Int32.not_lt, Int32.not_le, tiA] at *; omega)
    · replace h3 := b2i_n0.mp h3
      refine PW_iconst (v := 1) c_H_hasFact_46 (by decide) ?_
      refine PW_goto c_H_hasFact_47 ?_
      refine PW_ireturn (ty := .boolean) c_H_hasFact_51 rfl (by decide +kernel) ?_
      exact pq1 h (by simp only [Int32.lt_iff_toInt_lt, Int32.le_iff_toInt_le, Int32.not_lt, Int32.not_le, tiA] at *; omega)
  · show PW (1, 0, 0, z) m_H_hasFact post 0 [some (.ref 6), some (.int p), some (.int 7)] [] (E x y)
    refine PW_iload_n c_H_hasFact_0 rfl ?_
    refine PW_bipush (v := 7) c_H_hasFact_1 (by decide) ?_
    refine PW_icmp_ne c_H_hasFact_3 (fun h0 => absurd (by decide) h0) (fun _ => ?_)
    refine PW_iload_n c_H_hasFact_6 rfl ?_
    refine PW_if_lt c_H_hasFact_7 (fun h1 => ?_) (fun h1 => ?_)
    · refine PW_iconst (v := 0) c_H_hasFact_23 (by decide) ?_
      refine PW_ireturn (ty := .boolean) c_H_hasFact_24 rfl (by decide +kernel) ?_
      exact pq0 h (by simp only [Int32.lt_iff_toInt_lt, Int32.le_iff_toInt_le, Int32.not_lt, Int32.not_le, tiA] at *; omega)
    · refine PW_iload_n c_H_hasFact_10 rfl ?_
      refine PW_aload_n c_H_hasFact_11 rfl ?_
      refine PW_get (v := .ref 15) c_H_hasFact_12 fl_H_16 (gf_6_1 _ _) ?_
      refine PW_alen (v := 4) c_H_hasFact_15 (ar_15 _ _) (t0 := 0) rfl (by decide) ?_
      refine PW_icmp_ge c_H_hasFact_16 (fun h2 => ?_) (fun h2 => ?_)
      · refine PW_iconst (v := 0) c_H_hasFact_23 (by decide) ?_
        refine PW_ireturn (ty := .boolean) c_H_hasFact_24 rfl (by decide +kernel) ?_
        exact pq0 h (by simp only [Int32.lt_iff_toInt_lt, Int32.le_iff_toInt_le, Int32.not_lt, Int32.not_le, tiA] at *; omega)
      · refine PW_iconst (v := 1) c_H_hasFact_19 (by decide) ?_
        refine PW_goto c_H_hasFact_20 ?_
        refine PW_ireturn (ty := .boolean) c_H_hasFact_24 rfl (by decide +kernel) ?_
        exact pq1 h (by simp only [Int32.lt_iff_toInt_lt, Int32.le_iff_toInt_le, Int32.not_lt, Int32.not_le, tiA] at *; omega)
theorem sp_M_isThing8 {z : ZS} {post : Option Value → List PE → Prop} {x y : XS} {p u : Int32} {w : Nat} (hw : w < 8) (eu : u = nI w) (hW : WG y) (h : post (some (.int (b2i (hasP y w p)))) (E x y)) : PW (2, 0, 0, z) m_M_isThing post 0 [some (.ref 70), some (.int p), some (.int u)] [] (E x y) := by
  subst eu
  rcases (show w = 0 ∨ w = 1 ∨ w = 2 ∨ w = 3 ∨ w = 4 ∨ w = 5 ∨ w = 6 ∨ w = 7 by omega) with rfl | rfl | rfl | rfl | rfl | rfl | rfl | rfl
  · show PW (2, 0, 0, z) m_M_isThing post 0 [some (.ref 70), some (.int p), some (.int 0)] [] (E x y)
    refine PW_iload_n c_M_isThing_0 rfl ?_
    refine PW_bipush (v := 7) c_M_isThing_1 (by decide) ?_
    refine PW_icmp_ne c_M_isThing_3 (fun _ => ?_) (fun h0 => absurd h0 (by decide))
    refine PW_iload_n c_M_isThing_15 rfl ?_
    refine PW_iconst (v := 0) c_M_isThing_16 (by decide) ?_
    refine PW_bipush (v := 6) c_M_isThing_17 (by decide) ?_
    refine PW_S0 (d2 := 0) (st := []) [.int 0, .int 0, .int 6] c_M_isThing_19 lk_M_isThing_131 rfl rfl rfl (Nat.le_of_ble_eq_true rfl) (by first | decide | omega) (Nat.le_of_ble_eq_true rfl) ?_
    refine sp_M_within  ?_
    show PW _ _ _ 22 [some (.ref 70), some (.int p), some (.int 0)] [.int (b2i ((0 : Int32) ≤ (0 : Int32) ∧ (0 : Int32) ≤ (6 : Int32)))] (E x y)
    refine PW_if_eq c_M_isThing_22 (fun h1 => absurd (by decide) (b2i_0.mp h1)) (fun _ => ?_)
    refine PW_aload_n c_M_isThing_25 rfl ?_
    refine PW_iload_n c_M_isThing_26 rfl ?_
    refine PW_V0 (d2 := 1) (st := []) [.int p] c_M_isThing_27 lk_M_isThing_162 (po_70 _ _) rfl rfl rfl (Nat.le_of_ble_eq_true rfl) (by first | decide | omega) (Nat.le_of_ble_eq_true rfl) ?_
    refine sp_M_isGuest2 hW ?_
    show PW _ _ _ 30 [some (.ref 70), some (.int p), some (.int 0)] [.int (b2i (0 ≤ p.toInt ∧ p.toInt < (nG y : Int)))] (E x y)
    refine PW_if_eq c_M_isThing_30 (fun h2 => ?_) (fun h2 => ?_)
    · replace h2 := b2i_0.mp h2
      refine PW_iconst (v := 0) c_M_isThing_37 (by decide) ?_
      refine PW_ireturn (ty := .boolean) c_M_isThing_38 rfl (by decide +kernel) ?_
      exact pq0 h (by simp only [Int32.lt_iff_toInt_lt, Int32.le_iff_toInt_le, Int32.not_lt, Int32.not_le, tiA] at *; omega)
    · replace h2 := b2i_n0.mp h2
      refine PW_iconst (v := 1) c_M_isThing_33 (by decide) ?_
      refine PW_goto c_M_isThing_34 ?_
      refine PW_ireturn (ty := .boolean) c_M_isThing_38 rfl (by decide +kernel) ?_
      exact pq1 h (by simp only [Int32.lt_iff_toInt_lt, Int32.le_iff_toInt_le, Int32.not_lt, Int32.not_le, tiA] at *; omega)
  · show PW (2, 0, 0, z) m_M_isThing post 0 [some (.ref 70), some (.int p), some (.int 1)] [] (E x y)
    refine PW_iload_n c_M_isThing_0 rfl ?_
    refine PW_bipush (v := 7) c_M_isThing_1 (by decide) ?_
    refine PW_icmp_ne c_M_isThing_3 (fun _ => ?_) (fun h0 => absurd h0 (by decide))
    refine PW_iload_n c_M_isThing_15 rfl ?_
    refine PW_iconst (v := 0) c_M_isThing_16 (by decide) ?_
    refine PW_bipush (v := 6) c_M_isThing_17 (by decide) ?_
    refine PW_S0 (d2 := 0) (st := []) [.int 1, .int 0, .int 6] c_M_isThing_19 lk_M_isThing_131 rfl rfl rfl (Nat.le_of_ble_eq_true rfl) (by first | decide | omega) (Nat.le_of_ble_eq_true rfl) ?_
    refine sp_M_within  ?_
    show PW _ _ _ 22 [some (.ref 70), some (.int p), some (.int 1)] [.int (b2i ((0 : Int32) ≤ (1 : Int32) ∧ (1 : Int32) ≤ (6 : Int32)))] (E x y)
    refine PW_if_eq c_M_isThing_22 (fun h1 => absurd (by decide) (b2i_0.mp h1)) (fun _ => ?_)
    refine PW_aload_n c_M_isThing_25 rfl ?_
    refine PW_iload_n c_M_isThing_26 rfl ?_
    refine PW_V0 (d2 := 1) (st := []) [.int p] c_M_isThing_27 lk_M_isThing_162 (po_70 _ _) rfl rfl rfl (Nat.le_of_ble_eq_true rfl) (by first | decide | omega) (Nat.le_of_ble_eq_true rfl) ?_
    refine sp_M_isGuest2 hW ?_
    show PW _ _ _ 30 [some (.ref 70), some (.int p), some (.int 1)] [.int (b2i (0 ≤ p.toInt ∧ p.toInt < (nG y : Int)))] (E x y)
    refine PW_if_eq c_M_isThing_30 (fun h2 => ?_) (fun h2 => ?_)
    · replace h2 := b2i_0.mp h2
      refine PW_iconst (v := 0) c_M_isThing_37 (by decide) ?_
      refine PW_ireturn (ty := .boolean) c_M_isThing_38 rfl (by decide +kernel) ?_
      exact pq0 h (by simp only [Int32.lt_iff_toInt_lt, Int32.le_iff_toInt_le, Int32.not_lt, Int32.not_le, tiA] at *; omega)
    · replace h2 := b2i_n0.mp h2
      refine PW_iconst (v := 1) c_M_isThing_33 (by decide) ?_
      refine PW_goto c_M_isThing_34 ?_
      refine PW_ireturn (ty := .boolean) c_M_isThing_38 rfl (by decide +kernel) ?_
      exact pq1 h (by simp only [Int32.lt_iff_toInt_lt, Int32.le_iff_toInt_le, Int32.not_lt, Int32.not_le, tiA] at *; omega)
  · show PW (2, 0, 0, z) m_M_isThing post 0 [some (.ref 70), some (.int p), some (.int 2)] [] (E x y)
    refine PW_iload_n c_M_isThing_0 rfl ?_
    refine PW_bipush (v := 7) c_M_isThing_1 (by decide) ?_
    refine PW_icmp_ne c_M_isThing_3 (fun _ => ?_) (fun h0 => absurd h0 (by decide))
    refine PW_iload_n c_M_isThing_15 rfl ?_
    refine PW_iconst (v := 0) c_M_isThing_16 (by decide) ?_
    refine PW_bipush (v := 6) c_M_isThing_17 (by decide) ?_
    refine PW_S0 (d2 := 0) (st := []) [.int 2, .int 0, .int 6] c_M_isThing_19 lk_M_isThing_131 rfl rfl rfl (Nat.le_of_ble_eq_true rfl) (by first | decide | omega) (Nat.le_of_ble_eq_true rfl) ?_
    refine sp_M_within  ?_
    show PW _ _ _ 22 [some (.ref 70), some (.int p), some (.int 2)] [.int (b2i ((0 : Int32) ≤ (2 : Int32) ∧ (2 : Int32) ≤ (6 : Int32)))] (E x y)
    refine PW_if_eq c_M_isThing_22 (fun h1 => absurd (by decide) (b2i_0.mp h1)) (fun _ => ?_)
    refine PW_aload_n c_M_isThing_25 rfl ?_
    refine PW_iload_n c_M_isThing_26 rfl ?_
    refine PW_V0 (d2 := 1) (st := []) [.int p] c_M_isThing_27 lk_M_isThing_162 (po_70 _ _) rfl rfl rfl (Nat.le_of_ble_eq_true rfl) (by first | decide | omega) (Nat.le_of_ble_eq_true rfl) ?_
    refine sp_M_isGuest2 hW ?_
    show PW _ _ _ 30 [some (.ref 70), some (.int p), some (.int 2)] [.int (b2i (0 ≤ p.toInt ∧ p.toInt < (nG y : Int)))] (E x y)
    refine PW_if_eq c_M_isThing_30 (fun h2 => ?_) (fun h2 => ?_)
    · replace h2 := b2i_0.mp h2
      refine PW_iconst (v := 0) c_M_isThing_37 (by decide) ?_
      refine PW_ireturn (ty := .boolean) c_M_isThing_38 rfl (by decide +kernel) ?_
      exact pq0 h (by simp only [Int32.lt_iff_toInt_lt, Int32.le_iff_toInt_le, Int32.not_lt, Int32.not_le, tiA] at *; omega)
    · replace h2 := b2i_n0.mp h2
      refine PW_iconst (v := 1) c_M_isThing_33 (by decide) ?_
      refine PW_goto c_M_isThing_34 ?_
      refine PW_ireturn (ty := .boolean) c_M_isThing_38 rfl (by decide +kernel) ?_
      exact pq1 h (by simp only [Int32.lt_iff_toInt_lt, Int32.le_iff_toInt_le, Int32.not_lt, Int32.not_le, tiA] at *; omega)
  · show PW (2, 0, 0, z) m_M_isThing post 0 [some (.ref 70), some (.int p), some (.int 3)] [] (E x y)
    refine PW_iload_n c_M_isThing_0 rfl ?_
    refine PW_bipush (v := 7) c_M_isThing_1 (by decide) ?_
    refine PW_icmp_ne c_M_isThing_3 (fun _ => ?_) (fun h0 => absurd h0 (by decide))
    refine PW_iload_n c_M_isThing_15 rfl ?_
    refine PW_iconst (v := 0) c_M_isThing_16 (by decide) ?_
    refine PW_bipush (v := 6) c_M_isThing_17 (by decide) ?_
    refine PW_S0 (d2 := 0) (st := []) [.int 3, .int 0, .int 6] c_M_isThing_19 lk_M_isThing_131 rfl rfl rfl (Nat.le_of_ble_eq_true rfl) (by first | decide | omega) (Nat.le_of_ble_eq_true rfl) ?_
    refine sp_M_within  ?_
    show PW _ _ _ 22 [some (.ref 70), some (.int p), some (.int 3)] [.int (b2i ((0 : Int32) ≤ (3 : Int32) ∧ (3 : Int32) ≤ (6 : Int32)))] (E x y)
    refine PW_if_eq c_M_isThing_22 (fun h1 => absurd (by decide) (b2i_0.mp h1)) (fun _ => ?_)
    refine PW_aload_n c_M_isThing_25 rfl ?_
    refine PW_iload_n c_M_isThing_26 rfl ?_
    refine PW_V0 (d2 := 1) (st := []) [.int p] c_M_isThing_27 lk_M_isThing_162 (po_70 _ _) rfl rfl rfl (Nat.le_of_ble_eq_true rfl) (by first | decide | omega) (Nat.le_of_ble_eq_true rfl) ?_
    refine sp_M_isGuest2 hW ?_
    show PW _ _ _ 30 [some (.ref 70), some (.int p), some (.int 3)] [.int (b2i (0 ≤ p.toInt ∧ p.toInt < (nG y : Int)))] (E x y)
    refine PW_if_eq c_M_isThing_30 (fun h2 => ?_) (fun h2 => ?_)
    · replace h2 := b2i_0.mp h2
      refine PW_iconst (v := 0) c_M_isThing_37 (by decide) ?_
      refine PW_ireturn (ty := .boolean) c_M_isThing_38 rfl (by decide +kernel) ?_
      exact pq0 h (by simp only [Int32.lt_iff_toInt_lt, Int32.le_iff_toInt_le, Int32.not_lt, Int32.not_le, tiA] at *; omega)
    · replace h2 := b2i_n0.mp h2
      refine PW_iconst (v := 1) c_M_isThing_33 (by decide) ?_
      refine PW_goto c_M_isThing_34 ?_
      refine PW_ireturn (ty := .boolean) c_M_isThing_38 rfl (by decide +kernel) ?_
      exact pq1 h (by simp only [Int32.lt_iff_toInt_lt, Int32.le_iff_toInt_le, Int32.not_lt, Int32.not_le, tiA] at *; omega)
  · show PW (2, 0, 0, z) m_M_isThing post 0 [some (.ref 70), some (.int p), some (.int 4)] [] (E x y)
    refine PW_iload_n c_M_isThing_0 rfl ?_
    refine PW_bipush (v := 7) c_M_isThing_1 (by decide) ?_
    refine PW_icmp_ne c_M_isThing_3 (fun _ => ?_) (fun h0 => absurd h0 (by decide))
    refine PW_iload_n c_M_isThing_15 rfl ?_
    refine PW_iconst (v := 0) c_M_isThing_16 (by decide) ?_
    refine PW_bipush (v := 6) c_M_isThing_17 (by decide) ?_
    refine PW_S0 (d2 := 0) (st := []) [.int 4, .int 0, .int 6] c_M_isThing_19 lk_M_isThing_131 rfl rfl rfl (Nat.le_of_ble_eq_true rfl) (by first | decide | omega) (Nat.le_of_ble_eq_true rfl) ?_
    refine sp_M_within  ?_
    show PW _ _ _ 22 [some (.ref 70), some (.int p), some (.int 4)] [.int (b2i ((0 : Int32) ≤ (4 : Int32) ∧ (4 : Int32) ≤ (6 : Int32)))] (E x y)
    refine PW_if_eq c_M_isThing_22 (fun h1 => absurd (by decide) (b2i_0.mp h1)) (fun _ => ?_)
    refine PW_aload_n c_M_isThing_25 rfl ?_
    refine PW_iload_n c_M_isThing_26 rfl ?_
    refine PW_V0 (d2 := 1) (st := []) [.int p] c_M_isThing_27 lk_M_isThing_162 (po_70 _ _) rfl rfl rfl (Nat.le_of_ble_eq_true rfl) (by first | decide | omega) (Nat.le_of_ble_eq_true rfl) ?_
    refine sp_M_isGuest2 hW ?_
    show PW _ _ _ 30 [some (.ref 70), some (.int p), some (.int 4)] [.int (b2i (0 ≤ p.toInt ∧ p.toInt < (nG y : Int)))] (E x y)
    refine PW_if_eq c_M_isThing_30 (fun h2 => ?_) (fun h2 => ?_)
    · replace h2 := b2i_0.mp h2
      refine PW_iconst (v := 0) c_M_isThing_37 (by decide) ?_
      refine PW_ireturn (ty := .boolean) c_M_isThing_38 rfl (by decide +kernel) ?_
      exact pq0 h (by simp only [Int32.lt_iff_toInt_lt, Int32.le_iff_toInt_le, Int32.not_lt, Int32.not_le, tiA] at *; omega)
    · replace h2 := b2i_n0.mp h2
      refine PW_iconst (v := 1) c_M_isThing_33 (by decide) ?_
      refine PW_goto c_M_isThing_34 ?_
      refine PW_ireturn (ty := .boolean) c_M_isThing_38 rfl (by decide +kernel) ?_
      exact pq1 h (by simp only [Int32.lt_iff_toInt_lt, Int32.le_iff_toInt_le, Int32.not_lt, Int32.not_le, tiA] at *; omega)
  · show PW (2, 0, 0, z) m_M_isThing post 0 [some (.ref 70), some (.int p), some (.int 5)] [] (E x y)
    refine PW_iload_n c_M_isThing_0 rfl ?_
    refine PW_bipush (v := 7) c_M_isThing_1 (by decide) ?_
    refine PW_icmp_ne c_M_isThing_3 (fun _ => ?_) (fun h0 => absurd h0 (by decide))
    refine PW_iload_n c_M_isThing_15 rfl ?_
    refine PW_iconst (v := 0) c_M_isThing_16 (by decide) ?_
    refine PW_bipush (v := 6) c_M_isThing_17 (by decide) ?_
    refine PW_S0 (d2 := 0) (st := []) [.int 5, .int 0, .int 6] c_M_isThing_19 lk_M_isThing_131 rfl rfl rfl (Nat.le_of_ble_eq_true rfl) (by first | decide | omega) (Nat.le_of_ble_eq_true rfl) ?_
    refine sp_M_within  ?_
    show PW _ _ _ 22 [some (.ref 70), some (.int p), some (.int 5)] [.int (b2i ((0 : Int32) ≤ (5 : Int32) ∧ (5 : Int32) ≤ (6 : Int32)))] (E x y)
    refine PW_if_eq c_M_isThing_22 (fun h1 => absurd (by decide) (b2i_0.mp h1)) (fun _ => ?_)
    refine PW_aload_n c_M_isThing_25 rfl ?_
    refine PW_iload_n c_M_isThing_26 rfl ?_
    refine PW_V0 (d2 := 1) (st := []) [.int p] c_M_isThing_27 lk_M_isThing_162 (po_70 _ _) rfl rfl rfl (Nat.le_of_ble_eq_true rfl) (by first | decide | omega) (Nat.le_of_ble_eq_true rfl) ?_
    refine sp_M_isGuest2 hW ?_
    show PW _ _ _ 30 [some (.ref 70), some (.int p), some (.int 5)] [.int (b2i (0 ≤ p.toInt ∧ p.toInt < (nG y : Int)))] (E x y)
    refine PW_if_eq c_M_isThing_30 (fun h2 => ?_) (fun h2 => ?_)
    · replace h2 := b2i_0.mp h2
      refine PW_iconst (v := 0) c_M_isThing_37 (by decide) ?_
      refine PW_ireturn (ty := .boolean) c_M_isThing_38 rfl (by decide +kernel) ?_
      exact pq0 h (by simp only [Int32.lt_iff_toInt_lt, Int32.le_iff_toInt_le, Int32.not_lt, Int32.not_le, tiA] at *; omega)
    · replace h2 := b2i_n0.mp h2
      refine PW_iconst (v := 1) c_M_isThing_33 (by decide) ?_
      refine PW_goto c_M_isThing_34 ?_
      refine PW_ireturn (ty := .boolean) c_M_isThing_38 rfl (by decide +kernel) ?_
      exact pq1 h (by simp only [Int32.lt_iff_toInt_lt, Int32.le_iff_toInt_le, Int32.not_lt, Int32.not_le, tiA] at *; omega)
  · show PW (2, 0, 0, z) m_M_isThing post 0 [some (.ref 70), some (.int p), some (.int 6)] [] (E x y)
    refine PW_iload_n c_M_isThing_0 rfl ?_
    refine PW_bipush (v := 7) c_M_isThing_1 (by decide) ?_
    refine PW_icmp_ne c_M_isThing_3 (fun _ => ?_) (fun h0 => absurd h0 (by decide))
    refine PW_iload_n c_M_isThing_15 rfl ?_
    refine PW_iconst (v := 0) c_M_isThing_16 (by decide) ?_
    refine PW_bipush (v := 6) c_M_isThing_17 (by decide) ?_
    refine PW_S0 (d2 := 0) (st := []) [.int 6, .int 0, .int 6] c_M_isThing_19 lk_M_isThing_131 rfl rfl rfl (Nat.le_of_ble_eq_true rfl) (by first | decide | omega) (Nat.le_of_ble_eq_true rfl) ?_
    refine sp_M_within  ?_
    show PW _ _ _ 22 [some (.ref 70), some (.int p), some (.int 6)] [.int (b2i ((0 : Int32) ≤ (6 : Int32) ∧ (6 : Int32) ≤ (6 : Int32)))] (E x y)
    refine PW_if_eq c_M_isThing_22 (fun h1 => absurd (by decide) (b2i_0.mp h1)) (fun _ => ?_)
    refine PW_aload_n c_M_isThing_25 rfl ?_
    refine PW_iload_n c_M_isThing_26 rfl ?_
    refine PW_V0 (d2 := 1) (st := []) [.int p] c_M_isThing_27 lk_M_isThing_162 (po_70 _ _) rfl rfl rfl (Nat.le_of_ble_eq_true rfl) (by first | decide | omega) (Nat.le_of_ble_eq_true rfl) ?_
    refine sp_M_isGuest2 hW ?_
    show PW _ _ _ 30 [some (.ref 70), some (.int p), some (.int 6)] [.int (b2i (0 ≤ p.toInt ∧ p.toInt < (nG y : Int)))] (E x y)
    refine PW_if_eq c_M_isThing_30 (fun h2 => ?_) (fun h2 => ?_)
    · replace h2 := b2i_0.mp h2
      refine PW_iconst (v := 0) c_M_isThing_37 (by decide) ?_
      refine PW_ireturn (ty := .boolean) c_M_isThing_38 rfl (by decide +kernel) ?_
      exact pq0 h (by simp only [Int32.lt_iff_toInt_lt, Int32.le_iff_toInt_le, Int32.not_lt, Int32.not_le, tiA] at *; omega)
    · replace h2 := b2i_n0.mp h2
      refine PW_iconst (v := 1) c_M_isThing_33 (by decide) ?_
      refine PW_goto c_M_isThing_34 ?_
      refine PW_ireturn (ty := .boolean) c_M_isThing_38 rfl (by decide +kernel) ?_
      exact pq1 h (by simp only [Int32.lt_iff_toInt_lt, Int32.le_iff_toInt_le, Int32.not_lt, Int32.not_le, tiA] at *; omega)
  · show PW (2, 0, 0, z) m_M_isThing post 0 [some (.ref 70), some (.int p), some (.int 7)] [] (E x y)
    refine PW_iload_n c_M_isThing_0 rfl ?_
    refine PW_bipush (v := 7) c_M_isThing_1 (by decide) ?_
    refine PW_icmp_ne c_M_isThing_3 (fun h0 => absurd (by decide) h0) (fun _ => ?_)
    refine PW_iload_n c_M_isThing_6 rfl ?_
    refine PW_iconst (v := 0) c_M_isThing_7 (by decide) ?_
    refine PW_iconst (v := 3) c_M_isThing_8 (by decide) ?_
    refine PW_S0 (d2 := 0) (st := []) [.int p, .int 0, .int 3] c_M_isThing_9 lk_M_isThing_131 rfl rfl rfl (Nat.le_of_ble_eq_true rfl) (by first | decide | omega) (Nat.le_of_ble_eq_true rfl) ?_
    refine sp_M_within  ?_
    show PW _ _ _ 12 [some (.ref 70), some (.int p), some (.int 7)] [.int (b2i ((0 : Int32) ≤ p ∧ p ≤ (3 : Int32)))] (E x y)
    refine PW_goto c_M_isThing_12 ?_
    refine PW_ireturn (ty := .boolean) c_M_isThing_38 rfl (nb_b2i _) ?_
    exact pqi h (b2i_c (by simp only [Int32.le_iff_toInt_le, tiA]; omega))
theorem sp_H_fits8 {z : ZS} {post : Option Value → List PE → Prop} {x y : XS} {v u : Int32} {w : Nat} (hw : w < 8) (eu : u = nI w) (h : post (some (.int (b2i (fitP w v)))) (E x y)) : PW (0, 0, 0, z) m_H_fits post 0 [some (.int u), some (.int v)] [] (E x y) := by
  subst eu
  rcases (show w = 0 ∨ w = 1 ∨ w = 2 ∨ w = 3 ∨ w = 4 ∨ w = 5 ∨ w = 6 ∨ w = 7 by omega) with rfl | rfl | rfl | rfl | rfl | rfl | rfl | rfl
  · show PW (0, 0, 0, z) m_H_fits post 0 [some (.int 0), some (.int v)] [] (E x y)
    refine PW_iload_n c_H_fits_0 rfl ?_
    refine PW_if_lt c_H_fits_1 (fun h0 => absurd h0 (by decide)) (fun _ => ?_)
    refine PW_iload_n c_H_fits_4 rfl ?_
    refine PW_gets (j := 0) c_H_fits_5 (by decide) sl_H_23 ?_
    refine PW_rolen (v := 8) c_H_fits_8 (by decide) (by decide) ?_
    refine PW_icmp_ge c_H_fits_9 (fun h1 => absurd h1 (by decide)) (fun _ => ?_)
    refine PW_iload_n c_H_fits_12 rfl ?_
    refine PW_gets (j := 1) c_H_fits_13 (by decide) sl_H_26 ?_
    refine PW_rolen (v := 8) c_H_fits_16 (by decide) (by decide) ?_
    refine PW_icmp_ge c_H_fits_17 (fun h2 => absurd h2 (by decide)) (fun _ => ?_)
    refine PW_iload_n c_H_fits_20 rfl ?_
    refine PW_gets (j := 0) c_H_fits_21 (by decide) sl_H_23 ?_
    refine PW_iload_n c_H_fits_24 rfl ?_
    refine PW_roald (j := 0) (q := 0) c_H_fits_25 (by decide) (vp_in_iff.mpr (by decide)) rfl rfl ?_
    show PW _ _ _ 26 [some (.int 0), some (.int v)] [.int ((roT 0).2.2.getD 0 0), .int v] (E x y)
    refine PW_icmp_lt c_H_fits_26 (fun h3 => ?_) (fun h3 => ?_)
    · refine PW_iconst (v := 0) c_H_fits_42 (by decide) ?_
      refine PW_ireturn (ty := .boolean) c_H_fits_43 rfl (by decide +kernel) ?_
      exact pq0 h (fun q => by have k1 := h3; rw [show ((roT 0).2.2.getD 0 0 : Int32) = 0 from rfl] at k1; simp only [Int32.lt_iff_toInt_lt, tiA] at k1; have q1 : 0 ≤ v.toInt := q.1; omega)
    · refine PW_iload_n c_H_fits_29 rfl ?_
      refine PW_gets (j := 1) c_H_fits_30 (by decide) sl_H_26 ?_
      refine PW_iload_n c_H_fits_33 rfl ?_
      refine PW_roald (j := 1) (q := 0) c_H_fits_34 (by decide) (vp_in_iff.mpr (by decide)) rfl rfl ?_
      show PW _ _ _ 35 [some (.int 0), some (.int v)] [.int ((roT 1).2.2.getD 0 0), .int v] (E x y)
      refine PW_icmp_gt c_H_fits_35 (fun h4 => ?_) (fun h4 => ?_)
      · refine PW_iconst (v := 0) c_H_fits_42 (by decide) ?_
        refine PW_ireturn (ty := .boolean) c_H_fits_43 rfl (by decide +kernel) ?_
        exact pq0 h (fun q => by have k2 := h4; rw [show ((roT 1).2.2.getD 0 0 : Int32) = 4 from rfl] at k2; simp only [gt_iff_lt, Int32.lt_iff_toInt_lt, tiA] at k2; have q2 : v.toInt ≤ 4 := q.2; omega)
      · refine PW_iconst (v := 1) c_H_fits_38 (by decide) ?_
        refine PW_goto c_H_fits_39 ?_
        refine PW_ireturn (ty := .boolean) c_H_fits_43 rfl (by decide +kernel) ?_
        exact pq1 h (by have k1 := h3; have k2 := h4; rw [show ((roT 0).2.2.getD 0 0 : Int32) = 0 from rfl] at k1; rw [show ((roT 1).2.2.getD 0 0 : Int32) = 4 from rfl] at k2; simp only [gt_iff_lt, Int32.lt_iff_toInt_lt, Int32.le_iff_toInt_le, Int32.not_lt, Int32.not_le, tiA] at k1 k2; show 0 ≤ v.toInt ∧ v.toInt ≤ 4; omega)
  · show PW (0, 0, 0, z) m_H_fits post 0 [some (.int 1), some (.int v)] [] (E x y)
    refine PW_iload_n c_H_fits_0 rfl ?_
    refine PW_if_lt c_H_fits_1 (fun h0 => absurd h0 (by decide)) (fun _ => ?_)
    refine PW_iload_n c_H_fits_4 rfl ?_
    refine PW_gets (j := 0) c_H_fits_5 (by decide) sl_H_23 ?_
    refine PW_rolen (v := 8) c_H_fits_8 (by decide) (by decide) ?_
    refine PW_icmp_ge c_H_fits_9 (fun h1 => absurd h1 (by decide)) (fun _ => ?_)
    refine PW_iload_n c_H_fits_12 rfl ?_
    refine PW_gets (j := 1) c_H_fits_13 (by decide) sl_H_26 ?_
    refine PW_rolen (v := 8) c_H_fits_16 (by decide) (by decide) ?_
    refine PW_icmp_ge c_H_fits_17 (fun h2 => absurd h2 (by decide)) (fun _ => ?_)
    refine PW_iload_n c_H_fits_20 rfl ?_
    refine PW_gets (j := 0) c_H_fits_21 (by decide) sl_H_23 ?_
    refine PW_iload_n c_H_fits_24 rfl ?_
    refine PW_roald (j := 0) (q := 1) c_H_fits_25 (by decide) (vp_in_iff.mpr (by decide)) rfl rfl ?_
    show PW _ _ _ 26 [some (.int 1), some (.int v)] [.int ((roT 0).2.2.getD 1 0), .int v] (E x y)
    refine PW_icmp_lt c_H_fits_26 (fun h3 => ?_) (fun h3 => ?_)
    · refine PW_iconst (v := 0) c_H_fits_42 (by decide) ?_
      refine PW_ireturn (ty := .boolean) c_H_fits_43 rfl (by decide +kernel) ?_
      exact pq0 h (fun q => by have k1 := h3; rw [show ((roT 0).2.2.getD 1 0 : Int32) = 0 from rfl] at k1; simp only [Int32.lt_iff_toInt_lt, tiA] at k1; have q1 : 0 ≤ v.toInt := q.1; omega)
    · refine PW_iload_n c_H_fits_29 rfl ?_
      refine PW_gets (j := 1) c_H_fits_30 (by decide) sl_H_26 ?_
      refine PW_iload_n c_H_fits_33 rfl ?_
      refine PW_roald (j := 1) (q := 1) c_H_fits_34 (by decide) (vp_in_iff.mpr (by decide)) rfl rfl ?_
      show PW _ _ _ 35 [some (.int 1), some (.int v)] [.int ((roT 1).2.2.getD 1 0), .int v] (E x y)
      refine PW_icmp_gt c_H_fits_35 (fun h4 => ?_) (fun h4 => ?_)
      · refine PW_iconst (v := 0) c_H_fits_42 (by decide) ?_
        refine PW_ireturn (ty := .boolean) c_H_fits_43 rfl (by decide +kernel) ?_
        exact pq0 h (fun q => by have k2 := h4; rw [show ((roT 1).2.2.getD 1 0 : Int32) = 4 from rfl] at k2; simp only [gt_iff_lt, Int32.lt_iff_toInt_lt, tiA] at k2; have q2 : v.toInt ≤ 4 := q.2; omega)
      · refine PW_iconst (v := 1) c_H_fits_38 (by decide) ?_
        refine PW_goto c_H_fits_39 ?_
        refine PW_ireturn (ty := .boolean) c_H_fits_43 rfl (by decide +kernel) ?_
        exact pq1 h (by have k1 := h3; have k2 := h4; rw [show ((roT 0).2.2.getD 1 0 : Int32) = 0 from rfl] at k1; rw [show ((roT 1).2.2.getD 1 0 : Int32) = 4 from rfl] at k2; simp only [gt_iff_lt, Int32.lt_iff_toInt_lt, Int32.le_iff_toInt_le, Int32.not_lt, Int32.not_le, tiA] at k1 k2; show 0 ≤ v.toInt ∧ v.toInt ≤ 4; omega)
  · show PW (0, 0, 0, z) m_H_fits post 0 [some (.int 2), some (.int v)] [] (E x y)
    refine PW_iload_n c_H_fits_0 rfl ?_
    refine PW_if_lt c_H_fits_1 (fun h0 => absurd h0 (by decide)) (fun _ => ?_)
    refine PW_iload_n c_H_fits_4 rfl ?_
    refine PW_gets (j := 0) c_H_fits_5 (by decide) sl_H_23 ?_
    refine PW_rolen (v := 8) c_H_fits_8 (by decide) (by decide) ?_
    refine PW_icmp_ge c_H_fits_9 (fun h1 => absurd h1 (by decide)) (fun _ => ?_)
    refine PW_iload_n c_H_fits_12 rfl ?_
    refine PW_gets (j := 1) c_H_fits_13 (by decide) sl_H_26 ?_
    refine PW_rolen (v := 8) c_H_fits_16 (by decide) (by decide) ?_
    refine PW_icmp_ge c_H_fits_17 (fun h2 => absurd h2 (by decide)) (fun _ => ?_)
    refine PW_iload_n c_H_fits_20 rfl ?_
    refine PW_gets (j := 0) c_H_fits_21 (by decide) sl_H_23 ?_
    refine PW_iload_n c_H_fits_24 rfl ?_
    refine PW_roald (j := 0) (q := 2) c_H_fits_25 (by decide) (vp_in_iff.mpr (by decide)) rfl rfl ?_
    show PW _ _ _ 26 [some (.int 2), some (.int v)] [.int ((roT 0).2.2.getD 2 0), .int v] (E x y)
    refine PW_icmp_lt c_H_fits_26 (fun h3 => ?_) (fun h3 => ?_)
    · refine PW_iconst (v := 0) c_H_fits_42 (by decide) ?_
      refine PW_ireturn (ty := .boolean) c_H_fits_43 rfl (by decide +kernel) ?_
      exact pq0 h (fun q => by have k1 := h3; rw [show ((roT 0).2.2.getD 2 0 : Int32) = 0 from rfl] at k1; simp only [Int32.lt_iff_toInt_lt, tiA] at k1; have q1 : 0 ≤ v.toInt := q.1; omega)
    · refine PW_iload_n c_H_fits_29 rfl ?_
      refine PW_gets (j := 1) c_H_fits_30 (by decide) sl_H_26 ?_
      refine PW_iload_n c_H_fits_33 rfl ?_
      refine PW_roald (j := 1) (q := 2) c_H_fits_34 (by decide) (vp_in_iff.mpr (by decide)) rfl rfl ?_
      show PW _ _ _ 35 [some (.int 2), some (.int v)] [.int ((roT 1).2.2.getD 2 0), .int v] (E x y)
      refine PW_icmp_gt c_H_fits_35 (fun h4 => ?_) (fun h4 => ?_)
      · refine PW_iconst (v := 0) c_H_fits_42 (by decide) ?_
        refine PW_ireturn (ty := .boolean) c_H_fits_43 rfl (by decide +kernel) ?_
        exact pq0 h (fun q => by have k2 := h4; rw [show ((roT 1).2.2.getD 2 0 : Int32) = 99 from rfl] at k2; simp only [gt_iff_lt, Int32.lt_iff_toInt_lt, tiA] at k2; have q2 : v.toInt ≤ 99 := q.2; omega)
      · refine PW_iconst (v := 1) c_H_fits_38 (by decide) ?_
        refine PW_goto c_H_fits_39 ?_
        refine PW_ireturn (ty := .boolean) c_H_fits_43 rfl (by decide +kernel) ?_
        exact pq1 h (by have k1 := h3; have k2 := h4; rw [show ((roT 0).2.2.getD 2 0 : Int32) = 0 from rfl] at k1; rw [show ((roT 1).2.2.getD 2 0 : Int32) = 99 from rfl] at k2; simp only [gt_iff_lt, Int32.lt_iff_toInt_lt, Int32.le_iff_toInt_le, Int32.not_lt, Int32.not_le, tiA] at k1 k2; show 0 ≤ v.toInt ∧ v.toInt ≤ 99; omega)
  · show PW (0, 0, 0, z) m_H_fits post 0 [some (.int 3), some (.int v)] [] (E x y)
    refine PW_iload_n c_H_fits_0 rfl ?_
    refine PW_if_lt c_H_fits_1 (fun h0 => absurd h0 (by decide)) (fun _ => ?_)
    refine PW_iload_n c_H_fits_4 rfl ?_
    refine PW_gets (j := 0) c_H_fits_5 (by decide) sl_H_23 ?_
    refine PW_rolen (v := 8) c_H_fits_8 (by decide) (by decide) ?_
    refine PW_icmp_ge c_H_fits_9 (fun h1 => absurd h1 (by decide)) (fun _ => ?_)
    refine PW_iload_n c_H_fits_12 rfl ?_
    refine PW_gets (j := 1) c_H_fits_13 (by decide) sl_H_26 ?_
    refine PW_rolen (v := 8) c_H_fits_16 (by decide) (by decide) ?_
    refine PW_icmp_ge c_H_fits_17 (fun h2 => absurd h2 (by decide)) (fun _ => ?_)
    refine PW_iload_n c_H_fits_20 rfl ?_
    refine PW_gets (j := 0) c_H_fits_21 (by decide) sl_H_23 ?_
    refine PW_iload_n c_H_fits_24 rfl ?_
    refine PW_roald (j := 0) (q := 3) c_H_fits_25 (by decide) (vp_in_iff.mpr (by decide)) rfl rfl ?_
    show PW _ _ _ 26 [some (.int 3), some (.int v)] [.int ((roT 0).2.2.getD 3 0), .int v] (E x y)
    refine PW_icmp_lt c_H_fits_26 (fun h3 => ?_) (fun h3 => ?_)
    · refine PW_iconst (v := 0) c_H_fits_42 (by decide) ?_
      refine PW_ireturn (ty := .boolean) c_H_fits_43 rfl (by decide +kernel) ?_
      exact pq0 h (fun q => by have k1 := h3; rw [show ((roT 0).2.2.getD 3 0 : Int32) = 0 from rfl] at k1; simp only [Int32.lt_iff_toInt_lt, tiA] at k1; have q1 : 0 ≤ v.toInt := q.1; omega)
    · refine PW_iload_n c_H_fits_29 rfl ?_
      refine PW_gets (j := 1) c_H_fits_30 (by decide) sl_H_26 ?_
      refine PW_iload_n c_H_fits_33 rfl ?_
      refine PW_roald (j := 1) (q := 3) c_H_fits_34 (by decide) (vp_in_iff.mpr (by decide)) rfl rfl ?_
      show PW _ _ _ 35 [some (.int 3), some (.int v)] [.int ((roT 1).2.2.getD 3 0), .int v] (E x y)
      refine PW_icmp_gt c_H_fits_35 (fun h4 => ?_) (fun h4 => ?_)
      · refine PW_iconst (v := 0) c_H_fits_42 (by decide) ?_
        refine PW_ireturn (ty := .boolean) c_H_fits_43 rfl (by decide +kernel) ?_
        exact pq0 h (fun q => by have k2 := h4; rw [show ((roT 1).2.2.getD 3 0 : Int32) = 9 from rfl] at k2; simp only [gt_iff_lt, Int32.lt_iff_toInt_lt, tiA] at k2; have q2 : v.toInt ≤ 9 := q.2; omega)
      · refine PW_iconst (v := 1) c_H_fits_38 (by decide) ?_
        refine PW_goto c_H_fits_39 ?_
        refine PW_ireturn (ty := .boolean) c_H_fits_43 rfl (by decide +kernel) ?_
        exact pq1 h (by have k1 := h3; have k2 := h4; rw [show ((roT 0).2.2.getD 3 0 : Int32) = 0 from rfl] at k1; rw [show ((roT 1).2.2.getD 3 0 : Int32) = 9 from rfl] at k2; simp only [gt_iff_lt, Int32.lt_iff_toInt_lt, Int32.le_iff_toInt_le, Int32.not_lt, Int32.not_le, tiA] at k1 k2; show 0 ≤ v.toInt ∧ v.toInt ≤ 9; omega)
  · show PW (0, 0, 0, z) m_H_fits post 0 [some (.int 4), some (.int v)] [] (E x y)
    refine PW_iload_n c_H_fits_0 rfl ?_
    refine PW_if_lt c_H_fits_1 (fun h0 => absurd h0 (by decide)) (fun _ => ?_)
    refine PW_iload_n c_H_fits_4 rfl ?_
    refine PW_gets (j := 0) c_H_fits_5 (by decide) sl_H_23 ?_
    refine PW_rolen (v := 8) c_H_fits_8 (by decide) (by decide) ?_
    refine PW_icmp_ge c_H_fits_9 (fun h1 => absurd h1 (by decide)) (fun _ => ?_)
    refine PW_iload_n c_H_fits_12 rfl ?_
    refine PW_gets (j := 1) c_H_fits_13 (by decide) sl_H_26 ?_
    refine PW_rolen (v := 8) c_H_fits_16 (by decide) (by decide) ?_
    refine PW_icmp_ge c_H_fits_17 (fun h2 => absurd h2 (by decide)) (fun _ => ?_)
    refine PW_iload_n c_H_fits_20 rfl ?_
    refine PW_gets (j := 0) c_H_fits_21 (by decide) sl_H_23 ?_
    refine PW_iload_n c_H_fits_24 rfl ?_
    refine PW_roald (j := 0) (q := 4) c_H_fits_25 (by decide) (vp_in_iff.mpr (by decide)) rfl rfl ?_
    show PW _ _ _ 26 [some (.int 4), some (.int v)] [.int ((roT 0).2.2.getD 4 0), .int v] (E x y)
    refine PW_icmp_lt c_H_fits_26 (fun h3 => ?_) (fun h3 => ?_)
    · refine PW_iconst (v := 0) c_H_fits_42 (by decide) ?_
      refine PW_ireturn (ty := .boolean) c_H_fits_43 rfl (by decide +kernel) ?_
      exact pq0 h (fun q => by have k1 := h3; rw [show ((roT 0).2.2.getD 4 0 : Int32) = 0 from rfl] at k1; simp only [Int32.lt_iff_toInt_lt, tiA] at k1; have q1 : 0 ≤ v.toInt := q.1; omega)
    · refine PW_iload_n c_H_fits_29 rfl ?_
      refine PW_gets (j := 1) c_H_fits_30 (by decide) sl_H_26 ?_
      refine PW_iload_n c_H_fits_33 rfl ?_
      refine PW_roald (j := 1) (q := 4) c_H_fits_34 (by decide) (vp_in_iff.mpr (by decide)) rfl rfl ?_
      show PW _ _ _ 35 [some (.int 4), some (.int v)] [.int ((roT 1).2.2.getD 4 0), .int v] (E x y)
      refine PW_icmp_gt c_H_fits_35 (fun h4 => ?_) (fun h4 => ?_)
      · refine PW_iconst (v := 0) c_H_fits_42 (by decide) ?_
        refine PW_ireturn (ty := .boolean) c_H_fits_43 rfl (by decide +kernel) ?_
        exact pq0 h (fun q => by have k2 := h4; rw [show ((roT 1).2.2.getD 4 0 : Int32) = 1 from rfl] at k2; simp only [gt_iff_lt, Int32.lt_iff_toInt_lt, tiA] at k2; have q2 : v.toInt ≤ 1 := q.2; omega)
      · refine PW_iconst (v := 1) c_H_fits_38 (by decide) ?_
        refine PW_goto c_H_fits_39 ?_
        refine PW_ireturn (ty := .boolean) c_H_fits_43 rfl (by decide +kernel) ?_
        exact pq1 h (by have k1 := h3; have k2 := h4; rw [show ((roT 0).2.2.getD 4 0 : Int32) = 0 from rfl] at k1; rw [show ((roT 1).2.2.getD 4 0 : Int32) = 1 from rfl] at k2; simp only [gt_iff_lt, Int32.lt_iff_toInt_lt, Int32.le_iff_toInt_le, Int32.not_lt, Int32.not_le, tiA] at k1 k2; show 0 ≤ v.toInt ∧ v.toInt ≤ 1; omega)
  · show PW (0, 0, 0, z) m_H_fits post 0 [some (.int 5), some (.int v)] [] (E x y)
    refine PW_iload_n c_H_fits_0 rfl ?_
    refine PW_if_lt c_H_fits_1 (fun h0 => absurd h0 (by decide)) (fun _ => ?_)
    refine PW_iload_n c_H_fits_4 rfl ?_
    refine PW_gets (j := 0) c_H_fits_5 (by decide) sl_H_23 ?_
    refine PW_rolen (v := 8) c_H_fits_8 (by decide) (by decide) ?_
    refine PW_icmp_ge c_H_fits_9 (fun h1 => absurd h1 (by decide)) (fun _ => ?_)
    refine PW_iload_n c_H_fits_12 rfl ?_
    refine PW_gets (j := 1) c_H_fits_13 (by decide) sl_H_26 ?_
    refine PW_rolen (v := 8) c_H_fits_16 (by decide) (by decide) ?_
    refine PW_icmp_ge c_H_fits_17 (fun h2 => absurd h2 (by decide)) (fun _ => ?_)
    refine PW_iload_n c_H_fits_20 rfl ?_
    refine PW_gets (j := 0) c_H_fits_21 (by decide) sl_H_23 ?_
    refine PW_iload_n c_H_fits_24 rfl ?_
    refine PW_roald (j := 0) (q := 5) c_H_fits_25 (by decide) (vp_in_iff.mpr (by decide)) rfl rfl ?_
    show PW _ _ _ 26 [some (.int 5), some (.int v)] [.int ((roT 0).2.2.getD 5 0), .int v] (E x y)
    refine PW_icmp_lt c_H_fits_26 (fun h3 => ?_) (fun h3 => ?_)
    · refine PW_iconst (v := 0) c_H_fits_42 (by decide) ?_
      refine PW_ireturn (ty := .boolean) c_H_fits_43 rfl (by decide +kernel) ?_
      exact pq0 h (fun q => by have k1 := h3; rw [show ((roT 0).2.2.getD 5 0 : Int32) = 0 from rfl] at k1; simp only [Int32.lt_iff_toInt_lt, tiA] at k1; have q1 : 0 ≤ v.toInt := q.1; omega)
    · refine PW_iload_n c_H_fits_29 rfl ?_
      refine PW_gets (j := 1) c_H_fits_30 (by decide) sl_H_26 ?_
      refine PW_iload_n c_H_fits_33 rfl ?_
      refine PW_roald (j := 1) (q := 5) c_H_fits_34 (by decide) (vp_in_iff.mpr (by decide)) rfl rfl ?_
      show PW _ _ _ 35 [some (.int 5), some (.int v)] [.int ((roT 1).2.2.getD 5 0), .int v] (E x y)
      refine PW_icmp_gt c_H_fits_35 (fun h4 => ?_) (fun h4 => ?_)
      · refine PW_iconst (v := 0) c_H_fits_42 (by decide) ?_
        refine PW_ireturn (ty := .boolean) c_H_fits_43 rfl (by decide +kernel) ?_
        exact pq0 h (fun q => by have k2 := h4; rw [show ((roT 1).2.2.getD 5 0 : Int32) = 1 from rfl] at k2; simp only [gt_iff_lt, Int32.lt_iff_toInt_lt, tiA] at k2; have q2 : v.toInt ≤ 1 := q.2; omega)
      · refine PW_iconst (v := 1) c_H_fits_38 (by decide) ?_
        refine PW_goto c_H_fits_39 ?_
        refine PW_ireturn (ty := .boolean) c_H_fits_43 rfl (by decide +kernel) ?_
        exact pq1 h (by have k1 := h3; have k2 := h4; rw [show ((roT 0).2.2.getD 5 0 : Int32) = 0 from rfl] at k1; rw [show ((roT 1).2.2.getD 5 0 : Int32) = 1 from rfl] at k2; simp only [gt_iff_lt, Int32.lt_iff_toInt_lt, Int32.le_iff_toInt_le, Int32.not_lt, Int32.not_le, tiA] at k1 k2; show 0 ≤ v.toInt ∧ v.toInt ≤ 1; omega)
  · show PW (0, 0, 0, z) m_H_fits post 0 [some (.int 6), some (.int v)] [] (E x y)
    refine PW_iload_n c_H_fits_0 rfl ?_
    refine PW_if_lt c_H_fits_1 (fun h0 => absurd h0 (by decide)) (fun _ => ?_)
    refine PW_iload_n c_H_fits_4 rfl ?_
    refine PW_gets (j := 0) c_H_fits_5 (by decide) sl_H_23 ?_
    refine PW_rolen (v := 8) c_H_fits_8 (by decide) (by decide) ?_
    refine PW_icmp_ge c_H_fits_9 (fun h1 => absurd h1 (by decide)) (fun _ => ?_)
    refine PW_iload_n c_H_fits_12 rfl ?_
    refine PW_gets (j := 1) c_H_fits_13 (by decide) sl_H_26 ?_
    refine PW_rolen (v := 8) c_H_fits_16 (by decide) (by decide) ?_
    refine PW_icmp_ge c_H_fits_17 (fun h2 => absurd h2 (by decide)) (fun _ => ?_)
    refine PW_iload_n c_H_fits_20 rfl ?_
    refine PW_gets (j := 0) c_H_fits_21 (by decide) sl_H_23 ?_
    refine PW_iload_n c_H_fits_24 rfl ?_
    refine PW_roald (j := 0) (q := 6) c_H_fits_25 (by decide) (vp_in_iff.mpr (by decide)) rfl rfl ?_
    show PW _ _ _ 26 [some (.int 6), some (.int v)] [.int ((roT 0).2.2.getD 6 0), .int v] (E x y)
    refine PW_icmp_lt c_H_fits_26 (fun h3 => ?_) (fun h3 => ?_)
    · refine PW_iconst (v := 0) c_H_fits_42 (by decide) ?_
      refine PW_ireturn (ty := .boolean) c_H_fits_43 rfl (by decide +kernel) ?_
      exact pq0 h (fun q => by have k1 := h3; rw [show ((roT 0).2.2.getD 6 0 : Int32) = 1 from rfl] at k1; simp only [Int32.lt_iff_toInt_lt, tiA] at k1; have q1 : 1 ≤ v.toInt := q.1; omega)
    · refine PW_iload_n c_H_fits_29 rfl ?_
      refine PW_gets (j := 1) c_H_fits_30 (by decide) sl_H_26 ?_
      refine PW_iload_n c_H_fits_33 rfl ?_
      refine PW_roald (j := 1) (q := 6) c_H_fits_34 (by decide) (vp_in_iff.mpr (by decide)) rfl rfl ?_
      show PW _ _ _ 35 [some (.int 6), some (.int v)] [.int ((roT 1).2.2.getD 6 0), .int v] (E x y)
      refine PW_icmp_gt c_H_fits_35 (fun h4 => ?_) (fun h4 => ?_)
      · refine PW_iconst (v := 0) c_H_fits_42 (by decide) ?_
        refine PW_ireturn (ty := .boolean) c_H_fits_43 rfl (by decide +kernel) ?_
        exact pq0 h (fun q => by have k2 := h4; rw [show ((roT 1).2.2.getD 6 0 : Int32) = 11 from rfl] at k2; simp only [gt_iff_lt, Int32.lt_iff_toInt_lt, tiA] at k2; have q2 : v.toInt ≤ 11 := q.2; omega)
      · refine PW_iconst (v := 1) c_H_fits_38 (by decide) ?_
        refine PW_goto c_H_fits_39 ?_
        refine PW_ireturn (ty := .boolean) c_H_fits_43 rfl (by decide +kernel) ?_
        exact pq1 h (by have k1 := h3; have k2 := h4; rw [show ((roT 0).2.2.getD 6 0 : Int32) = 1 from rfl] at k1; rw [show ((roT 1).2.2.getD 6 0 : Int32) = 11 from rfl] at k2; simp only [gt_iff_lt, Int32.lt_iff_toInt_lt, Int32.le_iff_toInt_le, Int32.not_lt, Int32.not_le, tiA] at k1 k2; show 1 ≤ v.toInt ∧ v.toInt ≤ 11; omega)
  · show PW (0, 0, 0, z) m_H_fits post 0 [some (.int 7), some (.int v)] [] (E x y)
    refine PW_iload_n c_H_fits_0 rfl ?_
    refine PW_if_lt c_H_fits_1 (fun h0 => absurd h0 (by decide)) (fun _ => ?_)
    refine PW_iload_n c_H_fits_4 rfl ?_
    refine PW_gets (j := 0) c_H_fits_5 (by decide) sl_H_23 ?_
    refine PW_rolen (v := 8) c_H_fits_8 (by decide) (by decide) ?_
    refine PW_icmp_ge c_H_fits_9 (fun h1 => absurd h1 (by decide)) (fun _ => ?_)
    refine PW_iload_n c_H_fits_12 rfl ?_
    refine PW_gets (j := 1) c_H_fits_13 (by decide) sl_H_26 ?_
    refine PW_rolen (v := 8) c_H_fits_16 (by decide) (by decide) ?_
    refine PW_icmp_ge c_H_fits_17 (fun h2 => absurd h2 (by decide)) (fun _ => ?_)
    refine PW_iload_n c_H_fits_20 rfl ?_
    refine PW_gets (j := 0) c_H_fits_21 (by decide) sl_H_23 ?_
    refine PW_iload_n c_H_fits_24 rfl ?_
    refine PW_roald (j := 0) (q := 7) c_H_fits_25 (by decide) (vp_in_iff.mpr (by decide)) rfl rfl ?_
    show PW _ _ _ 26 [some (.int 7), some (.int v)] [.int ((roT 0).2.2.getD 7 0), .int v] (E x y)
    refine PW_icmp_lt c_H_fits_26 (fun h3 => ?_) (fun h3 => ?_)
    · refine PW_iconst (v := 0) c_H_fits_42 (by decide) ?_
      refine PW_ireturn (ty := .boolean) c_H_fits_43 rfl (by decide +kernel) ?_
      exact pq0 h (fun q => by have k1 := h3; rw [show ((roT 0).2.2.getD 7 0 : Int32) = 1 from rfl] at k1; simp only [Int32.lt_iff_toInt_lt, tiA] at k1; have q1 : 1 ≤ v.toInt := q.1; omega)
    · refine PW_iload_n c_H_fits_29 rfl ?_
      refine PW_gets (j := 1) c_H_fits_30 (by decide) sl_H_26 ?_
      refine PW_iload_n c_H_fits_33 rfl ?_
      refine PW_roald (j := 1) (q := 7) c_H_fits_34 (by decide) (vp_in_iff.mpr (by decide)) rfl rfl ?_
      show PW _ _ _ 35 [some (.int 7), some (.int v)] [.int ((roT 1).2.2.getD 7 0), .int v] (E x y)
      refine PW_icmp_gt c_H_fits_35 (fun h4 => ?_) (fun h4 => ?_)
      · refine PW_iconst (v := 0) c_H_fits_42 (by decide) ?_
        refine PW_ireturn (ty := .boolean) c_H_fits_43 rfl (by decide +kernel) ?_
        exact pq0 h (fun q => by have k2 := h4; rw [show ((roT 1).2.2.getD 7 0 : Int32) = 9 from rfl] at k2; simp only [gt_iff_lt, Int32.lt_iff_toInt_lt, tiA] at k2; have q2 : v.toInt ≤ 9 := q.2; omega)
      · refine PW_iconst (v := 1) c_H_fits_38 (by decide) ?_
        refine PW_goto c_H_fits_39 ?_
        refine PW_ireturn (ty := .boolean) c_H_fits_43 rfl (by decide +kernel) ?_
        exact pq1 h (by have k1 := h3; have k2 := h4; rw [show ((roT 0).2.2.getD 7 0 : Int32) = 1 from rfl] at k1; rw [show ((roT 1).2.2.getD 7 0 : Int32) = 9 from rfl] at k2; simp only [gt_iff_lt, Int32.lt_iff_toInt_lt, Int32.le_iff_toInt_le, Int32.not_lt, Int32.not_le, tiA] at k1 k2; show 1 ≤ v.toInt ∧ v.toInt ≤ 9; omega)
theorem sp_M_mayBe8 {z : ZS} {post : Option Value → List PE → Prop} {x y : XS} {v u : Int32} {w : Nat} (hw : w < 8) (eu : u = nI w) (h : post (some (.int (b2i (fitP w v)))) (E x y)) : PW (2, 0, 0, z) m_M_mayBe post 0 [some (.int u), some (.int v)] [] (E x y) := by
  subst eu
  rcases (show w = 0 ∨ w = 1 ∨ w = 2 ∨ w = 3 ∨ w = 4 ∨ w = 5 ∨ w = 6 ∨ w = 7 by omega) with rfl | rfl | rfl | rfl | rfl | rfl | rfl | rfl
  · show PW (2, 0, 0, z) m_M_mayBe post 0 [some (.int 0), some (.int v)] [] (E x y)
    refine PW_iload_n c_M_mayBe_0 rfl ?_
    refine PW_tableIn (tgt := 44) c_M_mayBe_1 (by decide) (by decide) rfl rfl ?_
    refine PW_iload_n c_M_mayBe_44 rfl ?_
    refine PW_S0 (d2 := 1) (st := []) [.int v] c_M_mayBe_45 lk_M_mayBe_135 rfl rfl rfl (Nat.le_of_ble_eq_true rfl) (by first | decide | omega) (Nat.le_of_ble_eq_true rfl) ?_
    refine sp_M_isRoom  ?_
    show PW _ _ _ 48 [some (.int 0), some (.int v)] [.int (b2i (0 ≤ v ∧ v ≤ 4))] (E x y)
    refine PW_ireturn (ty := .boolean) c_M_mayBe_48 rfl (nb_b2i _) ?_
    exact pqi h (b2i_c (by show (0 ≤ v.toInt ∧ v.toInt ≤ 4) ↔ _; simp only [Int32.le_iff_toInt_le, tiA]))
  · show PW (2, 0, 0, z) m_M_mayBe post 0 [some (.int 1), some (.int v)] [] (E x y)
    refine PW_iload_n c_M_mayBe_0 rfl ?_
    refine PW_tableIn (tgt := 49) c_M_mayBe_1 (by decide) (by decide) rfl rfl ?_
    refine PW_iload_n c_M_mayBe_49 rfl ?_
    refine PW_S0 (d2 := 1) (st := []) [.int v] c_M_mayBe_50 lk_M_mayBe_135 rfl rfl rfl (Nat.le_of_ble_eq_true rfl) (by first | decide | omega) (Nat.le_of_ble_eq_true rfl) ?_
    refine sp_M_isRoom  ?_
    show PW _ _ _ 53 [some (.int 1), some (.int v)] [.int (b2i (0 ≤ v ∧ v ≤ 4))] (E x y)
    refine PW_ireturn (ty := .boolean) c_M_mayBe_53 rfl (nb_b2i _) ?_
    exact pqi h (b2i_c (by show (0 ≤ v.toInt ∧ v.toInt ≤ 4) ↔ _; simp only [Int32.le_iff_toInt_le, tiA]))
  · show PW (2, 0, 0, z) m_M_mayBe post 0 [some (.int 2), some (.int v)] [] (E x y)
    refine PW_iload_n c_M_mayBe_0 rfl ?_
    refine PW_tableIn (tgt := 54) c_M_mayBe_1 (by decide) (by decide) rfl rfl ?_
    refine PW_iload_n c_M_mayBe_54 rfl ?_
    refine PW_iconst (v := 0) c_M_mayBe_55 (by decide) ?_
    refine PW_bipush (v := 99) c_M_mayBe_56 (by decide) ?_
    refine PW_S0 (d2 := 0) (st := []) [.int v, .int 0, .int 99] c_M_mayBe_58 lk_M_mayBe_131 rfl rfl rfl (Nat.le_of_ble_eq_true rfl) (by first | decide | omega) (Nat.le_of_ble_eq_true rfl) ?_
    refine sp_M_within  ?_
    show PW _ _ _ 61 [some (.int 2), some (.int v)] [.int (b2i ((0 : Int32) ≤ v ∧ v ≤ (99 : Int32)))] (E x y)
    refine PW_ireturn (ty := .boolean) c_M_mayBe_61 rfl (nb_b2i _) ?_
    exact pqi h (b2i_c (by show (0 ≤ v.toInt ∧ v.toInt ≤ 99) ↔ _; simp only [Int32.le_iff_toInt_le, tiA]))
  · show PW (2, 0, 0, z) m_M_mayBe post 0 [some (.int 3), some (.int v)] [] (E x y)
    refine PW_iload_n c_M_mayBe_0 rfl ?_
    refine PW_tableIn (tgt := 62) c_M_mayBe_1 (by decide) (by decide) rfl rfl ?_
    refine PW_iload_n c_M_mayBe_62 rfl ?_
    refine PW_iconst (v := 0) c_M_mayBe_63 (by decide) ?_
    refine PW_bipush (v := 9) c_M_mayBe_64 (by decide) ?_
    refine PW_S0 (d2 := 0) (st := []) [.int v, .int 0, .int 9] c_M_mayBe_66 lk_M_mayBe_131 rfl rfl rfl (Nat.le_of_ble_eq_true rfl) (by first | decide | omega) (Nat.le_of_ble_eq_true rfl) ?_
    refine sp_M_within  ?_
    show PW _ _ _ 69 [some (.int 3), some (.int v)] [.int (b2i ((0 : Int32) ≤ v ∧ v ≤ (9 : Int32)))] (E x y)
    refine PW_ireturn (ty := .boolean) c_M_mayBe_69 rfl (nb_b2i _) ?_
    exact pqi h (b2i_c (by show (0 ≤ v.toInt ∧ v.toInt ≤ 9) ↔ _; simp only [Int32.le_iff_toInt_le, tiA]))
  · show PW (2, 0, 0, z) m_M_mayBe post 0 [some (.int 4), some (.int v)] [] (E x y)
    refine PW_iload_n c_M_mayBe_0 rfl ?_
    refine PW_tableIn (tgt := 70) c_M_mayBe_1 (by decide) (by decide) rfl rfl ?_
    refine PW_iload_n c_M_mayBe_70 rfl ?_
    refine PW_iconst (v := 0) c_M_mayBe_71 (by decide) ?_
    refine PW_iconst (v := 1) c_M_mayBe_72 (by decide) ?_
    refine PW_S0 (d2 := 0) (st := []) [.int v, .int 0, .int 1] c_M_mayBe_73 lk_M_mayBe_131 rfl rfl rfl (Nat.le_of_ble_eq_true rfl) (by first | decide | omega) (Nat.le_of_ble_eq_true rfl) ?_
    refine sp_M_within  ?_
    show PW _ _ _ 76 [some (.int 4), some (.int v)] [.int (b2i ((0 : Int32) ≤ v ∧ v ≤ (1 : Int32)))] (E x y)
    refine PW_ireturn (ty := .boolean) c_M_mayBe_76 rfl (nb_b2i _) ?_
    exact pqi h (b2i_c (by show (0 ≤ v.toInt ∧ v.toInt ≤ 1) ↔ _; simp only [Int32.le_iff_toInt_le, tiA]))
  · show PW (2, 0, 0, z) m_M_mayBe post 0 [some (.int 5), some (.int v)] [] (E x y)
    refine PW_iload_n c_M_mayBe_0 rfl ?_
    refine PW_tableIn (tgt := 77) c_M_mayBe_1 (by decide) (by decide) rfl rfl ?_
    refine PW_iload_n c_M_mayBe_77 rfl ?_
    refine PW_iconst (v := 0) c_M_mayBe_78 (by decide) ?_
    refine PW_iconst (v := 1) c_M_mayBe_79 (by decide) ?_
    refine PW_S0 (d2 := 0) (st := []) [.int v, .int 0, .int 1] c_M_mayBe_80 lk_M_mayBe_131 rfl rfl rfl (Nat.le_of_ble_eq_true rfl) (by first | decide | omega) (Nat.le_of_ble_eq_true rfl) ?_
    refine sp_M_within  ?_
    show PW _ _ _ 83 [some (.int 5), some (.int v)] [.int (b2i ((0 : Int32) ≤ v ∧ v ≤ (1 : Int32)))] (E x y)
    refine PW_ireturn (ty := .boolean) c_M_mayBe_83 rfl (nb_b2i _) ?_
    exact pqi h (b2i_c (by show (0 ≤ v.toInt ∧ v.toInt ≤ 1) ↔ _; simp only [Int32.le_iff_toInt_le, tiA]))
  · show PW (2, 0, 0, z) m_M_mayBe post 0 [some (.int 6), some (.int v)] [] (E x y)
    refine PW_iload_n c_M_mayBe_0 rfl ?_
    refine PW_tableIn (tgt := 84) c_M_mayBe_1 (by decide) (by decide) rfl rfl ?_
    refine PW_iload_n c_M_mayBe_84 rfl ?_
    refine PW_iconst (v := 1) c_M_mayBe_85 (by decide) ?_
    refine PW_bipush (v := 11) c_M_mayBe_86 (by decide) ?_
    refine PW_S0 (d2 := 0) (st := []) [.int v, .int 1, .int 11] c_M_mayBe_88 lk_M_mayBe_131 rfl rfl rfl (Nat.le_of_ble_eq_true rfl) (by first | decide | omega) (Nat.le_of_ble_eq_true rfl) ?_
    refine sp_M_within  ?_
    show PW _ _ _ 91 [some (.int 6), some (.int v)] [.int (b2i ((1 : Int32) ≤ v ∧ v ≤ (11 : Int32)))] (E x y)
    refine PW_ireturn (ty := .boolean) c_M_mayBe_91 rfl (nb_b2i _) ?_
    exact pqi h (b2i_c (by show (1 ≤ v.toInt ∧ v.toInt ≤ 11) ↔ _; simp only [Int32.le_iff_toInt_le, tiA]))
  · show PW (2, 0, 0, z) m_M_mayBe post 0 [some (.int 7), some (.int v)] [] (E x y)
    refine PW_iload_n c_M_mayBe_0 rfl ?_
    refine PW_tableOut (tgt := 92) c_M_mayBe_1 (by decide) rfl ?_
    refine PW_iload_n c_M_mayBe_92 rfl ?_
    refine PW_iconst (v := 1) c_M_mayBe_93 (by decide) ?_
    refine PW_bipush (v := 9) c_M_mayBe_94 (by decide) ?_
    refine PW_S0 (d2 := 0) (st := []) [.int v, .int 1, .int 9] c_M_mayBe_96 lk_M_mayBe_131 rfl rfl rfl (Nat.le_of_ble_eq_true rfl) (by first | decide | omega) (Nat.le_of_ble_eq_true rfl) ?_
    refine sp_M_within  ?_
    show PW _ _ _ 99 [some (.int 7), some (.int v)] [.int (b2i ((1 : Int32) ≤ v ∧ v ≤ (9 : Int32)))] (E x y)
    refine PW_ireturn (ty := .boolean) c_M_mayBe_99 rfl (nb_b2i _) ?_
    exact pqi h (b2i_c (by show (1 ≤ v.toInt ∧ v.toInt ≤ 9) ↔ _; simp only [Int32.le_iff_toInt_le, tiA]))
theorem sp_H_fact8 {z : ZS} {post : Option Value → List PE → Prop} {x y : XS} {p u : Int32} {w g : Nat} (C : CPg x y) (hw : w < 8) (hgw : (w = 7 ∧ g < 4) ∨ (w < 7 ∧ g < nG y)) (ep : p = nI g) (eu : u = nI w) (h : post (some (.int (y.2.1 (71 + w) g))) (E x y)) : PW (2, 0, 0, z) m_H_fact post 0 [some (.ref 6), some (.int p), some (.int u)] [] (E x y) := by
  subst ep; subst eu
  have hn := C.1.2
  rcases (show w = 0 ∨ w = 1 ∨ w = 2 ∨ w = 3 ∨ w = 4 ∨ w = 5 ∨ w = 6 ∨ w = 7 by omega) with rfl | rfl | rfl | rfl | rfl | rfl | rfl | rfl
  · show PW (2, 0, 0, z) m_H_fact post 0 [some (.ref 6), some (.int (nI g)), some (.int 0)] [] (E x y)
    have hq : hasP y 0 (nI g) := by unfold hasP; rw [nI_toInt (by omega)]; omega
    refine PW_aload_n c_H_fact_0 rfl ?_
    refine PW_iload_n c_H_fact_1 rfl ?_
    refine PW_iload_n c_H_fact_2 rfl ?_
    refine PW_V0 (d2 := 1) (st := []) [.int (nI g), .int 0] c_H_fact_3 lk_H_fact_41 (po_6 _ _) rfl rfl rfl (Nat.le_of_ble_eq_true rfl) (by first | decide | omega) (Nat.le_of_ble_eq_true rfl) ?_
    refine sp_H_hasFact8 (w := 0) (by decide) rfl C.W C.x51 ?_
    show PW _ _ _ 6 [some (.ref 6), some (.int (nI g)), some (.int 0)] [.int (b2i (hasP y 0 (nI g)))] (E x y)
    refine PW_if_ne c_H_fact_6 (fun _ => ?_) (fun h0 => absurd hq (b2i_0.mp h0))
    refine PW_iload_n c_H_fact_11 rfl ?_
    refine PW_bipush (v := 7) c_H_fact_12 (by decide) ?_
    refine PW_icmp_ne c_H_fact_14 (fun _ => ?_) (fun h1 => absurd h1 (by decide))
    refine PW_aload_n c_H_fact_26 rfl ?_
    refine PW_get (v := .ref 7) c_H_fact_27 fl_H_13 (gf_6_0 _ _) ?_
    refine PW_iload_n c_H_fact_30 rfl ?_
    refine PW_aald (j := 0) c_H_fact_31 (ar_7 _ _) (t0 := 5) rfl rfl (vp_in_iff.mpr (by decide)) rfl ?_
    rw [if_pos (by decide)]
    show PW _ _ _ 32 [some (.ref 6), some (.int (nI g)), some (.int 0)] [.ref 8] (E x y)
    refine PW_iload_n c_H_fact_32 rfl ?_
    refine PW_iald (j := g) c_H_fact_33 (ar_8 _ _) (vp_in_nI (by omega) (by decide)) (nI_clamp (by omega)) ?_
    show PW _ _ _ 34 [some (.ref 6), some (.int (nI g)), some (.int 0)] [.int ((x.2.1 8) g)] (E x y)
    refine PW_ireturn (ty := .int) c_H_fact_34 rfl rfl ?_
    exact pqi h (C.row 0 (by omega) (by omega)).symm
  · show PW (2, 0, 0, z) m_H_fact post 0 [some (.ref 6), some (.int (nI g)), some (.int 1)] [] (E x y)
    have hq : hasP y 1 (nI g) := by unfold hasP; rw [nI_toInt (by omega)]; omega
    refine PW_aload_n c_H_fact_0 rfl ?_
    refine PW_iload_n c_H_fact_1 rfl ?_
    refine PW_iload_n c_H_fact_2 rfl ?_
    refine PW_V0 (d2 := 1) (st := []) [.int (nI g), .int 1] c_H_fact_3 lk_H_fact_41 (po_6 _ _) rfl rfl rfl (Nat.le_of_ble_eq_true rfl) (by first | decide | omega) (Nat.le_of_ble_eq_true rfl) ?_
    refine sp_H_hasFact8 (w := 1) (by decide) rfl C.W C.x51 ?_
    show PW _ _ _ 6 [some (.ref 6), some (.int (nI g)), some (.int 1)] [.int (b2i (hasP y 1 (nI g)))] (E x y)
    refine PW_if_ne c_H_fact_6 (fun _ => ?_) (fun h0 => absurd hq (b2i_0.mp h0))
    refine PW_iload_n c_H_fact_11 rfl ?_
    refine PW_bipush (v := 7) c_H_fact_12 (by decide) ?_
    refine PW_icmp_ne c_H_fact_14 (fun _ => ?_) (fun h1 => absurd h1 (by decide))
    refine PW_aload_n c_H_fact_26 rfl ?_
    refine PW_get (v := .ref 7) c_H_fact_27 fl_H_13 (gf_6_0 _ _) ?_
    refine PW_iload_n c_H_fact_30 rfl ?_
    refine PW_aald (j := 1) c_H_fact_31 (ar_7 _ _) (t0 := 5) rfl rfl (vp_in_iff.mpr (by decide)) rfl ?_
    rw [if_pos (by decide)]
    show PW _ _ _ 32 [some (.ref 6), some (.int (nI g)), some (.int 1)] [.ref 9] (E x y)
    refine PW_iload_n c_H_fact_32 rfl ?_
    refine PW_iald (j := g) c_H_fact_33 (ar_9 _ _) (vp_in_nI (by omega) (by decide)) (nI_clamp (by omega)) ?_
    show PW _ _ _ 34 [some (.ref 6), some (.int (nI g)), some (.int 1)] [.int ((x.2.1 9) g)] (E x y)
    refine PW_ireturn (ty := .int) c_H_fact_34 rfl rfl ?_
    exact pqi h (C.row 1 (by omega) (by omega)).symm
  · show PW (2, 0, 0, z) m_H_fact post 0 [some (.ref 6), some (.int (nI g)), some (.int 2)] [] (E x y)
    have hq : hasP y 2 (nI g) := by unfold hasP; rw [nI_toInt (by omega)]; omega
    refine PW_aload_n c_H_fact_0 rfl ?_
    refine PW_iload_n c_H_fact_1 rfl ?_
    refine PW_iload_n c_H_fact_2 rfl ?_
    refine PW_V0 (d2 := 1) (st := []) [.int (nI g), .int 2] c_H_fact_3 lk_H_fact_41 (po_6 _ _) rfl rfl rfl (Nat.le_of_ble_eq_true rfl) (by first | decide | omega) (Nat.le_of_ble_eq_true rfl) ?_
    refine sp_H_hasFact8 (w := 2) (by decide) rfl C.W C.x51 ?_
    show PW _ _ _ 6 [some (.ref 6), some (.int (nI g)), some (.int 2)] [.int (b2i (hasP y 2 (nI g)))] (E x y)
    refine PW_if_ne c_H_fact_6 (fun _ => ?_) (fun h0 => absurd hq (b2i_0.mp h0))
    refine PW_iload_n c_H_fact_11 rfl ?_
    refine PW_bipush (v := 7) c_H_fact_12 (by decide) ?_
    refine PW_icmp_ne c_H_fact_14 (fun _ => ?_) (fun h1 => absurd h1 (by decide))
    refine PW_aload_n c_H_fact_26 rfl ?_
    refine PW_get (v := .ref 7) c_H_fact_27 fl_H_13 (gf_6_0 _ _) ?_
    refine PW_iload_n c_H_fact_30 rfl ?_
    refine PW_aald (j := 2) c_H_fact_31 (ar_7 _ _) (t0 := 5) rfl rfl (vp_in_iff.mpr (by decide)) rfl ?_
    rw [if_pos (by decide)]
    show PW _ _ _ 32 [some (.ref 6), some (.int (nI g)), some (.int 2)] [.ref 10] (E x y)
    refine PW_iload_n c_H_fact_32 rfl ?_
    refine PW_iald (j := g) c_H_fact_33 (ar_10 _ _) (vp_in_nI (by omega) (by decide)) (nI_clamp (by omega)) ?_
    show PW _ _ _ 34 [some (.ref 6), some (.int (nI g)), some (.int 2)] [.int ((x.2.1 10) g)] (E x y)
    refine PW_ireturn (ty := .int) c_H_fact_34 rfl rfl ?_
    exact pqi h (C.row 2 (by omega) (by omega)).symm
  · show PW (2, 0, 0, z) m_H_fact post 0 [some (.ref 6), some (.int (nI g)), some (.int 3)] [] (E x y)
    have hq : hasP y 3 (nI g) := by unfold hasP; rw [nI_toInt (by omega)]; omega
    refine PW_aload_n c_H_fact_0 rfl ?_
    refine PW_iload_n c_H_fact_1 rfl ?_
    refine PW_iload_n c_H_fact_2 rfl ?_
    refine PW_V0 (d2 := 1) (st := []) [.int (nI g), .int 3] c_H_fact_3 lk_H_fact_41 (po_6 _ _) rfl rfl rfl (Nat.le_of_ble_eq_true rfl) (by first | decide | omega) (Nat.le_of_ble_eq_true rfl) ?_
    refine sp_H_hasFact8 (w := 3) (by decide) rfl C.W C.x51 ?_
    show PW _ _ _ 6 [some (.ref 6), some (.int (nI g)), some (.int 3)] [.int (b2i (hasP y 3 (nI g)))] (E x y)
    refine PW_if_ne c_H_fact_6 (fun _ => ?_) (fun h0 => absurd hq (b2i_0.mp h0))
    refine PW_iload_n c_H_fact_11 rfl ?_
    refine PW_bipush (v := 7) c_H_fact_12 (by decide) ?_
    refine PW_icmp_ne c_H_fact_14 (fun _ => ?_) (fun h1 => absurd h1 (by decide))
    refine PW_aload_n c_H_fact_26 rfl ?_
    refine PW_get (v := .ref 7) c_H_fact_27 fl_H_13 (gf_6_0 _ _) ?_
    refine PW_iload_n c_H_fact_30 rfl ?_
    refine PW_aald (j := 3) c_H_fact_31 (ar_7 _ _) (t0 := 5) rfl rfl (vp_in_iff.mpr (by decide)) rfl ?_
    rw [if_pos (by decide)]
    show PW _ _ _ 32 [some (.ref 6), some (.int (nI g)), some (.int 3)] [.ref 11] (E x y)
    refine PW_iload_n c_H_fact_32 rfl ?_
    refine PW_iald (j := g) c_H_fact_33 (ar_11 _ _) (vp_in_nI (by omega) (by decide)) (nI_clamp (by omega)) ?_
    show PW _ _ _ 34 [some (.ref 6), some (.int (nI g)), some (.int 3)] [.int ((x.2.1 11) g)] (E x y)
    refine PW_ireturn (ty := .int) c_H_fact_34 rfl rfl ?_
    exact pqi h (C.row 3 (by omega) (by omega)).symm
  · show PW (2, 0, 0, z) m_H_fact post 0 [some (.ref 6), some (.int (nI g)), some (.int 4)] [] (E x y)
    have hq : hasP y 4 (nI g) := by unfold hasP; rw [nI_toInt (by omega)]; omega
    refine PW_aload_n c_H_fact_0 rfl ?_
    refine PW_iload_n c_H_fact_1 rfl ?_
    refine PW_iload_n c_H_fact_2 rfl ?_
    refine PW_V0 (d2 := 1) (st := []) [.int (nI g), .int 4] c_H_fact_3 lk_H_fact_41 (po_6 _ _) rfl rfl rfl (Nat.le_of_ble_eq_true rfl) (by first | decide | omega) (Nat.le_of_ble_eq_true rfl) ?_
    refine sp_H_hasFact8 (w := 4) (by decide) rfl C.W C.x51 ?_
    show PW _ _ _ 6 [some (.ref 6), some (.int (nI g)), some (.int 4)] [.int (b2i (hasP y 4 (nI g)))] (E x y)
    refine PW_if_ne c_H_fact_6 (fun _ => ?_) (fun h0 => absurd hq (b2i_0.mp h0))
    refine PW_iload_n c_H_fact_11 rfl ?_
    refine PW_bipush (v := 7) c_H_fact_12 (by decide) ?_
    refine PW_icmp_ne c_H_fact_14 (fun _ => ?_) (fun h1 => absurd h1 (by decide))
    refine PW_aload_n c_H_fact_26 rfl ?_
    refine PW_get (v := .ref 7) c_H_fact_27 fl_H_13 (gf_6_0 _ _) ?_
    refine PW_iload_n c_H_fact_30 rfl ?_
    refine PW_aald (j := 4) c_H_fact_31 (ar_7 _ _) (t0 := 5) rfl rfl (vp_in_iff.mpr (by decide)) rfl ?_
    rw [if_pos (by decide)]
    show PW _ _ _ 32 [some (.ref 6), some (.int (nI g)), some (.int 4)] [.ref 12] (E x y)
    refine PW_iload_n c_H_fact_32 rfl ?_
    refine PW_iald (j := g) c_H_fact_33 (ar_12 _ _) (vp_in_nI (by omega) (by decide)) (nI_clamp (by omega)) ?_
    show PW _ _ _ 34 [some (.ref 6), some (.int (nI g)), some (.int 4)] [.int ((x.2.1 12) g)] (E x y)
    refine PW_ireturn (ty := .int) c_H_fact_34 rfl rfl ?_
    exact pqi h (C.row 4 (by omega) (by omega)).symm
  · show PW (2, 0, 0, z) m_H_fact post 0 [some (.ref 6), some (.int (nI g)), some (.int 5)] [] (E x y)
    have hq : hasP y 5 (nI g) := by unfold hasP; rw [nI_toInt (by omega)]; omega
    refine PW_aload_n c_H_fact_0 rfl ?_
    refine PW_iload_n c_H_fact_1 rfl ?_
    refine PW_iload_n c_H_fact_2 rfl ?_
    refine PW_V0 (d2 := 1) (st := []) [.int (nI g), .int 5] c_H_fact_3 lk_H_fact_41 (po_6 _ _) rfl rfl rfl (Nat.le_of_ble_eq_true rfl) (by first | decide | omega) (Nat.le_of_ble_eq_true rfl) ?_
    refine sp_H_hasFact8 (w := 5) (by decide) rfl C.W C.x51 ?_
    show PW _ _ _ 6 [some (.ref 6), some (.int (nI g)), some (.int 5)] [.int (b2i (hasP y 5 (nI g)))] (E x y)
    refine PW_if_ne c_H_fact_6 (fun _ => ?_) (fun h0 => absurd hq (b2i_0.mp h0))
    refine PW_iload_n c_H_fact_11 rfl ?_
    refine PW_bipush (v := 7) c_H_fact_12 (by decide) ?_
    refine PW_icmp_ne c_H_fact_14 (fun _ => ?_) (fun h1 => absurd h1 (by decide))
    refine PW_aload_n c_H_fact_26 rfl ?_
    refine PW_get (v := .ref 7) c_H_fact_27 fl_H_13 (gf_6_0 _ _) ?_
    refine PW_iload_n c_H_fact_30 rfl ?_
    refine PW_aald (j := 5) c_H_fact_31 (ar_7 _ _) (t0 := 5) rfl rfl (vp_in_iff.mpr (by decide)) rfl ?_
    rw [if_pos (by decide)]
    show PW _ _ _ 32 [some (.ref 6), some (.int (nI g)), some (.int 5)] [.ref 13] (E x y)
    refine PW_iload_n c_H_fact_32 rfl ?_
    refine PW_iald (j := g) c_H_fact_33 (ar_13 _ _) (vp_in_nI (by omega) (by decide)) (nI_clamp (by omega)) ?_
    show PW _ _ _ 34 [some (.ref 6), some (.int (nI g)), some (.int 5)] [.int ((x.2.1 13) g)] (E x y)
    refine PW_ireturn (ty := .int) c_H_fact_34 rfl rfl ?_
    exact pqi h (C.row 5 (by omega) (by omega)).symm
  · show PW (2, 0, 0, z) m_H_fact post 0 [some (.ref 6), some (.int (nI g)), some (.int 6)] [] (E x y)
    have hq : hasP y 6 (nI g) := by unfold hasP; rw [nI_toInt (by omega)]; omega
    refine PW_aload_n c_H_fact_0 rfl ?_
    refine PW_iload_n c_H_fact_1 rfl ?_
    refine PW_iload_n c_H_fact_2 rfl ?_
    refine PW_V0 (d2 := 1) (st := []) [.int (nI g), .int 6] c_H_fact_3 lk_H_fact_41 (po_6 _ _) rfl rfl rfl (Nat.le_of_ble_eq_true rfl) (by first | decide | omega) (Nat.le_of_ble_eq_true rfl) ?_
    refine sp_H_hasFact8 (w := 6) (by decide) rfl C.W C.x51 ?_
    show PW _ _ _ 6 [some (.ref 6), some (.int (nI g)), some (.int 6)] [.int (b2i (hasP y 6 (nI g)))] (E x y)
    refine PW_if_ne c_H_fact_6 (fun _ => ?_) (fun h0 => absurd hq (b2i_0.mp h0))
    refine PW_iload_n c_H_fact_11 rfl ?_
    refine PW_bipush (v := 7) c_H_fact_12 (by decide) ?_
    refine PW_icmp_ne c_H_fact_14 (fun _ => ?_) (fun h1 => absurd h1 (by decide))
    refine PW_aload_n c_H_fact_26 rfl ?_
    refine PW_get (v := .ref 7) c_H_fact_27 fl_H_13 (gf_6_0 _ _) ?_
    refine PW_iload_n c_H_fact_30 rfl ?_
    refine PW_aald (j := 6) c_H_fact_31 (ar_7 _ _) (t0 := 5) rfl rfl (vp_in_iff.mpr (by decide)) rfl ?_
    rw [if_pos (by decide)]
    show PW _ _ _ 32 [some (.ref 6), some (.int (nI g)), some (.int 6)] [.ref 14] (E x y)
    refine PW_iload_n c_H_fact_32 rfl ?_
    refine PW_iald (j := g) c_H_fact_33 (ar_14 _ _) (vp_in_nI (by omega) (by decide)) (nI_clamp (by omega)) ?_
    show PW _ _ _ 34 [some (.ref 6), some (.int (nI g)), some (.int 6)] [.int ((x.2.1 14) g)] (E x y)
    refine PW_ireturn (ty := .int) c_H_fact_34 rfl rfl ?_
    exact pqi h (C.row 6 (by omega) (by omega)).symm
  · show PW (2, 0, 0, z) m_H_fact post 0 [some (.ref 6), some (.int (nI g)), some (.int 7)] [] (E x y)
    have hq : hasP y 7 (nI g) := by unfold hasP; rw [nI_toInt (by omega)]; omega
    refine PW_aload_n c_H_fact_0 rfl ?_
    refine PW_iload_n c_H_fact_1 rfl ?_
    refine PW_iload_n c_H_fact_2 rfl ?_
    refine PW_V0 (d2 := 1) (st := []) [.int (nI g), .int 7] c_H_fact_3 lk_H_fact_41 (po_6 _ _) rfl rfl rfl (Nat.le_of_ble_eq_true rfl) (by first | decide | omega) (Nat.le_of_ble_eq_true rfl) ?_
    refine sp_H_hasFact8 (w := 7) (by decide) rfl C.W C.x51 ?_
    show PW _ _ _ 6 [some (.ref 6), some (.int (nI g)), some (.int 7)] [.int (b2i (hasP y 7 (nI g)))] (E x y)
    refine PW_if_ne c_H_fact_6 (fun _ => ?_) (fun h0 => absurd hq (b2i_0.mp h0))
    refine PW_iload_n c_H_fact_11 rfl ?_
    refine PW_bipush (v := 7) c_H_fact_12 (by decide) ?_
    refine PW_icmp_ne c_H_fact_14 (fun h1 => absurd (by decide) h1) (fun _ => ?_)
    refine PW_aload_n c_H_fact_17 rfl ?_
    refine PW_get (v := .ref 15) c_H_fact_18 fl_H_16 (gf_6_1 _ _) ?_
    refine PW_iload_n c_H_fact_21 rfl ?_
    refine PW_iald (j := g) c_H_fact_22 (ar_15 _ _) (vp_in_nI (by omega) (by decide)) (nI_clamp (by omega)) ?_
    show PW _ _ _ 23 [some (.ref 6), some (.int (nI g)), some (.int 7)] [.int ((x.2.1 15) g)] (E x y)
    refine PW_goto c_H_fact_23 ?_
    refine PW_ireturn (ty := .int) c_H_fact_34 rfl rfl ?_
    exact pqi h (C.2.2.2.1 g (by omega)).1.symm
theorem sp_M_valueAt8 {z : ZS} {post : Option Value → List PE → Prop} {x y : XS} {p u : Int32} {w g : Nat} (hn : nG y ≤ 10) (hw : w < 8) (hgw : (w = 7 ∧ g < 4) ∨ (w < 7 ∧ g < nG y)) (ep : p = nI g) (eu : u = nI w) (h : post (some (.int (y.2.1 (71 + w) g))) (E x y)) : PW (0, 0, 0, z) m_M_valueAt post 0 [some (.ref 70), some (.int u), some (.int p)] [] (E x y) := by
  subst ep; subst eu
  rcases (show w = 0 ∨ w = 1 ∨ w = 2 ∨ w = 3 ∨ w = 4 ∨ w = 5 ∨ w = 6 ∨ w = 7 by omega) with rfl | rfl | rfl | rfl | rfl | rfl | rfl | rfl
  · show PW (0, 0, 0, z) m_M_valueAt post 0 [some (.ref 70), some (.int 0), some (.int (nI g))] [] (E x y)
    refine PW_iload_n c_M_valueAt_0 rfl ?_
    refine PW_tableIn (tgt := 44) c_M_valueAt_1 (by decide) (by decide) rfl rfl ?_
    refine PW_aload_n c_M_valueAt_44 rfl ?_
    refine PW_get (v := .ref 71) c_M_valueAt_45 fl_M_7 (gf_70_2 _ _) ?_
    refine PW_iload_n c_M_valueAt_48 rfl ?_
    refine PW_iald (j := g) c_M_valueAt_49 (ar_71 _ _) (vp_in_nI (by omega) (by decide)) (nI_clamp (by omega)) ?_
    show PW _ _ _ 50 [some (.ref 70), some (.int 0), some (.int (nI g))] [.int ((y.2.1 71) g)] (E x y)
    refine PW_ireturn (ty := .int) c_M_valueAt_50 rfl rfl ?_
    exact h
  · show PW (0, 0, 0, z) m_M_valueAt post 0 [some (.ref 70), some (.int 1), some (.int (nI g))] [] (E x y)
    refine PW_iload_n c_M_valueAt_0 rfl ?_
    refine PW_tableIn (tgt := 51) c_M_valueAt_1 (by decide) (by decide) rfl rfl ?_
    refine PW_aload_n c_M_valueAt_51 rfl ?_
    refine PW_get (v := .ref 72) c_M_valueAt_52 fl_M_13 (gf_70_3 _ _) ?_
    refine PW_iload_n c_M_valueAt_55 rfl ?_
    refine PW_iald (j := g) c_M_valueAt_56 (ar_72 _ _) (vp_in_nI (by omega) (by decide)) (nI_clamp (by omega)) ?_
    show PW _ _ _ 57 [some (.ref 70), some (.int 1), some (.int (nI g))] [.int ((y.2.1 72) g)] (E x y)
    refine PW_ireturn (ty := .int) c_M_valueAt_57 rfl rfl ?_
    exact h
  · show PW (0, 0, 0, z) m_M_valueAt post 0 [some (.ref 70), some (.int 2), some (.int (nI g))] [] (E x y)
    refine PW_iload_n c_M_valueAt_0 rfl ?_
    refine PW_tableIn (tgt := 58) c_M_valueAt_1 (by decide) (by decide) rfl rfl ?_
    refine PW_aload_n c_M_valueAt_58 rfl ?_
    refine PW_get (v := .ref 73) c_M_valueAt_59 fl_M_16 (gf_70_4 _ _) ?_
    refine PW_iload_n c_M_valueAt_62 rfl ?_
    refine PW_iald (j := g) c_M_valueAt_63 (ar_73 _ _) (vp_in_nI (by omega) (by decide)) (nI_clamp (by omega)) ?_
    show PW _ _ _ 64 [some (.ref 70), some (.int 2), some (.int (nI g))] [.int ((y.2.1 73) g)] (E x y)
    refine PW_ireturn (ty := .int) c_M_valueAt_64 rfl rfl ?_
    exact h
  · show PW (0, 0, 0, z) m_M_valueAt post 0 [some (.ref 70), some (.int 3), some (.int (nI g))] [] (E x y)
    refine PW_iload_n c_M_valueAt_0 rfl ?_
    refine PW_tableIn (tgt := 65) c_M_valueAt_1 (by decide) (by decide) rfl rfl ?_
    refine PW_aload_n c_M_valueAt_65 rfl ?_
    refine PW_get (v := .ref 74) c_M_valueAt_66 fl_M_19 (gf_70_5 _ _) ?_
    refine PW_iload_n c_M_valueAt_69 rfl ?_
    refine PW_iald (j := g) c_M_valueAt_70 (ar_74 _ _) (vp_in_nI (by omega) (by decide)) (nI_clamp (by omega)) ?_
    show PW _ _ _ 71 [some (.ref 70), some (.int 3), some (.int (nI g))] [.int ((y.2.1 74) g)] (E x y)
    refine PW_ireturn (ty := .int) c_M_valueAt_71 rfl rfl ?_
    exact h
  · show PW (0, 0, 0, z) m_M_valueAt post 0 [some (.ref 70), some (.int 4), some (.int (nI g))] [] (E x y)
    refine PW_iload_n c_M_valueAt_0 rfl ?_
    refine PW_tableIn (tgt := 72) c_M_valueAt_1 (by decide) (by decide) rfl rfl ?_
    refine PW_aload_n c_M_valueAt_72 rfl ?_
    refine PW_get (v := .ref 75) c_M_valueAt_73 fl_M_22 (gf_70_6 _ _) ?_
    refine PW_iload_n c_M_valueAt_76 rfl ?_
    refine PW_iald (j := g) c_M_valueAt_77 (ar_75 _ _) (vp_in_nI (by omega) (by decide)) (nI_clamp (by omega)) ?_
    show PW _ _ _ 78 [some (.ref 70), some (.int 4), some (.int (nI g))] [.int ((y.2.1 75) g)] (E x y)
    refine PW_ireturn (ty := .int) c_M_valueAt_78 rfl rfl ?_
    exact h
  · show PW (0, 0, 0, z) m_M_valueAt post 0 [some (.ref 70), some (.int 5), some (.int (nI g))] [] (E x y)
    refine PW_iload_n c_M_valueAt_0 rfl ?_
    refine PW_tableIn (tgt := 79) c_M_valueAt_1 (by decide) (by decide) rfl rfl ?_
    refine PW_aload_n c_M_valueAt_79 rfl ?_
    refine PW_get (v := .ref 76) c_M_valueAt_80 fl_M_25 (gf_70_7 _ _) ?_
    refine PW_iload_n c_M_valueAt_83 rfl ?_
    refine PW_iald (j := g) c_M_valueAt_84 (ar_76 _ _) (vp_in_nI (by omega) (by decide)) (nI_clamp (by omega)) ?_
    show PW _ _ _ 85 [some (.ref 70), some (.int 5), some (.int (nI g))] [.int ((y.2.1 76) g)] (E x y)
    refine PW_ireturn (ty := .int) c_M_valueAt_85 rfl rfl ?_
    exact h
  · show PW (0, 0, 0, z) m_M_valueAt post 0 [some (.ref 70), some (.int 6), some (.int (nI g))] [] (E x y)
    refine PW_iload_n c_M_valueAt_0 rfl ?_
    refine PW_tableIn (tgt := 86) c_M_valueAt_1 (by decide) (by decide) rfl rfl ?_
    refine PW_aload_n c_M_valueAt_86 rfl ?_
    refine PW_get (v := .ref 77) c_M_valueAt_87 fl_M_28 (gf_70_8 _ _) ?_
    refine PW_iload_n c_M_valueAt_90 rfl ?_
    refine PW_iald (j := g) c_M_valueAt_91 (ar_77 _ _) (vp_in_nI (by omega) (by decide)) (nI_clamp (by omega)) ?_
    show PW _ _ _ 92 [some (.ref 70), some (.int 6), some (.int (nI g))] [.int ((y.2.1 77) g)] (E x y)
    refine PW_ireturn (ty := .int) c_M_valueAt_92 rfl rfl ?_
    exact h
  · show PW (0, 0, 0, z) m_M_valueAt post 0 [some (.ref 70), some (.int 7), some (.int (nI g))] [] (E x y)
    refine PW_iload_n c_M_valueAt_0 rfl ?_
    refine PW_tableOut (tgt := 93) c_M_valueAt_1 (by decide) rfl ?_
    refine PW_aload_n c_M_valueAt_93 rfl ?_
    refine PW_get (v := .ref 78) c_M_valueAt_94 fl_M_31 (gf_70_9 _ _) ?_
    refine PW_iload_n c_M_valueAt_97 rfl ?_
    refine PW_iald (j := g) c_M_valueAt_98 (ar_78 _ _) (vp_in_nI (by omega) (by decide)) (nI_clamp (by omega)) ?_
    show PW _ _ _ 99 [some (.ref 70), some (.int 7), some (.int (nI g))] [.int ((y.2.1 78) g)] (E x y)
    refine PW_ireturn (ty := .int) c_M_valueAt_99 rfl rfl ?_
    exact h
theorem sp_M_lays8 {z : ZS} {post : Option Value → List PE → Prop} {x y : XS} {p u v : Int32} {w g n : Nat} (hn : n ≤ 10) (hw : w < 8) (hgw : (w = 7 ∧ g < 4) ∨ (w < 7 ∧ g < n)) (ep : p = nI g) (eu : u = nI w) (h : post none (E x (lyY w y g v))) : PW (0, 0, 0, z) m_M_lays post 0 [some (.ref 70), some (.int u), some (.int p), some (.int v)] [] (E x y) := by
  subst ep; subst eu
  rcases (show w = 0 ∨ w = 1 ∨ w = 2 ∨ w = 3 ∨ w = 4 ∨ w = 5 ∨ w = 6 ∨ w = 7 by omega) with rfl | rfl | rfl | rfl | rfl | rfl | rfl | rfl
  · show PW (0, 0, 0, z) m_M_lays post 0 [some (.ref 70), some (.int 0), some (.int (nI g)), some (.int v)] [] (E x y)
    refine PW_iload_n c_M_lays_0 rfl ?_
    refine PW_tableIn (tgt := 44) c_M_lays_1 (by decide) (by decide) rfl rfl ?_
    refine PW_aload_n c_M_lays_44 rfl ?_
    refine PW_get (v := .ref 71) c_M_lays_45 fl_M_7 (gf_70_2 _ _) ?_
    refine PW_iload_n c_M_lays_48 rfl ?_
    refine PW_iload_n c_M_lays_49 rfl ?_
    refine PW_iast (j := g) (w2 := E x (sA y 71 (upd (y.2.1 71) g v))) c_M_lays_50 (ar_71 _ _) (vp_in_nI (by omega) (by decide)) (nI_clamp (by omega)) (aw_71 _ _ _) ?_
    refine PW_goto c_M_lays_51 ?_
    refine PW_vreturn c_M_lays_121 rfl ?_
    exact h
  · show PW (0, 0, 0, z) m_M_lays post 0 [some (.ref 70), some (.int 1), some (.int (nI g)), some (.int v)] [] (E x y)
    refine PW_iload_n c_M_lays_0 rfl ?_
    refine PW_tableIn (tgt := 54) c_M_lays_1 (by decide) (by decide) rfl rfl ?_
    refine PW_aload_n c_M_lays_54 rfl ?_
    refine PW_get (v := .ref 72) c_M_lays_55 fl_M_13 (gf_70_3 _ _) ?_
    refine PW_iload_n c_M_lays_58 rfl ?_
    refine PW_iload_n c_M_lays_59 rfl ?_
    refine PW_iast (j := g) (w2 := E x (sA y 72 (upd (y.2.1 72) g v))) c_M_lays_60 (ar_72 _ _) (vp_in_nI (by omega) (by decide)) (nI_clamp (by omega)) (aw_72 _ _ _) ?_
    refine PW_goto c_M_lays_61 ?_
    refine PW_vreturn c_M_lays_121 rfl ?_
    exact h
  · show PW (0, 0, 0, z) m_M_lays post 0 [some (.ref 70), some (.int 2), some (.int (nI g)), some (.int v)] [] (E x y)
    refine PW_iload_n c_M_lays_0 rfl ?_
    refine PW_tableIn (tgt := 64) c_M_lays_1 (by decide) (by decide) rfl rfl ?_
    refine PW_aload_n c_M_lays_64 rfl ?_
    refine PW_get (v := .ref 73) c_M_lays_65 fl_M_16 (gf_70_4 _ _) ?_
    refine PW_iload_n c_M_lays_68 rfl ?_
    refine PW_iload_n c_M_lays_69 rfl ?_
    refine PW_iast (j := g) (w2 := E x (sA y 73 (upd (y.2.1 73) g v))) c_M_lays_70 (ar_73 _ _) (vp_in_nI (by omega) (by decide)) (nI_clamp (by omega)) (aw_73 _ _ _) ?_
    refine PW_goto c_M_lays_71 ?_
    refine PW_vreturn c_M_lays_121 rfl ?_
    exact h
  · show PW (0, 0, 0, z) m_M_lays post 0 [some (.ref 70), some (.int 3), some (.int (nI g)), some (.int v)] [] (E x y)
    refine PW_iload_n c_M_lays_0 rfl ?_
    refine PW_tableIn (tgt := 74) c_M_lays_1 (by decide) (by decide) rfl rfl ?_
    refine PW_aload_n c_M_lays_74 rfl ?_
    refine PW_get (v := .ref 74) c_M_lays_75 fl_M_19 (gf_70_5 _ _) ?_
    refine PW_iload_n c_M_lays_78 rfl ?_
    refine PW_iload_n c_M_lays_79 rfl ?_
    refine PW_iast (j := g) (w2 := E x (sA y 74 (upd (y.2.1 74) g v))) c_M_lays_80 (ar_74 _ _) (vp_in_nI (by omega) (by decide)) (nI_clamp (by omega)) (aw_74 _ _ _) ?_
    refine PW_goto c_M_lays_81 ?_
    refine PW_vreturn c_M_lays_121 rfl ?_
    exact h
  · show PW (0, 0, 0, z) m_M_lays post 0 [some (.ref 70), some (.int 4), some (.int (nI g)), some (.int v)] [] (E x y)
    refine PW_iload_n c_M_lays_0 rfl ?_
    refine PW_tableIn (tgt := 84) c_M_lays_1 (by decide) (by decide) rfl rfl ?_
    refine PW_aload_n c_M_lays_84 rfl ?_
    refine PW_get (v := .ref 75) c_M_lays_85 fl_M_22 (gf_70_6 _ _) ?_
    refine PW_iload_n c_M_lays_88 rfl ?_
    refine PW_iload_n c_M_lays_89 rfl ?_
    refine PW_iast (j := g) (w2 := E x (sA y 75 (upd (y.2.1 75) g v))) c_M_lays_90 (ar_75 _ _) (vp_in_nI (by omega) (by decide)) (nI_clamp (by omega)) (aw_75 _ _ _) ?_
    refine PW_goto c_M_lays_91 ?_
    refine PW_vreturn c_M_lays_121 rfl ?_
    exact h
  · show PW (0, 0, 0, z) m_M_lays post 0 [some (.ref 70), some (.int 5), some (.int (nI g)), some (.int v)] [] (E x y)
    refine PW_iload_n c_M_lays_0 rfl ?_
    refine PW_tableIn (tgt := 94) c_M_lays_1 (by decide) (by decide) rfl rfl ?_
    refine PW_aload_n c_M_lays_94 rfl ?_
    refine PW_get (v := .ref 76) c_M_lays_95 fl_M_25 (gf_70_7 _ _) ?_
    refine PW_iload_n c_M_lays_98 rfl ?_
    refine PW_iload_n c_M_lays_99 rfl ?_
    refine PW_iast (j := g) (w2 := E x (sA y 76 (upd (y.2.1 76) g v))) c_M_lays_100 (ar_76 _ _) (vp_in_nI (by omega) (by decide)) (nI_clamp (by omega)) (aw_76 _ _ _) ?_
    refine PW_goto c_M_lays_101 ?_
    refine PW_vreturn c_M_lays_121 rfl ?_
    exact h
  · show PW (0, 0, 0, z) m_M_lays post 0 [some (.ref 70), some (.int 6), some (.int (nI g)), some (.int v)] [] (E x y)
    refine PW_iload_n c_M_lays_0 rfl ?_
    refine PW_tableIn (tgt := 104) c_M_lays_1 (by decide) (by decide) rfl rfl ?_
    refine PW_aload_n c_M_lays_104 rfl ?_
    refine PW_get (v := .ref 77) c_M_lays_105 fl_M_28 (gf_70_8 _ _) ?_
    refine PW_iload_n c_M_lays_108 rfl ?_
    refine PW_iload_n c_M_lays_109 rfl ?_
    refine PW_iast (j := g) (w2 := E x (sA y 77 (upd (y.2.1 77) g v))) c_M_lays_110 (ar_77 _ _) (vp_in_nI (by omega) (by decide)) (nI_clamp (by omega)) (aw_77 _ _ _) ?_
    refine PW_goto c_M_lays_111 ?_
    refine PW_vreturn c_M_lays_121 rfl ?_
    exact h
  · show PW (0, 0, 0, z) m_M_lays post 0 [some (.ref 70), some (.int 7), some (.int (nI g)), some (.int v)] [] (E x y)
    refine PW_iload_n c_M_lays_0 rfl ?_
    refine PW_tableOut (tgt := 114) c_M_lays_1 (by decide) rfl ?_
    refine PW_aload_n c_M_lays_114 rfl ?_
    refine PW_get (v := .ref 78) c_M_lays_115 fl_M_31 (gf_70_9 _ _) ?_
    refine PW_iload_n c_M_lays_118 rfl ?_
    refine PW_iload_n c_M_lays_119 rfl ?_
    refine PW_iast (j := g) (w2 := E x (sA y 78 (upd (y.2.1 78) g v))) c_M_lays_120 (ar_78 _ _) (vp_in_nI (by omega) (by decide)) (nI_clamp (by omega)) (aw_78 _ _ _) ?_
    refine PW_vreturn c_M_lays_121 rfl ?_
    exact h
theorem sfX_1 {w g n : Nat} {x : XS} {v : Int32} (h : n ≠ 52) (h2 : n ≠ 53) : (sfX w x g v).1 n = x.1 n := by
  unfold sfX
  split
  · rfl
  · split
    · rw [sI_n h]; rfl
    · split
      · rw [sI_n h2]; rfl
      · rfl
theorem sfX_A {w g a : Nat} {x : XS} {v : Int32} (hw : w < 8) (h : a < 8 ∨ 22 ≤ a ∨ a = 16) : (sfX w x g v).2.1 a = x.2.1 a := by
  unfold sfX
  split
  · rename_i q
    rcases h with h | h | h
    · rw [seK_lo (by omega)]; exact if_neg (by omega)
    · rw [seK_hi h]; exact if_neg (by omega)
    · rw [seK_lo (by omega)]; exact if_neg (by omega)
  · split
    · rw [sI_A]; exact if_neg (by omega)
    · split
      · rw [sI_A]; exact if_neg (by omega)
      · exact if_neg (by omega)
theorem sfX_G {w g : Nat} {x : XS} {v : Int32} : (sfX w x g v).2.2 = x.2.2 := by
  unfold sfX
  split
  · rfl
  · split
    · rfl
    · split
      · rfl
      · rfl
theorem sfX_row {w g i a : Nat} {x : XS} {v : Int32} (hw : w < 8) (ha : a < 8) : (sfX w x g v).2.1 (8 + a) i = if a = w ∧ i = g then v else x.2.1 (8 + a) i := by
  have key : ∀ u : XS, u.2.1 (8 + a) = (sA x (8 + w) (upd (x.2.1 (8 + w)) g v)).2.1 (8 + a) → u.2.1 (8 + a) i = if a = w ∧ i = g then v else x.2.1 (8 + a) i := fun u hu => by
    rw [hu]
    by_cases q : a = w
    · subst q
      rw [sA_at]
      by_cases q2 : i = g
      · subst q2; rw [upd_s, if_pos ⟨rfl, rfl⟩]
      · rw [upd_n q2, if_neg (fun z => q2 z.2)]
    · rw [if_neg (fun z => q z.1)]
      exact congrFun (if_neg (show ¬ 8 + a = 8 + w by omega)) i
  refine key _ ?_
  unfold sfX
  split
  · exact seK_lo (by omega)
  · split
    · rename_i q; subst q; rfl
    · split
      · rename_i q; subst q; rfl
      · rfl
theorem lyY_1 {w g : Nat} {y : XS} {v : Int32} : (lyY w y g v).1 = y.1 := rfl
theorem lyY_row {w g i a : Nat} {y : XS} {v : Int32} : (lyY w y g v).2.1 (71 + a) i = if a = w ∧ i = g then v else y.2.1 (71 + a) i := by
  unfold lyY
  by_cases q : a = w
  · subst q
    rw [sA_at]
    by_cases q2 : i = g
    · subst q2; rw [upd_s, if_pos ⟨rfl, rfl⟩]
    · rw [upd_n q2, if_neg (fun z => q2 z.2)]
  · rw [if_neg (fun z => q z.1)]
    exact congrFun (if_neg (show ¬ 71 + a = 71 + w by omega)) i
theorem rX_rO {x y : XS} {g : Nat} (h : ∀ a, a < 3 → x.2.1 (8 + a) g = y.2.1 (71 + a) g) (m : Int32) : rX x g m = rO y g m := by
  unfold rX rO
  rw [h 0 (by omega), h 1 (by omega), h 2 (by omega)]
theorem seK_end {x : XS} {g k r : Nat} (hr : r < 5) (m : Nat) : (seK x g k 0).2.1 (17 + r) m = if m < k then wb (x.2.1 (17 + r) m) g (decide (rX x g (nI m) = nI r)) else x.2.1 (17 + r) m := by
  show (if 17 ≤ 17 + r ∧ 17 + r < 22 then (fun m => if m < k ∨ (m = k ∧ 17 + r < 17 + 0) then wb (x.2.1 (17 + r) m) g (decide (rX x g (nI m) = nI (17 + r - 17))) else x.2.1 (17 + r) m) else x.2.1 (17 + r)) m = _
  rw [if_pos (by omega), show 17 + r - 17 = r by omega]
  by_cases q : m < k
  · rw [if_pos (Or.inl q), if_pos q]
  · rw [if_neg (by omega), if_neg q]
theorem CPg_set {x y : XS} {w g : Nat} {v : Int32} (C : CPg x y) (hw : w < 8) (hgw : (w = 7 ∧ g < 4) ∨ (w < 7 ∧ g < nG y)) (hv : okv w v) : CPg (sfX w x g v) (lyY w y g v) := by
  obtain ⟨h1, h2, h3, h4, h5, h6, h7, h8⟩ := id C
  have hn := h1.2
  have e : nG (lyY w y g v) = nG y := rfl
  refine ⟨h1, by rw [sfX_1 (by decide) (by decide)]; exact h2, fun a ha i hi => ?_, fun i hi => ?_, fun i q1 q2 => ?_, fun r m hr hm => ?_, ?_, ?_⟩
  · rw [sfX_row hw (by omega), lyY_row]
    by_cases q : a = w ∧ i = g
    · rw [if_pos q, if_pos q, q.1]; exact ⟨rfl, hv⟩
    · rw [if_neg q, if_neg q]; exact h3 a ha i hi
  · have r1 := sfX_row (w := w) (g := g) (i := i) (a := 7) (x := x) (v := v) hw (by omega)
    have r2 := lyY_row (w := w) (g := g) (i := i) (a := 7) (y := y) (v := v)
    rw [show 15 = 8 + 7 from rfl, show 78 = 71 + 7 from rfl, r1, r2]
    by_cases q : 7 = w ∧ i = g
    · rw [if_pos q, if_pos q, q.1]; exact ⟨rfl, hv⟩
    · rw [if_neg q, if_neg q]; exact h4 i hi
  · have r1 := sfX_row (w := w) (g := g) (i := i) (a := 5) (x := x) (v := v) hw (by omega)
    rw [show 13 = 8 + 5 from rfl, r1, if_neg (fun q => by rw [e] at q1; omega)]
    exact h5 i q1 q2
  · by_cases hw2 : w ≤ 2
    · have hgn : g < nG y := by omega
      have hx : sfX w x g v = seK (sA x (8 + w) (upd (x.2.1 (8 + w)) g v)) g 100 0 := if_pos hw2
      have hrow : ∀ a, a < 3 → (sA x (8 + w) (upd (x.2.1 (8 + w)) g v)).2.1 (8 + a) g = (lyY w y g v).2.1 (71 + a) g := fun a ha => by
        have r1 := sfX_row (w := w) (g := g) (i := g) (a := a) (x := x) (v := v) hw (by omega)
        rw [hx, seK_lo (by omega)] at r1
        rw [r1, lyY_row]
        by_cases q : a = w ∧ g = g
        · rw [if_pos q, if_pos q]
        · rw [if_neg q, if_neg q]; exact (h3 a (by omega) g hgn).1
      rw [hx, seK_end hr, if_pos hm, rX_rO hrow, show (sA x (8 + w) (upd (x.2.1 (8 + w)) g v)).2.1 (17 + r) m = x.2.1 (17 + r) m from congrFun (if_neg (by omega)) m, h6 r m hr hm]
      unfold thI
      rw [e, wb_bitsT hn hgn]
      refine bitsT_cong fun i hi => ?_
      by_cases q : i = g
      · rw [if_pos q, q]
        by_cases z : rO (lyY w y g v) g (nI m) = nI r
        · rw [decide_eq_true z]; exact (beq_iff_eq.mpr z).symm
        · rw [decide_eq_false z]; exact (beq_eq_false_iff_ne.mpr z).symm
      · rw [if_neg q]
        unfold rO
        rw [show (71 : Nat) = 71 + 0 from rfl, show (72 : Nat) = 71 + 1 from rfl, show (73 : Nat) = 71 + 2 from rfl, lyY_row, lyY_row, lyY_row, if_neg (show ¬ (0 = w ∧ i = g) by omega), if_neg (show ¬ (1 = w ∧ i = g) by omega), if_neg (show ¬ (2 = w ∧ i = g) by omega)]
    · have hx : (sfX w x g v).2.1 (17 + r) = x.2.1 (17 + r) := by
        unfold sfX
        rw [if_neg hw2]
        split
        · exact if_neg (by omega)
        · split
          · exact if_neg (by omega)
          · exact if_neg (by omega)
      rw [hx, h6 r m hr hm]
      unfold thI
      rw [e]
      refine bitsT_cong fun i hi => ?_
      unfold rO
      rw [show (71 : Nat) = 71 + 0 from rfl, show (72 : Nat) = 71 + 1 from rfl, show (73 : Nat) = 71 + 2 from rfl, lyY_row, lyY_row, lyY_row, if_neg (show ¬ (0 = w ∧ i = g) by omega), if_neg (show ¬ (1 = w ∧ i = g) by omega), if_neg (show ¬ (2 = w ∧ i = g) by omega)]
  · unfold mustB
    rw [e]
    by_cases q : w = 4
    · subst q
      have hgn : g < nG y := by omega
      show wb (x.1 52) g (decide (v = 1)) = orS (upd (y.2.1 75) g v) (nG y)
      rw [h7]
      exact wb_orS hn hgn (fun k hk => okv_01 (Or.inl rfl) (h3 4 (by omega) k hk).2) (okv_01 (Or.inl rfl) hv)
    · have q1 : (sfX w x g v).1 52 = x.1 52 := by
        unfold sfX
        by_cases z1 : w ≤ 2
        · rw [if_pos z1]; rfl
        · rw [if_neg z1, if_neg q]
          by_cases z2 : w = 5
          · rw [if_pos z2]; exact sI_n (by decide)
          · rw [if_neg z2]; rfl
      have q2 : (lyY w y g v).2.1 75 = y.2.1 75 := if_neg (by omega)
      rw [q1, q2]; exact h7
  · unfold hostB
    rw [e]
    by_cases q : w = 5
    · subst q
      have hgn : g < nG y := by omega
      show wb (x.1 53) g (decide (v = 1)) = orS (upd (y.2.1 76) g v) (nG y)
      rw [h8]
      exact wb_orS hn hgn (fun k hk => okv_01 (Or.inr rfl) (h3 5 (by omega) k hk).2) (okv_01 (Or.inr rfl) hv)
    · have q1 : (sfX w x g v).1 53 = x.1 53 := by
        unfold sfX
        by_cases z1 : w ≤ 2
        · rw [if_pos z1]; rfl
        · rw [if_neg z1]
          by_cases z2 : w = 4
          · rw [if_pos z2]; exact sI_n (by decide)
          · rw [if_neg z2, if_neg q]; rfl
      have q2 : (lyY w y g v).2.1 76 = y.2.1 76 := if_neg (by omega)
      rw [q1, q2]; exact h8
