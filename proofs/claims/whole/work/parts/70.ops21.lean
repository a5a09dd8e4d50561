set_option maxHeartbeats 4000000 in
theorem op_drawn {t : Nat} {x y : XS} {a1 : Int32} {a2 : Int32} {a3 : Int32} (hI : INV t x y) (ht : t < 512) : ∃ (r : Int32) (x' y' : XS), INV (t + 1) x' y' ∧ (∀ {z : ZS} {post : Option Value → List PE → Prop}, post (some (.int r)) (E x' y) → PW (90, 0, 0, z) m_G_drawn post 0 [some (.ref 5), some (.int a1), some (.int a2), some (.int a3), none, none, none, none, none, none] [] (E x y)) ∧ (∀ {z : ZS} {post : Option Value → List PE → Prop}, post (some (.int r)) (E x' y') → PW (90, 0, 0, z) m_M_drawn post 0 [some (.ref 70), some (.int a1), some (.int a2), some (.int a3), none, none, none, none, none] [] (E x' y)) := by
  obtain ⟨hg, hc, ht0, hl, hd, hb, hs⟩ := id hI
  obtain ⟨T, hT⟩ := lawIs_of hl

  by_cases hc0 : a2 < 0
  · refine ⟨-1, x, y, ?_, fun {z post} h => ?_, fun {z post} h => ?_⟩
    · exact INV_step hI
    · refine PW.deeper (k := (5, 0, 0, z)) (Nat.le_of_ble_eq_true rfl) (Nat.le_refl _) (Nat.le_refl _) ?_
      refine PW_iload_n c_G_drawn_0 rfl ?_
      refine PW_bipush (v := 100) c_G_drawn_1 (by decide) ?_
      refine PW_irem c_G_drawn_3 (by decide) ?_
      refine PW_istore (i := 4) (L2 := [some (.ref 5), some (.int a1), some (.int a2), some (.int a3), some (.int (a2 - a2 / 100 * 100)), none, none, none, none, none]) c_G_drawn_4 (Nat.le_of_ble_eq_true rfl) rfl rfl ?_
      refine PW_iload_n c_G_drawn_6 rfl ?_
      refine PW_if_lt c_G_drawn_7 (fun h0 => ?_) (fun h0 => absurd hc0 h0)
      refine PW_iconst (v := -1) c_G_drawn_29 (by decide) ?_
      refine PW_ireturn (ty := .int) c_G_drawn_30 rfl rfl ?_
      exact h
    · refine PW.deeper (k := (5, 0, 0, z)) (Nat.le_of_ble_eq_true rfl) (Nat.le_refl _) (Nat.le_refl _) ?_
      refine PW_iload_n c_M_drawn_0 rfl ?_
      refine PW_if_lt c_M_drawn_1 (fun h0 => ?_) (fun h0 => absurd hc0 h0)
      refine PW_iconst (v := -1) c_M_drawn_36 (by decide) ?_
      refine PW_ireturn (ty := .int) c_M_drawn_37 rfl rfl ?_
      exact h
  by_cases hc1 : ¬ (0 ≤ a2 / 100 ∧ 0 ≤ a2 / 100 / 100 ∧ a2 / 100 / 100 ≤ 4)
  · refine ⟨-1, x, y, ?_, fun {z post} h => ?_, fun {z post} h => ?_⟩
    · exact INV_step hI
    · refine PW.deeper (k := (5, 0, 0, z)) (Nat.le_of_ble_eq_true rfl) (Nat.le_refl _) (Nat.le_refl _) ?_
      refine PW_iload_n c_G_drawn_0 rfl ?_
      refine PW_bipush (v := 100) c_G_drawn_1 (by decide) ?_
      refine PW_irem c_G_drawn_3 (by decide) ?_
      refine PW_istore (i := 4) (L2 := [some (.ref 5), some (.int a1), some (.int a2), some (.int a3), some (.int (a2 - a2 / 100 * 100)), none, none, none, none, none]) c_G_drawn_4 (Nat.le_of_ble_eq_true rfl) rfl rfl ?_
      refine PW_iload_n c_G_drawn_6 rfl ?_
      refine PW_if_lt c_G_drawn_7 (fun h0 => absurd h0 hc0) (fun h0 => ?_)
      refine PW_iload_n c_G_drawn_10 rfl ?_
      refine PW_bipush (v := 100) c_G_drawn_11 (by decide) ?_
      refine PW_idiv c_G_drawn_13 (by decide) ?_
      refine PW_S0 (d2 := 1) (st := []) [.int (a2 / 100)] c_G_drawn_14 lk_G_drawn_163 rfl rfl rfl (Nat.le_of_ble_eq_true rfl) (by first | decide | omega) (Nat.le_of_ble_eq_true rfl) ?_
      refine sp_G_isRoomMinute  ?_
      show PW _ _ _ 17 [some (.ref 5), some (.int a1), some (.int a2), some (.int a3), some (.int (a2 - a2 / 100 * 100)), none, none, none, none, none] [.int (b2i (0 ≤ (a2 / 100) ∧ 0 ≤ (a2 / 100) / 100 ∧ (a2 / 100) / 100 ≤ 4))] (E x y)
      refine PW_if_eq c_G_drawn_17 (fun _ => ?_) (fun h1 => absurd (b2i_n0.mp h1) hc1)
      refine PW_iconst (v := -1) c_G_drawn_29 (by decide) ?_
      refine PW_ireturn (ty := .int) c_G_drawn_30 rfl rfl ?_
      exact h
    · refine PW.deeper (k := (5, 0, 0, z)) (Nat.le_of_ble_eq_true rfl) (Nat.le_refl _) (Nat.le_refl _) ?_
      refine PW_iload_n c_M_drawn_0 rfl ?_
      refine PW_if_lt c_M_drawn_1 (fun h0 => absurd h0 hc0) (fun h0 => ?_)
      refine PW_iload_n c_M_drawn_4 rfl ?_
      refine PW_bipush (v := 100) c_M_drawn_5 (by decide) ?_
      refine PW_idiv c_M_drawn_7 (by decide) ?_
      refine PW_S0 (d2 := 2) (st := []) [.int (a2 / 100)] c_M_drawn_8 lk_M_drawn_283 rfl rfl rfl (Nat.le_of_ble_eq_true rfl) (by first | decide | omega) (Nat.le_of_ble_eq_true rfl) ?_
      refine sp_M_isTime  ?_
      show PW _ _ _ 11 [some (.ref 70), some (.int a1), some (.int a2), some (.int a3), none, none, none, none, none] [.int (b2i (0 ≤ (a2 / 100) ∧ 0 ≤ (a2 / 100) / 100 ∧ (a2 / 100) / 100 ≤ 4))] (E x y)
      refine PW_if_eq c_M_drawn_11 (fun _ => ?_) (fun h1 => absurd (b2i_n0.mp h1) hc1)
      refine PW_iconst (v := -1) c_M_drawn_36 (by decide) ?_
      refine PW_ireturn (ty := .int) c_M_drawn_37 rfl rfl ?_
      exact h
  replace hc1 := Decidable.not_not.mp hc1
  have hn0 : 0 ≤ a2.toInt := by simp only [Int32.not_lt, Int32.le_iff_toInt_le, tiA] at hc0; omega
  obtain ⟨a, mm, ha, hmm, -, ea, em⟩ := tm_ex hc1
  have ee : a2 / 10000 = nI a := (d10000 hn0).trans ea
  by_cases hw0 : a3 = 0
  · subst hw0
    by_cases hc2 : ¬ (1 ≤ a2 - a2 / 100 * 100 ∧ a2 - a2 / 100 * 100 ≤ 30)
    · refine ⟨-1, x, y, ?_, fun {z post} h => ?_, fun {z post} h => ?_⟩
      · exact INV_step hI
      · refine PW.deeper (k := (5, 0, 0, z)) (Nat.le_of_ble_eq_true rfl) (Nat.le_refl _) (Nat.le_refl _) ?_
        refine PW_iload_n c_G_drawn_0 rfl ?_
        refine PW_bipush (v := 100) c_G_drawn_1 (by decide) ?_
        refine PW_irem c_G_drawn_3 (by decide) ?_
        refine PW_istore (i := 4) (L2 := [some (.ref 5), some (.int a1), some (.int a2), some (.int 0), some (.int (a2 - a2 / 100 * 100)), none, none, none, none, none]) c_G_drawn_4 (Nat.le_of_ble_eq_true rfl) rfl rfl ?_
        refine PW_iload_n c_G_drawn_6 rfl ?_
        refine PW_if_lt c_G_drawn_7 (fun h0 => absurd h0 hc0) (fun h0 => ?_)
        refine PW_iload_n c_G_drawn_10 rfl ?_
        refine PW_bipush (v := 100) c_G_drawn_11 (by decide) ?_
        refine PW_idiv c_G_drawn_13 (by decide) ?_
        refine PW_S0 (d2 := 1) (st := []) [.int (a2 / 100)] c_G_drawn_14 lk_G_drawn_163 rfl rfl rfl (Nat.le_of_ble_eq_true rfl) (by first | decide | omega) (Nat.le_of_ble_eq_true rfl) ?_
        refine sp_G_isRoomMinute  ?_
        show PW _ _ _ 17 [some (.ref 5), some (.int a1), some (.int a2), some (.int 0), some (.int (a2 - a2 / 100 * 100)), none, none, none, none, none] [.int (b2i (0 ≤ (a2 / 100) ∧ 0 ≤ (a2 / 100) / 100 ∧ (a2 / 100) / 100 ≤ 4))] (E x y)
        refine PW_if_eq c_G_drawn_17 (fun h1 => absurd hc1 (b2i_0.mp h1)) (fun _ => ?_)
        refine PW_iload_n c_G_drawn_20 rfl ?_
        refine PW_if_lt c_G_drawn_21 (fun h2 => absurd h2 (by decide)) (fun _ => ?_)
        refine PW_iload_n c_G_drawn_24 rfl ?_
        refine PW_iconst (v := 1) c_G_drawn_25 (by decide) ?_
        refine PW_icmp_le c_G_drawn_26 (fun _ => ?_) (fun h3 => absurd (by decide) h3)
        refine PW_iload c_G_drawn_31 rfl ?_
        refine PW_iconst (v := 1) c_G_drawn_33 (by decide) ?_
        refine PW_icmp_lt c_G_drawn_34 (fun h4 => ?_) (fun h4 => ?_)
        · refine PW_iconst (v := -1) c_G_drawn_44 (by decide) ?_
          refine PW_ireturn (ty := .int) c_G_drawn_45 rfl rfl ?_
          exact h
        · refine PW_iload c_G_drawn_37 rfl ?_
          refine PW_bipush (v := 30) c_G_drawn_39 (by decide) ?_
          refine PW_icmp_le c_G_drawn_41 (fun h5 => ?_) (fun h5 => ?_)
          · exact absurd ⟨Int32.not_lt.mp h4, h5⟩ hc2
          · refine PW_iconst (v := -1) c_G_drawn_44 (by decide) ?_
            refine PW_ireturn (ty := .int) c_G_drawn_45 rfl rfl ?_
            exact h
      · refine PW.deeper (k := (5, 0, 0, z)) (Nat.le_of_ble_eq_true rfl) (Nat.le_refl _) (Nat.le_refl _) ?_
        refine PW_iload_n c_M_drawn_0 rfl ?_
        refine PW_if_lt c_M_drawn_1 (fun h0 => absurd h0 hc0) (fun h0 => ?_)
        refine PW_iload_n c_M_drawn_4 rfl ?_
        refine PW_bipush (v := 100) c_M_drawn_5 (by decide) ?_
        refine PW_idiv c_M_drawn_7 (by decide) ?_
        refine PW_S0 (d2 := 2) (st := []) [.int (a2 / 100)] c_M_drawn_8 lk_M_drawn_283 rfl rfl rfl (Nat.le_of_ble_eq_true rfl) (by first | decide | omega) (Nat.le_of_ble_eq_true rfl) ?_
        refine sp_M_isTime  ?_
        show PW _ _ _ 11 [some (.ref 70), some (.int a1), some (.int a2), some (.int 0), none, none, none, none, none] [.int (b2i (0 ≤ (a2 / 100) ∧ 0 ≤ (a2 / 100) / 100 ∧ (a2 / 100) / 100 ≤ 4))] (E x y)
        refine PW_if_eq c_M_drawn_11 (fun h1 => absurd hc1 (b2i_0.mp h1)) (fun _ => ?_)
        refine PW_iload_n c_M_drawn_14 rfl ?_
        refine PW_bipush (v := 100) c_M_drawn_15 (by decide) ?_
        refine PW_irem c_M_drawn_17 (by decide) ?_
        refine PW_iconst (v := 1) c_M_drawn_18 (by decide) ?_
        refine PW_bipush (v := 30) c_M_drawn_19 (by decide) ?_
        refine PW_S0 (d2 := 0) (st := []) [.int (a2 - a2 / 100 * 100), .int 1, .int 30] c_M_drawn_21 lk_M_drawn_131 rfl rfl rfl (Nat.le_of_ble_eq_true rfl) (by first | decide | omega) (Nat.le_of_ble_eq_true rfl) ?_
        refine sp_M_within  ?_
        show PW _ _ _ 24 [some (.ref 70), some (.int a1), some (.int a2), some (.int 0), none, none, none, none, none] [.int (b2i ((1 : Int32) ≤ (a2 - a2 / 100 * 100) ∧ (a2 - a2 / 100 * 100) ≤ (30 : Int32)))] (E x y)
        refine PW_if_eq c_M_drawn_24 (fun _ => ?_) (fun h2 => absurd (b2i_n0.mp h2) hc2)
        refine PW_iconst (v := -1) c_M_drawn_36 (by decide) ?_
        refine PW_ireturn (ty := .int) c_M_drawn_37 rfl rfl ?_
        exact h
    replace hc2 := Decidable.not_not.mp hc2
    obtain ⟨R, R1, eR, R3, R4⟩ := nI_ex (x := a2 - a2 / 100 * 100) (by simp only [Int32.le_iff_toInt_le, tiA] at hc2; omega)
    obtain ⟨f, hf⟩ : ∃ f : Int32 → Int32, ∀ z : Int32, z * 1103515245 + 12345 = f z := ⟨fun z => z * 1103515245 + 12345, fun _ => rfl⟩
    have hR : 1 ≤ R ∧ R ≤ 30 := by simp only [Int32.le_iff_toInt_le, tiA] at hc2; omega
    obtain ⟨XX, zX, hXX, HG⟩ := lp_G_drawn (T := T) (a1 := a1) (a2 := a2) (a3 := 0) hf hg hT ha hmm hR.2 ee em R 0 a1 0 0 x (Nat.zero_add _) (xS_0 x)
    obtain ⟨YY, zY, hYY, HM⟩ := lp_M_drawn (T := T) (x := XX) (x0 := x) (a1 := a1) (a2 := a2) (a3 := 0) hf hg hT ha hmm hR.2 ee em eR (fun z0 => drI_5 4 z0 _ ha) R 0 a1 0 0 y (Nat.zero_add _) (yS_0 y)
    refine ⟨(drO T y f (a, nI mm, 0) R a1 0 0).1, XX, YY, ?_, fun {z post} h => ?_, fun {z post} h => ?_⟩
    · exact INV_step (INV_S hI hXX hYY)
    · refine PW.deeper (k := (5, 0, 0, z)) (Nat.le_of_ble_eq_true rfl) (Nat.le_refl _) (Nat.le_refl _) ?_
      refine PW_iload_n c_G_drawn_0 rfl ?_
      refine PW_bipush (v := 100) c_G_drawn_1 (by decide) ?_
      refine PW_irem c_G_drawn_3 (by decide) ?_
      refine PW_istore (i := 4) (L2 := [some (.ref 5), some (.int a1), some (.int a2), some (.int 0), some (.int (a2 - a2 / 100 * 100)), none, none, none, none, none]) c_G_drawn_4 (Nat.le_of_ble_eq_true rfl) rfl rfl ?_
      refine PW_iload_n c_G_drawn_6 rfl ?_
      refine PW_if_lt c_G_drawn_7 (fun h0 => absurd h0 hc0) (fun h0 => ?_)
      refine PW_iload_n c_G_drawn_10 rfl ?_
      refine PW_bipush (v := 100) c_G_drawn_11 (by decide) ?_
      refine PW_idiv c_G_drawn_13 (by decide) ?_
      refine PW_S0 (d2 := 1) (st := []) [.int (a2 / 100)] c_G_drawn_14 lk_G_drawn_163 rfl rfl rfl (Nat.le_of_ble_eq_true rfl) (by first | decide | omega) (Nat.le_of_ble_eq_true rfl) ?_
      refine sp_G_isRoomMinute  ?_
      show PW _ _ _ 17 [some (.ref 5), some (.int a1), some (.int a2), some (.int 0), some (.int (a2 - a2 / 100 * 100)), none, none, none, none, none] [.int (b2i (0 ≤ (a2 / 100) ∧ 0 ≤ (a2 / 100) / 100 ∧ (a2 / 100) / 100 ≤ 4))] (E x y)
      refine PW_if_eq c_G_drawn_17 (fun h1 => absurd hc1 (b2i_0.mp h1)) (fun _ => ?_)
      refine PW_iload_n c_G_drawn_20 rfl ?_
      refine PW_if_lt c_G_drawn_21 (fun h2 => absurd h2 (by decide)) (fun _ => ?_)
      refine PW_iload_n c_G_drawn_24 rfl ?_
      refine PW_iconst (v := 1) c_G_drawn_25 (by decide) ?_
      refine PW_icmp_le c_G_drawn_26 (fun _ => ?_) (fun h3 => absurd (by decide) h3)
      refine PW_iload c_G_drawn_31 rfl ?_
      refine PW_iconst (v := 1) c_G_drawn_33 (by decide) ?_
      refine PW_icmp_lt c_G_drawn_34 (fun h4 => absurd h4 (Int32.not_lt.mpr hc2.1)) (fun h4 => ?_)
      refine PW_iload c_G_drawn_37 rfl ?_
      refine PW_bipush (v := 30) c_G_drawn_39 (by decide) ?_
      refine PW_icmp_le c_G_drawn_41 (fun h5 => ?_) (fun h5 => absurd hc2.2 h5)
      refine PW_iload_n c_G_drawn_46 rfl ?_
      refine PW_istore (i := 5) (L2 := [some (.ref 5), some (.int a1), some (.int a2), some (.int 0), some (.int (a2 - a2 / 100 * 100)), some (.int a1), none, none, none, none]) c_G_drawn_47 (Nat.le_of_ble_eq_true rfl) rfl rfl ?_
      refine PW_iconst (v := 0) c_G_drawn_49 (by decide) ?_
      refine PW_istore (i := 6) (L2 := [some (.ref 5), some (.int a1), some (.int a2), some (.int 0), some (.int (a2 - a2 / 100 * 100)), some (.int a1), some (.int 0), none, none, none]) c_G_drawn_50 (Nat.le_of_ble_eq_true rfl) rfl rfl ?_
      refine PW_iconst (v := 0) c_G_drawn_52 (by decide) ?_
      refine PW_istore (i := 7) (L2 := [some (.ref 5), some (.int a1), some (.int a2), some (.int 0), some (.int (a2 - a2 / 100 * 100)), some (.int a1), some (.int 0), some (.int 0), none, none]) c_G_drawn_53 (Nat.le_of_ble_eq_true rfl) rfl rfl ?_
      refine PW_iconst (v := 0) c_G_drawn_55 (by decide) ?_
      refine PW_istore (i := 8) (L2 := [some (.ref 5), some (.int a1), some (.int a2), some (.int 0), some (.int (a2 - a2 / 100 * 100)), some (.int a1), some (.int 0), some (.int 0), some (.int 0), none]) c_G_drawn_56 (Nat.le_of_ble_eq_true rfl) rfl rfl ?_
      refine PW.eqL ?_ rfl rfl (HG (l9 := none) (fun l9 => ?_))
      · show ([some (.ref 5), some (.int a1), some (.int a2), some (.int 0), some (.int (a2 - a2 / 100 * 100)), some (.int a1), some (.int 0), some (.int 0), some (.int 0), none] : List (Option Value)) = _
        rw [eR] <;> rfl
      · show PW _ _ _ 179 [some (.ref 5), some (.int a1), some (.int a2), some (.int 0), some (.int (nI R)), some (.int zX), some (.int ((drO T y f (a, nI mm, 0) R a1 0 0).1)), some (.int ((drO T y f (a, nI mm, 0) R a1 0 0).2)), some (.int (nI R)), l9] [] (E XX y)
        refine PW_iload_n c_G_drawn_179 rfl ?_
        refine PW_if_ne c_G_drawn_180 (fun h0 => absurd (by decide) h0) (fun _ => ?_)
        refine PW_iload c_G_drawn_183 rfl ?_
        refine PW_goto c_G_drawn_185 ?_
        refine PW_ireturn (ty := .int) c_G_drawn_190 rfl rfl ?_
        exact h
    · refine PW.deeper (k := (5, 0, 0, z)) (Nat.le_of_ble_eq_true rfl) (Nat.le_refl _) (Nat.le_refl _) ?_
      refine PW_iload_n c_M_drawn_0 rfl ?_
      refine PW_if_lt c_M_drawn_1 (fun h0 => absurd h0 hc0) (fun h0 => ?_)
      refine PW_iload_n c_M_drawn_4 rfl ?_
      refine PW_bipush (v := 100) c_M_drawn_5 (by decide) ?_
      refine PW_idiv c_M_drawn_7 (by decide) ?_
      refine PW_S0 (d2 := 2) (st := []) [.int (a2 / 100)] c_M_drawn_8 lk_M_drawn_283 rfl rfl rfl (Nat.le_of_ble_eq_true rfl) (by first | decide | omega) (Nat.le_of_ble_eq_true rfl) ?_
      refine sp_M_isTime  ?_
      show PW _ _ _ 11 [some (.ref 70), some (.int a1), some (.int a2), some (.int 0), none, none, none, none, none] [.int (b2i (0 ≤ (a2 / 100) ∧ 0 ≤ (a2 / 100) / 100 ∧ (a2 / 100) / 100 ≤ 4))] (E XX y)
      refine PW_if_eq c_M_drawn_11 (fun h1 => absurd hc1 (b2i_0.mp h1)) (fun _ => ?_)
      refine PW_iload_n c_M_drawn_14 rfl ?_
      refine PW_bipush (v := 100) c_M_drawn_15 (by decide) ?_
      refine PW_irem c_M_drawn_17 (by decide) ?_
      refine PW_iconst (v := 1) c_M_drawn_18 (by decide) ?_
      refine PW_bipush (v := 30) c_M_drawn_19 (by decide) ?_
      refine PW_S0 (d2 := 0) (st := []) [.int (a2 - a2 / 100 * 100), .int 1, .int 30] c_M_drawn_21 lk_M_drawn_131 rfl rfl rfl (Nat.le_of_ble_eq_true rfl) (by first | decide | omega) (Nat.le_of_ble_eq_true rfl) ?_
      refine sp_M_within  ?_
      show PW _ _ _ 24 [some (.ref 70), some (.int a1), some (.int a2), some (.int 0), none, none, none, none, none] [.int (b2i ((1 : Int32) ≤ (a2 - a2 / 100 * 100) ∧ (a2 - a2 / 100 * 100) ≤ (30 : Int32)))] (E XX y)
      refine PW_if_eq c_M_drawn_24 (fun h2 => absurd hc2 (b2i_0.mp h2)) (fun _ => ?_)
      refine PW_iload_n c_M_drawn_27 rfl ?_
      refine PW_iconst (v := 0) c_M_drawn_28 (by decide) ?_
      refine PW_iconst (v := 1) c_M_drawn_29 (by decide) ?_
      refine PW_S0 (d2 := 0) (st := []) [.int 0, .int 0, .int 1] c_M_drawn_30 lk_M_drawn_131 rfl rfl rfl (Nat.le_of_ble_eq_true rfl) (by first | decide | omega) (Nat.le_of_ble_eq_true rfl) ?_
      refine sp_M_within  ?_
      show PW _ _ _ 33 [some (.ref 70), some (.int a1), some (.int a2), some (.int 0), none, none, none, none, none] [.int (b2i ((0 : Int32) ≤ (0 : Int32) ∧ (0 : Int32) ≤ (1 : Int32)))] (E XX y)
      refine PW_if_ne c_M_drawn_33 (fun _ => ?_) (fun h3 => absurd (by decide) (b2i_0.mp h3))
      refine PW_iload_n c_M_drawn_38 rfl ?_
      refine PW_istore (i := 4) (L2 := [some (.ref 70), some (.int a1), some (.int a2), some (.int 0), some (.int a1), none, none, none, none]) c_M_drawn_39 (Nat.le_of_ble_eq_true rfl) rfl rfl ?_
      refine PW_iconst (v := 0) c_M_drawn_41 (by decide) ?_
      refine PW_istore (i := 5) (L2 := [some (.ref 70), some (.int a1), some (.int a2), some (.int 0), some (.int a1), some (.int 0), none, none, none]) c_M_drawn_42 (Nat.le_of_ble_eq_true rfl) rfl rfl ?_
      refine PW_iconst (v := 0) c_M_drawn_44 (by decide) ?_
      refine PW_istore (i := 6) (L2 := [some (.ref 70), some (.int a1), some (.int a2), some (.int 0), some (.int a1), some (.int 0), some (.int 0), none, none]) c_M_drawn_45 (Nat.le_of_ble_eq_true rfl) rfl rfl ?_
      refine PW_iconst (v := 0) c_M_drawn_47 (by decide) ?_
      refine PW_istore (i := 7) (L2 := [some (.ref 70), some (.int a1), some (.int a2), some (.int 0), some (.int a1), some (.int 0), some (.int 0), some (.int 0), none]) c_M_drawn_48 (Nat.le_of_ble_eq_true rfl) rfl rfl ?_
      refine PW.eqL ?_ rfl rfl (HM (l8 := none) (fun l8 => ?_))
      · rfl
      · show PW _ _ _ 138 [some (.ref 70), some (.int a1), some (.int a2), some (.int 0), some (.int zY), some (.int ((drO T y f (a, nI mm, 0) R a1 0 0).1)), some (.int ((drO T y f (a, nI mm, 0) R a1 0 0).2)), some (.int (nI R)), l8] [] (E XX YY)
        refine PW_iload_n c_M_drawn_138 rfl ?_
        refine PW_if_ne c_M_drawn_139 (fun h0 => absurd (by decide) h0) (fun _ => ?_)
        refine PW_iload c_M_drawn_142 rfl ?_
        refine PW_goto c_M_drawn_144 ?_
        refine PW_ireturn (ty := .int) c_M_drawn_149 rfl rfl ?_
        exact h
  by_cases hw1 : a3 = 1
  · subst hw1
    by_cases hc2 : ¬ (1 ≤ a2 - a2 / 100 * 100 ∧ a2 - a2 / 100 * 100 ≤ 30)
    · refine ⟨-1, x, y, ?_, fun {z post} h => ?_, fun {z post} h => ?_⟩
      · exact INV_step hI
      · refine PW.deeper (k := (5, 0, 0, z)) (Nat.le_of_ble_eq_true rfl) (Nat.le_refl _) (Nat.le_refl _) ?_
        refine PW_iload_n c_G_drawn_0 rfl ?_
        refine PW_bipush (v := 100) c_G_drawn_1 (by decide) ?_
        refine PW_irem c_G_drawn_3 (by decide) ?_
        refine PW_istore (i := 4) (L2 := [some (.ref 5), some (.int a1), some (.int a2), some (.int 1), some (.int (a2 - a2 / 100 * 100)), none, none, none, none, none]) c_G_drawn_4 (Nat.le_of_ble_eq_true rfl) rfl rfl ?_
        refine PW_iload_n c_G_drawn_6 rfl ?_
        refine PW_if_lt c_G_drawn_7 (fun h0 => absurd h0 hc0) (fun h0 => ?_)
        refine PW_iload_n c_G_drawn_10 rfl ?_
        refine PW_bipush (v := 100) c_G_drawn_11 (by decide) ?_
        refine PW_idiv c_G_drawn_13 (by decide) ?_
        refine PW_S0 (d2 := 1) (st := []) [.int (a2 / 100)] c_G_drawn_14 lk_G_drawn_163 rfl rfl rfl (Nat.le_of_ble_eq_true rfl) (by first | decide | omega) (Nat.le_of_ble_eq_true rfl) ?_
        refine sp_G_isRoomMinute  ?_
        show PW _ _ _ 17 [some (.ref 5), some (.int a1), some (.int a2), some (.int 1), some (.int (a2 - a2 / 100 * 100)), none, none, none, none, none] [.int (b2i (0 ≤ (a2 / 100) ∧ 0 ≤ (a2 / 100) / 100 ∧ (a2 / 100) / 100 ≤ 4))] (E x y)
        refine PW_if_eq c_G_drawn_17 (fun h1 => absurd hc1 (b2i_0.mp h1)) (fun _ => ?_)
        refine PW_iload_n c_G_drawn_20 rfl ?_
        refine PW_if_lt c_G_drawn_21 (fun h2 => absurd h2 (by decide)) (fun _ => ?_)
        refine PW_iload_n c_G_drawn_24 rfl ?_
        refine PW_iconst (v := 1) c_G_drawn_25 (by decide) ?_
        refine PW_icmp_le c_G_drawn_26 (fun _ => ?_) (fun h3 => absurd (by decide) h3)
        refine PW_iload c_G_drawn_31 rfl ?_
        refine PW_iconst (v := 1) c_G_drawn_33 (by decide) ?_
        refine PW_icmp_lt c_G_drawn_34 (fun h4 => ?_) (fun h4 => ?_)
        · refine PW_iconst (v := -1) c_G_drawn_44 (by decide) ?_
          refine PW_ireturn (ty := .int) c_G_drawn_45 rfl rfl ?_
          exact h
        · refine PW_iload c_G_drawn_37 rfl ?_
          refine PW_bipush (v := 30) c_G_drawn_39 (by decide) ?_
          refine PW_icmp_le c_G_drawn_41 (fun h5 => ?_) (fun h5 => ?_)
          · exact absurd ⟨Int32.not_lt.mp h4, h5⟩ hc2
          · refine PW_iconst (v := -1) c_G_drawn_44 (by decide) ?_
            refine PW_ireturn (ty := .int) c_G_drawn_45 rfl rfl ?_
            exact h
      · refine PW.deeper (k := (5, 0, 0, z)) (Nat.le_of_ble_eq_true rfl) (Nat.le_refl _) (Nat.le_refl _) ?_
        refine PW_iload_n c_M_drawn_0 rfl ?_
        refine PW_if_lt c_M_drawn_1 (fun h0 => absurd h0 hc0) (fun h0 => ?_)
        refine PW_iload_n c_M_drawn_4 rfl ?_
        refine PW_bipush (v := 100) c_M_drawn_5 (by decide) ?_
        refine PW_idiv c_M_drawn_7 (by decide) ?_
        refine PW_S0 (d2 := 2) (st := []) [.int (a2 / 100)] c_M_drawn_8 lk_M_drawn_283 rfl rfl rfl (Nat.le_of_ble_eq_true rfl) (by first | decide | omega) (Nat.le_of_ble_eq_true rfl) ?_
        refine sp_M_isTime  ?_
        show PW _ _ _ 11 [some (.ref 70), some (.int a1), some (.int a2), some (.int 1), none, none, none, none, none] [.int (b2i (0 ≤ (a2 / 100) ∧ 0 ≤ (a2 / 100) / 100 ∧ (a2 / 100) / 100 ≤ 4))] (E x y)
        refine PW_if_eq c_M_drawn_11 (fun h1 => absurd hc1 (b2i_0.mp h1)) (fun _ => ?_)
        refine PW_iload_n c_M_drawn_14 rfl ?_
        refine PW_bipush (v := 100) c_M_drawn_15 (by decide) ?_
        refine PW_irem c_M_drawn_17 (by decide) ?_
        refine PW_iconst (v := 1) c_M_drawn_18 (by decide) ?_
        refine PW_bipush (v := 30) c_M_drawn_19 (by decide) ?_
        refine PW_S0 (d2 := 0) (st := []) [.int (a2 - a2 / 100 * 100), .int 1, .int 30] c_M_drawn_21 lk_M_drawn_131 rfl rfl rfl (Nat.le_of_ble_eq_true rfl) (by first | decide | omega) (Nat.le_of_ble_eq_true rfl) ?_
        refine sp_M_within  ?_
        show PW _ _ _ 24 [some (.ref 70), some (.int a1), some (.int a2), some (.int 1), none, none, none, none, none] [.int (b2i ((1 : Int32) ≤ (a2 - a2 / 100 * 100) ∧ (a2 - a2 / 100 * 100) ≤ (30 : Int32)))] (E x y)
        refine PW_if_eq c_M_drawn_24 (fun _ => ?_) (fun h2 => absurd (b2i_n0.mp h2) hc2)
        refine PW_iconst (v := -1) c_M_drawn_36 (by decide) ?_
        refine PW_ireturn (ty := .int) c_M_drawn_37 rfl rfl ?_
        exact h
    replace hc2 := Decidable.not_not.mp hc2
    obtain ⟨R, R1, eR, R3, R4⟩ := nI_ex (x := a2 - a2 / 100 * 100) (by simp only [Int32.le_iff_toInt_le, tiA] at hc2; omega)
    obtain ⟨f, hf⟩ : ∃ f : Int32 → Int32, ∀ z : Int32, z * 1103515245 + 12345 = f z := ⟨fun z => z * 1103515245 + 12345, fun _ => rfl⟩
    have hR : 1 ≤ R ∧ R ≤ 30 := by simp only [Int32.le_iff_toInt_le, tiA] at hc2; omega
    obtain ⟨XX, zX, hXX, HG⟩ := lp_G_drawn (T := T) (a1 := a1) (a2 := a2) (a3 := 1) hf hg hT ha hmm hR.2 ee em R 0 a1 0 0 x (Nat.zero_add _) (xS_0 x)
    obtain ⟨YY, zY, hYY, HM⟩ := lp_M_drawn (T := T) (x := XX) (x0 := x) (a1 := a1) (a2 := a2) (a3 := 1) hf hg hT ha hmm hR.2 ee em eR (fun z0 => drI_5 4 z0 _ ha) R 0 a1 0 0 y (Nat.zero_add _) (yS_0 y)
    refine ⟨(drO T y f (a, nI mm, 0) R a1 0 0).2, XX, YY, ?_, fun {z post} h => ?_, fun {z post} h => ?_⟩
    · exact INV_step (INV_S hI hXX hYY)
    · refine PW.deeper (k := (5, 0, 0, z)) (Nat.le_of_ble_eq_true rfl) (Nat.le_refl _) (Nat.le_refl _) ?_
      refine PW_iload_n c_G_drawn_0 rfl ?_
      refine PW_bipush (v := 100) c_G_drawn_1 (by decide) ?_
      refine PW_irem c_G_drawn_3 (by decide) ?_
      refine PW_istore (i := 4) (L2 := [some (.ref 5), some (.int a1), some (.int a2), some (.int 1), some (.int (a2 - a2 / 100 * 100)), none, none, none, none, none]) c_G_drawn_4 (Nat.le_of_ble_eq_true rfl) rfl rfl ?_
      refine PW_iload_n c_G_drawn_6 rfl ?_
      refine PW_if_lt c_G_drawn_7 (fun h0 => absurd h0 hc0) (fun h0 => ?_)
      refine PW_iload_n c_G_drawn_10 rfl ?_
      refine PW_bipush (v := 100) c_G_drawn_11 (by decide) ?_
      refine PW_idiv c_G_drawn_13 (by decide) ?_
      refine PW_S0 (d2 := 1) (st := []) [.int (a2 / 100)] c_G_drawn_14 lk_G_drawn_163 rfl rfl rfl (Nat.le_of_ble_eq_true rfl) (by first | decide | omega) (Nat.le_of_ble_eq_true rfl) ?_
      refine sp_G_isRoomMinute  ?_
      show PW _ _ _ 17 [some (.ref 5), some (.int a1), some (.int a2), some (.int 1), some (.int (a2 - a2 / 100 * 100)), none, none, none, none, none] [.int (b2i (0 ≤ (a2 / 100) ∧ 0 ≤ (a2 / 100) / 100 ∧ (a2 / 100) / 100 ≤ 4))] (E x y)
      refine PW_if_eq c_G_drawn_17 (fun h1 => absurd hc1 (b2i_0.mp h1)) (fun _ => ?_)
      refine PW_iload_n c_G_drawn_20 rfl ?_
      refine PW_if_lt c_G_drawn_21 (fun h2 => absurd h2 (by decide)) (fun _ => ?_)
      refine PW_iload_n c_G_drawn_24 rfl ?_
      refine PW_iconst (v := 1) c_G_drawn_25 (by decide) ?_
      refine PW_icmp_le c_G_drawn_26 (fun _ => ?_) (fun h3 => absurd (by decide) h3)
      refine PW_iload c_G_drawn_31 rfl ?_
      refine PW_iconst (v := 1) c_G_drawn_33 (by decide) ?_
      refine PW_icmp_lt c_G_drawn_34 (fun h4 => absurd h4 (Int32.not_lt.mpr hc2.1)) (fun h4 => ?_)
      refine PW_iload c_G_drawn_37 rfl ?_
      refine PW_bipush (v := 30) c_G_drawn_39 (by decide) ?_
      refine PW_icmp_le c_G_drawn_41 (fun h5 => ?_) (fun h5 => absurd hc2.2 h5)
      refine PW_iload_n c_G_drawn_46 rfl ?_
      refine PW_istore (i := 5) (L2 := [some (.ref 5), some (.int a1), some (.int a2), some (.int 1), some (.int (a2 - a2 / 100 * 100)), some (.int a1), none, none, none, none]) c_G_drawn_47 (Nat.le_of_ble_eq_true rfl) rfl rfl ?_
      refine PW_iconst (v := 0) c_G_drawn_49 (by decide) ?_
      refine PW_istore (i := 6) (L2 := [some (.ref 5), some (.int a1), some (.int a2), some (.int 1), some (.int (a2 - a2 / 100 * 100)), some (.int a1), some (.int 0), none, none, none]) c_G_drawn_50 (Nat.le_of_ble_eq_true rfl) rfl rfl ?_
      refine PW_iconst (v := 0) c_G_drawn_52 (by decide) ?_
      refine PW_istore (i := 7) (L2 := [some (.ref 5), some (.int a1), some (.int a2), some (.int 1), some (.int (a2 - a2 / 100 * 100)), some (.int a1), some (.int 0), some (.int 0), none, none]) c_G_drawn_53 (Nat.le_of_ble_eq_true rfl) rfl rfl ?_
      refine PW_iconst (v := 0) c_G_drawn_55 (by decide) ?_
      refine PW_istore (i := 8) (L2 := [some (.ref 5), some (.int a1), some (.int a2), some (.int 1), some (.int (a2 - a2 / 100 * 100)), some (.int a1), some (.int 0), some (.int 0), some (.int 0), none]) c_G_drawn_56 (Nat.le_of_ble_eq_true rfl) rfl rfl ?_
      refine PW.eqL ?_ rfl rfl (HG (l9 := none) (fun l9 => ?_))
      · show ([some (.ref 5), some (.int a1), some (.int a2), some (.int 1), some (.int (a2 - a2 / 100 * 100)), some (.int a1), some (.int 0), some (.int 0), some (.int 0), none] : List (Option Value)) = _
        rw [eR] <;> rfl
      · show PW _ _ _ 179 [some (.ref 5), some (.int a1), some (.int a2), some (.int 1), some (.int (nI R)), some (.int zX), some (.int ((drO T y f (a, nI mm, 0) R a1 0 0).1)), some (.int ((drO T y f (a, nI mm, 0) R a1 0 0).2)), some (.int (nI R)), l9] [] (E XX y)
        refine PW_iload_n c_G_drawn_179 rfl ?_
        refine PW_if_ne c_G_drawn_180 (fun _ => ?_) (fun h0 => absurd h0 (by decide))
        refine PW_iload c_G_drawn_188 rfl ?_
        refine PW_ireturn (ty := .int) c_G_drawn_190 rfl rfl ?_
        exact h
    · refine PW.deeper (k := (5, 0, 0, z)) (Nat.le_of_ble_eq_true rfl) (Nat.le_refl _) (Nat.le_refl _) ?_
      refine PW_iload_n c_M_drawn_0 rfl ?_
      refine PW_if_lt c_M_drawn_1 (fun h0 => absurd h0 hc0) (fun h0 => ?_)
      refine PW_iload_n c_M_drawn_4 rfl ?_
      refine PW_bipush (v := 100) c_M_drawn_5 (by decide) ?_
      refine PW_idiv c_M_drawn_7 (by decide) ?_
      refine PW_S0 (d2 := 2) (st := []) [.int (a2 / 100)] c_M_drawn_8 lk_M_drawn_283 rfl rfl rfl (Nat.le_of_ble_eq_true rfl) (by first | decide | omega) (Nat.le_of_ble_eq_true rfl) ?_
      refine sp_M_isTime  ?_
      show PW _ _ _ 11 [some (.ref 70), some (.int a1), some (.int a2), some (.int 1), none, none, none, none, none] [.int (b2i (0 ≤ (a2 / 100) ∧ 0 ≤ (a2 / 100) / 100 ∧ (a2 / 100) / 100 ≤ 4))] (E XX y)
      refine PW_if_eq c_M_drawn_11 (fun h1 => absurd hc1 (b2i_0.mp h1)) (fun _ => ?_)
      refine PW_iload_n c_M_drawn_14 rfl ?_
      refine PW_bipush (v := 100) c_M_drawn_15 (by decide) ?_
      refine PW_irem c_M_drawn_17 (by decide) ?_
      refine PW_iconst (v := 1) c_M_drawn_18 (by decide) ?_
      refine PW_bipush (v := 30) c_M_drawn_19 (by decide) ?_
      refine PW_S0 (d2 := 0) (st := []) [.int (a2 - a2 / 100 * 100), .int 1, .int 30] c_M_drawn_21 lk_M_drawn_131 rfl rfl rfl (Nat.le_of_ble_eq_true rfl) (by first | decide | omega) (Nat.le_of_ble_eq_true rfl) ?_
      refine sp_M_within  ?_
      show PW _ _ _ 24 [some (.ref 70), some (.int a1), some (.int a2), some (.int 1), none, none, none, none, none] [.int (b2i ((1 : Int32) ≤ (a2 - a2 / 100 * 100) ∧ (a2 - a2 / 100 * 100) ≤ (30 : Int32)))] (E XX y)
      refine PW_if_eq c_M_drawn_24 (fun h2 => absurd hc2 (b2i_0.mp h2)) (fun _ => ?_)
      refine PW_iload_n c_M_drawn_27 rfl ?_
      refine PW_iconst (v := 0) c_M_drawn_28 (by decide) ?_
      refine PW_iconst (v := 1) c_M_drawn_29 (by decide) ?_
      refine PW_S0 (d2 := 0) (st := []) [.int 1, .int 0, .int 1] c_M_drawn_30 lk_M_drawn_131 rfl rfl rfl (Nat.le_of_ble_eq_true rfl) (by first | decide | omega) (Nat.le_of_ble_eq_true rfl) ?_
      refine sp_M_within  ?_
      show PW _ _ _ 33 [some (.ref 70), some (.int a1), some (.int a2), some (.int 1), none, none, none, none, none] [.int (b2i ((0 : Int32) ≤ (1 : Int32) ∧ (1 : Int32) ≤ (1 : Int32)))] (E XX y)
      refine PW_if_ne c_M_drawn_33 (fun _ => ?_) (fun h3 => absurd (by decide) (b2i_0.mp h3))
      refine PW_iload_n c_M_drawn_38 rfl ?_
      refine PW_istore (i := 4) (L2 := [some (.ref 70), some (.int a1), some (.int a2), some (.int 1), some (.int a1), none, none, none, none]) c_M_drawn_39 (Nat.le_of_ble_eq_true rfl) rfl rfl ?_
      refine PW_iconst (v := 0) c_M_drawn_41 (by decide) ?_
      refine PW_istore (i := 5) (L2 := [some (.ref 70), some (.int a1), some (.int a2), some (.int 1), some (.int a1), some (.int 0), none, none, none]) c_M_drawn_42 (Nat.le_of_ble_eq_true rfl) rfl rfl ?_
      refine PW_iconst (v := 0) c_M_drawn_44 (by decide) ?_
      refine PW_istore (i := 6) (L2 := [some (.ref 70), some (.int a1), some (.int a2), some (.int 1), some (.int a1), some (.int 0), some (.int 0), none, none]) c_M_drawn_45 (Nat.le_of_ble_eq_true rfl) rfl rfl ?_
      refine PW_iconst (v := 0) c_M_drawn_47 (by decide) ?_
      refine PW_istore (i := 7) (L2 := [some (.ref 70), some (.int a1), some (.int a2), some (.int 1), some (.int a1), some (.int 0), some (.int 0), some (.int 0), none]) c_M_drawn_48 (Nat.le_of_ble_eq_true rfl) rfl rfl ?_
      refine PW.eqL ?_ rfl rfl (HM (l8 := none) (fun l8 => ?_))
      · rfl
      · show PW _ _ _ 138 [some (.ref 70), some (.int a1), some (.int a2), some (.int 1), some (.int zY), some (.int ((drO T y f (a, nI mm, 0) R a1 0 0).1)), some (.int ((drO T y f (a, nI mm, 0) R a1 0 0).2)), some (.int (nI R)), l8] [] (E XX YY)
        refine PW_iload_n c_M_drawn_138 rfl ?_
        refine PW_if_ne c_M_drawn_139 (fun _ => ?_) (fun h0 => absurd h0 (by decide))
        refine PW_iload c_M_drawn_147 rfl ?_
        refine PW_ireturn (ty := .int) c_M_drawn_149 rfl rfl ?_
        exact h
  have hk5 : ¬ (0 ≤ a3 ∧ a3 ≤ 1) := fun q => by simp only [Int32.le_iff_toInt_le, ← Int32.toInt_inj, tiA] at q hw0 hw1; omega
  by_cases hk2 : a3 < 0
  · refine ⟨-1, x, y, ?_, fun {z post} h => ?_, fun {z post} h => ?_⟩
    · exact INV_step hI
    · refine PW.deeper (k := (5, 0, 0, z)) (Nat.le_of_ble_eq_true rfl) (Nat.le_refl _) (Nat.le_refl _) ?_
      refine PW_iload_n c_G_drawn_0 rfl ?_
      refine PW_bipush (v := 100) c_G_drawn_1 (by decide) ?_
      refine PW_irem c_G_drawn_3 (by decide) ?_
      refine PW_istore (i := 4) (L2 := [some (.ref 5), some (.int a1), some (.int a2), some (.int a3), some (.int (a2 - a2 / 100 * 100)), none, none, none, none, none]) c_G_drawn_4 (Nat.le_of_ble_eq_true rfl) rfl rfl ?_
      refine PW_iload_n c_G_drawn_6 rfl ?_
      refine PW_if_lt c_G_drawn_7 (fun h0 => absurd h0 hc0) (fun h0 => ?_)
      refine PW_iload_n c_G_drawn_10 rfl ?_
      refine PW_bipush (v := 100) c_G_drawn_11 (by decide) ?_
      refine PW_idiv c_G_drawn_13 (by decide) ?_
      refine PW_S0 (d2 := 1) (st := []) [.int (a2 / 100)] c_G_drawn_14 lk_G_drawn_163 rfl rfl rfl (Nat.le_of_ble_eq_true rfl) (by first | decide | omega) (Nat.le_of_ble_eq_true rfl) ?_
      refine sp_G_isRoomMinute  ?_
      show PW _ _ _ 17 [some (.ref 5), some (.int a1), some (.int a2), some (.int a3), some (.int (a2 - a2 / 100 * 100)), none, none, none, none, none] [.int (b2i (0 ≤ (a2 / 100) ∧ 0 ≤ (a2 / 100) / 100 ∧ (a2 / 100) / 100 ≤ 4))] (E x y)
      refine PW_if_eq c_G_drawn_17 (fun h1 => absurd hc1 (b2i_0.mp h1)) (fun _ => ?_)
      refine PW_iload_n c_G_drawn_20 rfl ?_
      refine PW_if_lt c_G_drawn_21 (fun h2 => ?_) (fun h2 => absurd hk2 h2)
      refine PW_iconst (v := -1) c_G_drawn_29 (by decide) ?_
      refine PW_ireturn (ty := .int) c_G_drawn_30 rfl rfl ?_
      exact h
    · refine PW.deeper (k := (5, 0, 0, z)) (Nat.le_of_ble_eq_true rfl) (Nat.le_refl _) (Nat.le_refl _) ?_
      refine PW_iload_n c_M_drawn_0 rfl ?_
      refine PW_if_lt c_M_drawn_1 (fun h0 => absurd h0 hc0) (fun h0 => ?_)
      refine PW_iload_n c_M_drawn_4 rfl ?_
      refine PW_bipush (v := 100) c_M_drawn_5 (by decide) ?_
      refine PW_idiv c_M_drawn_7 (by decide) ?_
      refine PW_S0 (d2 := 2) (st := []) [.int (a2 / 100)] c_M_drawn_8 lk_M_drawn_283 rfl rfl rfl (Nat.le_of_ble_eq_true rfl) (by first | decide | omega) (Nat.le_of_ble_eq_true rfl) ?_
      refine sp_M_isTime  ?_
      show PW _ _ _ 11 [some (.ref 70), some (.int a1), some (.int a2), some (.int a3), none, none, none, none, none] [.int (b2i (0 ≤ (a2 / 100) ∧ 0 ≤ (a2 / 100) / 100 ∧ (a2 / 100) / 100 ≤ 4))] (E x y)
      refine PW_if_eq c_M_drawn_11 (fun h1 => absurd hc1 (b2i_0.mp h1)) (fun _ => ?_)
      refine PW_iload_n c_M_drawn_14 rfl ?_
      refine PW_bipush (v := 100) c_M_drawn_15 (by decide) ?_
      refine PW_irem c_M_drawn_17 (by decide) ?_
      refine PW_iconst (v := 1) c_M_drawn_18 (by decide) ?_
      refine PW_bipush (v := 30) c_M_drawn_19 (by decide) ?_
      refine PW_S0 (d2 := 0) (st := []) [.int (a2 - a2 / 100 * 100), .int 1, .int 30] c_M_drawn_21 lk_M_drawn_131 rfl rfl rfl (Nat.le_of_ble_eq_true rfl) (by first | decide | omega) (Nat.le_of_ble_eq_true rfl) ?_
      refine sp_M_within  ?_
      show PW _ _ _ 24 [some (.ref 70), some (.int a1), some (.int a2), some (.int a3), none, none, none, none, none] [.int (b2i ((1 : Int32) ≤ (a2 - a2 / 100 * 100) ∧ (a2 - a2 / 100 * 100) ≤ (30 : Int32)))] (E x y)
      refine PW_if_eq c_M_drawn_24 (fun h2 => ?_) (fun h2 => ?_)
      · replace h2 := b2i_0.mp h2
        refine PW_iconst (v := -1) c_M_drawn_36 (by decide) ?_
        refine PW_ireturn (ty := .int) c_M_drawn_37 rfl rfl ?_
        exact h
      · replace h2 := b2i_n0.mp h2
        refine PW_iload_n c_M_drawn_27 rfl ?_
        refine PW_iconst (v := 0) c_M_drawn_28 (by decide) ?_
        refine PW_iconst (v := 1) c_M_drawn_29 (by decide) ?_
        refine PW_S0 (d2 := 0) (st := []) [.int a3, .int 0, .int 1] c_M_drawn_30 lk_M_drawn_131 rfl rfl rfl (Nat.le_of_ble_eq_true rfl) (by first | decide | omega) (Nat.le_of_ble_eq_true rfl) ?_
        refine sp_M_within  ?_
        show PW _ _ _ 33 [some (.ref 70), some (.int a1), some (.int a2), some (.int a3), none, none, none, none, none] [.int (b2i ((0 : Int32) ≤ a3 ∧ a3 ≤ (1 : Int32)))] (E x y)
        refine PW_if_ne c_M_drawn_33 (fun h3 => absurd (b2i_n0.mp h3) hk5) (fun _ => ?_)
        refine PW_iconst (v := -1) c_M_drawn_36 (by decide) ?_
        refine PW_ireturn (ty := .int) c_M_drawn_37 rfl rfl ?_
        exact h
  refine ⟨-1, x, y, ?_, fun {z post} h => ?_, fun {z post} h => ?_⟩
  · exact INV_step hI
  · refine PW.deeper (k := (5, 0, 0, z)) (Nat.le_of_ble_eq_true rfl) (Nat.le_refl _) (Nat.le_refl _) ?_
    refine PW_iload_n c_G_drawn_0 rfl ?_
    refine PW_bipush (v := 100) c_G_drawn_1 (by decide) ?_
    refine PW_irem c_G_drawn_3 (by decide) ?_
    refine PW_istore (i := 4) (L2 := [some (.ref 5), some (.int a1), some (.int a2), some (.int a3), some (.int (a2 - a2 / 100 * 100)), none, none, none, none, none]) c_G_drawn_4 (Nat.le_of_ble_eq_true rfl) rfl rfl ?_
    refine PW_iload_n c_G_drawn_6 rfl ?_
    refine PW_if_lt c_G_drawn_7 (fun h0 => absurd h0 hc0) (fun h0 => ?_)
    refine PW_iload_n c_G_drawn_10 rfl ?_
    refine PW_bipush (v := 100) c_G_drawn_11 (by decide) ?_
    refine PW_idiv c_G_drawn_13 (by decide) ?_
    refine PW_S0 (d2 := 1) (st := []) [.int (a2 / 100)] c_G_drawn_14 lk_G_drawn_163 rfl rfl rfl (Nat.le_of_ble_eq_true rfl) (by first | decide | omega) (Nat.le_of_ble_eq_true rfl) ?_
    refine sp_G_isRoomMinute  ?_
    show PW _ _ _ 17 [some (.ref 5), some (.int a1), some (.int a2), some (.int a3), some (.int (a2 - a2 / 100 * 100)), none, none, none, none, none] [.int (b2i (0 ≤ (a2 / 100) ∧ 0 ≤ (a2 / 100) / 100 ∧ (a2 / 100) / 100 ≤ 4))] (E x y)
    refine PW_if_eq c_G_drawn_17 (fun h1 => absurd hc1 (b2i_0.mp h1)) (fun _ => ?_)
    refine PW_iload_n c_G_drawn_20 rfl ?_
    refine PW_if_lt c_G_drawn_21 (fun h2 => absurd h2 hk2) (fun h2 => ?_)
    refine PW_iload_n c_G_drawn_24 rfl ?_
    refine PW_iconst (v := 1) c_G_drawn_25 (by decide) ?_
    refine PW_icmp_le c_G_drawn_26 (fun h3 => absurd h3 (fun q => hk5 ⟨Int32.not_lt.mp hk2, q⟩)) (fun h3 => ?_)
    refine PW_iconst (v := -1) c_G_drawn_29 (by decide) ?_
    refine PW_ireturn (ty := .int) c_G_drawn_30 rfl rfl ?_
    exact h
  · refine PW.deeper (k := (5, 0, 0, z)) (Nat.le_of_ble_eq_true rfl) (Nat.le_refl _) (Nat.le_refl _) ?_
    refine PW_iload_n c_M_drawn_0 rfl ?_
    refine PW_if_lt c_M_drawn_1 (fun h0 => absurd h0 hc0) (fun h0 => ?_)
    refine PW_iload_n c_M_drawn_4 rfl ?_
    refine PW_bipush (v := 100) c_M_drawn_5 (by decide) ?_
    refine PW_idiv c_M_drawn_7 (by decide) ?_
    refine PW_S0 (d2 := 2) (st := []) [.int (a2 / 100)] c_M_drawn_8 lk_M_drawn_283 rfl rfl rfl (Nat.le_of_ble_eq_true rfl) (by first | decide | omega) (Nat.le_of_ble_eq_true rfl) ?_
    refine sp_M_isTime  ?_
    show PW _ _ _ 11 [some (.ref 70), some (.int a1), some (.int a2), some (.int a3), none, none, none, none, none] [.int (b2i (0 ≤ (a2 / 100) ∧ 0 ≤ (a2 / 100) / 100 ∧ (a2 / 100) / 100 ≤ 4))] (E x y)
    refine PW_if_eq c_M_drawn_11 (fun h1 => absurd hc1 (b2i_0.mp h1)) (fun _ => ?_)
    refine PW_iload_n c_M_drawn_14 rfl ?_
    refine PW_bipush (v := 100) c_M_drawn_15 (by decide) ?_
    refine PW_irem c_M_drawn_17 (by decide) ?_
    refine PW_iconst (v := 1) c_M_drawn_18 (by decide) ?_
    refine PW_bipush (v := 30) c_M_drawn_19 (by decide) ?_
    refine PW_S0 (d2 := 0) (st := []) [.int (a2 - a2 / 100 * 100), .int 1, .int 30] c_M_drawn_21 lk_M_drawn_131 rfl rfl rfl (Nat.le_of_ble_eq_true rfl) (by first | decide | omega) (Nat.le_of_ble_eq_true rfl) ?_
    refine sp_M_within  ?_
    show PW _ _ _ 24 [some (.ref 70), some (.int a1), some (.int a2), some (.int a3), none, none, none, none, none] [.int (b2i ((1 : Int32) ≤ (a2 - a2 / 100 * 100) ∧ (a2 - a2 / 100 * 100) ≤ (30 : Int32)))] (E x y)
    refine PW_if_eq c_M_drawn_24 (fun h2 => ?_) (fun h2 => ?_)
    · replace h2 := b2i_0.mp h2
      refine PW_iconst (v := -1) c_M_drawn_36 (by decide) ?_
      refine PW_ireturn (ty := .int) c_M_drawn_37 rfl rfl ?_
      exact h
    · replace h2 := b2i_n0.mp h2
      refine PW_iload_n c_M_drawn_27 rfl ?_
      refine PW_iconst (v := 0) c_M_drawn_28 (by decide) ?_
      refine PW_iconst (v := 1) c_M_drawn_29 (by decide) ?_
      refine PW_S0 (d2 := 0) (st := []) [.int a3, .int 0, .int 1] c_M_drawn_30 lk_M_drawn_131 rfl rfl rfl (Nat.le_of_ble_eq_true rfl) (by first | decide | omega) (Nat.le_of_ble_eq_true rfl) ?_
      refine sp_M_within  ?_
      show PW _ _ _ 33 [some (.ref 70), some (.int a1), some (.int a2), some (.int a3), none, none, none, none, none] [.int (b2i ((0 : Int32) ≤ a3 ∧ a3 ≤ (1 : Int32)))] (E x y)
      refine PW_if_ne c_M_drawn_33 (fun h3 => absurd (b2i_n0.mp h3) hk5) (fun _ => ?_)
      refine PW_iconst (v := -1) c_M_drawn_36 (by decide) ?_
      refine PW_ireturn (ty := .int) c_M_drawn_37 rfl rfl ?_
      exact h
