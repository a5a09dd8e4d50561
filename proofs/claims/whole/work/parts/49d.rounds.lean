/-! rounds -/
def stp (T : Option Txt) (y : XS) (b : Nat) (s : Nat × Int32 × Int32) : Nat × Int32 × Int32 := (b, s.2.1 + wayN y s.1 b + mnF T y (nI b) (s.2.1 + wayN y s.1 b) (telF y (nI b) (s.2.1 + wayN y s.1 b) s.2.2), s.2.2 ||| telF y (nI b) (s.2.1 + wayN y s.1 b) s.2.2)
def rdF (T : Option Txt) (y : XS) (gs : Nat → Int32) : Nat → Nat → Nat × Int32 × Int32 → Nat × Int32 × Int32
  | 0, _, s => s
  | j + 1, k, s => rdF T y gs j (k + 1) (stp T y (gs k).toNatClampNeg s)
def ldF (gs : Nat → Int32) (n : Nat) : Nat → Nat → Nat
  | 0, k => k
  | j + 1, k => if k < n ∧ (0 ≤ gs k ∧ gs k ≤ 4) then ldF gs n j (k + 1) else k
theorem ldF_p (gs : Nat → Int32) (n : Nat) : ∀ j k, k ≤ ldF gs n j k ∧ ldF gs n j k ≤ k + j ∧ (∀ i, k ≤ i → i < ldF gs n j k → i < n ∧ (0 ≤ gs i ∧ gs i ≤ 4)) ∧ (ldF gs n j k = k + j ∨ ¬ (ldF gs n j k < n ∧ (0 ≤ gs (ldF gs n j k) ∧ gs (ldF gs n j k) ≤ 4)))
  | 0, k => ⟨Nat.le_refl _, Nat.le_refl _, fun i h1 h2 => by rw [ldF] at h2; omega, Or.inl rfl⟩
  | j + 1, k => by
    rw [ldF]
    by_cases h : k < n ∧ (0 ≤ gs k ∧ gs k ≤ 4)
    · rw [if_pos h]
      obtain ⟨h1, h2, h3, h4⟩ := ldF_p gs n j (k + 1)
      refine ⟨by omega, by omega, fun i q1 q2 => ?_, ?_⟩
      · by_cases q : i = k
        · rw [q]; exact h
        · exact h3 i (by omega) q2
      · rcases h4 with h4 | h4
        · exact Or.inl (by omega)
        · exact Or.inr h4
    · rw [if_neg h]
      exact ⟨Nat.le_refl _, by omega, fun i q1 q2 => by omega, Or.inr h⟩
theorem rm_nI {v : Int32} (h : 0 ≤ v ∧ v ≤ 4) : v = nI v.toNatClampNeg ∧ v.toNatClampNeg < 5 := by
  rw [Int32.le_iff_toInt_le, Int32.le_iff_toInt_le, show (0 : Int32).toInt = 0 by decide, show (4 : Int32).toInt = 4 by decide] at h
  obtain ⟨q, q1, q2, q3, q4⟩ := nI_ex h.1
  rw [q4]
  exact ⟨q2, by omega⟩
theorem nI_rm {b : Nat} (h : b < 5) : 0 ≤ nI b ∧ nI b ≤ 4 := r5 h
theorem stp_b {T : Option Txt} {x y : XS} (C : CPg x y) {a b B : Nat} {m t : Int32} (ha : a < 5) (hb : b < 5) (hm : 0 ≤ m.toInt ∧ m.toInt ≤ B) (hB : B < 1000000) : 0 ≤ (m + wayN y a b).toInt ∧ (m + wayN y a b).toInt ≤ B + 36 ∧ 0 ≤ (stp T y b (a, m, t)).2.1.toInt ∧ (stp T y b (a, m, t)).2.1.toInt ≤ B + 66 := by
  have h1 := wayN_b C ha hb
  have h2 := ti_add (x := m) (y := wayN y a b) (by omega) (by omega)
  have h3 := mnF_b (T := T) (y := y) (r := nI b) (m := m + wayN y a b) (v := telF y (nI b) (m + wayN y a b) t)
  have h4 := ti_add (x := m + wayN y a b) (y := mnF T y (nI b) (m + wayN y a b) (telF y (nI b) (m + wayN y a b) t)) (by omega) (by omega)
  have e : (stp T y b (a, m, t)).2.1 = m + wayN y a b + mnF T y (nI b) (m + wayN y a b) (telF y (nI b) (m + wayN y a b) t) := rfl
  rw [e]
  omega
theorem stp_gE {T : Option Txt} {y Y : XS} (h : gE y Y) (b : Nat) (s : Nat × Int32 × Int32) : stp T Y b s = stp T y b s := by
  obtain ⟨-, -, -, -, e1, e2, e3⟩ := gE_fun h
  unfold stp
  rw [e1, e2, e3]
/-- one step of the class's round-goer -/
theorem G_step {T : Option Txt} {x y X : XS} {a b B : Nat} {m t : Int32} (C : CPg x y) (hT : lawIs T x y) (hX : xS x X) (s : lvS 31 X a m t) (ha : a < 5) (hb : b < 5) (hm : 0 ≤ m.toInt ∧ m.toInt ≤ B) (hB : B < 1000000) : ∃ X' : XS, lvS 31 X' b (stp T y b (a, m, t)).2.1 (stp T y b (a, m, t)).2.2 ∧ xS x X' ∧ ∀ {z : ZS} {post : Option Value → List PE → Prop}, post (some (.int (telF y (nI b) (m + wayN y a b) t))) (E X' y) → PW (4, 0, 0, z) m_V_tell post 0 [some (.ref 31), some (.int 0), none] [] (E (sI (sI X (31 * 8 + 3) (m + wayN y a b)) (31 * 8 + 2) (nI b)) y) := by
  have hb1 := stp_b (T := T) (t := t) C ha hb hm hB
  obtain ⟨s1, f1⟩ := lvS_walk (b := b) (m2 := m + wayN y a b) s
  have hX1 := xS_t hX (xS_frV f1 (Or.inl rfl))
  obtain ⟨X', s2, f2, H⟩ := sp_V_tell (o := 31) (e := 0) (Or.inl rfl) (CPg_S C hX1 (yS_0 y)) (law_S hT hX1 (yS_0 y)) s1 hb hb1.1
  rw [or_0] at s2 H
  exact ⟨X', s2, xS_t hX1 (xS_frV f2 (Or.inl rfl)), fun {z post} h => H h⟩
theorem lp_F_lead {z : ZS} {post : Option Value → List PE → Prop} {x y : XS} {sj n : Nat} {gs : Nat → Int32} (hsj : sj < 6) (hb : x.1 ((58 + 2 * sj) * 8 + 1) = 2 ∧ x.1 ((58 + 2 * sj) * 8 + 3) = 0) (hz : x.1 ((58 + 2 * sj) * 8 + 4) = nI n) (hn : n ≤ 60) (hR : ∀ i, i < n → (x.2.2 (59 + 2 * sj) i).toInt32 = gs i) : ∀ j k : Nat, k + j = 12 → post (some (.int (nI (ldF gs n j k)))) (E x y) → PW (3, 0, 0, z) m_F_leadingRooms post 2 [some (.ref (58 + 2 * sj)), some (.int (nI k))] [] (E x y) := by
  intro j
  induction j with
  | zero =>
    intro k hk h
    rw [ldF] at h
    refine PW_iload_n c_F_leadingRooms_2 rfl ?_
    refine PW_bipush (v := 12) c_F_leadingRooms_3 (by decide) ?_
    refine PW_icmp_ge c_F_leadingRooms_5 (fun h0 => ?_) (fun h0 => absurd (by rw [show k = 12 by omega]; decide : (12 : Int32) ≤ nI k) h0)
    refine PW_bipush (v := 12) c_F_leadingRooms_27 (by decide) ?_
    refine PW_ireturn (ty := .int) c_F_leadingRooms_29 rfl rfl ?_
    rw [show k = 12 by omega] at h
    exact h
  | succ j ih =>
    intro k hk h
    rw [ldF] at h
    by_cases hkn : k < n
    · by_cases hr : 0 ≤ gs k ∧ gs k ≤ 4
      · rw [if_pos ⟨hkn, hr⟩] at h
        refine PW_iload_n c_F_leadingRooms_2 rfl ?_
        refine PW_bipush (v := 12) c_F_leadingRooms_3 (by decide) ?_
        refine PW_icmp_ge c_F_leadingRooms_5 (fun h0 => absurd h0 (fun q => absurd ((nI_leI (by decide) (by omega)).mp (show nI 12 ≤ nI k from q)) (by omega))) (fun h0 => ?_)
        refine PW_aload_n c_F_leadingRooms_8 rfl ?_
        refine PW_iload_n c_F_leadingRooms_9 rfl ?_
        refine PW_V0 (d2 := 2) (st := []) [.int (nI k)] c_F_leadingRooms_10 lk_F_leadingRooms_64 (sh_po _ _ hsj) rfl rfl rfl (Nat.le_of_ble_eq_true rfl) (by first | decide | omega) (Nat.le_of_ble_eq_true rfl) ?_
        refine sp_F_small hsj hb hz hn rfl (by omega) ?_
        rw [if_pos hkn, hR k hkn]
        show PW _ _ _ 13 [some (.ref (58 + 2 * sj)), some (.int (nI k))] [.int (gs k)] (E x y)
        refine PW_S0 (d2 := 0) (st := []) [.int (gs k)] c_F_leadingRooms_13 lk_F_leadingRooms_68 rfl rfl rfl (Nat.le_of_ble_eq_true rfl) (by first | decide | omega) (Nat.le_of_ble_eq_true rfl) ?_
        refine sp_H_isRoom  ?_
        show PW _ _ _ 16 [some (.ref (58 + 2 * sj)), some (.int (nI k))] [.int (b2i (0 ≤ (gs k) ∧ (gs k) ≤ 4))] (E x y)
        refine PW_if_ne c_F_leadingRooms_16 (fun _ => ?_) (fun h1 => absurd hr (b2i_0.mp h1))
        refine PW_iinc (i := 1) (v := (nI k) + 1) (L2 := [some (.ref (58 + 2 * sj)), some (.int ((nI k) + 1))]) c_F_leadingRooms_21 rfl (iinc_v (by decide)) (Nat.le_of_ble_eq_true rfl) rfl rfl ?_
        refine PW_goto c_F_leadingRooms_24 ?_
        refine PW.eqL ?_ rfl rfl (ih (k + 1) (by omega) h)
        show ([some (.ref (58 + 2 * sj)), some (.int ((nI k) + 1))] : List (Option Value)) = [some (.ref (58 + 2 * sj)), some (.int (nI (k + 1)))]
        rw [nI_1]
      · rw [if_neg (fun q => hr q.2)] at h
        refine PW_iload_n c_F_leadingRooms_2 rfl ?_
        refine PW_bipush (v := 12) c_F_leadingRooms_3 (by decide) ?_
        refine PW_icmp_ge c_F_leadingRooms_5 (fun h0 => absurd h0 (fun q => absurd ((nI_leI (by decide) (by omega)).mp (show nI 12 ≤ nI k from q)) (by omega))) (fun h0 => ?_)
        refine PW_aload_n c_F_leadingRooms_8 rfl ?_
        refine PW_iload_n c_F_leadingRooms_9 rfl ?_
        refine PW_V0 (d2 := 2) (st := []) [.int (nI k)] c_F_leadingRooms_10 lk_F_leadingRooms_64 (sh_po _ _ hsj) rfl rfl rfl (Nat.le_of_ble_eq_true rfl) (by first | decide | omega) (Nat.le_of_ble_eq_true rfl) ?_
        refine sp_F_small hsj hb hz hn rfl (by omega) ?_
        rw [if_pos hkn, hR k hkn]
        show PW _ _ _ 13 [some (.ref (58 + 2 * sj)), some (.int (nI k))] [.int (gs k)] (E x y)
        refine PW_S0 (d2 := 0) (st := []) [.int (gs k)] c_F_leadingRooms_13 lk_F_leadingRooms_68 rfl rfl rfl (Nat.le_of_ble_eq_true rfl) (by first | decide | omega) (Nat.le_of_ble_eq_true rfl) ?_
        refine sp_H_isRoom  ?_
        show PW _ _ _ 16 [some (.ref (58 + 2 * sj)), some (.int (nI k))] [.int (b2i (0 ≤ (gs k) ∧ (gs k) ≤ 4))] (E x y)
        refine PW_if_ne c_F_leadingRooms_16 (fun h1 => absurd (b2i_n0.mp h1) hr) (fun _ => ?_)
        refine PW_iload_n c_F_leadingRooms_19 rfl ?_
        refine PW_ireturn (ty := .int) c_F_leadingRooms_20 rfl rfl ?_
        exact h
    · rw [if_neg (fun q => hkn q.1)] at h
      refine PW_iload_n c_F_leadingRooms_2 rfl ?_
      refine PW_bipush (v := 12) c_F_leadingRooms_3 (by decide) ?_
      refine PW_icmp_ge c_F_leadingRooms_5 (fun h0 => absurd h0 (fun q => absurd ((nI_leI (by decide) (by omega)).mp (show nI 12 ≤ nI k from q)) (by omega))) (fun h0 => ?_)
      refine PW_aload_n c_F_leadingRooms_8 rfl ?_
      refine PW_iload_n c_F_leadingRooms_9 rfl ?_
      refine PW_V0 (d2 := 2) (st := []) [.int (nI k)] c_F_leadingRooms_10 lk_F_leadingRooms_64 (sh_po _ _ hsj) rfl rfl rfl (Nat.le_of_ble_eq_true rfl) (by first | decide | omega) (Nat.le_of_ble_eq_true rfl) ?_
      refine sp_F_small hsj hb hz hn rfl (by omega) ?_
      rw [if_neg hkn]
      show PW _ _ _ 13 [some (.ref (58 + 2 * sj)), some (.int (nI k))] [.int (-1)] (E x y)
      refine PW_S0 (d2 := 0) (st := []) [.int (-1)] c_F_leadingRooms_13 lk_F_leadingRooms_68 rfl rfl rfl (Nat.le_of_ble_eq_true rfl) (by first | decide | omega) (Nat.le_of_ble_eq_true rfl) ?_
      refine sp_H_isRoom  ?_
      show PW _ _ _ 16 [some (.ref (58 + 2 * sj)), some (.int (nI k))] [.int (b2i (0 ≤ (-1 : Int32) ∧ (-1 : Int32) ≤ 4))] (E x y)
      refine PW_if_ne c_F_leadingRooms_16 (fun h1 => absurd (b2i_n0.mp h1) (by decide)) (fun _ => ?_)
      refine PW_iload_n c_F_leadingRooms_19 rfl ?_
      refine PW_ireturn (ty := .int) c_F_leadingRooms_20 rfl rfl ?_
      exact h
theorem sp_F_lead {z : ZS} {post : Option Value → List PE → Prop} {x y : XS} {sj n : Nat} {gs : Nat → Int32} (hsj : sj < 6) (hb : x.1 ((58 + 2 * sj) * 8 + 1) = 2 ∧ x.1 ((58 + 2 * sj) * 8 + 3) = 0) (hz : x.1 ((58 + 2 * sj) * 8 + 4) = nI n) (hn : n ≤ 60) (hR : ∀ i, i < n → (x.2.2 (59 + 2 * sj) i).toInt32 = gs i) (h : post (some (.int (nI (ldF gs n 12 0)))) (E x y)) : PW (3, 0, 0, z) m_F_leadingRooms post 0 [some (.ref (58 + 2 * sj)), none] [] (E x y) := by
  refine PW_iconst (v := 0) c_F_leadingRooms_0 (by decide) ?_
  refine PW_istore_n (i := 1) (L2 := [some (.ref (58 + 2 * sj)), some (.int 0)]) c_F_leadingRooms_1 rfl (Nat.le_of_ble_eq_true rfl) rfl rfl ?_
  exact lp_F_lead hsj hb hz hn hR 12 0 (Nat.zero_add _) h
set_option maxHeartbeats 1000000 in
theorem lp_G_round {T : Option Txt} {x y : XS} {a1 a2 a3 : Int32} {sj n N : Nat} (C : CPg x y) (hT : lawIs T x y) (hsj : sj < 6) (hb : x.1 ((58 + 2 * sj) * 8 + 1) = 2 ∧ x.1 ((58 + 2 * sj) * 8 + 3) = 0) (hz : x.1 ((58 + 2 * sj) * 8 + 4) = nI n) (hn : n ≤ 60) (hR : ∀ i, i < n → (x.2.2 (59 + 2 * sj) i).toInt32 = plF y sj i) (hN : N ≤ 12) (hL : ∀ i, i < N → i < n ∧ (0 ≤ plF y sj i ∧ plF y sj i ≤ 4)) : ∀ (j k : Nat) (X : XS) (a : Nat) (m t : Int32), k + j = N → xS x X → lvS 31 X a m t → a < 5 → 0 ≤ m.toInt ∧ m.toInt ≤ ((100 + 66 * k : Nat) : Int) → ∃ X' : XS, xS x X' ∧ lvS 31 X' (rdF T y (plF y sj) j k (a, m, t)).1 (rdF T y (plF y sj) j k (a, m, t)).2.1 (rdF T y (plF y sj) j k (a, m, t)).2.2 ∧ (rdF T y (plF y sj) j k (a, m, t)).1 < 5 ∧ ∀ {z : ZS} {post : Option Value → List PE → Prop}, PW (5, 0, 0, z) m_G_round post 106 [some (.ref 5), some (.int a1), some (.int a2), some (.int a3), some (.ref (58 + 2 * sj)), some (.int 0), some (.int (nI N)), some (.int (nI N))] [] (E X' y) → PW (5, 0, 0, z) m_G_round post 70 [some (.ref 5), some (.int a1), some (.int a2), some (.int a3), some (.ref (58 + 2 * sj)), some (.int 0), some (.int (nI N)), some (.int (nI k))] [] (E X y) := by
  intro j
  induction j with
  | zero =>
    intro k X a m t hk hX hs ha hm
    refine ⟨X, hX, hs, ha, fun {z post} h => ?_⟩
    refine PW_iload c_G_round_70 rfl ?_
    refine PW_iload c_G_round_72 rfl ?_
    refine PW_icmp_ge c_G_round_74 (fun h0 => ?_) (fun h0 => absurd ((nI_leI (by omega) (by omega)).mpr (by omega)) h0)
    rw [show k = N by omega]
    exact h
  | succ j ih =>
    intro k X a m t hk hX hs ha hm
    have hXb : X.1 ((58 + 2 * sj) * 8 + 1) = 2 ∧ X.1 ((58 + 2 * sj) * 8 + 3) = 0 := by rw [hX.1 _ (by omega), hX.1 _ (by omega)]; exact hb
    have hXz : X.1 ((58 + 2 * sj) * 8 + 4) = nI n := by rw [hX.1 _ (by omega)]; exact hz
    have hXR : ∀ i, i < n → (X.2.2 (59 + 2 * sj) i).toInt32 = plF y sj i := fun i hi => by rw [hX.2.2]; exact hR i hi
    obtain ⟨hkn, hrm⟩ := hL k (by omega)
    have hgk := rm_nI hrm
    obtain ⟨X1, s1, hX1, H1⟩ := G_step (T := T) (b := (plF y sj k).toNatClampNeg) C hT hX hs ha hgk.2 hm (by omega)
    have hb1 := stp_b (T := T) (t := t) C ha hgk.2 hm (by omega)
    obtain ⟨X2, hX2, s2, ha2, H2⟩ := ih (k + 1) X1 _ _ _ (by omega) hX1 s1 hgk.2 (by omega)
    refine ⟨X2, hX2, s2, ha2, fun {z post} h => ?_⟩
    refine PW_iload c_G_round_70 rfl ?_
    refine PW_iload c_G_round_72 rfl ?_
    refine PW_icmp_ge c_G_round_74 (fun h0 => absurd h0 (fun q => absurd ((nI_leI (by omega) (by omega)).mp q) (by omega))) (fun h0 => ?_)
    refine PW_aload_n c_G_round_77 rfl ?_
    refine PW_get (v := .ref 31) c_G_round_78 fl_G_35 (gf_5_3 _ _) ?_
    refine PW_aload c_G_round_81 rfl ?_
    refine PW_iload c_G_round_83 rfl ?_
    refine PW_V0 (d2 := 2) (st := [.ref 31]) [.int (nI k)] c_G_round_85 lk_G_round_117 (sh_po _ _ hsj) rfl rfl rfl (Nat.le_of_ble_eq_true rfl) (by first | decide | omega) (Nat.le_of_ble_eq_true rfl) ?_
    refine sp_F_small hsj hXb hXz hn rfl (by omega) ?_
    rw [if_pos hkn, hXR k hkn, hgk.1]
    show PW _ _ _ 88 [some (.ref 5), some (.int a1), some (.int a2), some (.int a3), some (.ref (58 + 2 * sj)), some (.int 0), some (.int (nI N)), some (.int (nI k))] [.int (nI (plF y sj k).toNatClampNeg), .ref 31] (E X y)
    refine PW_V0 (d2 := 3) (st := []) [.int (nI (plF y sj k).toNatClampNeg)] c_G_round_88 lk_G_round_173 (po_31 _ _) rfl rfl rfl (Nat.le_of_ble_eq_true rfl) (by first | decide | omega) (Nat.le_of_ble_eq_true rfl) ?_
    refine sp_V_walkTo (o := 31) (Or.inl rfl) (CPg_S C hX (yS_0 y)) hs ha hgk.2 ?_
    show PW _ _ _ 91 [some (.ref 5), some (.int a1), some (.int a2), some (.int a3), some (.ref (58 + 2 * sj)), some (.int 0), some (.int (nI N)), some (.int (nI k))] [] (E (sI (sI X (31 * 8 + 3) (m + wayN y a (plF y sj k).toNatClampNeg)) (31 * 8 + 2) (nI (plF y sj k).toNatClampNeg)) y)
    refine PW_aload_n c_G_round_91 rfl ?_
    refine PW_get (v := .ref 31) c_G_round_92 fl_G_35 (gf_5_3 _ _) ?_
    refine PW_iconst (v := 0) c_G_round_95 (by decide) ?_
    refine PW_V0 (d2 := 4) (st := []) [.int 0] c_G_round_96 lk_G_round_177 (po_31 _ _) rfl rfl rfl (Nat.le_of_ble_eq_true rfl) (by first | decide | omega) (Nat.le_of_ble_eq_true rfl) ?_
    refine H1 ?_
    show PW _ _ _ 99 [some (.ref 5), some (.int a1), some (.int a2), some (.int a3), some (.ref (58 + 2 * sj)), some (.int 0), some (.int (nI N)), some (.int (nI k))] [.int (telF y (nI (plF y sj k).toNatClampNeg) (m + wayN y a (plF y sj k).toNatClampNeg) t)] (E X1 y)
    refine PW_pop c_G_round_99 rfl ?_
    refine PW_iinc (i := 7) (v := (nI k) + 1) (L2 := [some (.ref 5), some (.int a1), some (.int a2), some (.int a3), some (.ref (58 + 2 * sj)), some (.int 0), some (.int (nI N)), some (.int ((nI k) + 1))]) c_G_round_100 rfl (iinc_v (by decide)) (Nat.le_of_ble_eq_true rfl) rfl rfl ?_
    refine PW_goto c_G_round_103 ?_
    refine PW.eqL ?_ rfl rfl (H2 h)
    show ([some (.ref 5), some (.int a1), some (.int a2), some (.int a3), some (.ref (58 + 2 * sj)), some (.int 0), some (.int (nI N)), some (.int ((nI k) + 1))] : List (Option Value)) = [some (.ref 5), some (.int a1), some (.int a2), some (.int a3), some (.ref (58 + 2 * sj)), some (.int 0), some (.int (nI N)), some (.int (nI (k + 1)))]
    rw [nI_1]
set_option maxHeartbeats 1000000 in
theorem lp_M_round {T : Option Txt} {x x0 y : XS} {a2 a3 : Int32} {sj n N : Nat} (C : CPg x0 y) (hT : lawIs T x0 y) (hsj : sj < 6) (hyz : y.2.1 105 sj = nI n) (hn : n ≤ 60) (hN : N ≤ 12) (hL : ∀ i, i < N → i < n ∧ (0 ≤ plF y sj i ∧ plF y sj i ≤ 4)) (hE : N = 12 ∨ ¬ (N < n ∧ (0 ≤ plF y sj N ∧ plF y sj N ≤ 4))) : ∀ (j k : Nat) (Y : XS) (a : Nat) (m t : Int32), k + j = N → yS y Y → roS Y a m t → a < 5 → ∃ Y' : XS, yS y Y' ∧ roS Y' (rdF T y (plF y sj) j k (a, m, t)).1 (rdF T y (plF y sj) j k (a, m, t)).2.1 (rdF T y (plF y sj) j k (a, m, t)).2.2 ∧ ∀ {z : ZS} {post : Option Value → List PE → Prop}, PW (5, 0, 0, z) m_M_round post 102 [some (.ref 70), some (.int (nI sj)), some (.int a2), some (.int a3), some (.int (nI N))] [] (E x Y') → PW (5, 0, 0, z) m_M_round post 54 [some (.ref 70), some (.int (nI sj)), some (.int a2), some (.int a3), some (.int (nI k))] [] (E x Y) := by
  intro j
  induction j with
  | zero =>
    intro k Y a m t hk hY hs ha
    have hYz : Y.2.1 105 sj = nI n := by rw [hY.2.1 105 (by omega)]; exact hyz
    refine ⟨Y, hY, hs, fun {z post} h => ?_⟩
    rw [show N = k by omega] at h hE
    by_cases q1 : n ≤ k
    · skip
      refine PW_iload c_M_round_54 rfl ?_
      refine PW_aload_n c_M_round_56 rfl ?_
      refine PW_get (v := .ref 105) c_M_round_57 fl_M_114 (gf_70_54 _ _) ?_
      refine PW_iload_n c_M_round_60 rfl ?_
      refine PW_iald (j := sj) c_M_round_61 (ar_105 _ _) (vp_in_nI hsj (by decide)) (nI_clamp (by omega)) ?_
      show PW _ _ _ 62 [some (.ref 70), some (.int (nI sj)), some (.int a2), some (.int a3), some (.int (nI k))] [.int ((Y.2.1 105) sj), .int (nI k)] (E x Y)
      refine PW_icmp_ge c_M_round_62 (fun h0 => ?_) (fun h0 => absurd (by rw [hYz]; exact (nI_leI (by omega) (by omega)).mpr (by omega)) h0)
      exact h
    · by_cases q2 : k = 12
      · skip
        refine PW_iload c_M_round_54 rfl ?_
        refine PW_aload_n c_M_round_56 rfl ?_
        refine PW_get (v := .ref 105) c_M_round_57 fl_M_114 (gf_70_54 _ _) ?_
        refine PW_iload_n c_M_round_60 rfl ?_
        refine PW_iald (j := sj) c_M_round_61 (ar_105 _ _) (vp_in_nI hsj (by decide)) (nI_clamp (by omega)) ?_
        show PW _ _ _ 62 [some (.ref 70), some (.int (nI sj)), some (.int a2), some (.int a3), some (.int (nI k))] [.int ((Y.2.1 105) sj), .int (nI k)] (E x Y)
        refine PW_icmp_ge c_M_round_62 (fun h0 => absurd h0 (fun q => by rw [hYz] at q; exact absurd ((nI_leI (by omega) (by omega)).mp q) (by omega))) (fun h0 => ?_)
        refine PW_iload c_M_round_65 rfl ?_
        refine PW_bipush (v := 12) c_M_round_67 (by decide) ?_
        refine PW_icmp_ge c_M_round_69 (fun h1 => ?_) (fun h1 => absurd (by rw [show k = 12 by omega]; decide : (12 : Int32) ≤ nI k) h1)
        exact h
      · have hYk : (Y.2.2 106 (60 * sj + k)).toInt32 = plF y sj k := by rw [hY.2.2]; rfl
        have hYr : ¬ (0 ≤ (Y.2.2 106 (60 * sj + k)).toInt32 ∧ (Y.2.2 106 (60 * sj + k)).toInt32 ≤ 4) := by rw [hYk]; exact fun q => (hE.resolve_left q2) ⟨by omega, q⟩
        refine PW_iload c_M_round_54 rfl ?_
        refine PW_aload_n c_M_round_56 rfl ?_
        refine PW_get (v := .ref 105) c_M_round_57 fl_M_114 (gf_70_54 _ _) ?_
        refine PW_iload_n c_M_round_60 rfl ?_
        refine PW_iald (j := sj) c_M_round_61 (ar_105 _ _) (vp_in_nI hsj (by decide)) (nI_clamp (by omega)) ?_
        show PW _ _ _ 62 [some (.ref 70), some (.int (nI sj)), some (.int a2), some (.int a3), some (.int (nI k))] [.int ((Y.2.1 105) sj), .int (nI k)] (E x Y)
        refine PW_icmp_ge c_M_round_62 (fun h0 => absurd h0 (fun q => by rw [hYz] at q; exact absurd ((nI_leI (by omega) (by omega)).mp q) (by omega))) (fun h0 => ?_)
        refine PW_iload c_M_round_65 rfl ?_
        refine PW_bipush (v := 12) c_M_round_67 (by decide) ?_
        refine PW_icmp_ge c_M_round_69 (fun h1 => absurd h1 (fun q => absurd ((nI_leI (by decide) (by omega)).mp (show nI 12 ≤ nI k from q)) (by omega))) (fun h1 => ?_)
        refine PW_aload_n c_M_round_72 rfl ?_
        refine PW_iload_n c_M_round_73 rfl ?_
        refine PW_iload c_M_round_74 rfl ?_
        refine PW_V0 (d2 := 0) (st := []) [.int (nI sj), .int (nI k)] c_M_round_76 lk_M_round_292 (po_70 _ _) rfl rfl rfl (Nat.le_of_ble_eq_true rfl) (by first | decide | omega) (Nat.le_of_ble_eq_true rfl) ?_
        show PW _ _ _ 0 [some (.ref 70), some (.int (nI sj)), some (.int (nI k))] [] (E x Y)
        refine PW_aload_n c_M_byteAt_0 rfl ?_
        refine PW_get (v := .ref 106) c_M_byteAt_1 fl_M_117 (gf_70_55 _ _) ?_
        refine PW_bipush (v := 60) c_M_byteAt_4 (by decide) ?_
        refine PW_iload_n c_M_byteAt_6 rfl ?_
        refine PW_imul c_M_byteAt_7 ?_
        refine PW_iload_n c_M_byteAt_8 rfl ?_
        refine PW_iadd c_M_byteAt_9 ?_
        refine PW_lald (j := 60 * sj + k) c_M_byteAt_10 (ar_106 _ _) (by rw [show (60 : Int32) = nI 60 from rfl, pk_mul, nI_add]; exact vp_in_nI (by omega) (by decide)) (by rw [show (60 : Int32) = nI 60 from rfl, pk_mul, nI_add]; exact nI_clamp (by omega)) ?_
        show PW _ _ _ 11 [some (.ref 70), some (.int (nI sj)), some (.int (nI k))] [.long ((Y.2.2 106) (60 * sj + k))] (E x Y)
        refine PW_l2i c_M_byteAt_11 ?_
        refine PW_ireturn (ty := .int) c_M_byteAt_12 rfl rfl ?_
        show PW _ _ _ 79 [some (.ref 70), some (.int (nI sj)), some (.int a2), some (.int a3), some (.int (nI k))] [.int (((Y.2.2 106) (60 * sj + k)).toInt32)] (E x Y)
        refine PW_S0 (d2 := 1) (st := []) [.int (((Y.2.2 106) (60 * sj + k)).toInt32)] c_M_round_79 lk_M_round_135 rfl rfl rfl (Nat.le_of_ble_eq_true rfl) (by first | decide | omega) (Nat.le_of_ble_eq_true rfl) ?_
        refine sp_M_isRoom  ?_
        show PW _ _ _ 82 [some (.ref 70), some (.int (nI sj)), some (.int a2), some (.int a3), some (.int (nI k))] [.int (b2i (0 ≤ (((Y.2.2 106) (60 * sj + k)).toInt32) ∧ (((Y.2.2 106) (60 * sj + k)).toInt32) ≤ 4))] (E x Y)
        refine PW_if_eq c_M_round_82 (fun _ => ?_) (fun h2 => absurd (b2i_n0.mp h2) hYr)
        exact h
  | succ j ih =>
    intro k Y a m t hk hY hs ha
    have hYz : Y.2.1 105 sj = nI n := by rw [hY.2.1 105 (by omega)]; exact hyz
    obtain ⟨hkn, hrm⟩ := hL k (by omega)
    have hgk := rm_nI hrm
    have hYk : (Y.2.2 106 (60 * sj + k)).toInt32 = plF y sj k := by rw [hY.2.2]; rfl
    have hYr : 0 ≤ (Y.2.2 106 (60 * sj + k)).toInt32 ∧ (Y.2.2 106 (60 * sj + k)).toInt32 ≤ 4 := by rw [hYk]; exact hrm
    have hW : WG Y := (CPg_S C (xS_0 x0) hY).1
    obtain ⟨Y1, s1, f1, H1⟩ := sp_M_goTo (T := T) (x := x) (x0 := x0) hW (law_S hT (xS_0 x0) hY) hs ha hgk.2
    have s1 : roS Y1 (plF y sj k).toNatClampNeg (stp T Y (plF y sj k).toNatClampNeg (a, m, t)).2.1 (stp T Y (plF y sj k).toNatClampNeg (a, m, t)).2.2 := s1
    rw [stp_gE (gE_S hY)] at s1
    have hY1 := yS_t hY (yS_frG f1)
    obtain ⟨Y2, hY2, s2, H2⟩ := ih (k + 1) Y1 _ _ _ (by omega) hY1 s1 hgk.2
    refine ⟨Y2, hY2, s2, fun {z post} h => ?_⟩
    refine PW_iload c_M_round_54 rfl ?_
    refine PW_aload_n c_M_round_56 rfl ?_
    refine PW_get (v := .ref 105) c_M_round_57 fl_M_114 (gf_70_54 _ _) ?_
    refine PW_iload_n c_M_round_60 rfl ?_
    refine PW_iald (j := sj) c_M_round_61 (ar_105 _ _) (vp_in_nI hsj (by decide)) (nI_clamp (by omega)) ?_
    show PW _ _ _ 62 [some (.ref 70), some (.int (nI sj)), some (.int a2), some (.int a3), some (.int (nI k))] [.int ((Y.2.1 105) sj), .int (nI k)] (E x Y)
    refine PW_icmp_ge c_M_round_62 (fun h0 => absurd h0 (fun q => by rw [hYz] at q; exact absurd ((nI_leI (by omega) (by omega)).mp q) (by omega))) (fun h0 => ?_)
    refine PW_iload c_M_round_65 rfl ?_
    refine PW_bipush (v := 12) c_M_round_67 (by decide) ?_
    refine PW_icmp_ge c_M_round_69 (fun h1 => absurd h1 (fun q => absurd ((nI_leI (by decide) (by omega)).mp (show nI 12 ≤ nI k from q)) (by omega))) (fun h1 => ?_)
    refine PW_aload_n c_M_round_72 rfl ?_
    refine PW_iload_n c_M_round_73 rfl ?_
    refine PW_iload c_M_round_74 rfl ?_
    refine PW_V0 (d2 := 0) (st := []) [.int (nI sj), .int (nI k)] c_M_round_76 lk_M_round_292 (po_70 _ _) rfl rfl rfl (Nat.le_of_ble_eq_true rfl) (by first | decide | omega) (Nat.le_of_ble_eq_true rfl) ?_
    show PW _ _ _ 0 [some (.ref 70), some (.int (nI sj)), some (.int (nI k))] [] (E x Y)
    refine PW_aload_n c_M_byteAt_0 rfl ?_
    refine PW_get (v := .ref 106) c_M_byteAt_1 fl_M_117 (gf_70_55 _ _) ?_
    refine PW_bipush (v := 60) c_M_byteAt_4 (by decide) ?_
    refine PW_iload_n c_M_byteAt_6 rfl ?_
    refine PW_imul c_M_byteAt_7 ?_
    refine PW_iload_n c_M_byteAt_8 rfl ?_
    refine PW_iadd c_M_byteAt_9 ?_
    refine PW_lald (j := 60 * sj + k) c_M_byteAt_10 (ar_106 _ _) (by rw [show (60 : Int32) = nI 60 from rfl, pk_mul, nI_add]; exact vp_in_nI (by omega) (by decide)) (by rw [show (60 : Int32) = nI 60 from rfl, pk_mul, nI_add]; exact nI_clamp (by omega)) ?_
    show PW _ _ _ 11 [some (.ref 70), some (.int (nI sj)), some (.int (nI k))] [.long ((Y.2.2 106) (60 * sj + k))] (E x Y)
    refine PW_l2i c_M_byteAt_11 ?_
    refine PW_ireturn (ty := .int) c_M_byteAt_12 rfl rfl ?_
    show PW _ _ _ 79 [some (.ref 70), some (.int (nI sj)), some (.int a2), some (.int a3), some (.int (nI k))] [.int (((Y.2.2 106) (60 * sj + k)).toInt32)] (E x Y)
    refine PW_S0 (d2 := 1) (st := []) [.int (((Y.2.2 106) (60 * sj + k)).toInt32)] c_M_round_79 lk_M_round_135 rfl rfl rfl (Nat.le_of_ble_eq_true rfl) (by first | decide | omega) (Nat.le_of_ble_eq_true rfl) ?_
    refine sp_M_isRoom  ?_
    show PW _ _ _ 82 [some (.ref 70), some (.int (nI sj)), some (.int a2), some (.int a3), some (.int (nI k))] [.int (b2i (0 ≤ (((Y.2.2 106) (60 * sj + k)).toInt32) ∧ (((Y.2.2 106) (60 * sj + k)).toInt32) ≤ 4))] (E x Y)
    refine PW_if_eq c_M_round_82 (fun h2 => absurd hYr (b2i_0.mp h2)) (fun _ => ?_)
    refine PW_aload_n c_M_round_85 rfl ?_
    refine PW_aload_n c_M_round_86 rfl ?_
    refine PW_iload_n c_M_round_87 rfl ?_
    refine PW_iload c_M_round_88 rfl ?_
    refine PW_V0 (d2 := 0) (st := [.ref 70]) [.int (nI sj), .int (nI k)] c_M_round_90 lk_M_round_292 (po_70 _ _) rfl rfl rfl (Nat.le_of_ble_eq_true rfl) (by first | decide | omega) (Nat.le_of_ble_eq_true rfl) ?_
    show PW _ _ _ 0 [some (.ref 70), some (.int (nI sj)), some (.int (nI k))] [] (E x Y)
    refine PW_aload_n c_M_byteAt_0 rfl ?_
    refine PW_get (v := .ref 106) c_M_byteAt_1 fl_M_117 (gf_70_55 _ _) ?_
    refine PW_bipush (v := 60) c_M_byteAt_4 (by decide) ?_
    refine PW_iload_n c_M_byteAt_6 rfl ?_
    refine PW_imul c_M_byteAt_7 ?_
    refine PW_iload_n c_M_byteAt_8 rfl ?_
    refine PW_iadd c_M_byteAt_9 ?_
    refine PW_lald (j := 60 * sj + k) c_M_byteAt_10 (ar_106 _ _) (by rw [show (60 : Int32) = nI 60 from rfl, pk_mul, nI_add]; exact vp_in_nI (by omega) (by decide)) (by rw [show (60 : Int32) = nI 60 from rfl, pk_mul, nI_add]; exact nI_clamp (by omega)) ?_
    show PW _ _ _ 11 [some (.ref 70), some (.int (nI sj)), some (.int (nI k))] [.long ((Y.2.2 106) (60 * sj + k))] (E x Y)
    refine PW_l2i c_M_byteAt_11 ?_
    refine PW_ireturn (ty := .int) c_M_byteAt_12 rfl rfl ?_
    show PW _ _ _ 93 [some (.ref 70), some (.int (nI sj)), some (.int a2), some (.int a3), some (.int (nI k))] [.int (((Y.2.2 106) (60 * sj + k)).toInt32), .ref 70] (E x Y)
    rw [show (Y.2.2 106 (60 * sj + k)).toInt32 = nI (plF y sj k).toNatClampNeg from hYk.trans hgk.1]
    show PW _ _ _ 93 [some (.ref 70), some (.int (nI sj)), some (.int a2), some (.int a3), some (.int (nI k))] [.int (nI (plF y sj k).toNatClampNeg), .ref 70] (E x Y)
    refine PW_V0 (d2 := 4) (st := []) [.int (nI (plF y sj k).toNatClampNeg)] c_M_round_93 lk_M_round_295 (po_70 _ _) rfl rfl rfl (Nat.le_of_ble_eq_true rfl) (by first | decide | omega) (Nat.le_of_ble_eq_true rfl) ?_
    refine H1 ?_
    show PW _ _ _ 96 [some (.ref 70), some (.int (nI sj)), some (.int a2), some (.int a3), some (.int (nI k))] [] (E x Y1)
    refine PW_iinc (i := 4) (v := (nI k) + 1) (L2 := [some (.ref 70), some (.int (nI sj)), some (.int a2), some (.int a3), some (.int ((nI k) + 1))]) c_M_round_96 rfl (iinc_v (by decide)) (Nat.le_of_ble_eq_true rfl) rfl rfl ?_
    refine PW_goto c_M_round_99 ?_
    refine PW.eqL ?_ rfl rfl (H2 h)
    show ([some (.ref 70), some (.int (nI sj)), some (.int a2), some (.int a3), some (.int ((nI k) + 1))] : List (Option Value)) = [some (.ref 70), some (.int (nI sj)), some (.int a2), some (.int a3), some (.int (nI (k + 1)))]
    rw [nI_1]
