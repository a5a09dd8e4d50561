/-! rows of bytes; an order of leaving -/
theorem hx_n1 {s : Nat} (h : s < 5) : ¬ (-2 - nI s = -1) := by
  rcases (show s = 0 ∨ s = 1 ∨ s = 2 ∨ s = 3 ∨ s = 4 by omega) with rfl | rfl | rfl | rfl | rfl <;> decide
theorem hx_b {v : Int32} (h : 0 ≤ v.toInt) : ¬ v = -1 := fun e => by rw [e] at h; exact absurd h (by decide)
theorem hx_ne0 {s : Nat} (hs : s < 5) (h : ¬ s = 0) : ¬ (-2 - nI s = -2) := (by decide : ∀ s : Nat, s < 5 → ¬ s = 0 → ¬ (-2 - nI s = -2)) s hs h
/-- a shelf: empty; no row of bytes; a row of bytes -/
theorem sh_cases {x y : XS} {j : Nat} (h : CPs1 x y j) : (y.2.1 104 j = -1 ∧ x.1 ((58 + 2 * j) * 8 + 1) = 0) ∨ (¬ y.2.1 104 j = -1 ∧ ¬ y.2.1 104 j = -2 ∧ ¬ x.1 ((58 + 2 * j) * 8 + 1) = 0 ∧ ¬ (x.1 ((58 + 2 * j) * 8 + 1) = 2 ∧ x.1 ((58 + 2 * j) * 8 + 3) = 0)) ∨
    (¬ y.2.1 104 j = -1 ∧ y.2.1 104 j = -2 ∧ ¬ x.1 ((58 + 2 * j) * 8 + 1) = 0 ∧ (x.1 ((58 + 2 * j) * 8 + 1) = 2 ∧ x.1 ((58 + 2 * j) * 8 + 3) = 0) ∧ ∃ n : Nat, n ≤ 60 ∧ y.2.1 105 j = nI n ∧ x.1 ((58 + 2 * j) * 8 + 4) = nI n ∧ ∀ i, i < n → (x.2.2 (59 + 2 * j) i).toInt32 = plF y j i ∧ (∀ g : Int32, x.2.2 (59 + 2 * j) i = g.toInt64 ↔ plF y j i = g) ∧ -128 ≤ (plF y j i).toInt ∧ (plF y j i).toInt ≤ 127) := by
  unfold CPs1 at h
  rcases h with ⟨e1, e2⟩ | ⟨e1, e2, e3, e4⟩ | ⟨s, n, e1, e2, e3, e4, e5, e6, e7, e8⟩
  · exact Or.inl ⟨e1, e2⟩
  · refine Or.inr (Or.inl ⟨hx_b e1, fun q => by rw [q] at e1; exact absurd e1 (by decide), by rw [e3]; decide, fun q => by rw [e3] at q; exact absurd q.1 (by decide)⟩)
  · by_cases hs : s = 0
    · refine Or.inr (Or.inr ⟨by rw [e3]; exact hx_n1 e1, by rw [e3, hs]; decide, by rw [e4]; decide, ⟨e4, by rw [e5, hs]; rfl⟩, n, e2, e6, e7, fun i hi => ?_⟩)
      obtain ⟨v1, v2⟩ := e8 i hi
      have v3 := v2 hs
      unfold plF
      rw [v1]
      refine ⟨rfl, fun g => l2i_eq v3, ?_⟩
      rw [Int64.toInt_toInt32, bmod_in (by omega) (by omega)]
      exact v3
    · refine Or.inr (Or.inl ⟨by rw [e3]; exact hx_n1 e1, by rw [e3]; exact hx_ne0 e1 hs, by rw [e4]; decide, fun q => hs ((nI_eq (by omega) (by omega)).mp (e5.symm.trans q.2))⟩)
def flF (fr : Nat → Bool) (f : Nat → Int32) : Nat → Nat → List Int32
  | 0, _ => []
  | j + 1, k => if fr k = true then f k :: flF fr f j (k + 1) else flF fr f j (k + 1)
def outF (fr : Nat → Bool) (p : Nat) : Nat → Bool := fun k => fr k && !decide (k = p)
theorem flF_cong {fr fr' : Nat → Bool} {f : Nat → Int32} : ∀ j k : Nat, (∀ i, k ≤ i → i < k + j → fr i = fr' i) → flF fr f j k = flF fr' f j k
  | 0, _, _ => rfl
  | j + 1, k, h => by rw [flF, flF, h k (Nat.le_refl _) (by omega), flF_cong j (k + 1) (fun i a b => h i (by omega) (by omega))]
theorem flF_len {fr : Nat → Bool} {f : Nat → Int32} : ∀ (j k : Nat) (acc : Int32), cntF fr j k acc = acc + nI (flF fr f j k).length
  | 0, _, acc => (Int32.add_zero acc).symm
  | j + 1, k, acc => by
    rw [cntF, flF, flF_len j]
    by_cases h : fr k = true
    · rw [if_pos h, if_pos h, List.length_cons, Int32.add_assoc, show (1 : Int32) = nI 1 from rfl, nI_add, Nat.add_comm 1]
    · rw [if_neg h, if_neg h, Int32.add_zero]
theorem flF_le {fr : Nat → Bool} {f : Nat → Int32} : ∀ (j k : Nat), (flF fr f j k).length ≤ j
  | 0, _ => Nat.le_refl _
  | j + 1, k => by
    have h := flF_le (fr := fr) (f := f) j (k + 1)
    rw [flF]
    split
    · rw [List.length_cons]; omega
    · omega
theorem fl_hit {fr : Nat → Bool} {f : Nat → Int32} {g : Int32} {p : Nat} (h1 : fr p = true ∧ f p = g) : ∀ j k : Nat, (∀ i, k ≤ i → i < p → ¬ (fr i = true ∧ f i = g)) → k ≤ p → p < k + j → ∃ A : List Int32, (∀ a ∈ A, ¬ a = g) ∧ flF fr f j k = A ++ g :: flF fr f (k + j - (p + 1)) (p + 1) ∧ flF (outF fr p) f j k = A ++ flF fr f (k + j - (p + 1)) (p + 1)
  | 0, k, _, h3, h4 => by omega
  | j + 1, k, h2, h3, h4 => by
    by_cases h : k = p
    · subst h
      refine ⟨[], fun a ha => absurd ha List.not_mem_nil, ?_, ?_⟩
      · rw [flF, if_pos h1.1, h1.2, show k + (j + 1) - (k + 1) = j by omega]; rfl
      · rw [flF, if_neg (by simp [outF]), show k + (j + 1) - (k + 1) = j by omega, List.nil_append]
        exact flF_cong j (k + 1) fun i a b => by simp [outF, show ¬ i = k by omega]
    · obtain ⟨A, a1, a2, a3⟩ := fl_hit h1 j (k + 1) (fun i a b => h2 i (by omega) b) (by omega) (by omega)
      rw [show k + 1 + j = k + (j + 1) by omega] at a2 a3
      have ho : outF fr p k = fr k := by simp [outF, h]
      by_cases hf : fr k = true
      · refine ⟨f k :: A, fun a ha => ?_, by rw [flF, if_pos hf, a2]; rfl, by rw [flF, if_pos (ho.trans hf), a3]; rfl⟩
        rcases List.mem_cons.mp ha with rfl | ha
        · exact fun q => h2 k (Nat.le_refl _) (by omega) ⟨hf, q⟩
        · exact a1 a ha
      · exact ⟨A, a1, by rw [flF, if_neg hf, a2], by rw [flF, if_neg (by rw [ho]; exact hf), a3]⟩
theorem fl_miss {fr : Nat → Bool} {f : Nat → Int32} {g : Int32} : ∀ j k : Nat, (∀ i, k ≤ i → i < k + j → ¬ (fr i = true ∧ f i = g)) → ∀ a ∈ flF fr f j k, ¬ a = g
  | 0, _, _, a, ha => absurd ha List.not_mem_nil
  | j + 1, k, h, a, ha => by
    rw [flF] at ha
    have ih := fl_miss (fr := fr) (f := f) (g := g) j (k + 1) (fun i a b => h i (by omega) (by omega))
    by_cases hf : fr k = true
    · rw [if_pos hf] at ha
      rcases List.mem_cons.mp ha with rfl | ha
      · exact fun q => h k (Nat.le_refl _) (by omega) ⟨hf, q⟩
      · exact ih a ha
    · rw [if_neg hf] at ha
      exact ih a ha
/-- who leaves a pile: how many are above, and the rest -/
def rmL (g : Int32) : List Int32 → Option (Nat × List Int32)
  | [] => none
  | a :: t => if a = g then some (t.length, t) else (rmL g t).map fun q => (q.1, a :: q.2)
theorem rmL_hit {g : Int32} {B : List Int32} : ∀ A : List Int32, (∀ a ∈ A, ¬ a = g) → rmL g (A ++ g :: B) = some (B.length, A ++ B)
  | [], _ => by rw [List.nil_append, rmL, if_pos rfl]; rfl
  | a :: A, h => by
    rw [List.cons_append, rmL, if_neg (h a List.mem_cons_self), rmL_hit A (fun b hb => h b (List.mem_cons_of_mem _ hb))]; rfl
theorem rmL_miss {g : Int32} : ∀ L : List Int32, (∀ a ∈ L, ¬ a = g) → rmL g L = none
  | [], _ => rfl
  | a :: L, h => by rw [rmL, if_neg (h a List.mem_cons_self), rmL_miss L (fun b hb => h b (List.mem_cons_of_mem _ hb))]; rfl
theorem rmL_or (g : Int32) : ∀ L : List Int32, (∃ A B : List Int32, L = A ++ g :: B ∧ ∀ a ∈ A, ¬ a = g) ∨ ∀ a ∈ L, ¬ a = g
  | [] => Or.inr fun a ha => absurd ha List.not_mem_nil
  | b :: L => by
    by_cases h : b = g
    · exact Or.inl ⟨[], L, by rw [h]; rfl, fun a ha => absurd ha List.not_mem_nil⟩
    · rcases rmL_or g L with ⟨A, B, h1, h2⟩ | h1
      · refine Or.inl ⟨b :: A, B, by rw [h1]; rfl, fun a ha => ?_⟩
        rcases List.mem_cons.mp ha with rfl | ha
        · exact h
        · exact h2 a ha
      · refine Or.inr fun a ha => ?_
        rcases List.mem_cons.mp ha with rfl | ha
        · exact h
        · exact h1 a ha
def orI (y : XS) (gs : Nat → Int32) : Nat → Nat → List Int32 → Int32 → Int32
  | 0, _, _, acc => acc
  | j + 1, k, L, acc => match (if 0 ≤ (gs k).toInt ∧ (gs k).toInt < (nG y : Int) then rmL (gs k) L else none) with
    | some q => orI y gs j (k + 1) q.2 (acc + nI q.1)
    | none => orI y gs j (k + 1) L acc
theorem orI_hit {y : XS} {gs : Nat → Int32} {j k : Nat} {acc : Int32} {A B : List Int32} (h1 : 0 ≤ (gs k).toInt ∧ (gs k).toInt < (nG y : Int)) (h2 : ∀ a ∈ A, ¬ a = gs k) : orI y gs (j + 1) k (A ++ gs k :: B) acc = orI y gs j (k + 1) (A ++ B) (acc + nI B.length) := by
  rw [orI, if_pos h1, rmL_hit A h2]
theorem orI_miss {y : XS} {gs : Nat → Int32} {j k : Nat} {acc : Int32} {L : List Int32} (h : (0 ≤ (gs k).toInt ∧ (gs k).toInt < (nG y : Int)) → ∀ a ∈ L, ¬ a = gs k) : orI y gs (j + 1) k L acc = orI y gs j (k + 1) L acc := by
  rw [orI]
  by_cases q : 0 ≤ (gs k).toInt ∧ (gs k).toInt < (nG y : Int)
  · rw [if_pos q, rmL_miss L (h q)]
  · rw [if_neg q]
/-- the mask -/
theorem frO_sh_all : ∀ k : Nat, k < 60 → ((nI k).toInt64.toUInt64 &&& Int64.toUInt64 63) = UInt64.ofNat k ∧ ((UInt64.ofNat k).toBitVec % 64).toNat = k := by decide +kernel
theorem frO_1 (v : BitVec 64) : v &&& 1#64 = 0#64 ↔ v.getLsbD 0 = false := by
  constructor
  · intro h
    have q := congrArg (fun w => BitVec.getLsbD w 0) h
    simpa [BitVec.getLsbD_and] using q
  · intro h
    refine BitVec.eq_of_getLsbD_eq fun i hi => ?_
    rw [BitVec.getLsbD_and]
    by_cases q : i = 0
    · subst q; rw [h]; simp
    · simp [BitVec.getLsbD_one, q]
theorem frO_bit (t : Int64) {k : Nat} (hk : k < 60) : lg_cmp ((t.toUInt64 >>> ((nI k).toInt64.toUInt64 &&& Int64.toUInt64 63)).toInt64 &&& 1) 0 = 0 ↔ t.toBitVec.getLsbD k = false := by
  obtain ⟨e1, e2⟩ := frO_sh_all k hk
  rw [lgz, e1, ← Int64.toBitVec_inj]
  have e3 : ((t.toUInt64 >>> UInt64.ofNat k).toInt64 &&& 1).toBitVec = (t.toBitVec >>> k) &&& 1#64 := by
    show (t.toUInt64 >>> UInt64.ofNat k).toBitVec &&& 1#64 = _
    rw [UInt64.toBitVec_shiftRight, BitVec.ushiftRight_eq', e2]
    rfl
  rw [e3]
  refine (frO_1 _).trans ?_
  rw [BitVec.getLsbD_ushiftRight, Nat.add_zero]
theorem frO_or_all : ∀ p : Nat, p < 60 → ∀ k : Nat, k < 60 → ((1 : Int64) <<< ((nI p).toInt64 &&& 63)).toBitVec.getLsbD k = decide (k = p) := by decide +kernel
theorem frO_or {t : Int64} {fr : Nat → Bool} {p : Nat} (h : frO t fr) (hp : p < 60) : frO (t ||| ((1 : Int64) <<< ((nI p).toInt64 &&& 63))) (outF fr p) := fun k hk => by
  have q := (frO_bit t hk).symm.trans (h k hk)
  rw [frO_bit _ hk, Int64.toBitVec_or, BitVec.getLsbD_or, frO_or_all p hp k hk]
  unfold outF
  revert q
  cases t.toBitVec.getLsbD k <;> cases fr k <;> cases decide (k = p) <;> simp
/-- a row whose places move up -/
def sdF (h : Nat → Int32) : Nat → Nat → Nat → Int32
  | 0, _ => h
  | j + 1, i => sdF (upd h i (h (i + 1))) j (i + 1)
theorem sdF_at : ∀ (j : Nat) (h : Nat → Int32) (i q : Nat), sdF h j i q = if i ≤ q ∧ q < i + j then h (q + 1) else h q
  | 0, h, i, q => by rw [sdF, if_neg (by omega)]
  | j + 1, h, i, q => by
    rw [sdF, sdF_at j]
    by_cases e : q = i
    · subst e
      rw [if_neg (by omega), if_pos (by omega), upd_s]
    · by_cases e2 : i + 1 ≤ q ∧ q < i + 1 + j
      · rw [if_pos e2, if_pos (by omega), upd_n (by omega)]
      · rw [if_neg e2, if_neg (by omega), upd_n e]
def hpL (h : Nat → Int32) (L : List Int32) : Prop := ∀ (i : Nat) (a : Int32), L[i]? = some a → h i = a
theorem hpL_out {h : Nat → Int32} {g : Int32} {A B : List Int32} (H : hpL h (A ++ g :: B)) : hpL (sdF h B.length A.length) (A ++ B) := fun i a ha => by
  rw [sdF_at]
  by_cases q : i < A.length
  · rw [if_neg (by omega)]
    refine H i a ?_
    rw [List.getElem?_append_left q] at ha ⊢
    exact ha
  · rw [List.getElem?_append_right (by omega)] at ha
    have hl : i - A.length < B.length := (List.getElem?_eq_some_iff.mp ha).1
    rw [if_pos (by omega)]
    refine H (i + 1) a ?_
    rw [List.getElem?_append_right (by omega), show i + 1 - A.length = (i - A.length) + 1 by omega, List.getElem?_cons_succ]
    exact ha
theorem sp_F_small {z : ZS} {post : Option Value → List PE → Prop} {x y : XS} {sj n i : Nat} {u : Int32} (hsj : sj < 6) (hb : x.1 ((58 + 2 * sj) * 8 + 1) = 2 ∧ x.1 ((58 + 2 * sj) * 8 + 3) = 0) (hz : x.1 ((58 + 2 * sj) * 8 + 4) = nI n) (hn : n ≤ 60) (eu : u = nI i) (hi : i < 1000) (h : post (some (.int (if i < n then (x.2.2 (59 + 2 * sj) i).toInt32 else -1))) (E x y)) : PW (2, 0, 0, z) m_F_smallAt post 0 [some (.ref (58 + 2 * sj)), some (.int u)] [] (E x y) := by
  subst eu
  have hz2 : (x.1 ((58 + 2 * sj) * 8 + 4)).toInt = n := by rw [hz, nI_toInt (by omega)]
  have hz0 : 0 ≤ (x.1 ((58 + 2 * sj) * 8 + 4)).toInt := by omega
  have hi2 : (nI i).toInt = i := nI_toInt (by omega)
  by_cases q : i < n
  · rw [if_pos q] at h
    have hp : 0 ≤ (nI i).toInt ∧ 0 ≤ (1 : Int32).toInt ∧ (1 : Int32).toInt ≤ (x.1 ((58 + 2 * sj) * 8 + 4)).toInt ∧ (nI i).toInt ≤ (x.1 ((58 + 2 * sj) * 8 + 4)).toInt - (1 : Int32).toInt := by rw [hz2, hi2, tiA.2.1]; omega
    refine PW_aload_n c_F_smallAt_0 rfl ?_
    refine PW_iload_n c_F_smallAt_1 rfl ?_
    refine PW_iconst (v := 1) c_F_smallAt_2 (by decide) ?_
    refine PW_V0 (d2 := 1) (st := []) [.int (nI i), .int 1] c_F_smallAt_3 lk_F_smallAt_51 (sh_po _ _ hsj) rfl rfl rfl (Nat.le_of_ble_eq_true rfl) (by first | decide | omega) (Nat.le_of_ble_eq_true rfl) ?_
    show PW _ _ _ 0 [some (.ref (58 + 2 * sj)), some (.int (nI i)), some (.int 1)] [] (E x y)
    refine PW_aload_n c_F_hasBytes_0 rfl ?_
    refine PW_V0 (d2 := 0) (st := []) [] c_F_hasBytes_1 lk_F_hasBytes_41 (sh_po _ _ hsj) rfl rfl rfl (Nat.le_of_ble_eq_true rfl) (by first | decide | omega) (Nat.le_of_ble_eq_true rfl) ?_
    refine sp_F_holdsBytes hsj  ?_
    show PW _ _ _ 4 [some (.ref (58 + 2 * sj)), some (.int (nI i)), some (.int 1)] [.int (b2i (x.1 ((58 + 2 * sj) * 8 + 1) = 2 ∧ x.1 ((58 + 2 * sj) * 8 + 3) = 0))] (E x y)
    refine PW_if_eq c_F_hasBytes_4 (fun h0 => absurd hb (b2i_0.mp h0)) (fun _ => ?_)
    refine PW_aload_n c_F_hasBytes_7 rfl ?_
    refine PW_iload_n c_F_hasBytes_8 rfl ?_
    refine PW_iload_n c_F_hasBytes_9 rfl ?_
    refine PW_V0 (d2 := 0) (st := []) [.int (nI i), .int 1] c_F_hasBytes_10 lk_F_hasBytes_47 (sh_po _ _ hsj) rfl rfl rfl (Nat.le_of_ble_eq_true rfl) (by first | decide | omega) (Nat.le_of_ble_eq_true rfl) ?_
    refine sp_F_hasPlaces hsj hz0 ?_
    show PW _ _ _ 13 [some (.ref (58 + 2 * sj)), some (.int (nI i)), some (.int 1)] [.int (b2i (0 ≤ (nI i).toInt ∧ 0 ≤ (1 : Int32).toInt ∧ (1 : Int32).toInt ≤ (x.1 ((58 + 2 * sj) * 8 + 4)).toInt ∧ (nI i).toInt ≤ (x.1 ((58 + 2 * sj) * 8 + 4)).toInt - (1 : Int32).toInt))] (E x y)
    refine PW_if_eq c_F_hasBytes_13 (fun h1 => absurd hp (b2i_0.mp h1)) (fun _ => ?_)
    refine PW_iconst (v := 1) c_F_hasBytes_16 (by decide) ?_
    refine PW_goto c_F_hasBytes_17 ?_
    refine PW_ireturn (ty := .boolean) c_F_hasBytes_21 rfl (by decide +kernel) ?_
    show PW _ _ _ 6 [some (.ref (58 + 2 * sj)), some (.int (nI i))] [.int 1] (E x y)
    refine PW_if_eq c_F_smallAt_6 (fun h2 => absurd h2 (by decide)) (fun _ => ?_)
    refine PW_aload_n c_F_smallAt_9 rfl ?_
    refine PW_get (v := .ref (59 + 2 * sj)) c_F_smallAt_10 fl_F_11 (sh_g0 _ _ hsj) ?_
    refine PW_iload_n c_F_smallAt_13 rfl ?_
    refine PW_lald (j := i) c_F_smallAt_14 (sh_r _ _ hsj) (vp_in_nI (by omega) (by decide)) (nI_clamp (by omega)) ?_
    show PW _ _ _ 15 [some (.ref (58 + 2 * sj)), some (.int (nI i))] [.long ((x.2.2 (59 + 2 * sj)) i)] (E x y)
    refine PW_l2i c_F_smallAt_15 ?_
    refine PW_goto c_F_smallAt_16 ?_
    refine PW_ireturn (ty := .int) c_F_smallAt_20 rfl rfl ?_
    exact h
  · rw [if_neg q] at h
    have hp : ¬ (0 ≤ (nI i).toInt ∧ 0 ≤ (1 : Int32).toInt ∧ (1 : Int32).toInt ≤ (x.1 ((58 + 2 * sj) * 8 + 4)).toInt ∧ (nI i).toInt ≤ (x.1 ((58 + 2 * sj) * 8 + 4)).toInt - (1 : Int32).toInt) := fun w => by rw [hz2, hi2, tiA.2.1] at w; omega
    refine PW_aload_n c_F_smallAt_0 rfl ?_
    refine PW_iload_n c_F_smallAt_1 rfl ?_
    refine PW_iconst (v := 1) c_F_smallAt_2 (by decide) ?_
    refine PW_V0 (d2 := 1) (st := []) [.int (nI i), .int 1] c_F_smallAt_3 lk_F_smallAt_51 (sh_po _ _ hsj) rfl rfl rfl (Nat.le_of_ble_eq_true rfl) (by first | decide | omega) (Nat.le_of_ble_eq_true rfl) ?_
    show PW _ _ _ 0 [some (.ref (58 + 2 * sj)), some (.int (nI i)), some (.int 1)] [] (E x y)
    refine PW_aload_n c_F_hasBytes_0 rfl ?_
    refine PW_V0 (d2 := 0) (st := []) [] c_F_hasBytes_1 lk_F_hasBytes_41 (sh_po _ _ hsj) rfl rfl rfl (Nat.le_of_ble_eq_true rfl) (by first | decide | omega) (Nat.le_of_ble_eq_true rfl) ?_
    refine sp_F_holdsBytes hsj  ?_
    show PW _ _ _ 4 [some (.ref (58 + 2 * sj)), some (.int (nI i)), some (.int 1)] [.int (b2i (x.1 ((58 + 2 * sj) * 8 + 1) = 2 ∧ x.1 ((58 + 2 * sj) * 8 + 3) = 0))] (E x y)
    refine PW_if_eq c_F_hasBytes_4 (fun h0 => absurd hb (b2i_0.mp h0)) (fun _ => ?_)
    refine PW_aload_n c_F_hasBytes_7 rfl ?_
    refine PW_iload_n c_F_hasBytes_8 rfl ?_
    refine PW_iload_n c_F_hasBytes_9 rfl ?_
    refine PW_V0 (d2 := 0) (st := []) [.int (nI i), .int 1] c_F_hasBytes_10 lk_F_hasBytes_47 (sh_po _ _ hsj) rfl rfl rfl (Nat.le_of_ble_eq_true rfl) (by first | decide | omega) (Nat.le_of_ble_eq_true rfl) ?_
    refine sp_F_hasPlaces hsj hz0 ?_
    show PW _ _ _ 13 [some (.ref (58 + 2 * sj)), some (.int (nI i)), some (.int 1)] [.int (b2i (0 ≤ (nI i).toInt ∧ 0 ≤ (1 : Int32).toInt ∧ (1 : Int32).toInt ≤ (x.1 ((58 + 2 * sj) * 8 + 4)).toInt ∧ (nI i).toInt ≤ (x.1 ((58 + 2 * sj) * 8 + 4)).toInt - (1 : Int32).toInt))] (E x y)
    refine PW_if_eq c_F_hasBytes_13 (fun _ => ?_) (fun h1 => absurd (b2i_n0.mp h1) hp)
    refine PW_iconst (v := 0) c_F_hasBytes_20 (by decide) ?_
    refine PW_ireturn (ty := .boolean) c_F_hasBytes_21 rfl (by decide +kernel) ?_
    show PW _ _ _ 6 [some (.ref (58 + 2 * sj)), some (.int (nI i))] [.int 0] (E x y)
    refine PW_if_eq c_F_smallAt_6 (fun _ => ?_) (fun h2 => absurd (by decide) h2)
    refine PW_iconst (v := -1) c_F_smallAt_19 (by decide) ?_
    refine PW_ireturn (ty := .int) c_F_smallAt_20 rfl rfl ?_
    exact h
theorem ss_ex {a : Int32} (h : 0 ≤ a.toInt) : (a / 10).toInt = a.toInt / 10 ∧ (a - a / 10 * 10).toInt = a.toInt % 10 := by
  obtain ⟨q, q1, rfl, q3, q4⟩ := nI_ex h
  have h4 : (nI q / 10).toInt = ((q / 10 : Nat) : Int) := by
    rw [Int32.toInt_div, q3, show (10 : Int32).toInt = ((10 : Nat) : Int) from by decide, ← Int.ofNat_tdiv]
    exact bmod_in (by omega) (by omega)
  have h5 : nI q / 10 = nI (q / 10) := nI_of_ti h4 (by omega)
  refine ⟨by rw [h4, q3]; omega, ?_⟩
  have h6 : (nI (q / 10 * 10)).toInt = ((q / 10 * 10 : Nat) : Int) := nI_toInt (by omega)
  rw [h5, show (10 : Int32) = nI 10 from rfl, pk_mul, ti_sub (by omega) (by omega), q3, h6]
  omega
theorem ss_nI {v : Int32} {n : Nat} (h : v.toInt = n) (hn : n < 10) : v = nI n := nI_of_ti h (by omega)
theorem sp_G_firstShelf {z : ZS} {post : Option Value → List PE → Prop} {x y : XS} {a : Int32} {pj : Nat} (hnn : ¬ a < 0) (hpj : pj < 6) (e1 : a / 10 = nI pj) (h : post (some (.ref (58 + 2 * pj))) (E x y)) : PW (1, 0, 0, z) m_G_firstShelf post 0 [some (.ref 5), some (.int a)] [] (E x y) := by
  refine PW_iload_n c_G_firstShelf_0 rfl ?_
  refine PW_if_ge c_G_firstShelf_1 (fun h0 => ?_) (fun h0 => absurd (Int32.not_lt.mp hnn) h0)
  refine PW_aload_n c_G_firstShelf_8 rfl ?_
  refine PW_iload_n c_G_firstShelf_9 rfl ?_
  refine PW_bipush (v := 10) c_G_firstShelf_10 (by decide) ?_
  refine PW_idiv c_G_firstShelf_12 (by decide) ?_
  rw [e1]
  show PW _ _ _ 13 [some (.ref 5), some (.int a)] [.int (nI pj), .ref 5] (E x y)
  refine PW_V0 (d2 := 0) (st := []) [.int (nI pj)] c_G_firstShelf_13 lk_G_firstShelf_102 (po_5 _ _) rfl rfl rfl (Nat.le_of_ble_eq_true rfl) (by first | decide | omega) (Nat.le_of_ble_eq_true rfl) ?_
  refine sp_shelf hpj ?_
  show PW _ _ _ 16 [some (.ref 5), some (.int a)] [.ref (58 + 2 * pj)] (E x y)
  refine PW_areturn c_G_firstShelf_16 rfl ?_
  exact h
theorem sp_G_firstShelf_no {z : ZS} {post : Option Value → List PE → Prop} {x y : XS} {a : Int32} (hno : ¬ a < 0 → ¬ (0 ≤ (a / 10).toInt ∧ (a / 10).toInt < 6)) (h : post (some .null) (E x y)) : PW (1, 0, 0, z) m_G_firstShelf post 0 [some (.ref 5), some (.int a)] [] (E x y) := by
  refine PW_iload_n c_G_firstShelf_0 rfl ?_
  refine PW_if_ge c_G_firstShelf_1 (fun h0 => ?_) (fun h0 => ?_)
  · refine PW_aload_n c_G_firstShelf_8 rfl ?_
    refine PW_iload_n c_G_firstShelf_9 rfl ?_
    refine PW_bipush (v := 10) c_G_firstShelf_10 (by decide) ?_
    refine PW_idiv c_G_firstShelf_12 (by decide) ?_
    refine PW_V0 (d2 := 0) (st := []) [.int (a / 10)] c_G_firstShelf_13 lk_G_firstShelf_102 (po_5 _ _) rfl rfl rfl (Nat.le_of_ble_eq_true rfl) (by first | decide | omega) (Nat.le_of_ble_eq_true rfl) ?_
    refine sp_noshelf (hno (Int32.not_lt.mpr h0)) ?_
    show PW _ _ _ 16 [some (.ref 5), some (.int a)] [.null] (E x y)
    refine PW_areturnN c_G_firstShelf_16 rfl ?_
    exact h
  · refine PW_null c_G_firstShelf_4 ?_
    refine PW_goto c_G_firstShelf_5 ?_
    refine PW_areturnN c_G_firstShelf_16 rfl ?_
    exact h
theorem sp_G_secondShelf {z : ZS} {post : Option Value → List PE → Prop} {x y : XS} {a : Int32} {pj : Nat} (hnn : ¬ a < 0) (hpj : pj < 6) (e1 : a - a / 10 * 10 = nI pj) (h : post (some (.ref (58 + 2 * pj))) (E x y)) : PW (1, 0, 0, z) m_G_secondShelf post 0 [some (.ref 5), some (.int a)] [] (E x y) := by
  refine PW_iload_n c_G_secondShelf_0 rfl ?_
  refine PW_if_ge c_G_secondShelf_1 (fun h0 => ?_) (fun h0 => absurd (Int32.not_lt.mp hnn) h0)
  refine PW_aload_n c_G_secondShelf_8 rfl ?_
  refine PW_iload_n c_G_secondShelf_9 rfl ?_
  refine PW_bipush (v := 10) c_G_secondShelf_10 (by decide) ?_
  refine PW_irem c_G_secondShelf_12 (by decide) ?_
  rw [e1]
  show PW _ _ _ 13 [some (.ref 5), some (.int a)] [.int (nI pj), .ref 5] (E x y)
  refine PW_V0 (d2 := 0) (st := []) [.int (nI pj)] c_G_secondShelf_13 lk_G_secondShelf_102 (po_5 _ _) rfl rfl rfl (Nat.le_of_ble_eq_true rfl) (by first | decide | omega) (Nat.le_of_ble_eq_true rfl) ?_
  refine sp_shelf hpj ?_
  show PW _ _ _ 16 [some (.ref 5), some (.int a)] [.ref (58 + 2 * pj)] (E x y)
  refine PW_areturn c_G_secondShelf_16 rfl ?_
  exact h
theorem sp_G_secondShelf_no {z : ZS} {post : Option Value → List PE → Prop} {x y : XS} {a : Int32} (hno : ¬ a < 0 → ¬ (0 ≤ (a - a / 10 * 10).toInt ∧ (a - a / 10 * 10).toInt < 6)) (h : post (some .null) (E x y)) : PW (1, 0, 0, z) m_G_secondShelf post 0 [some (.ref 5), some (.int a)] [] (E x y) := by
  refine PW_iload_n c_G_secondShelf_0 rfl ?_
  refine PW_if_ge c_G_secondShelf_1 (fun h0 => ?_) (fun h0 => ?_)
  · refine PW_aload_n c_G_secondShelf_8 rfl ?_
    refine PW_iload_n c_G_secondShelf_9 rfl ?_
    refine PW_bipush (v := 10) c_G_secondShelf_10 (by decide) ?_
    refine PW_irem c_G_secondShelf_12 (by decide) ?_
    refine PW_V0 (d2 := 0) (st := []) [.int (a - a / 10 * 10)] c_G_secondShelf_13 lk_G_secondShelf_102 (po_5 _ _) rfl rfl rfl (Nat.le_of_ble_eq_true rfl) (by first | decide | omega) (Nat.le_of_ble_eq_true rfl) ?_
    refine sp_noshelf (hno (Int32.not_lt.mpr h0)) ?_
    show PW _ _ _ 16 [some (.ref 5), some (.int a)] [.null] (E x y)
    refine PW_areturnN c_G_secondShelf_16 rfl ?_
    exact h
  · refine PW_null c_G_secondShelf_4 ?_
    refine PW_goto c_G_secondShelf_5 ?_
    refine PW_areturnN c_G_secondShelf_16 rfl ?_
    exact h
set_option maxHeartbeats 1000000 in
theorem lp_G_order {z : ZS} {post : Option Value → List PE → Prop} {x y : XS} {a1 : Int32} {pj qj n m : Nat} (C : CPg x y) (hpj : pj < 6) (hqj : qj < 6) (hn : n ≤ 60) (hm : m ≤ 60) (hz : x.1 ((58 + 2 * pj) * 8 + 4) = nI n) (hqz : x.1 ((58 + 2 * qj) * 8 + 4) = nI m) (hqb : x.1 ((58 + 2 * qj) * 8 + 1) = 2 ∧ x.1 ((58 + 2 * qj) * 8 + 3) = 0) (hP : ∀ i, i < n → (x.2.2 (59 + 2 * pj) i).toInt32 = plF y pj i ∧ (∀ g : Int32, x.2.2 (59 + 2 * pj) i = g.toInt64 ↔ plF y pj i = g) ∧ -128 ≤ (plF y pj i).toInt ∧ (plF y pj i).toInt ≤ 127) (hQ : ∀ i, i < m → (x.2.2 (59 + 2 * qj) i).toInt32 = plF y qj i ∧ (∀ g : Int32, x.2.2 (59 + 2 * qj) i = g.toInt64 ↔ plF y qj i = g) ∧ -128 ≤ (plF y qj i).toInt ∧ (plF y qj i).toInt ≤ 127) : ∀ (j k : Nat) (t : Int64) (fr : Nat → Bool) (acc : Int32), k + j = m → frO t fr → ∀ l10 l11 : Option Value, post (some (.int (orI y (plF y qj) j k (flF fr (plF y pj) n 0) acc))) (E x y) → PW (3, 0, 0, z) m_G_order post 52 [some (.ref 5), some (.int a1), some (.ref (58 + 2 * pj)), some (.ref (58 + 2 * qj)), some (.int 0), some (.long t), none, some (.int acc), some (.int (nI m)), some (.int (nI k)), l10, l11] [] (E x y) := by
  intro j
  induction j with
  | zero =>
    intro k t fr acc hk hfr l10 l11 h
    rw [orI] at h
    refine PW_iload c_G_order_52 rfl ?_
    refine PW_iload c_G_order_54 rfl ?_
    refine PW_icmp_ge c_G_order_56 (fun h0 => ?_) (fun h0 => absurd ((nI_leI (by omega) (by omega)).mpr (by omega)) h0)
    refine PW_iload c_G_order_126 rfl ?_
    refine PW_ireturn (ty := .int) c_G_order_128 rfl rfl ?_
    exact h
  | succ j ih =>
    intro k t fr acc hk hfr l10 l11 h
    by_cases hG : 0 ≤ (plF y qj k).toInt ∧ (plF y qj k).toInt < (nG y : Int)
    · rcases first_or (P := fun i => fr i = true ∧ plF y pj i = plF y qj k) n with ⟨p, p1, p2, p3⟩ | hmi
      · obtain ⟨A, hA1, hA2, hA3⟩ := fl_hit p2 n 0 (fun i _ hi => p3 i hi) (by omega) (by omega)
        have L1 : lowF fr (x.2.2 (59 + 2 * pj)) (plF y qj k).toInt64 n 0 = nI p := lowF_hit ⟨p2.1, ((hP p p1).2.1 _).mpr p2.2⟩ n 0 (fun i _ hi q => p3 i hi ⟨q.1, ((hP i (by omega)).2.1 _).mp q.2⟩) (by omega) (by omega)
        rw [show 0 + n - (p + 1) = n - (p + 1) by omega] at hA2 hA3
        generalize hB : flF fr (plF y pj) (n - (p + 1)) (p + 1) = B at hA2 hA3
        have A1 : cntF fr (n - (p + 1)) (p + 1) 0 = nI B.length := by rw [flF_len (f := plF y pj), hB, Int32.zero_add]
        rw [hA2, orI_hit hG hA1, ← hA3] at h
        refine PW_iload c_G_order_52 rfl ?_
        refine PW_iload c_G_order_54 rfl ?_
        refine PW_icmp_ge c_G_order_56 (fun h0 => absurd h0 (fun q => absurd ((nI_leI (by omega) (by omega)).mp q) (by omega))) (fun h0 => ?_)
        refine PW_aload_n c_G_order_59 rfl ?_
        refine PW_iload c_G_order_60 rfl ?_
        refine PW_V0 (d2 := 2) (st := []) [.int (nI k)] c_G_order_62 lk_G_order_117 (sh_po _ _ hqj) rfl rfl rfl (Nat.le_of_ble_eq_true rfl) (by first | decide | omega) (Nat.le_of_ble_eq_true rfl) ?_
        refine sp_F_small hqj hqb hqz hm rfl (by omega) ?_
        rw [if_pos (by omega), (hQ k (by omega)).1]
        show PW _ _ _ 65 [some (.ref 5), some (.int a1), some (.ref (58 + 2 * pj)), some (.ref (58 + 2 * qj)), some (.int 0), some (.long t), none, some (.int acc), some (.int (nI m)), some (.int (nI k)), l10, l11] [.int (plF y qj k)] (E x y)
        refine PW_istore (i := 10) (L2 := [some (.ref 5), some (.int a1), some (.ref (58 + 2 * pj)), some (.ref (58 + 2 * qj)), some (.int 0), some (.long t), none, some (.int acc), some (.int (nI m)), some (.int (nI k)), some (.int (plF y qj k)), l11]) c_G_order_65 (Nat.le_of_ble_eq_true rfl) rfl rfl ?_
        refine PW_aload_n c_G_order_67 rfl ?_
        refine PW_get (v := .ref 6) c_G_order_68 fl_G_13 (gf_5_0 _ _) ?_
        refine PW_iload c_G_order_71 rfl ?_
        refine PW_V0 (d2 := 0) (st := []) [.int (plF y qj k)] c_G_order_73 lk_G_order_139 (po_6 _ _) rfl rfl rfl (Nat.le_of_ble_eq_true rfl) (by first | decide | omega) (Nat.le_of_ble_eq_true rfl) ?_
        refine sp_H_isGuest C.W C.x51 ?_
        show PW _ _ _ 76 [some (.ref 5), some (.int a1), some (.ref (58 + 2 * pj)), some (.ref (58 + 2 * qj)), some (.int 0), some (.long t), none, some (.int acc), some (.int (nI m)), some (.int (nI k)), some (.int (plF y qj k)), l11] [.int (b2i (0 ≤ (plF y qj k).toInt ∧ (plF y qj k).toInt < (nG y : Int)))] (E x y)
        refine PW_if_eq c_G_order_76 (fun h1 => absurd hG (b2i_0.mp h1)) (fun _ => ?_)
        refine PW_aload_n c_G_order_79 rfl ?_
        refine PW_iload c_G_order_80 rfl ?_
        refine PW_lload c_G_order_82 rfl ?_
        refine PW_V0 (d2 := 0) (st := []) [.int (plF y qj k), .long t] c_G_order_84 lk_G_order_229 (sh_po _ _ hpj) rfl rfl rfl (Nat.le_of_ble_eq_true rfl) (by first | decide | omega) (Nat.le_of_ble_eq_true rfl) ?_
        refine sp_F_lowest hpj hn hz hfr ?_
        rw [L1]
        show PW _ _ _ 87 [some (.ref 5), some (.int a1), some (.ref (58 + 2 * pj)), some (.ref (58 + 2 * qj)), some (.int 0), some (.long t), none, some (.int acc), some (.int (nI m)), some (.int (nI k)), some (.int (plF y qj k)), l11] [.int (nI p)] (E x y)
        refine PW_goto c_G_order_87 ?_
        refine PW_istore (i := 11) (L2 := [some (.ref 5), some (.int a1), some (.ref (58 + 2 * pj)), some (.ref (58 + 2 * qj)), some (.int 0), some (.long t), none, some (.int acc), some (.int (nI m)), some (.int (nI k)), some (.int (plF y qj k)), some (.int (nI p))]) c_G_order_91 (Nat.le_of_ble_eq_true rfl) rfl rfl ?_
        refine PW_iload c_G_order_93 rfl ?_
        refine PW_if_lt c_G_order_95 (fun h2 => absurd h2 (nI_pos (by omega))) (fun h2 => ?_)
        refine PW_iload c_G_order_98 rfl ?_
        refine PW_aload_n c_G_order_100 rfl ?_
        refine PW_iload c_G_order_101 rfl ?_
        refine PW_lload c_G_order_103 rfl ?_
        refine PW_V0 (d2 := 1) (st := [.int acc]) [.int (nI p), .long t] c_G_order_105 lk_G_order_233 (sh_po _ _ hpj) rfl rfl rfl (Nat.le_of_ble_eq_true rfl) (by first | decide | omega) (Nat.le_of_ble_eq_true rfl) ?_
        refine sp_F_above hpj hn hz hfr rfl p1 ?_
        rw [A1]
        show PW _ _ _ 108 [some (.ref 5), some (.int a1), some (.ref (58 + 2 * pj)), some (.ref (58 + 2 * qj)), some (.int 0), some (.long t), none, some (.int acc), some (.int (nI m)), some (.int (nI k)), some (.int (plF y qj k)), some (.int (nI p))] [.int (nI B.length), .int acc] (E x y)
        refine PW_iadd c_G_order_108 ?_
        refine PW_istore (i := 7) (L2 := [some (.ref 5), some (.int a1), some (.ref (58 + 2 * pj)), some (.ref (58 + 2 * qj)), some (.int 0), some (.long t), none, some (.int (acc + (nI B.length))), some (.int (nI m)), some (.int (nI k)), some (.int (plF y qj k)), some (.int (nI p))]) c_G_order_109 (Nat.le_of_ble_eq_true rfl) rfl rfl ?_
        refine PW_lload c_G_order_111 rfl ?_
        refine PW_lconst (v := 1) c_G_order_113 (by decide) ?_
        refine PW_iload c_G_order_114 rfl ?_
        refine PW_lshl c_G_order_116 ?_
        refine PW_lor c_G_order_117 ?_
        refine PW_lstore (i := 5) (L2 := [some (.ref 5), some (.int a1), some (.ref (58 + 2 * pj)), some (.ref (58 + 2 * qj)), some (.int 0), some (.long (t ||| ((1 : Int64) <<< ((nI p).toInt64 &&& 63)))), none, some (.int (acc + (nI B.length))), some (.int (nI m)), some (.int (nI k)), some (.int (plF y qj k)), some (.int (nI p))]) c_G_order_118 (Nat.le_of_ble_eq_true rfl) rfl rfl ?_
        refine PW_iinc (i := 9) (v := (nI k) + 1) (L2 := [some (.ref 5), some (.int a1), some (.ref (58 + 2 * pj)), some (.ref (58 + 2 * qj)), some (.int 0), some (.long (t ||| ((1 : Int64) <<< ((nI p).toInt64 &&& 63)))), none, some (.int (acc + (nI B.length))), some (.int (nI m)), some (.int ((nI k) + 1)), some (.int (plF y qj k)), some (.int (nI p))]) c_G_order_120 rfl (iinc_v (by decide)) (Nat.le_of_ble_eq_true rfl) rfl rfl ?_
        refine PW_goto c_G_order_123 ?_
        refine PW.eqL ?_ rfl rfl (ih (k + 1) (t ||| 1 <<< ((nI p).toInt64 &&& 63)) (outF fr p) (acc + nI B.length) (by omega) (frO_or hfr (by omega)) (some (.int (plF y qj k))) (some (.int (nI p))) h)
        show ([some (.ref 5), some (.int a1), some (.ref (58 + 2 * pj)), some (.ref (58 + 2 * qj)), some (.int 0), some (.long (t ||| ((1 : Int64) <<< ((nI p).toInt64 &&& 63)))), none, some (.int (acc + (nI B.length))), some (.int (nI m)), some (.int ((nI k) + 1)), some (.int (plF y qj k)), some (.int (nI p))] : List (Option Value)) = _
        rw [nI_1]
      · have L1 : lowF fr (x.2.2 (59 + 2 * pj)) (plF y qj k).toInt64 n 0 = -1 := lowF_miss n 0 (fun i _ hi q => hmi i (by omega) ⟨q.1, ((hP i (by omega)).2.1 _).mp q.2⟩)
        rw [orI_miss (fun _ => fl_miss n 0 (fun i _ hi => hmi i (by omega)))] at h
        refine PW_iload c_G_order_52 rfl ?_
        refine PW_iload c_G_order_54 rfl ?_
        refine PW_icmp_ge c_G_order_56 (fun h0 => absurd h0 (fun q => absurd ((nI_leI (by omega) (by omega)).mp q) (by omega))) (fun h0 => ?_)
        refine PW_aload_n c_G_order_59 rfl ?_
        refine PW_iload c_G_order_60 rfl ?_
        refine PW_V0 (d2 := 2) (st := []) [.int (nI k)] c_G_order_62 lk_G_order_117 (sh_po _ _ hqj) rfl rfl rfl (Nat.le_of_ble_eq_true rfl) (by first | decide | omega) (Nat.le_of_ble_eq_true rfl) ?_
        refine sp_F_small hqj hqb hqz hm rfl (by omega) ?_
        rw [if_pos (by omega), (hQ k (by omega)).1]
        show PW _ _ _ 65 [some (.ref 5), some (.int a1), some (.ref (58 + 2 * pj)), some (.ref (58 + 2 * qj)), some (.int 0), some (.long t), none, some (.int acc), some (.int (nI m)), some (.int (nI k)), l10, l11] [.int (plF y qj k)] (E x y)
        refine PW_istore (i := 10) (L2 := [some (.ref 5), some (.int a1), some (.ref (58 + 2 * pj)), some (.ref (58 + 2 * qj)), some (.int 0), some (.long t), none, some (.int acc), some (.int (nI m)), some (.int (nI k)), some (.int (plF y qj k)), l11]) c_G_order_65 (Nat.le_of_ble_eq_true rfl) rfl rfl ?_
        refine PW_aload_n c_G_order_67 rfl ?_
        refine PW_get (v := .ref 6) c_G_order_68 fl_G_13 (gf_5_0 _ _) ?_
        refine PW_iload c_G_order_71 rfl ?_
        refine PW_V0 (d2 := 0) (st := []) [.int (plF y qj k)] c_G_order_73 lk_G_order_139 (po_6 _ _) rfl rfl rfl (Nat.le_of_ble_eq_true rfl) (by first | decide | omega) (Nat.le_of_ble_eq_true rfl) ?_
        refine sp_H_isGuest C.W C.x51 ?_
        show PW _ _ _ 76 [some (.ref 5), some (.int a1), some (.ref (58 + 2 * pj)), some (.ref (58 + 2 * qj)), some (.int 0), some (.long t), none, some (.int acc), some (.int (nI m)), some (.int (nI k)), some (.int (plF y qj k)), l11] [.int (b2i (0 ≤ (plF y qj k).toInt ∧ (plF y qj k).toInt < (nG y : Int)))] (E x y)
        refine PW_if_eq c_G_order_76 (fun h1 => absurd hG (b2i_0.mp h1)) (fun _ => ?_)
        refine PW_aload_n c_G_order_79 rfl ?_
        refine PW_iload c_G_order_80 rfl ?_
        refine PW_lload c_G_order_82 rfl ?_
        refine PW_V0 (d2 := 0) (st := []) [.int (plF y qj k), .long t] c_G_order_84 lk_G_order_229 (sh_po _ _ hpj) rfl rfl rfl (Nat.le_of_ble_eq_true rfl) (by first | decide | omega) (Nat.le_of_ble_eq_true rfl) ?_
        refine sp_F_lowest hpj hn hz hfr ?_
        rw [L1]
        show PW _ _ _ 87 [some (.ref 5), some (.int a1), some (.ref (58 + 2 * pj)), some (.ref (58 + 2 * qj)), some (.int 0), some (.long t), none, some (.int acc), some (.int (nI m)), some (.int (nI k)), some (.int (plF y qj k)), l11] [.int (-1)] (E x y)
        refine PW_goto c_G_order_87 ?_
        refine PW_istore (i := 11) (L2 := [some (.ref 5), some (.int a1), some (.ref (58 + 2 * pj)), some (.ref (58 + 2 * qj)), some (.int 0), some (.long t), none, some (.int acc), some (.int (nI m)), some (.int (nI k)), some (.int (plF y qj k)), some (.int (-1))]) c_G_order_91 (Nat.le_of_ble_eq_true rfl) rfl rfl ?_
        refine PW_iload c_G_order_93 rfl ?_
        refine PW_if_lt c_G_order_95 (fun _ => ?_) (fun h2 => absurd (by decide) h2)
        refine PW_iinc (i := 9) (v := (nI k) + 1) (L2 := [some (.ref 5), some (.int a1), some (.ref (58 + 2 * pj)), some (.ref (58 + 2 * qj)), some (.int 0), some (.long t), none, some (.int acc), some (.int (nI m)), some (.int ((nI k) + 1)), some (.int (plF y qj k)), some (.int (-1))]) c_G_order_120 rfl (iinc_v (by decide)) (Nat.le_of_ble_eq_true rfl) rfl rfl ?_
        refine PW_goto c_G_order_123 ?_
        refine PW.eqL ?_ rfl rfl (ih (k + 1) t fr acc (by omega) hfr (some (.int (plF y qj k))) (some (.int (-1))) h)
        show ([some (.ref 5), some (.int a1), some (.ref (58 + 2 * pj)), some (.ref (58 + 2 * qj)), some (.int 0), some (.long t), none, some (.int acc), some (.int (nI m)), some (.int ((nI k) + 1)), some (.int (plF y qj k)), some (.int (-1))] : List (Option Value)) = _
        rw [nI_1]
    · rw [orI_miss (fun q => absurd q hG)] at h
      refine PW_iload c_G_order_52 rfl ?_
      refine PW_iload c_G_order_54 rfl ?_
      refine PW_icmp_ge c_G_order_56 (fun h0 => absurd h0 (fun q => absurd ((nI_leI (by omega) (by omega)).mp q) (by omega))) (fun h0 => ?_)
      refine PW_aload_n c_G_order_59 rfl ?_
      refine PW_iload c_G_order_60 rfl ?_
      refine PW_V0 (d2 := 2) (st := []) [.int (nI k)] c_G_order_62 lk_G_order_117 (sh_po _ _ hqj) rfl rfl rfl (Nat.le_of_ble_eq_true rfl) (by first | decide | omega) (Nat.le_of_ble_eq_true rfl) ?_
      refine sp_F_small hqj hqb hqz hm rfl (by omega) ?_
      rw [if_pos (by omega), (hQ k (by omega)).1]
      show PW _ _ _ 65 [some (.ref 5), some (.int a1), some (.ref (58 + 2 * pj)), some (.ref (58 + 2 * qj)), some (.int 0), some (.long t), none, some (.int acc), some (.int (nI m)), some (.int (nI k)), l10, l11] [.int (plF y qj k)] (E x y)
      refine PW_istore (i := 10) (L2 := [some (.ref 5), some (.int a1), some (.ref (58 + 2 * pj)), some (.ref (58 + 2 * qj)), some (.int 0), some (.long t), none, some (.int acc), some (.int (nI m)), some (.int (nI k)), some (.int (plF y qj k)), l11]) c_G_order_65 (Nat.le_of_ble_eq_true rfl) rfl rfl ?_
      refine PW_aload_n c_G_order_67 rfl ?_
      refine PW_get (v := .ref 6) c_G_order_68 fl_G_13 (gf_5_0 _ _) ?_
      refine PW_iload c_G_order_71 rfl ?_
      refine PW_V0 (d2 := 0) (st := []) [.int (plF y qj k)] c_G_order_73 lk_G_order_139 (po_6 _ _) rfl rfl rfl (Nat.le_of_ble_eq_true rfl) (by first | decide | omega) (Nat.le_of_ble_eq_true rfl) ?_
      refine sp_H_isGuest C.W C.x51 ?_
      show PW _ _ _ 76 [some (.ref 5), some (.int a1), some (.ref (58 + 2 * pj)), some (.ref (58 + 2 * qj)), some (.int 0), some (.long t), none, some (.int acc), some (.int (nI m)), some (.int (nI k)), some (.int (plF y qj k)), l11] [.int (b2i (0 ≤ (plF y qj k).toInt ∧ (plF y qj k).toInt < (nG y : Int)))] (E x y)
      refine PW_if_eq c_G_order_76 (fun _ => ?_) (fun h1 => absurd (b2i_n0.mp h1) hG)
      refine PW_iconst (v := -1) c_G_order_90 (by decide) ?_
      refine PW_istore (i := 11) (L2 := [some (.ref 5), some (.int a1), some (.ref (58 + 2 * pj)), some (.ref (58 + 2 * qj)), some (.int 0), some (.long t), none, some (.int acc), some (.int (nI m)), some (.int (nI k)), some (.int (plF y qj k)), some (.int (-1))]) c_G_order_91 (Nat.le_of_ble_eq_true rfl) rfl rfl ?_
      refine PW_iload c_G_order_93 rfl ?_
      refine PW_if_lt c_G_order_95 (fun _ => ?_) (fun h2 => absurd (by decide) h2)
      refine PW_iinc (i := 9) (v := (nI k) + 1) (L2 := [some (.ref 5), some (.int a1), some (.ref (58 + 2 * pj)), some (.ref (58 + 2 * qj)), some (.int 0), some (.long t), none, some (.int acc), some (.int (nI m)), some (.int ((nI k) + 1)), some (.int (plF y qj k)), some (.int (-1))]) c_G_order_120 rfl (iinc_v (by decide)) (Nat.le_of_ble_eq_true rfl) rfl rfl ?_
      refine PW_goto c_G_order_123 ?_
      refine PW.eqL ?_ rfl rfl (ih (k + 1) t fr acc (by omega) hfr (some (.int (plF y qj k))) (some (.int (-1))) h)
      show ([some (.ref 5), some (.int a1), some (.ref (58 + 2 * pj)), some (.ref (58 + 2 * qj)), some (.int 0), some (.long t), none, some (.int acc), some (.int (nI m)), some (.int ((nI k) + 1)), some (.int (plF y qj k)), some (.int (-1))] : List (Option Value)) = _
      rw [nI_1]
theorem lp_M_close {z : ZS} {post : Option Value → List PE → Prop} {x : XS} {a1 acc kk g is : Int32} {n e : Nat} (hn : n ≤ 60) (he : e + 1 = n) : ∀ (j i : Nat) (y : XS), i + j = e → y.1 604 = nI n → PW (2, 0, 0, z) m_M_order post 195 [some (.ref 70), some (.int a1), some (.int acc), some (.int kk), some (.int g), some (.int is), some (.int (nI e))] [] (E x (sA y 99 (sdF (y.2.1 99) j i))) → PW (2, 0, 0, z) m_M_order post 162 [some (.ref 70), some (.int a1), some (.int acc), some (.int kk), some (.int g), some (.int is), some (.int (nI i))] [] (E x y) := by
  intro j
  induction j with
  | zero =>
    intro i y hi hz h
    refine PW_iload c_M_order_162 rfl ?_
    refine PW_iconst (v := 1) c_M_order_164 (by decide) ?_
    refine PW_iadd c_M_order_165 ?_
    refine PW_aload_n c_M_order_166 rfl ?_
    refine PW_get (v := .int (y.1 604)) c_M_order_167 fl_M_333 (gf_70_44 _ _) ?_
    refine PW_icmp_ge c_M_order_170 (fun h0 => ?_) (fun h0 => absurd (by rw [hz, nI_1]; exact (nI_leI (by omega) (by omega)).mpr (by omega)) h0)
    rw [sdF, sA_id] at h
    rw [show i = e by omega]
    exact h
  | succ j ih =>
    intro i y hi hz h
    rw [sdF] at h
    refine PW_iload c_M_order_162 rfl ?_
    refine PW_iconst (v := 1) c_M_order_164 (by decide) ?_
    refine PW_iadd c_M_order_165 ?_
    refine PW_aload_n c_M_order_166 rfl ?_
    refine PW_get (v := .int (y.1 604)) c_M_order_167 fl_M_333 (gf_70_44 _ _) ?_
    refine PW_icmp_ge c_M_order_170 (fun h0 => absurd h0 (by rw [hz, nI_1]; exact fun q => absurd ((nI_leI (by omega) (by omega)).mp q) (by omega))) (fun h0 => ?_)
    refine PW_aload_n c_M_order_173 rfl ?_
    refine PW_get (v := .ref 99) c_M_order_174 fl_M_96 (gf_70_43 _ _) ?_
    refine PW_iload c_M_order_177 rfl ?_
    refine PW_aload_n c_M_order_179 rfl ?_
    refine PW_get (v := .ref 99) c_M_order_180 fl_M_96 (gf_70_43 _ _) ?_
    refine PW_iload c_M_order_183 rfl ?_
    refine PW_iconst (v := 1) c_M_order_185 (by decide) ?_
    refine PW_iadd c_M_order_186 ?_
    refine PW_iald (j := i + 1) c_M_order_187 (ar_99 _ _) (by rw [nI_1]; exact vp_in_nI (by omega) (by decide)) (by rw [nI_1]; exact nI_clamp (by omega)) ?_
    show PW _ _ _ 188 [some (.ref 70), some (.int a1), some (.int acc), some (.int kk), some (.int g), some (.int is), some (.int (nI i))] [.int ((y.2.1 99) (i + 1)), .int (nI i), .ref 99] (E x y)
    refine PW_iast (j := i) (w2 := E x (sA y 99 (upd (y.2.1 99) i ((y.2.1 99) (i + 1))))) c_M_order_188 (ar_99 _ _) (vp_in_nI (by omega) (by decide)) (nI_clamp (by omega)) (aw_99 _ _ _) ?_
    refine PW_iinc (i := 6) (v := (nI i) + 1) (L2 := [some (.ref 70), some (.int a1), some (.int acc), some (.int kk), some (.int g), some (.int is), some (.int ((nI i) + 1))]) c_M_order_189 rfl (iinc_v (by decide)) (Nat.le_of_ble_eq_true rfl) rfl rfl ?_
    refine PW_goto c_M_order_192 ?_
    refine PW.eqL ?_ rfl rfl (ih (i + 1) (sA y 99 (upd (y.2.1 99) i ((y.2.1 99) (i + 1)))) (by omega) hz ?_)
    · show ([some (.ref 70), some (.int a1), some (.int acc), some (.int kk), some (.int g), some (.int is), some (.int ((nI i) + 1))] : List (Option Value)) = [some (.ref 70), some (.int a1), some (.int acc), some (.int kk), some (.int g), some (.int is), some (.int (nI (i + 1)))]
      rw [nI_1]
    · rw [sA_sA, sA_at]
      exact h
set_option maxHeartbeats 1000000 in
theorem lp_M_order {x y : XS} {a1 : Int32} {qj m : Nat} (C : CPg x y) (hqj : qj < 6) (hm : m ≤ 60) (hqz : y.2.1 105 qj = nI m) (eq : a1 - a1 / 10 * 10 = nI qj) : ∀ (j k : Nat) (L : List Int32) (acc : Int32) (hh : Nat → Int32), k + j = m → L.length ≤ 60 → hpL hh L → ∃ (v : Int32) (h' : Nat → Int32), ∀ {z : ZS} {post : Option Value → List PE → Prop} {l4 l5 l6 : Option Value}, post (some (.int (orI y (plF y qj) j k L acc))) (E x (sA (sI y 604 v) 99 h')) → PW (2, 0, 0, z) m_M_order post 92 [some (.ref 70), some (.int a1), some (.int acc), some (.int (nI k)), l4, l5, l6] [] (E x (sA (sI y 604 (nI L.length)) 99 hh)) := by
  intro j
  induction j with
  | zero =>
    intro k L acc hh hk hL60 hp
    refine ⟨nI L.length, hh, fun {z post l4 l5 l6} h => ?_⟩
    rw [orI] at h
    refine PW_iload_n c_M_order_92 rfl ?_
    refine PW_aload_n c_M_order_93 rfl ?_
    refine PW_get (v := .ref 105) c_M_order_94 fl_M_114 (gf_70_54 _ _) ?_
    refine PW_iload_n c_M_order_97 rfl ?_
    refine PW_bipush (v := 10) c_M_order_98 (by decide) ?_
    refine PW_irem c_M_order_100 (by decide) ?_
    refine PW_iald (j := qj) c_M_order_101 (ar_105 _ _) (by rw [eq]; exact vp_in_nI hqj (by decide)) (by rw [eq]; exact nI_clamp (by omega)) ?_
    show PW _ _ _ 102 [some (.ref 70), some (.int a1), some (.int acc), some (.int (nI k)), l4, l5, l6] [.int ((y.2.1 105) qj), .int (nI k)] (E x (sA (sI y 604 (nI L.length)) 99 hh))
    refine PW_icmp_ge c_M_order_102 (fun h0 => ?_) (fun h0 => absurd (by rw [hqz]; exact (nI_leI (by omega) (by omega)).mpr (by omega)) h0)
    refine PW_iload_n c_M_order_211 rfl ?_
    refine PW_ireturn (ty := .int) c_M_order_212 rfl rfl ?_
    exact h
  | succ j ih =>
    intro k L acc hh hk hL60 hp
    by_cases hG : 0 ≤ (plF y qj k).toInt ∧ (plF y qj k).toInt < (nG y : Int)
    · rcases rmL_or (plF y qj k) L with ⟨A, B, hL, hA⟩ | hmi
      · have hLl : L.length = A.length + B.length + 1 := by rw [hL, List.length_append, List.length_cons]; omega
        obtain ⟨v, h', H⟩ := ih (k + 1) (A ++ B) (acc + nI B.length) (sdF hh B.length A.length) (by omega) (by rw [List.length_append]; omega) (hpL_out (by rw [← hL]; exact hp))
        refine ⟨v, h', fun {z post l4 l5 l6} h => ?_⟩
        have L2 : lifF ((sA (sI y 604 (nI L.length)) 99 hh).2.1 99) (plF y qj k) (nI L.length) L.length 0 = nI B.length := by
          rw [sA_at, lifF_hit (p := A.length) (hp A.length _ (by rw [hL, List.getElem?_append_right (Nat.le_refl _), Nat.sub_self]; rfl)) L.length 0 (fun i _ hi => ?_) (by omega) (by omega), sub2 (by omega) hL60, show L.length - (A.length + 1) = B.length by omega]
          have hi2 : L[i]? = some A[i] := by rw [hL, List.getElem?_append_left hi, List.getElem?_eq_getElem hi]
          rw [hp i _ hi2]
          exact hA _ (List.getElem_mem hi)
        have h0 := h
        rw [hL, orI_hit hG hA] at h
        refine PW_iload_n c_M_order_92 rfl ?_
        refine PW_aload_n c_M_order_93 rfl ?_
        refine PW_get (v := .ref 105) c_M_order_94 fl_M_114 (gf_70_54 _ _) ?_
        refine PW_iload_n c_M_order_97 rfl ?_
        refine PW_bipush (v := 10) c_M_order_98 (by decide) ?_
        refine PW_irem c_M_order_100 (by decide) ?_
        refine PW_iald (j := qj) c_M_order_101 (ar_105 _ _) (by rw [eq]; exact vp_in_nI hqj (by decide)) (by rw [eq]; exact nI_clamp (by omega)) ?_
        show PW _ _ _ 102 [some (.ref 70), some (.int a1), some (.int acc), some (.int (nI k)), l4, l5, l6] [.int ((y.2.1 105) qj), .int (nI k)] (E x (sA (sI y 604 (nI L.length)) 99 hh))
        refine PW_icmp_ge c_M_order_102 (fun h0 => absurd h0 (by rw [hqz]; exact fun q => absurd ((nI_leI (by omega) (by omega)).mp q) (by omega))) (fun h0 => ?_)
        refine PW_aload_n c_M_order_105 rfl ?_
        refine PW_iload_n c_M_order_106 rfl ?_
        refine PW_bipush (v := 10) c_M_order_107 (by decide) ?_
        refine PW_irem c_M_order_109 (by decide) ?_
        refine PW_iload_n c_M_order_110 rfl ?_
        refine PW_V0 (d2 := 0) (st := []) [.int (a1 - a1 / 10 * 10), .int (nI k)] c_M_order_111 lk_M_order_292 (po_70 _ _) rfl rfl rfl (Nat.le_of_ble_eq_true rfl) (by first | decide | omega) (Nat.le_of_ble_eq_true rfl) ?_
        show PW _ _ _ 0 [some (.ref 70), some (.int (a1 - a1 / 10 * 10)), some (.int (nI k))] [] (E x (sA (sI y 604 (nI L.length)) 99 hh))
        refine PW_aload_n c_M_byteAt_0 rfl ?_
        refine PW_get (v := .ref 106) c_M_byteAt_1 fl_M_117 (gf_70_55 _ _) ?_
        refine PW_bipush (v := 60) c_M_byteAt_4 (by decide) ?_
        refine PW_iload_n c_M_byteAt_6 rfl ?_
        refine PW_imul c_M_byteAt_7 ?_
        refine PW_iload_n c_M_byteAt_8 rfl ?_
        refine PW_iadd c_M_byteAt_9 ?_
        refine PW_lald (j := 60 * qj + k) c_M_byteAt_10 (ar_106 _ _) (by rw [eq, show (60 : Int32) = nI 60 from rfl, pk_mul, nI_add]; exact vp_in_nI (by omega) (by decide)) (by rw [eq, show (60 : Int32) = nI 60 from rfl, pk_mul, nI_add]; exact nI_clamp (by omega)) ?_
        show PW _ _ _ 11 [some (.ref 70), some (.int (a1 - a1 / 10 * 10)), some (.int (nI k))] [.long ((y.2.2 106) (60 * qj + k))] (E x (sA (sI y 604 (nI L.length)) 99 hh))
        refine PW_l2i c_M_byteAt_11 ?_
        refine PW_ireturn (ty := .int) c_M_byteAt_12 rfl rfl ?_
        show PW _ _ _ 114 [some (.ref 70), some (.int a1), some (.int acc), some (.int (nI k)), l4, l5, l6] [.int (((y.2.2 106) (60 * qj + k)).toInt32)] (E x (sA (sI y 604 (nI L.length)) 99 hh))
        show PW _ _ _ 114 [some (.ref 70), some (.int a1), some (.int acc), some (.int (nI k)), l4, l5, l6] [.int (plF y qj k)] (E x (sA (sI y 604 (nI L.length)) 99 hh))
        refine PW_istore (i := 4) (L2 := [some (.ref 70), some (.int a1), some (.int acc), some (.int (nI k)), some (.int (plF y qj k)), l5, l6]) c_M_order_114 (Nat.le_of_ble_eq_true rfl) rfl rfl ?_
        refine PW_aload_n c_M_order_116 rfl ?_
        refine PW_iload c_M_order_117 rfl ?_
        refine PW_V0 (d2 := 1) (st := []) [.int (plF y qj k)] c_M_order_119 lk_M_order_162 (po_70 _ _) rfl rfl rfl (Nat.le_of_ble_eq_true rfl) (by first | decide | omega) (Nat.le_of_ble_eq_true rfl) ?_
        refine sp_M_isGuest2 C.W ?_
        show PW _ _ _ 122 [some (.ref 70), some (.int a1), some (.int acc), some (.int (nI k)), some (.int (plF y qj k)), l5, l6] [.int (b2i (0 ≤ (plF y qj k).toInt ∧ (plF y qj k).toInt < (nG (sA (sI y 604 (nI L.length)) 99 hh) : Int)))] (E x (sA (sI y 604 (nI L.length)) 99 hh))
        refine PW_if_eq c_M_order_122 (fun h1 => absurd hG (b2i_0.mp h1)) (fun _ => ?_)
        refine PW_aload_n c_M_order_125 rfl ?_
        refine PW_iload c_M_order_126 rfl ?_
        refine PW_V0 (d2 := 0) (st := []) [.int (plF y qj k)] c_M_order_128 lk_M_order_339 (po_70 _ _) rfl rfl rfl (Nat.le_of_ble_eq_true rfl) (by first | decide | omega) (Nat.le_of_ble_eq_true rfl) ?_
        refine sp_M_lifted hL60 (show (sA (sI y 604 (nI L.length)) 99 hh).1 604 = nI L.length from rfl) ?_
        rw [L2]
        show PW _ _ _ 131 [some (.ref 70), some (.int a1), some (.int acc), some (.int (nI k)), some (.int (plF y qj k)), l5, l6] [.int (nI B.length)] (E x (sA (sI y 604 (nI L.length)) 99 hh))
        refine PW_goto c_M_order_131 ?_
        refine PW_istore (i := 5) (L2 := [some (.ref 70), some (.int a1), some (.int acc), some (.int (nI k)), some (.int (plF y qj k)), some (.int (nI B.length)), l6]) c_M_order_136 (Nat.le_of_ble_eq_true rfl) rfl rfl ?_
        refine PW_iload c_M_order_138 rfl ?_
        refine PW_if_ge c_M_order_140 (fun h2 => ?_) (fun h2 => absurd (Int32.not_lt.mp (nI_pos (by omega))) h2)
        refine PW_iload_n c_M_order_146 rfl ?_
        refine PW_iload c_M_order_147 rfl ?_
        refine PW_iadd c_M_order_149 ?_
        refine PW_istore_n (i := 2) (L2 := [some (.ref 70), some (.int a1), some (.int (acc + (nI B.length))), some (.int (nI k)), some (.int (plF y qj k)), some (.int (nI B.length)), l6]) c_M_order_150 rfl (Nat.le_of_ble_eq_true rfl) rfl rfl ?_
        refine PW_aload_n c_M_order_151 rfl ?_
        refine PW_get (v := .int (nI L.length)) c_M_order_152 fl_M_333 (gf_70_44 _ _) ?_
        refine PW_iconst (v := 1) c_M_order_155 (by decide) ?_
        refine PW_isub c_M_order_156 ?_
        refine PW_iload c_M_order_157 rfl ?_
        refine PW_isub c_M_order_159 ?_
        refine PW_istore (i := 6) (L2 := [some (.ref 70), some (.int a1), some (.int (acc + (nI B.length))), some (.int (nI k)), some (.int (plF y qj k)), some (.int (nI B.length)), some (.int (((nI L.length) - 1) - (nI B.length)))]) c_M_order_160 (Nat.le_of_ble_eq_true rfl) rfl rfl ?_
        refine PW.eqL (L2 := [some (.ref 70), some (.int a1), some (.int (acc + nI B.length)), some (.int (nI k)), some (.int (plF y qj k)), some (.int (nI B.length)), some (.int (nI A.length))]) ?_ rfl rfl (lp_M_close (n := L.length) (e := A.length + B.length) hL60 (by omega) B.length A.length (sA (sI y 604 (nI L.length)) 99 hh) rfl (show (sA (sI y 604 (nI L.length)) 99 hh).1 604 = nI L.length from rfl) ?_)
        · show ([some (.ref 70), some (.int a1), some (.int (acc + (nI B.length))), some (.int (nI k)), some (.int (plF y qj k)), some (.int (nI B.length)), some (.int (((nI L.length) - 1) - (nI B.length)))] : List (Option Value)) = _
          rw [show nI L.length - 1 - nI B.length = nI A.length by rw [sub2 (by omega) hL60, show L.length - (B.length + 1) = A.length by omega]]
        · refine PW_aload_n c_M_order_195 rfl ?_
          refine PW_dup c_M_order_196 rfl ?_
          refine PW_get (v := .int ((sA (sI y 604 (nI L.length)) 99 hh).1 604)) c_M_order_197 fl_M_333 (gf_70_44 _ _) ?_
          refine PW_iconst (v := 1) c_M_order_200 (by decide) ?_
          refine PW_isub c_M_order_201 ?_
          refine PW_put (w2 := E x (sI (sA (sA (sI y 604 (nI L.length)) 99 hh) 99 (sdF ((sA (sI y 604 (nI L.length)) 99 hh).2.1 99) B.length A.length)) 604 (((sA (sI y 604 (nI L.length)) 99 hh).1 604) - 1))) c_M_order_202 fp_M_order_333 rfl (pf_70_44 _ _ _) ?_
          refine PW_iinc (i := 3) (v := (nI k) + 1) (L2 := [some (.ref 70), some (.int a1), some (.int (acc + nI B.length)), some (.int ((nI k) + 1)), some (.int (plF y qj k)), some (.int (nI B.length)), some (.int (nI (A.length + B.length)))]) c_M_order_205 rfl (iinc_v (by decide)) (Nat.le_of_ble_eq_true rfl) rfl rfl ?_
          refine PW_goto c_M_order_208 ?_
          refine PW.eqL ?_ rfl ?_ (H (l4 := some (.int (plF y qj k))) (l5 := some (.int (nI B.length))) (l6 := some (.int (nI (A.length + B.length)))) h)
          · show ([some (.ref 70), some (.int a1), some (.int (acc + nI B.length)), some (.int ((nI k) + 1)), some (.int (plF y qj k)), some (.int (nI B.length)), some (.int (nI (A.length + B.length)))] : List (Option Value)) = _
            rw [nI_1]
          · show E x (sI (sA (sA (sI y 604 (nI L.length)) 99 hh) 99 (sdF ((sA (sI y 604 (nI L.length)) 99 hh).2.1 99) B.length A.length)) 604 (nI L.length - 1)) = E x (sA (sI y 604 (nI (A ++ B).length)) 99 (sdF hh B.length A.length))
            rw [sA_sA, sA_at, show ∀ (u : XS) (f : Nat → Int32) (v : Int32), sI (sA u 99 f) 604 v = sA (sI u 604 v) 99 f from fun _ _ _ => rfl, sI_sI, hLl, nI_pred, List.length_append]
      · obtain ⟨v, h', H⟩ := ih (k + 1) L acc hh (by omega) hL60 hp
        refine ⟨v, h', fun {z post l4 l5 l6} h => ?_⟩
        have L2 : lifF ((sA (sI y 604 (nI L.length)) 99 hh).2.1 99) (plF y qj k) (nI L.length) L.length 0 = -2 := by
          rw [sA_at, lifF_miss L.length 0 (fun i _ hi => ?_)]
          have hi2 : L[i]? = some L[i] := List.getElem?_eq_getElem (by omega)
          rw [hp i _ hi2]
          exact hmi _ (List.getElem_mem _)
        rw [orI_miss (fun _ => hmi)] at h
        refine PW_iload_n c_M_order_92 rfl ?_
        refine PW_aload_n c_M_order_93 rfl ?_
        refine PW_get (v := .ref 105) c_M_order_94 fl_M_114 (gf_70_54 _ _) ?_
        refine PW_iload_n c_M_order_97 rfl ?_
        refine PW_bipush (v := 10) c_M_order_98 (by decide) ?_
        refine PW_irem c_M_order_100 (by decide) ?_
        refine PW_iald (j := qj) c_M_order_101 (ar_105 _ _) (by rw [eq]; exact vp_in_nI hqj (by decide)) (by rw [eq]; exact nI_clamp (by omega)) ?_
        show PW _ _ _ 102 [some (.ref 70), some (.int a1), some (.int acc), some (.int (nI k)), l4, l5, l6] [.int ((y.2.1 105) qj), .int (nI k)] (E x (sA (sI y 604 (nI L.length)) 99 hh))
        refine PW_icmp_ge c_M_order_102 (fun h0 => absurd h0 (by rw [hqz]; exact fun q => absurd ((nI_leI (by omega) (by omega)).mp q) (by omega))) (fun h0 => ?_)
        refine PW_aload_n c_M_order_105 rfl ?_
        refine PW_iload_n c_M_order_106 rfl ?_
        refine PW_bipush (v := 10) c_M_order_107 (by decide) ?_
        refine PW_irem c_M_order_109 (by decide) ?_
        refine PW_iload_n c_M_order_110 rfl ?_
        refine PW_V0 (d2 := 0) (st := []) [.int (a1 - a1 / 10 * 10), .int (nI k)] c_M_order_111 lk_M_order_292 (po_70 _ _) rfl rfl rfl (Nat.le_of_ble_eq_true rfl) (by first | decide | omega) (Nat.le_of_ble_eq_true rfl) ?_
        show PW _ _ _ 0 [some (.ref 70), some (.int (a1 - a1 / 10 * 10)), some (.int (nI k))] [] (E x (sA (sI y 604 (nI L.length)) 99 hh))
        refine PW_aload_n c_M_byteAt_0 rfl ?_
        refine PW_get (v := .ref 106) c_M_byteAt_1 fl_M_117 (gf_70_55 _ _) ?_
        refine PW_bipush (v := 60) c_M_byteAt_4 (by decide) ?_
        refine PW_iload_n c_M_byteAt_6 rfl ?_
        refine PW_imul c_M_byteAt_7 ?_
        refine PW_iload_n c_M_byteAt_8 rfl ?_
        refine PW_iadd c_M_byteAt_9 ?_
        refine PW_lald (j := 60 * qj + k) c_M_byteAt_10 (ar_106 _ _) (by rw [eq, show (60 : Int32) = nI 60 from rfl, pk_mul, nI_add]; exact vp_in_nI (by omega) (by decide)) (by rw [eq, show (60 : Int32) = nI 60 from rfl, pk_mul, nI_add]; exact nI_clamp (by omega)) ?_
        show PW _ _ _ 11 [some (.ref 70), some (.int (a1 - a1 / 10 * 10)), some (.int (nI k))] [.long ((y.2.2 106) (60 * qj + k))] (E x (sA (sI y 604 (nI L.length)) 99 hh))
        refine PW_l2i c_M_byteAt_11 ?_
        refine PW_ireturn (ty := .int) c_M_byteAt_12 rfl rfl ?_
        show PW _ _ _ 114 [some (.ref 70), some (.int a1), some (.int acc), some (.int (nI k)), l4, l5, l6] [.int (((y.2.2 106) (60 * qj + k)).toInt32)] (E x (sA (sI y 604 (nI L.length)) 99 hh))
        show PW _ _ _ 114 [some (.ref 70), some (.int a1), some (.int acc), some (.int (nI k)), l4, l5, l6] [.int (plF y qj k)] (E x (sA (sI y 604 (nI L.length)) 99 hh))
        refine PW_istore (i := 4) (L2 := [some (.ref 70), some (.int a1), some (.int acc), some (.int (nI k)), some (.int (plF y qj k)), l5, l6]) c_M_order_114 (Nat.le_of_ble_eq_true rfl) rfl rfl ?_
        refine PW_aload_n c_M_order_116 rfl ?_
        refine PW_iload c_M_order_117 rfl ?_
        refine PW_V0 (d2 := 1) (st := []) [.int (plF y qj k)] c_M_order_119 lk_M_order_162 (po_70 _ _) rfl rfl rfl (Nat.le_of_ble_eq_true rfl) (by first | decide | omega) (Nat.le_of_ble_eq_true rfl) ?_
        refine sp_M_isGuest2 C.W ?_
        show PW _ _ _ 122 [some (.ref 70), some (.int a1), some (.int acc), some (.int (nI k)), some (.int (plF y qj k)), l5, l6] [.int (b2i (0 ≤ (plF y qj k).toInt ∧ (plF y qj k).toInt < (nG (sA (sI y 604 (nI L.length)) 99 hh) : Int)))] (E x (sA (sI y 604 (nI L.length)) 99 hh))
        refine PW_if_eq c_M_order_122 (fun h1 => absurd hG (b2i_0.mp h1)) (fun _ => ?_)
        refine PW_aload_n c_M_order_125 rfl ?_
        refine PW_iload c_M_order_126 rfl ?_
        refine PW_V0 (d2 := 0) (st := []) [.int (plF y qj k)] c_M_order_128 lk_M_order_339 (po_70 _ _) rfl rfl rfl (Nat.le_of_ble_eq_true rfl) (by first | decide | omega) (Nat.le_of_ble_eq_true rfl) ?_
        refine sp_M_lifted hL60 (show (sA (sI y 604 (nI L.length)) 99 hh).1 604 = nI L.length from rfl) ?_
        rw [L2]
        show PW _ _ _ 131 [some (.ref 70), some (.int a1), some (.int acc), some (.int (nI k)), some (.int (plF y qj k)), l5, l6] [.int (-2)] (E x (sA (sI y 604 (nI L.length)) 99 hh))
        refine PW_goto c_M_order_131 ?_
        refine PW_istore (i := 5) (L2 := [some (.ref 70), some (.int a1), some (.int acc), some (.int (nI k)), some (.int (plF y qj k)), some (.int (-2)), l6]) c_M_order_136 (Nat.le_of_ble_eq_true rfl) rfl rfl ?_
        refine PW_iload c_M_order_138 rfl ?_
        refine PW_if_ge c_M_order_140 (fun h2 => absurd h2 (by decide)) (fun _ => ?_)
        refine PW_goto c_M_order_143 ?_
        refine PW_iinc (i := 3) (v := (nI k) + 1) (L2 := [some (.ref 70), some (.int a1), some (.int acc), some (.int ((nI k) + 1)), some (.int (plF y qj k)), some (.int (-2)), l6]) c_M_order_205 rfl (iinc_v (by decide)) (Nat.le_of_ble_eq_true rfl) rfl rfl ?_
        refine PW_goto c_M_order_208 ?_
        refine PW.eqL ?_ rfl rfl (H (l4 := some (.int (plF y qj k))) (l5 := some (.int (-2))) (l6 := l6) h)
        show ([some (.ref 70), some (.int a1), some (.int acc), some (.int ((nI k) + 1)), some (.int (plF y qj k)), some (.int (-2)), l6] : List (Option Value)) = _
        rw [nI_1]
    · obtain ⟨v, h', H⟩ := ih (k + 1) L acc hh (by omega) hL60 hp
      refine ⟨v, h', fun {z post l4 l5 l6} h => ?_⟩
      rw [orI_miss (fun q => absurd q hG)] at h
      refine PW_iload_n c_M_order_92 rfl ?_
      refine PW_aload_n c_M_order_93 rfl ?_
      refine PW_get (v := .ref 105) c_M_order_94 fl_M_114 (gf_70_54 _ _) ?_
      refine PW_iload_n c_M_order_97 rfl ?_
      refine PW_bipush (v := 10) c_M_order_98 (by decide) ?_
      refine PW_irem c_M_order_100 (by decide) ?_
      refine PW_iald (j := qj) c_M_order_101 (ar_105 _ _) (by rw [eq]; exact vp_in_nI hqj (by decide)) (by rw [eq]; exact nI_clamp (by omega)) ?_
      show PW _ _ _ 102 [some (.ref 70), some (.int a1), some (.int acc), some (.int (nI k)), l4, l5, l6] [.int ((y.2.1 105) qj), .int (nI k)] (E x (sA (sI y 604 (nI L.length)) 99 hh))
      refine PW_icmp_ge c_M_order_102 (fun h0 => absurd h0 (by rw [hqz]; exact fun q => absurd ((nI_leI (by omega) (by omega)).mp q) (by omega))) (fun h0 => ?_)
      refine PW_aload_n c_M_order_105 rfl ?_
      refine PW_iload_n c_M_order_106 rfl ?_
      refine PW_bipush (v := 10) c_M_order_107 (by decide) ?_
      refine PW_irem c_M_order_109 (by decide) ?_
      refine PW_iload_n c_M_order_110 rfl ?_
      refine PW_V0 (d2 := 0) (st := []) [.int (a1 - a1 / 10 * 10), .int (nI k)] c_M_order_111 lk_M_order_292 (po_70 _ _) rfl rfl rfl (Nat.le_of_ble_eq_true rfl) (by first | decide | omega) (Nat.le_of_ble_eq_true rfl) ?_
      show PW _ _ _ 0 [some (.ref 70), some (.int (a1 - a1 / 10 * 10)), some (.int (nI k))] [] (E x (sA (sI y 604 (nI L.length)) 99 hh))
      refine PW_aload_n c_M_byteAt_0 rfl ?_
      refine PW_get (v := .ref 106) c_M_byteAt_1 fl_M_117 (gf_70_55 _ _) ?_
      refine PW_bipush (v := 60) c_M_byteAt_4 (by decide) ?_
      refine PW_iload_n c_M_byteAt_6 rfl ?_
      refine PW_imul c_M_byteAt_7 ?_
      refine PW_iload_n c_M_byteAt_8 rfl ?_
      refine PW_iadd c_M_byteAt_9 ?_
      refine PW_lald (j := 60 * qj + k) c_M_byteAt_10 (ar_106 _ _) (by rw [eq, show (60 : Int32) = nI 60 from rfl, pk_mul, nI_add]; exact vp_in_nI (by omega) (by decide)) (by rw [eq, show (60 : Int32) = nI 60 from rfl, pk_mul, nI_add]; exact nI_clamp (by omega)) ?_
      show PW _ _ _ 11 [some (.ref 70), some (.int (a1 - a1 / 10 * 10)), some (.int (nI k))] [.long ((y.2.2 106) (60 * qj + k))] (E x (sA (sI y 604 (nI L.length)) 99 hh))
      refine PW_l2i c_M_byteAt_11 ?_
      refine PW_ireturn (ty := .int) c_M_byteAt_12 rfl rfl ?_
      show PW _ _ _ 114 [some (.ref 70), some (.int a1), some (.int acc), some (.int (nI k)), l4, l5, l6] [.int (((y.2.2 106) (60 * qj + k)).toInt32)] (E x (sA (sI y 604 (nI L.length)) 99 hh))
      show PW _ _ _ 114 [some (.ref 70), some (.int a1), some (.int acc), some (.int (nI k)), l4, l5, l6] [.int (plF y qj k)] (E x (sA (sI y 604 (nI L.length)) 99 hh))
      refine PW_istore (i := 4) (L2 := [some (.ref 70), some (.int a1), some (.int acc), some (.int (nI k)), some (.int (plF y qj k)), l5, l6]) c_M_order_114 (Nat.le_of_ble_eq_true rfl) rfl rfl ?_
      refine PW_aload_n c_M_order_116 rfl ?_
      refine PW_iload c_M_order_117 rfl ?_
      refine PW_V0 (d2 := 1) (st := []) [.int (plF y qj k)] c_M_order_119 lk_M_order_162 (po_70 _ _) rfl rfl rfl (Nat.le_of_ble_eq_true rfl) (by first | decide | omega) (Nat.le_of_ble_eq_true rfl) ?_
      refine sp_M_isGuest2 C.W ?_
      show PW _ _ _ 122 [some (.ref 70), some (.int a1), some (.int acc), some (.int (nI k)), some (.int (plF y qj k)), l5, l6] [.int (b2i (0 ≤ (plF y qj k).toInt ∧ (plF y qj k).toInt < (nG (sA (sI y 604 (nI L.length)) 99 hh) : Int)))] (E x (sA (sI y 604 (nI L.length)) 99 hh))
      refine PW_if_eq c_M_order_122 (fun _ => ?_) (fun h1 => absurd (b2i_n0.mp h1) hG)
      refine PW_bipush (v := -2) c_M_order_134 (by decide) ?_
      refine PW_istore (i := 5) (L2 := [some (.ref 70), some (.int a1), some (.int acc), some (.int (nI k)), some (.int (plF y qj k)), some (.int (-2)), l6]) c_M_order_136 (Nat.le_of_ble_eq_true rfl) rfl rfl ?_
      refine PW_iload c_M_order_138 rfl ?_
      refine PW_if_ge c_M_order_140 (fun h2 => absurd h2 (by decide)) (fun _ => ?_)
      refine PW_goto c_M_order_143 ?_
      refine PW_iinc (i := 3) (v := (nI k) + 1) (L2 := [some (.ref 70), some (.int a1), some (.int acc), some (.int ((nI k) + 1)), some (.int (plF y qj k)), some (.int (-2)), l6]) c_M_order_205 rfl (iinc_v (by decide)) (Nat.le_of_ble_eq_true rfl) rfl rfl ?_
      refine PW_goto c_M_order_208 ?_
      refine PW.eqL ?_ rfl rfl (H (l4 := some (.int (plF y qj k))) (l5 := some (.int (-2))) (l6 := l6) h)
      show ([some (.ref 70), some (.int a1), some (.int acc), some (.int ((nI k) + 1)), some (.int (plF y qj k)), some (.int (-2)), l6] : List (Option Value)) = _
      rw [nI_1]
theorem flF_get {f : Nat → Int32} : ∀ (j k i : Nat), (flF (fun _ => true) f j k)[i]? = if i < j then some (f (k + i)) else none
  | 0, k, i => by rw [flF, if_neg (by omega)]; rfl
  | j + 1, k, i => by
    rw [flF, if_pos rfl]
    cases i with
    | zero => rw [if_pos (by omega)]; rfl
    | succ i =>
      rw [List.getElem?_cons_succ, flF_get j (k + 1) i]
      by_cases h : i < j
      · rw [if_pos h, if_pos (by omega), show k + 1 + i = k + (i + 1) by omega]
      · rw [if_neg h, if_neg (by omega)]
theorem flF_lenT {f : Nat → Int32} : ∀ (j k : Nat), (flF (fun _ => true) f j k).length = j
  | 0, _ => rfl
  | j + 1, k => by rw [flF, if_pos rfl, List.length_cons, flF_lenT j]
theorem hpL_0 {f h : Nat → Int32} {n : Nat} : hpL (wi f h 0 n) (flF (fun _ => true) f n 0) := fun i a ha => by
  rw [flF_get] at ha
  by_cases q : i < n
  · rw [if_pos q, Nat.zero_add] at ha
    rw [wi_at, if_pos (by omega)]
    exact Option.some.inj ha
  · rw [if_neg q] at ha
    exact absurd ha (by simp)
