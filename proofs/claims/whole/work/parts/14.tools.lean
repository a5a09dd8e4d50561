/-! what the walks use -/
def b2i (p : Prop) [Decidable p] : Int32 := if p then 1 else 0
theorem nb_b2i (p : Prop) [Decidable p] : narrow .boolean (.int (b2i p)) = .int (b2i p) := by
  unfold b2i
  by_cases h : p
  · rw [if_pos h]; decide +kernel
  · rw [if_neg h]; decide +kernel
theorem b2i_0 {p : Prop} [Decidable p] : b2i p = 0 ↔ ¬ p := by
  unfold b2i
  by_cases h : p
  · simp [h]
  · simp [h]
theorem b2i_n0 {p : Prop} [Decidable p] : ¬ b2i p = 0 ↔ p := by rw [b2i_0]; exact Decidable.not_not
theorem b2i_t {p : Prop} [Decidable p] (h : p) : b2i p = 1 := if_pos h
theorem b2i_f {p : Prop} [Decidable p] (h : ¬ p) : b2i p = 0 := if_neg h
theorem iinc_v {x u : Int32} {n : Int} (h : Int32.ofInt n = u) : x + Int32.ofInt n = x + u := by rw [h]
theorem sw_out {x : Int32} {lo hi : Int} {n : Nat} (h1 : -2147483648 ≤ lo) (h2 : lo + n ≤ 2147483648) (h3 : hi = lo + n - 1) (h : ∀ i : Nat, i < n → ¬ x = Int32.ofInt (lo + i)) : x.toInt < lo ∨ hi < x.toInt := by
  by_cases h4 : x.toInt < lo
  · exact Or.inl h4
  · by_cases h5 : hi < x.toInt
    · exact Or.inr h5
    · refine absurd ?_ (h (x.toInt - lo).toNat (by omega))
      rw [show lo + ((x.toInt - lo).toNat : Int) = x.toInt by omega]
      exact (Int32.ofInt_toInt _).symm
section PZ
variable {d d2 : Nat} {z : ZS} {mi mi2 : MI} {post : Option Value → List PE → Prop} {pc nx idx n : Nat} {L L2 : List (Option Value)} {st stk : List Value} {w : List PE}
theorem PW_V0 {ci o : Nat} {fs : List Value} (As : List Value) (hd : CD mi pc (.invokevirtual idx) 3 nx) (hl : LKV mi idx mi2 ci n) (ho : PG w o = some (.inr (ci, fs))) (hn : As.length = n) (hs : As.reverse ++ .ref o :: st = stk) (hL2 : padL mi2.2.2.1 (flatL (.ref o :: As)) = L2) (hm : (flatL (.ref o :: As)).length ≤ mi2.2.2.1) (hd2 : d2 + 1 ≤ d) (hst : (st.map fun v => v.category).sum ≤ 8)
    (hb : PW (d2, 0, 0, z) mi2 (fun r w' => PW (d, 0, 0, z) mi post nx L (r.toList ++ st) w') 0 L2 [] w) : PW (d, 0, 0, z) mi post pc L stk w := PW_callV (mc2 := 0) (ms2 := 0) (mc := 0) (ms := 0) As hd hl ho hn hs hL2 hm hd2 hst hb (fun _ _ h => h)
theorem PW_S0 (As : List Value) (hd : CD mi pc (.invokestatic idx) 3 nx) (hl : LKS mi idx mi2 n) (hn : As.length = n) (hs : As.reverse ++ st = stk) (hL2 : padL mi2.2.2.1 (flatL As) = L2) (hm : (flatL As).length ≤ mi2.2.2.1) (hd2 : d2 + 1 ≤ d) (hst : (st.map fun v => v.category).sum ≤ 8)
    (hb : PW (d2, 0, 0, z) mi2 (fun r w' => PW (d, 0, 0, z) mi post nx L (r.toList ++ st) w') 0 L2 [] w) : PW (d, 0, 0, z) mi post pc L stk w := PW_callS (mc2 := 0) (ms2 := 0) (mc := 0) (ms := 0) As hd hl hn hs hL2 hm hd2 hst hb (fun _ _ h => h)
end PZ
theorem pq1 {post : Option Value → List PE → Prop} {w : List PE} {p : Prop} [Decidable p] (h : post (some (.int (b2i p))) w) (hp : p) : post (some (.int 1)) w := by rw [b2i_t hp] at h; exact h
theorem pq0 {post : Option Value → List PE → Prop} {w : List PE} {p : Prop} [Decidable p] (h : post (some (.int (b2i p))) w) (hp : ¬ p) : post (some (.int 0)) w := by rw [b2i_f hp] at h; exact h
theorem pqi {post : Option Value → List PE → Prop} {w : List PE} {a b : Int32} (h : post (some (.int a)) w) (hp : a = b) : post (some (.int b)) w := by rw [← hp]; exact h
theorem tiA : (0 : Int32).toInt = 0 ∧ (1 : Int32).toInt = 1 ∧ (2 : Int32).toInt = 2 ∧ (3 : Int32).toInt = 3 ∧ (4 : Int32).toInt = 4 ∧ (5 : Int32).toInt = 5 ∧ (6 : Int32).toInt = 6 ∧ (7 : Int32).toInt = 7 ∧ (8 : Int32).toInt = 8 ∧ (9 : Int32).toInt = 9 ∧ (10 : Int32).toInt = 10 ∧ (11 : Int32).toInt = 11 ∧ (12 : Int32).toInt = 12 ∧ (13 : Int32).toInt = 13 ∧ (24 : Int32).toInt = 24 ∧ (25 : Int32).toInt = 25 ∧ (30 : Int32).toInt = 30 ∧ (31 : Int32).toInt = 31 ∧ (33 : Int32).toInt = 33 ∧ (37 : Int32).toInt = 37 ∧ (38 : Int32).toInt = 38 ∧ (39 : Int32).toInt = 39 ∧ (40 : Int32).toInt = 40 ∧ (41 : Int32).toInt = 41 ∧ (42 : Int32).toInt = 42 ∧ (43 : Int32).toInt = 43 ∧ (45 : Int32).toInt = 45 ∧ (47 : Int32).toInt = 47 ∧ (48 : Int32).toInt = 48 ∧ (49 : Int32).toInt = 49 ∧ (50 : Int32).toInt = 50 ∧ (57 : Int32).toInt = 57 ∧ (58 : Int32).toInt = 58 ∧ (59 : Int32).toInt = 59 ∧ (60 : Int32).toInt = 60 ∧ (61 : Int32).toInt = 61 ∧ (62 : Int32).toInt = 62 ∧ (63 : Int32).toInt = 63 ∧ (97 : Int32).toInt = 97 ∧ (99 : Int32).toInt = 99 ∧ (100 : Int32).toInt = 100 ∧ (104 : Int32).toInt = 104 ∧ (109 : Int32).toInt = 109 ∧ (110 : Int32).toInt = 110 ∧ (116 : Int32).toInt = 116 ∧ (120 : Int32).toInt = 120 ∧ (124 : Int32).toInt = 124 ∧ (126 : Int32).toInt = 126 ∧ (127 : Int32).toInt = 127 ∧ (128 : Int32).toInt = 128 ∧ (130 : Int32).toInt = 130 ∧ (255 : Int32).toInt = 255 ∧ (256 : Int32).toInt = 256 ∧ (512 : Int32).toInt = 512 ∧ (999 : Int32).toInt = 999 ∧ (1000000 : Int32).toInt = 1000000 ∧ (-1 : Int32).toInt = -1 ∧ (-2 : Int32).toInt = -2 ∧ (-3 : Int32).toInt = -3 ∧ (-5 : Int32).toInt = -5 ∧ (-11 : Int32).toInt = -11 ∧ (-12 : Int32).toInt = -12 ∧ (-13 : Int32).toInt = -13 ∧ (-14 : Int32).toInt = -14 ∧ (-100 : Int32).toInt = -100 := ⟨by decide, by decide, by decide, by decide, by decide, by decide, by decide, by decide, by decide, by decide, by decide, by decide, by decide, by decide, by decide, by decide, by decide, by decide, by decide, by decide, by decide, by decide, by decide, by decide, by decide, by decide, by decide, by decide, by decide, by decide, by decide, by decide, by decide, by decide, by decide, by decide, by decide, by decide, by decide, by decide, by decide, by decide, by decide, by decide, by decide, by decide, by decide, by decide, by decide, by decide, by decide, by decide, by decide, by decide, by decide, by decide, by decide, by decide, by decide, by decide, by decide, by decide, by decide, by decide, by decide⟩
