/-! what the walks use -/
def b2i (p : Prop) [Decidable p] : Int32 := if p then 1 else 0
theorem nb_b2i (p : Prop) [Decidable p] : narrow .boolean (.int (b2i p)) = .int (b2i p) := by
  unfold b2i
  by_cases h : p
  · rw [if_pos h]; decide +kernel
  · rw [if_neg h]; decide +kernel
theorem b2i_0 {p : Prop} [Decidable p] : b2i p = 0 ↔ ¬ p := by
  unfold b2i
  by_cases h : p
  · simp [h]
  · simp [h]
theorem b2i_n0 {p : Prop} [Decidable p] : ¬ b2i p = 0 ↔ p := by rw [b2i_0]; exact Decidable.not_not
theorem b2i_t {p : Prop} [Decidable p] (h : p) : b2i p = 1 := if_pos h
theorem b2i_f {p : Prop} [Decidable p] (h : ¬ p) : b2i p = 0 := if_neg h
theorem iinc_v {x u : Int32} {n : Int} (h : Int32.ofInt n = u) : x + Int32.ofInt n = x + u := by rw [h]
theorem sw_out {x : Int32} {lo hi : Int} {n : Nat} (h1 : -2147483648 ≤ lo) (h2 : lo + n ≤ 2147483648) (h3 : hi = lo + n - 1) (h : ∀ i : Nat, i < n → ¬ x = Int32.ofInt (lo + i)) : x.toInt < lo ∨ hi < x.toInt := by
  by_cases h4 : x.toInt < lo
  · exact Or.inl h4
  · by_cases h5 : hi < x.toInt
    · exact Or.inr h5
    · refine absurd ?_ (h (x.toInt - lo).toNat (by omega))
      rw [show lo + ((x.toInt - lo).toNat : Int) = x.toInt by omega]
      exact Int32.ofInt_toInt.symm
section PZ
variable {d d2 : Nat} {z : ZS} {mi mi2 : MI} {post : Option Value → List PE → Prop} {pc nx idx n : Nat} {L L2 : List (Option Value)} {st stk : List Value} {w : List PE}
theorem PW_V0 {ci o : Nat} {fs : List Value} (As : List Value) (hd : CD mi pc (.invokevirtual idx) 3 nx) (hl : LKV mi idx mi2 ci n) (ho : PG w o = some (.inr (ci, fs))) (hn : As.length = n) (hs : As.reverse ++ .ref o :: st = stk) (hL2 : padL mi2.2.2.1 (flatL (.ref o :: As)) = L2) (hm : (flatL (.ref o :: As)).length ≤ mi2.2.2.1) (hd2 : d2 + 1 ≤ d) (hst : (st.map fun v => v.category).sum ≤ 8)
    (hb : PW (d2, 0, 0, z) mi2 (fun r w' => PW (d, 0, 0, z) mi post nx L (r.toList ++ st) w') 0 L2 [] w) : PW (d, 0, 0, z) mi post pc L stk w := PW_callV (mc2 := 0) (ms2 := 0) (mc := 0) (ms := 0) As hd hl ho hn hs hL2 hm hd2 hst hb (fun _ _ h => h)
theorem PW_S0 (As : List Value) (hd : CD mi pc (.invokestatic idx) 3 nx) (hl : LKS mi idx mi2 n) (hn : As.length = n) (hs : As.reverse ++ st = stk) (hL2 : padL mi2.2.2.1 (flatL As) = L2) (hm : (flatL As).length ≤ mi2.2.2.1) (hd2 : d2 + 1 ≤ d) (hst : (st.map fun v => v.category).sum ≤ 8)
    (hb : PW (d2, 0, 0, z) mi2 (fun r w' => PW (d, 0, 0, z) mi post nx L (r.toList ++ st) w') 0 L2 [] w) : PW (d, 0, 0, z) mi post pc L stk w := PW_callS (mc2 := 0) (ms2 := 0) (mc := 0) (ms := 0) As hd hl hn hs hL2 hm hd2 hst hb (fun _ _ h => h)
end PZ
