/-! a text is read: what both sides find -/
def sg (g : Nat → Nat) (n p : Nat) : Nat := if p < n then g p else 256
def lvO (c : Nat) : Nat := if c = 124 then 0 else if c = 38 then 1 else if c = 60 ∨ c = 61 ∨ c = 62 then 2 else if c = 43 ∨ c = 45 then 3 else if c = 42 ∨ c = 47 ∨ c = 37 then 4 else 9
def nmO (c : Nat) : Nat := if c = 116 then 0 else if c = 110 then 1 else if c = 97 then 2 else if c = 104 then 3 else if c = 109 then 4 else 9
abbrev isD (c : Nat) : Prop := 48 ≤ c ∧ c ≤ 57
abbrev PRs : Type := Bool × Nat × List Stp0
def rdN (g : Nat → Nat) (n : Nat) : Nat → Nat → Int32 → Nat × Int32
  | 0, p, v => (p, v)
  | k + 1, p, v => if isD (sg g n p) then rdN g n k (p + 1) (v * 10 + nI (sg g n p) - 48) else (p, v)
def lpF (G : Nat → PRs) (g : Nat → Nat) (n lev : Nat) : Nat → Nat → List Stp0 → PRs
  | 0, p, acc => (true, p, acc)
  | k + 1, p, acc => if lvO (sg g n p) = lev then (if (G (p + 1)).1 = true then lpF G g n lev k (G (p + 1)).2.1 (acc ++ (G (p + 1)).2.2 ++ [(sg g n p, 0)]) else (false, (G (p + 1)).2.1, [])) else (true, p, acc)
def pF (g : Nat → Nat) (n : Nat) : Nat → Nat → Nat → Nat → PRs
  | 0, _, _, p => (false, p, [])
  | fu + 1, lev, o, p =>
    if lev < 5 then (if (pF g n fu (lev + 1) o p).1 = true then lpF (pF g n fu (lev + 1) o) g n lev (if lev = 2 then 1 else 120) (pF g n fu (lev + 1) o p).2.1 (pF g n fu (lev + 1) o p).2.2 else (false, (pF g n fu (lev + 1) o p).2.1, []))
    else if nmO (sg g n p) < 5 then (true, p + 1, [(2, nI (nmO (sg g n p)))])
    else if isD (sg g n p) then (true, (rdN g n 4 p 0).1, [(1, (rdN g n 4 p 0).2)])
    else if ¬ ((sg g n p = 40 ∨ sg g n p = 33 ∨ sg g n p = 45) ∧ o < 6) then (false, p, [])
    else if sg g n p = 40 then (if (pF g n fu 0 (o + 1) (p + 1)).1 = true ∧ sg g n (pF g n fu 0 (o + 1) (p + 1)).2.1 = 41 then (true, (pF g n fu 0 (o + 1) (p + 1)).2.1 + 1, (pF g n fu 0 (o + 1) (p + 1)).2.2) else (false, (pF g n fu 0 (o + 1) (p + 1)).2.1, []))
    else if (pF g n fu 5 (o + 1) (p + 1)).1 = true then (true, (pF g n fu 5 (o + 1) (p + 1)).2.1, (pF g n fu 5 (o + 1) (p + 1)).2.2 ++ [(if sg g n p = 45 then 4 else 3, 0)]) else (false, (pF g n fu 5 (o + 1) (p + 1)).2.1, [])
def okP (p n : Nat) (r : PRs) : Prop := p ≤ r.2.1 ∧ r.2.1 ≤ n ∧ (r.1 = true → p < r.2.1 ∧ r.2.2.length + p ≤ r.2.1 ∧ (∀ d rest, depS (r.2.2 ++ rest) d = depS rest (d + 1)) ∧ ∀ s ∈ r.2.2, okS s)
section
variable {g : Nat → Nat} {n : Nat}
theorem sg_lt {p : Nat} (h : ¬ sg g n p = 256) : p < n := by
  unfold sg at h
  by_cases q : p < n
  · exact q
  · rw [if_neg q] at h; exact absurd rfl h
theorem lvO_op {c : Nat} (h : lvO c < 5) : c ∈ [37, 38, 42, 43, 45, 47, 60, 61, 62, 124] := by
  simp only [List.mem_cons, List.not_mem_nil, or_false]
  unfold lvO at h
  repeat' (split at h)
  all_goals omega
theorem lvO_D {c lev : Nat} (hl : lev < 5) (h : isD c) : ¬ lvO c = lev := by
  unfold isD at h
  unfold lvO
  repeat' split
  all_goals omega
theorem op_cd {c : Nat} (h : c ∈ [37, 38, 42, 43, 45, 47, 60, 61, 62, 124]) : 36 < c ∧ c < 128 := by
  simp only [List.mem_cons, List.not_mem_nil, or_false] at h
  omega
theorem nmO_lt {c : Nat} (h : nmO c < 5) : c < 128 := by
  unfold nmO at h
  repeat' (split at h)
  all_goals omega
theorem rdN_p : ∀ (k p : Nat) (v : Int32), p ≤ n → p ≤ (rdN g n k p v).1 ∧ (rdN g n k p v).1 ≤ n ∧ (rdN g n k p v).1 ≤ p + k
  | 0, p, v, h => ⟨Nat.le_refl _, h, Nat.le_refl _⟩
  | k + 1, p, v, h => by
    rw [rdN]
    by_cases q : isD (sg g n p)
    · rw [if_pos q]
      have hp : p < n := sg_lt (g := g) (by unfold isD at q; omega)
      have := rdN_p k (p + 1) (v * 10 + nI (sg g n p) - 48) (by omega)
      omega
    · rw [if_neg q]
      exact ⟨Nat.le_refl _, h, by show p ≤ p + (k + 1); omega⟩
theorem rdN_1 {p : Nat} (hn : p ≤ n) (h : isD (sg g n p)) : p < (rdN g n 4 p 0).1 := by
  have hp : p < n := sg_lt (g := g) (by unfold isD at h; omega)
  rw [rdN, if_pos h]
  have := (rdN_p (g := g) (n := n) 3 (p + 1) (0 * 10 + nI (sg g n p) - 48) (by omega)).1
  omega
theorem lpF_p {G : Nat → PRs} {lev p0 : Nat} (hl : lev < 5) (hG : ∀ q, q ≤ n → okP q n (G q)) : ∀ (k p : Nat) (acc : List Stp0), okP p0 n (true, p, acc) → okP p0 n (lpF G g n lev k p acc)
  | 0, p, acc, h => h
  | k + 1, p, acc, h => by
    rw [lpF]
    by_cases q : lvO (sg g n p) = lev
    · rw [if_pos q]
      have hop := lvO_op (c := sg g n p) (by omega)
      have hc := op_cd hop
      have hp : p < n := sg_lt (g := g) (by omega)
      have hq := hG (p + 1) (by omega)
      obtain ⟨a1, a2, a3⟩ := h
      obtain ⟨a4, a5, a6, a7⟩ := a3 rfl
      have a1 : p0 ≤ p := a1
      have a4 : p0 < p := a4
      have a5 : acc.length + p0 ≤ p := a5
      have a6 : ∀ d rest, depS (acc ++ rest) d = depS rest (d + 1) := a6
      have a7 : ∀ s ∈ acc, okS s := a7
      obtain ⟨b1, b2, b3⟩ := hq
      by_cases r : (G (p + 1)).1 = true
      · rw [if_pos r]
        obtain ⟨b4, b5, b6, b7⟩ := b3 r
        refine lpF_p hl hG k _ _ ⟨?_, b2, fun _ => ⟨?_, ?_, fun d rest => ?_, fun s hs => ?_⟩⟩
        · show p0 ≤ (G (p + 1)).2.1; omega
        · show p0 < (G (p + 1)).2.1; omega
        · show (acc ++ (G (p + 1)).2.2 ++ [(sg g n p, 0)]).length + p0 ≤ (G (p + 1)).2.1
          rw [List.length_append, List.length_append, List.length_singleton]; omega
        · show depS (acc ++ (G (p + 1)).2.2 ++ [(sg g n p, 0)] ++ rest) d = _
          rw [List.append_assoc, List.append_assoc, a6, b6]
          show depS ((sg g n p, 0) :: rest) (d + 1 + 1) = _
          rw [depS, if_neg (show ¬ (sg g n p = 1 ∨ sg g n p = 2) by omega), if_neg (show ¬ (sg g n p = 3 ∨ sg g n p = 4) by omega), if_neg (by omega)]
          rfl
        · have hs : s ∈ acc ++ (G (p + 1)).2.2 ++ [(sg g n p, 0)] := hs
          rcases List.mem_append.mp hs with hs | hs
          · rcases List.mem_append.mp hs with hs | hs
            · exact a7 s hs
            · exact b7 s hs
          · rw [List.mem_singleton] at hs
            subst hs
            exact Or.inr (Or.inr (Or.inr (Or.inr hop)))
      · rw [if_neg r]
        exact ⟨by show p0 ≤ (G (p + 1)).2.1; omega, b2, fun w => Bool.noConfusion w⟩
    · rw [if_neg q]; exact h
theorem pF_p : ∀ (fu lev o p : Nat), p ≤ n → okP p n (pF g n fu lev o p) := by
  intro fu
  induction fu with
  | zero => intro lev o p hp; exact ⟨Nat.le_refl _, hp, fun w => Bool.noConfusion w⟩
  | succ fu ih =>
    intro lev o p hp
    rw [pF]
    by_cases hl : lev < 5
    · rw [if_pos hl]
      by_cases q : (pF g n fu (lev + 1) o p).1 = true
      · rw [if_pos q]
        refine lpF_p hl (fun r hr => ih (lev + 1) o r hr) _ _ _ ?_
        have := ih (lev + 1) o p hp
        exact ⟨this.1, this.2.1, fun _ => this.2.2 q⟩
      · rw [if_neg q]
        have := ih (lev + 1) o p hp
        exact ⟨this.1, this.2.1, fun w => Bool.noConfusion w⟩
    · rw [if_neg hl]
      by_cases h1 : nmO (sg g n p) < 5
      · rw [if_pos h1]
        have hp2 : p < n := sg_lt (g := g) (by have := nmO_lt h1; omega)
        refine ⟨by show p ≤ p + 1; omega, hp2, fun _ => ⟨Nat.lt_succ_self p, by show 1 + p ≤ p + 1; omega, fun d rest => ?_, fun s hs => ?_⟩⟩
        · show depS ((2, nI (nmO (sg g n p))) :: rest) d = _
          rw [depS, if_pos (Or.inr rfl)]
        · have hs : s ∈ [((2, nI (nmO (sg g n p))) : Stp0)] := hs
          rw [List.mem_singleton] at hs
          subst hs
          exact Or.inr (Or.inl ⟨rfl, by show 0 ≤ (nI (nmO (sg g n p))).toInt; rw [nI_toInt (by omega)]; omega, by show (nI (nmO (sg g n p))).toInt < 5; rw [nI_toInt (by omega)]; omega⟩)
      · rw [if_neg h1]
        by_cases h2 : isD (sg g n p)
        · rw [if_pos h2]
          have w := rdN_p (g := g) 4 p 0 hp
          have w2 := rdN_1 hp h2
          refine ⟨w.1, w.2.1, fun _ => ⟨w2, by show 1 + p ≤ (rdN g n 4 p 0).1; omega, fun d rest => ?_, fun s hs => ?_⟩⟩
          · show depS ((1, (rdN g n 4 p 0).2) :: rest) d = _
            rw [depS, if_pos (Or.inl rfl)]
          · have hs : s ∈ [((1, (rdN g n 4 p 0).2) : Stp0)] := hs
            rw [List.mem_singleton] at hs
            subst hs
            exact Or.inl rfl
        · rw [if_neg h2]
          by_cases h3 : ¬ ((sg g n p = 40 ∨ sg g n p = 33 ∨ sg g n p = 45) ∧ o < 6)
          · rw [if_pos h3]
            exact ⟨Nat.le_refl _, hp, fun w => Bool.noConfusion w⟩
          · rw [if_neg h3]
            have h4 := Decidable.not_not.mp h3
            have hp2 : p < n := sg_lt (g := g) (by omega)
            by_cases h5 : sg g n p = 40
            · rw [if_pos h5]
              have w := ih 0 (o + 1) (p + 1) hp2
              by_cases h6 : (pF g n fu 0 (o + 1) (p + 1)).1 = true ∧ sg g n (pF g n fu 0 (o + 1) (p + 1)).2.1 = 41
              · rw [if_pos h6]
                obtain ⟨w1, w2, w3⟩ := w
                obtain ⟨w4, w5, w6, w7⟩ := w3 h6.1
                have w8 : (pF g n fu 0 (o + 1) (p + 1)).2.1 < n := sg_lt (g := g) (by omega)
                exact ⟨by show p ≤ (pF g n fu 0 (o + 1) (p + 1)).2.1 + 1; omega, w8, fun _ => ⟨by show p < (pF g n fu 0 (o + 1) (p + 1)).2.1 + 1; omega, by show (pF g n fu 0 (o + 1) (p + 1)).2.2.length + p ≤ (pF g n fu 0 (o + 1) (p + 1)).2.1 + 1; omega, w6, w7⟩⟩
              · rw [if_neg h6]
                exact ⟨by have := w.1; show p ≤ (pF g n fu 0 (o + 1) (p + 1)).2.1; omega, w.2.1, fun w => Bool.noConfusion w⟩
            · rw [if_neg h5]
              have w := ih 5 (o + 1) (p + 1) hp2
              by_cases h6 : (pF g n fu 5 (o + 1) (p + 1)).1 = true
              · rw [if_pos h6]
                obtain ⟨w1, w2, w3⟩ := w
                obtain ⟨w4, w5, w6, w7⟩ := w3 h6
                refine ⟨by show p ≤ (pF g n fu 5 (o + 1) (p + 1)).2.1; omega, w2, fun _ => ⟨by show p < (pF g n fu 5 (o + 1) (p + 1)).2.1; omega, ?_, fun d rest => ?_, fun s hs => ?_⟩⟩
                · show ((pF g n fu 5 (o + 1) (p + 1)).2.2 ++ [(if sg g n p = 45 then 4 else 3, 0)]).length + p ≤ (pF g n fu 5 (o + 1) (p + 1)).2.1
                  rw [List.length_append, List.length_singleton]; omega
                · show depS ((pF g n fu 5 (o + 1) (p + 1)).2.2 ++ [(if sg g n p = 45 then 4 else 3, 0)] ++ rest) d = _
                  rw [List.append_assoc, w6]
                  show depS ((if sg g n p = 45 then 4 else 3, 0) :: rest) (d + 1) = _
                  rw [depS, if_neg (show ¬ ((if sg g n p = 45 then 4 else 3) = 1 ∨ (if sg g n p = 45 then 4 else 3) = 2) by split <;> omega), if_pos (show (if sg g n p = 45 then 4 else 3) = 3 ∨ (if sg g n p = 45 then 4 else 3) = 4 by split <;> omega), if_neg (by omega)]
                · have hs : s ∈ (pF g n fu 5 (o + 1) (p + 1)).2.2 ++ [((if sg g n p = 45 then 4 else 3, 0) : Stp0)] := hs
                  rcases List.mem_append.mp hs with hs | hs
                  · exact w7 s hs
                  · rw [List.mem_singleton] at hs
                    subst hs
                    show okS (if sg g n p = 45 then 4 else 3, 0)
                    split
                    · exact Or.inr (Or.inr (Or.inr (Or.inl rfl)))
                    · exact Or.inr (Or.inr (Or.inl rfl))
              · rw [if_neg h6]
                exact ⟨by have := w.1; show p ≤ (pF g n fu 5 (o + 1) (p + 1)).2.1; omega, w.2.1, fun w => Bool.noConfusion w⟩
end
/-- the byte as the one side reads it, as the other -/
def sgX (c : Nat) : Int32 := if c < 256 then nI c else -1
def lkM (c : Nat) : Int32 := if c < 256 then vp_nar .byte (nI c) else -1
theorem sgX_k {c k : Nat} (hc : c < 257) (hk : k < 256) : sgX c = nI k ↔ c = k := by
  unfold sgX
  split
  · exact nI_eq (by omega) (by omega)
  · constructor
    · intro h
      have := congrArg Int32.toInt h
      rw [nI_toInt (by omega), show (-1 : Int32).toInt = -1 by decide] at this
      omega
    · intro h; omega
theorem lkM_a : ∀ c : Nat, c < 128 → vp_nar .byte (nI c) = nI c := by decide +kernel
theorem lkM_b : ∀ c : Nat, c < 128 → (vp_nar .byte (nI (128 + c))).toInt < 0 := by decide +kernel
theorem lkM_lo {c : Nat} (hc : c < 128) : lkM c = nI c := by
  unfold lkM
  rw [if_pos (by omega)]
  exact lkM_a c hc
theorem lkM_hi {c : Nat} (hc : 128 ≤ c) (h2 : c < 257) : (lkM c).toInt < 0 := by
  unfold lkM
  split
  · have := lkM_b (c - 128) (by omega)
    rwa [show 128 + (c - 128) = c by omega] at this
  · decide
theorem lkM_k {c k : Nat} (hc : c < 257) (hk : k < 128) : lkM c = nI k ↔ c = k := by
  rcases Nat.lt_or_ge c 128 with q | q
  · rw [lkM_lo q]; exact nI_eq (by omega) (by omega)
  · constructor
    · intro h
      have := lkM_hi q hc
      rw [h, nI_toInt (by omega)] at this
      omega
    · intro h; omega
theorem sgX_D {c : Nat} (hc : c < 257) : (48 ≤ sgX c ∧ sgX c ≤ 57) ↔ isD c := by
  unfold sgX isD
  split
  · rw [show (48 : Int32) = nI 48 from rfl, show (57 : Int32) = nI 57 from rfl, nI_leI (by omega) (by omega), nI_leI (by omega) (by omega)]
  · constructor
    · rintro ⟨h, -⟩; exact absurd h (by decide)
    · intro h; omega
theorem lkM_D {c : Nat} (hc : c < 257) : (48 ≤ lkM c ∧ lkM c ≤ 57) ↔ isD c := by
  rcases Nat.lt_or_ge c 128 with q | q
  · rw [lkM_lo q]
    unfold isD
    rw [show (48 : Int32) = nI 48 from rfl, show (57 : Int32) = nI 57 from rfl, nI_leI (by omega) (by omega), nI_leI (by omega) (by omega)]
  · have := lkM_hi q hc
    unfold isD
    rw [Int32.le_iff_toInt_le, show (48 : Int32).toInt = 48 by decide]
    constructor
    · rintro ⟨h, -⟩; omega
    · intro h; omega
theorem nar_op : ∀ a : Nat, a < 128 → vp_nar .byte ((nI a).toInt8.toInt32) = nI a := by decide +kernel
theorem nar_sh : ∀ a : Nat, a < 131 → vp_nar .short ((nI a).toInt16.toInt32) = nI a := by decide +kernel
theorem nar_sh2 : ∀ a : Nat, a < 131 → vp_nar .short (nI a) = nI a := by decide +kernel
/-! lines, a text -/
abbrev Ln : Type := List Stp0 × List Stp0
def rdL (g : Nat → Nat) (n p : Nat) : Bool × Nat × Ln :=
  if (pF g n 42 0 0 p).1 = true then
    (if sg g n (pF g n 42 0 0 p).2.1 = 63 then
      (if (pF g n 42 0 0 ((pF g n 42 0 0 p).2.1 + 1)).1 = true then (true, (pF g n 42 0 0 ((pF g n 42 0 0 p).2.1 + 1)).2.1, ((pF g n 42 0 0 p).2.2, (pF g n 42 0 0 ((pF g n 42 0 0 p).2.1 + 1)).2.2)) else (false, (pF g n 42 0 0 ((pF g n 42 0 0 p).2.1 + 1)).2.1, ([], [])))
    else (true, (pF g n 42 0 0 p).2.1, ([], (pF g n 42 0 0 p).2.2)))
  else (false, (pF g n 42 0 0 p).2.1, ([], []))
def rdT (g : Nat → Nat) (n : Nat) : Nat → Nat → Txt → Bool × Nat × Txt
  | 0, p, _ => (false, p, [])
  | m + 1, p, acc => if (rdL g n p).1 = true then (if n ≤ (rdL g n p).2.1 then (true, (rdL g n p).2.1, acc ++ [(rdL g n p).2.2]) else if ¬ sg g n (rdL g n p).2.1 = 59 then (false, (rdL g n p).2.1, []) else rdT g n m ((rdL g n p).2.1 + 1) (acc ++ [(rdL g n p).2.2])) else (false, (rdL g n p).2.1, [])
def okLn (p n : Nat) (r : Bool × Nat × Ln) : Prop := p ≤ r.2.1 ∧ r.2.1 ≤ n ∧ (r.1 = true → p < r.2.1 ∧ (lineX r.2.2).length + p ≤ r.2.1 + 1 ∧ r.2.2.1.length + r.2.2.2.length + p ≤ r.2.1 ∧ okL r.2.2)
theorem lineX_len (l : Ln) : (lineX l).length = (if l.1 = [] then 0 else l.1.length + 1) + l.2.length + 1 := by
  unfold lineX
  split <;> simp <;> omega
theorem dep_ne {l : List Stp0} (h : depS l 0 = some 1) : l ≠ [] := fun q => by rw [q, depS] at h; exact absurd h (by decide)
theorem rdL_p {g : Nat → Nat} {n p : Nat} (hp : p ≤ n) : okLn p n (rdL g n p) := by
  have w := pF_p (g := g) 42 0 0 p hp
  unfold rdL
  generalize pF g n 42 0 0 p = r at w ⊢
  obtain ⟨w1, w2, w3⟩ := w
  by_cases h1 : r.1 = true
  · obtain ⟨w4, w5, w6, w7⟩ := w3 h1
    have d1 : depS r.2.2 0 = some 1 := by
      have := w6 0 []
      rwa [List.append_nil, depS] at this
    rw [if_pos h1]
    by_cases h2 : sg g n r.2.1 = 63
    · rw [if_pos h2]
      have hq : r.2.1 < n := sg_lt (g := g) (by omega)
      have v := pF_p (g := g) 42 0 0 (r.2.1 + 1) hq
      generalize pF g n 42 0 0 (r.2.1 + 1) = r2 at v ⊢
      obtain ⟨v1, v2, v3⟩ := v
      by_cases h3 : r2.1 = true
      · rw [if_pos h3]
        obtain ⟨v4, v5, v6, v7⟩ := v3 h3
        have d2 : depS r2.2.2 0 = some 1 := by
          have := v6 0 []
          rwa [List.append_nil, depS] at this
        refine ⟨by show p ≤ r2.2.1; omega, v2, fun _ => ⟨by show p < r2.2.1; omega, ?_, by show r.2.2.length + r2.2.2.length + p ≤ r2.2.1; omega, Or.inr d1, d2, fun s hs => ?_⟩⟩
        · show (lineX (r.2.2, r2.2.2)).length + p ≤ r2.2.1 + 1
          rw [lineX_len, if_neg (dep_ne d1)]
          show r.2.2.length + 1 + r2.2.2.length + 1 + p ≤ _
          omega
        · rcases List.mem_append.mp hs with hs | hs
          · exact w7 s hs
          · exact v7 s hs
      · rw [if_neg h3]
        exact ⟨by show p ≤ r2.2.1; omega, v2, fun w => Bool.noConfusion w⟩
    · rw [if_neg h2]
      refine ⟨w1, w2, fun _ => ⟨w4, ?_, by show 0 + r.2.2.length + p ≤ r.2.1; omega, Or.inl rfl, d1, fun s hs => ?_⟩⟩
      · show (lineX ([], r.2.2)).length + p ≤ r.2.1 + 1
        rw [lineX_len, if_pos rfl]
        show 0 + r.2.2.length + 1 + p ≤ _
        omega
      · rcases List.mem_append.mp hs with hs | hs
        · exact absurd hs List.not_mem_nil
        · exact w7 s hs
  · rw [if_neg h1]
    exact ⟨w1, w2, fun w => Bool.noConfusion w⟩
