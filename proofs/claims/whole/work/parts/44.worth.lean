/-! what a text is worth -/
def twF (s : Nat) (a b : Int32) : Int32 :=
  if s = 43 then a + b else if s = 45 then a - b else if s = 42 then a * b else if s = 47 then (if b = 0 then 0 else a / b)
  else if s = 37 then (if b = 0 then 0 else a - a / b * b) else if s = 60 then (if a < b then 1 else 0) else if s = 61 then (if a = b then 1 else 0)
  else if s = 62 then (if b < a then 1 else 0) else if s = 38 then (if ¬ a = 0 ∧ ¬ b = 0 then 1 else 0) else (if ¬ a = 0 ∨ ¬ b = 0 then 1 else 0)
def st1 (fc : Nat → Int32) (s : Stp0) (L : List Int32) : List Int32 :=
  if s.1 = 1 then s.2 :: L else if s.1 = 2 then fc s.2.toNatClampNeg :: L else match L with
  | [] => []
  | a :: t => if s.1 = 3 then (if a = 0 then 1 else 0) :: t else if s.1 = 4 then (-a) :: t else match t with
    | [] => []
    | b :: u => twF s.1 b a :: u
def evL (fc : Nat → Int32) : List Stp0 → List Int32 → List Int32
  | [], L => L
  | s :: t, L => evL fc t (st1 fc s L)
def hdv (L : List Int32) : Int32 := L.headD 0
def txV (fc : Nat → Int32) : Txt → Int32
  | [] => 0
  | l :: p => if l.1 = [] ∨ ¬ hdv (evL fc l.1 []) = 0 then hdv (evL fc l.2 []) else txV fc p
theorem dep_st1 {fc : Nat → Int32} {s : Stp0} {t : List Stp0} {L : List Int32} {e : Nat} (h : depS (s :: t) L.length = some e) : depS t (st1 fc s L).length = some e := by
  rw [depS] at h
  unfold st1
  by_cases h1 : s.1 = 1
  · rw [if_pos (Or.inl h1)] at h
    rw [if_pos h1]; exact h
  · by_cases h2 : s.1 = 2
    · rw [if_pos (Or.inr h2)] at h
      rw [if_neg h1, if_pos h2]; exact h
    · rw [if_neg (fun q => q.elim h1 h2)] at h
      rw [if_neg h1, if_neg h2]
      cases L with
      | nil =>
        by_cases h3 : s.1 = 3 ∨ s.1 = 4
        · rw [if_pos h3, if_pos (show ([] : List Int32).length = 0 from rfl)] at h; cases h
        · rw [if_neg h3, if_pos (by decide)] at h; cases h
      | cons a u =>
        by_cases h3 : s.1 = 3
        · rw [if_pos (Or.inl h3), if_neg (by simp)] at h
          simp only [if_pos h3]; exact h
        · by_cases h4 : s.1 = 4
          · rw [if_pos (Or.inr h4), if_neg (by simp)] at h
            simp only [if_neg h3, if_pos h4]; exact h
          · rw [if_neg (fun q => q.elim h3 h4)] at h
            cases u with
            | nil => rw [if_pos (show [a].length < 2 from Nat.lt_succ_self 1)] at h; cases h
            | cons b v =>
              rw [if_neg (by simp)] at h
              simp only [if_neg h3, if_neg h4]; exact h
theorem dep_len {fc : Nat → Int32} : ∀ (S : List Stp0) (L : List Int32) (e : Nat), depS S L.length = some e → (evL fc S L).length = e
  | [], L, e, h => by rw [depS] at h; rw [evL]; exact Option.some.inj h
  | s :: t, L, e, h => by rw [evL]; exact dep_len t _ e (dep_st1 h)
theorem st1_len (fc : Nat → Int32) (s : Stp0) (L : List Int32) : (st1 fc s L).length ≤ L.length + 1 := by
  unfold st1
  by_cases h1 : s.1 = 1
  · rw [if_pos h1]; exact Nat.le_refl _
  · by_cases h2 : s.1 = 2
    · rw [if_neg h1, if_pos h2]; exact Nat.le_refl _
    · rw [if_neg h1, if_neg h2]
      cases L with
      | nil => simp
      | cons a u =>
        by_cases h3 : s.1 = 3
        · simp [h3]
        · by_cases h4 : s.1 = 4
          · simp [h4]
          · cases u with
            | nil => simp [h3, h4]
            | cons b v => simp [h3, h4] <;> omega
/-- a row holds a pile, its top first in the list -/
def stk (f : Nat → Int32) : List Int32 → Prop
  | [] => True
  | a :: t => f t.length = a ∧ stk f t
theorem stk_up {f : Nat → Int32} {v : Int32} : ∀ (t : List Int32) (k : Nat), t.length ≤ k → stk f t → stk (upd f k v) t
  | [], _, _, _ => trivial
  | a :: t, k, h, q => ⟨by rw [upd_n (by rw [List.length_cons] at h; omega)]; exact q.1, stk_up t k (by rw [List.length_cons] at h; omega) q.2⟩
theorem stk_push {f : Nat → Int32} {v : Int32} {t : List Int32} (q : stk f t) : stk (upd f t.length v) (v :: t) := ⟨upd_s, stk_up t _ (Nat.le_refl _) q⟩
theorem stk_top {f : Nat → Int32} {L : List Int32} (q : stk f L) (h : L.length = 1) : f 0 = hdv L := by
  cases L with
  | nil => cases h
  | cons a t =>
    cases t with
    | nil => exact q.1
    | cons b u => simp at h
theorem sAsI (x : XS) (n : Nat) (v : Int32) (a : Nat) (f : Nat → Int32) : sA (sI x n v) a f = sI (sA x a f) n v := rfl
theorem pr0 (k : Nat) : nI (k + 1) - 1 + 1 = nI (k + 1) := by rw [pr1, nI_1]
theorem dv1 (a : Int32) : a / -1 = -a ∧ a - a / -1 * -1 = 0 := by
  have e : a / -1 = -a := Int32.toInt_inj.mp (by rw [Int32.toInt_div, show (-1 : Int32).toInt = -1 by decide, Int32.toInt_neg, Int.tdiv_neg, Int.tdiv_one])
  refine ⟨e, ?_⟩
  rw [e, Int32.neg_mul, Int32.mul_neg, Int32.mul_one, Int32.neg_neg, Int32.sub_self]
theorem sp_L_join_37 {z : ZS} {post : Option Value → List PE → Prop} {x y : XS} {a b : Int32} (h : post (some (.int (twF 37 a b))) (E x y)) : PW (0, 0, 0, z) m_L_join post 0 [some (.int 37), some (.int a), some (.int b)] [] (E x y) := by
  refine PW_iload_n c_L_join_0 rfl ?_
  refine PW_lookup (tgt := 177) c_L_join_1 (by decide) rfl rfl ?_
  refine PW_iload_n c_L_join_177 rfl ?_
  refine PW_if_ne c_L_join_178 (fun h0 => ?_) (fun h0 => ?_)
  · refine PW_iload_n c_L_join_185 rfl ?_
    refine PW_iload_n c_L_join_186 rfl ?_
    refine PW_irem c_L_join_187 h0 ?_
    refine PW_ireturn (ty := .int) c_L_join_188 rfl rfl ?_
    exact pqi h (by rw [show twF 37 a b = (if b = 0 then 0 else a - a / b * b) from rfl]; exact if_neg h0)
  · refine PW_iconst (v := 0) c_L_join_181 (by decide) ?_
    refine PW_goto c_L_join_182 ?_
    refine PW_ireturn (ty := .int) c_L_join_188 rfl rfl ?_
    exact pqi h (by rw [show twF 37 a b = (if b = 0 then 0 else a - a / b * b) from rfl]; exact if_pos h0)
theorem sp_L_join_38 {z : ZS} {post : Option Value → List PE → Prop} {x y : XS} {a b : Int32} (h : post (some (.int (twF 38 a b))) (E x y)) : PW (0, 0, 0, z) m_L_join post 0 [some (.int 38), some (.int a), some (.int b)] [] (E x y) := by
  refine PW_iload_n c_L_join_0 rfl ?_
  refine PW_lookup (tgt := 106) c_L_join_1 (by decide) rfl rfl ?_
  refine PW_iload_n c_L_join_106 rfl ?_
  refine PW_if_eq c_L_join_107 (fun h0 => ?_) (fun h0 => ?_)
  · refine PW_iconst (v := 0) c_L_join_118 (by decide) ?_
    refine PW_ireturn (ty := .int) c_L_join_119 rfl rfl ?_
    exact pqi h (by rw [show twF 38 a b = (if ¬ a = 0 ∧ ¬ b = 0 then 1 else 0) from rfl]; exact if_neg (by simp [h0]))
  · refine PW_iload_n c_L_join_110 rfl ?_
    refine PW_if_eq c_L_join_111 (fun h1 => ?_) (fun h1 => ?_)
    · refine PW_iconst (v := 0) c_L_join_118 (by decide) ?_
      refine PW_ireturn (ty := .int) c_L_join_119 rfl rfl ?_
      exact pqi h (by rw [show twF 38 a b = (if ¬ a = 0 ∧ ¬ b = 0 then 1 else 0) from rfl]; exact if_neg (by simp [h0, h1]))
    · refine PW_iconst (v := 1) c_L_join_114 (by decide) ?_
      refine PW_goto c_L_join_115 ?_
      refine PW_ireturn (ty := .int) c_L_join_119 rfl rfl ?_
      exact pqi h (by rw [show twF 38 a b = (if ¬ a = 0 ∧ ¬ b = 0 then 1 else 0) from rfl]; exact if_pos (by simp [h0, h1]))
theorem sp_L_join_42 {z : ZS} {post : Option Value → List PE → Prop} {x y : XS} {a b : Int32} (h : post (some (.int (twF 42 a b))) (E x y)) : PW (0, 0, 0, z) m_L_join post 0 [some (.int 42), some (.int a), some (.int b)] [] (E x y) := by
  refine PW_iload_n c_L_join_0 rfl ?_
  refine PW_lookup (tgt := 161) c_L_join_1 (by decide) rfl rfl ?_
  refine PW_iload_n c_L_join_161 rfl ?_
  refine PW_iload_n c_L_join_162 rfl ?_
  refine PW_imul c_L_join_163 ?_
  refine PW_ireturn (ty := .int) c_L_join_164 rfl rfl ?_
  exact h
theorem sp_L_join_43 {z : ZS} {post : Option Value → List PE → Prop} {x y : XS} {a b : Int32} (h : post (some (.int (twF 43 a b))) (E x y)) : PW (0, 0, 0, z) m_L_join post 0 [some (.int 43), some (.int a), some (.int b)] [] (E x y) := by
  refine PW_iload_n c_L_join_0 rfl ?_
  refine PW_lookup (tgt := 153) c_L_join_1 (by decide) rfl rfl ?_
  refine PW_iload_n c_L_join_153 rfl ?_
  refine PW_iload_n c_L_join_154 rfl ?_
  refine PW_iadd c_L_join_155 ?_
  refine PW_ireturn (ty := .int) c_L_join_156 rfl rfl ?_
  exact h
theorem sp_L_join_45 {z : ZS} {post : Option Value → List PE → Prop} {x y : XS} {a b : Int32} (h : post (some (.int (twF 45 a b))) (E x y)) : PW (0, 0, 0, z) m_L_join post 0 [some (.int 45), some (.int a), some (.int b)] [] (E x y) := by
  refine PW_iload_n c_L_join_0 rfl ?_
  refine PW_lookup (tgt := 157) c_L_join_1 (by decide) rfl rfl ?_
  refine PW_iload_n c_L_join_157 rfl ?_
  refine PW_iload_n c_L_join_158 rfl ?_
  refine PW_isub c_L_join_159 ?_
  refine PW_ireturn (ty := .int) c_L_join_160 rfl rfl ?_
  exact h
theorem sp_L_join_47 {z : ZS} {post : Option Value → List PE → Prop} {x y : XS} {a b : Int32} (h : post (some (.int (twF 47 a b))) (E x y)) : PW (0, 0, 0, z) m_L_join post 0 [some (.int 47), some (.int a), some (.int b)] [] (E x y) := by
  refine PW_iload_n c_L_join_0 rfl ?_
  refine PW_lookup (tgt := 165) c_L_join_1 (by decide) rfl rfl ?_
  refine PW_iload_n c_L_join_165 rfl ?_
  refine PW_if_ne c_L_join_166 (fun h0 => ?_) (fun h0 => ?_)
  · refine PW_iload_n c_L_join_173 rfl ?_
    refine PW_iload_n c_L_join_174 rfl ?_
    refine PW_idiv c_L_join_175 h0 ?_
    refine PW_ireturn (ty := .int) c_L_join_176 rfl rfl ?_
    exact pqi h (by rw [show twF 47 a b = (if b = 0 then 0 else a / b) from rfl]; exact if_neg h0)
  · refine PW_iconst (v := 0) c_L_join_169 (by decide) ?_
    refine PW_goto c_L_join_170 ?_
    refine PW_ireturn (ty := .int) c_L_join_176 rfl rfl ?_
    exact pqi h (by rw [show twF 47 a b = (if b = 0 then 0 else a / b) from rfl]; exact if_pos h0)
theorem sp_L_join_60 {z : ZS} {post : Option Value → List PE → Prop} {x y : XS} {a b : Int32} (h : post (some (.int (twF 60 a b))) (E x y)) : PW (0, 0, 0, z) m_L_join post 0 [some (.int 60), some (.int a), some (.int b)] [] (E x y) := by
  refine PW_iload_n c_L_join_0 rfl ?_
  refine PW_lookup (tgt := 120) c_L_join_1 (by decide) rfl rfl ?_
  refine PW_iload_n c_L_join_120 rfl ?_
  refine PW_iload_n c_L_join_121 rfl ?_
  refine PW_icmp_ge c_L_join_122 (fun h0 => ?_) (fun h0 => ?_)
  · refine PW_iconst (v := 0) c_L_join_129 (by decide) ?_
    refine PW_ireturn (ty := .int) c_L_join_130 rfl rfl ?_
    exact pqi h (by rw [show twF 60 a b = (if a < b then 1 else 0) from rfl]; exact if_neg (Int32.not_lt.mpr h0))
  · refine PW_iconst (v := 1) c_L_join_125 (by decide) ?_
    refine PW_goto c_L_join_126 ?_
    refine PW_ireturn (ty := .int) c_L_join_130 rfl rfl ?_
    exact pqi h (by rw [show twF 60 a b = (if a < b then 1 else 0) from rfl]; exact if_pos (Int32.not_le.mp h0))
theorem sp_L_join_61 {z : ZS} {post : Option Value → List PE → Prop} {x y : XS} {a b : Int32} (h : post (some (.int (twF 61 a b))) (E x y)) : PW (0, 0, 0, z) m_L_join post 0 [some (.int 61), some (.int a), some (.int b)] [] (E x y) := by
  refine PW_iload_n c_L_join_0 rfl ?_
  refine PW_lookup (tgt := 131) c_L_join_1 (by decide) rfl rfl ?_
  refine PW_iload_n c_L_join_131 rfl ?_
  refine PW_iload_n c_L_join_132 rfl ?_
  refine PW_icmp_ne c_L_join_133 (fun h0 => ?_) (fun h0 => ?_)
  · refine PW_iconst (v := 0) c_L_join_140 (by decide) ?_
    refine PW_ireturn (ty := .int) c_L_join_141 rfl rfl ?_
    exact pqi h (by rw [show twF 61 a b = (if a = b then 1 else 0) from rfl]; exact if_neg h0)
  · refine PW_iconst (v := 1) c_L_join_136 (by decide) ?_
    refine PW_goto c_L_join_137 ?_
    refine PW_ireturn (ty := .int) c_L_join_141 rfl rfl ?_
    exact pqi h (by rw [show twF 61 a b = (if a = b then 1 else 0) from rfl]; exact if_pos h0)
theorem sp_L_join_62 {z : ZS} {post : Option Value → List PE → Prop} {x y : XS} {a b : Int32} (h : post (some (.int (twF 62 a b))) (E x y)) : PW (0, 0, 0, z) m_L_join post 0 [some (.int 62), some (.int a), some (.int b)] [] (E x y) := by
  refine PW_iload_n c_L_join_0 rfl ?_
  refine PW_lookup (tgt := 142) c_L_join_1 (by decide) rfl rfl ?_
  refine PW_iload_n c_L_join_142 rfl ?_
  refine PW_iload_n c_L_join_143 rfl ?_
  refine PW_icmp_le c_L_join_144 (fun h0 => ?_) (fun h0 => ?_)
  · refine PW_iconst (v := 0) c_L_join_151 (by decide) ?_
    refine PW_ireturn (ty := .int) c_L_join_152 rfl rfl ?_
    exact pqi h (by rw [show twF 62 a b = (if b < a then 1 else 0) from rfl]; exact if_neg (Int32.not_lt.mpr h0))
  · refine PW_iconst (v := 1) c_L_join_147 (by decide) ?_
    refine PW_goto c_L_join_148 ?_
    refine PW_ireturn (ty := .int) c_L_join_152 rfl rfl ?_
    exact pqi h (by rw [show twF 62 a b = (if b < a then 1 else 0) from rfl]; exact if_pos (Int32.not_le.mp h0))
theorem sp_L_join_124 {z : ZS} {post : Option Value → List PE → Prop} {x y : XS} {a b : Int32} (h : post (some (.int (twF 124 a b))) (E x y)) : PW (0, 0, 0, z) m_L_join post 0 [some (.int 124), some (.int a), some (.int b)] [] (E x y) := by
  refine PW_iload_n c_L_join_0 rfl ?_
  refine PW_lookup (tgt := 92) c_L_join_1 (by decide) rfl rfl ?_
  refine PW_iload_n c_L_join_92 rfl ?_
  refine PW_if_ne c_L_join_93 (fun h0 => ?_) (fun h0 => ?_)
  · refine PW_iconst (v := 1) c_L_join_100 (by decide) ?_
    refine PW_goto c_L_join_101 ?_
    refine PW_ireturn (ty := .int) c_L_join_105 rfl rfl ?_
    exact pqi h (by rw [show twF 124 a b = (if ¬ a = 0 ∨ ¬ b = 0 then 1 else 0) from rfl]; exact if_pos (by simp [h0]))
  · refine PW_iload_n c_L_join_96 rfl ?_
    refine PW_if_eq c_L_join_97 (fun h1 => ?_) (fun h1 => ?_)
    · refine PW_iconst (v := 0) c_L_join_104 (by decide) ?_
      refine PW_ireturn (ty := .int) c_L_join_105 rfl rfl ?_
      exact pqi h (by rw [show twF 124 a b = (if ¬ a = 0 ∨ ¬ b = 0 then 1 else 0) from rfl]; exact if_neg (by simp [h0, h1]))
    · refine PW_iconst (v := 1) c_L_join_100 (by decide) ?_
      refine PW_goto c_L_join_101 ?_
      refine PW_ireturn (ty := .int) c_L_join_105 rfl rfl ?_
      exact pqi h (by rw [show twF 124 a b = (if ¬ a = 0 ∨ ¬ b = 0 then 1 else 0) from rfl]; exact if_pos (by simp [h0, h1]))
theorem sp_M_twoOf_37 {z : ZS} {post : Option Value → List PE → Prop} {x y : XS} {a b : Int32} (h : post (some (.int (twF 37 a b))) (E x y)) : PW (0, 0, 0, z) m_M_twoOf post 0 [some (.int 37), some (.int a), some (.int b)] [] (E x y) := by
  refine PW_iload_n c_M_twoOf_0 rfl ?_
  refine PW_tableIn (tgt := 154) c_M_twoOf_1 (by decide) (by decide) rfl rfl ?_
  refine PW_iload_n c_M_twoOf_154 rfl ?_
  refine PW_if_eq c_M_twoOf_155 (fun h0 => ?_) (fun h0 => ?_)
  · refine PW_iconst (v := 0) c_M_twoOf_163 (by decide) ?_
    refine PW_goto c_M_twoOf_164 ?_
    refine PW_ireturn (ty := .int) c_M_twoOf_170 rfl rfl ?_
    exact pqi h (by rw [show twF 37 a b = (if b = 0 then 0 else a - a / b * b) from rfl]; exact if_pos h0)
  · refine PW_iload_n c_M_twoOf_158 rfl ?_
    refine PW_iconst (v := -1) c_M_twoOf_159 (by decide) ?_
    refine PW_icmp_ne c_M_twoOf_160 (fun h1 => ?_) (fun h1 => ?_)
    · refine PW_iload_n c_M_twoOf_167 rfl ?_
      refine PW_iload_n c_M_twoOf_168 rfl ?_
      refine PW_irem c_M_twoOf_169 h0 ?_
      refine PW_ireturn (ty := .int) c_M_twoOf_170 rfl rfl ?_
      exact pqi h (by rw [show twF 37 a b = (if b = 0 then 0 else a - a / b * b) from rfl]; exact if_neg h0)
    · refine PW_iconst (v := 0) c_M_twoOf_163 (by decide) ?_
      refine PW_goto c_M_twoOf_164 ?_
      refine PW_ireturn (ty := .int) c_M_twoOf_170 rfl rfl ?_
      exact pqi h (by show (if b = 0 then 0 else a - a / b * b) = _; rw [if_neg h0, h1]; exact (dv1 a).2)
theorem sp_M_twoOf_38 {z : ZS} {post : Option Value → List PE → Prop} {x y : XS} {a b : Int32} (h : post (some (.int (twF 38 a b))) (E x y)) : PW (0, 0, 0, z) m_M_twoOf post 0 [some (.int 38), some (.int a), some (.int b)] [] (E x y) := by
  refine PW_iload_n c_M_twoOf_0 rfl ?_
  refine PW_tableIn (tgt := 204) c_M_twoOf_1 (by decide) (by decide) rfl rfl ?_
  refine PW_iload_n c_M_twoOf_204 rfl ?_
  refine PW_if_eq c_M_twoOf_205 (fun h0 => ?_) (fun h0 => ?_)
  · refine PW_iconst (v := 0) c_M_twoOf_216 (by decide) ?_
    refine PW_ireturn (ty := .int) c_M_twoOf_217 rfl rfl ?_
    exact pqi h (by rw [show twF 38 a b = (if ¬ a = 0 ∧ ¬ b = 0 then 1 else 0) from rfl]; exact if_neg (by simp [h0]))
  · refine PW_iload_n c_M_twoOf_208 rfl ?_
    refine PW_if_eq c_M_twoOf_209 (fun h1 => ?_) (fun h1 => ?_)
    · refine PW_iconst (v := 0) c_M_twoOf_216 (by decide) ?_
      refine PW_ireturn (ty := .int) c_M_twoOf_217 rfl rfl ?_
      exact pqi h (by rw [show twF 38 a b = (if ¬ a = 0 ∧ ¬ b = 0 then 1 else 0) from rfl]; exact if_neg (by simp [h0, h1]))
    · refine PW_iconst (v := 1) c_M_twoOf_212 (by decide) ?_
      refine PW_goto c_M_twoOf_213 ?_
      refine PW_ireturn (ty := .int) c_M_twoOf_217 rfl rfl ?_
      exact pqi h (by rw [show twF 38 a b = (if ¬ a = 0 ∧ ¬ b = 0 then 1 else 0) from rfl]; exact if_pos (by simp [h0, h1]))
theorem sp_M_twoOf_42 {z : ZS} {post : Option Value → List PE → Prop} {x y : XS} {a b : Int32} (h : post (some (.int (twF 42 a b))) (E x y)) : PW (0, 0, 0, z) m_M_twoOf post 0 [some (.int 42), some (.int a), some (.int b)] [] (E x y) := by
  refine PW_iload_n c_M_twoOf_0 rfl ?_
  refine PW_tableIn (tgt := 128) c_M_twoOf_1 (by decide) (by decide) rfl rfl ?_
  refine PW_iload_n c_M_twoOf_128 rfl ?_
  refine PW_iload_n c_M_twoOf_129 rfl ?_
  refine PW_imul c_M_twoOf_130 ?_
  refine PW_ireturn (ty := .int) c_M_twoOf_131 rfl rfl ?_
  exact h
theorem sp_M_twoOf_43 {z : ZS} {post : Option Value → List PE → Prop} {x y : XS} {a b : Int32} (h : post (some (.int (twF 43 a b))) (E x y)) : PW (0, 0, 0, z) m_M_twoOf post 0 [some (.int 43), some (.int a), some (.int b)] [] (E x y) := by
  refine PW_iload_n c_M_twoOf_0 rfl ?_
  refine PW_tableIn (tgt := 120) c_M_twoOf_1 (by decide) (by decide) rfl rfl ?_
  refine PW_iload_n c_M_twoOf_120 rfl ?_
  refine PW_iload_n c_M_twoOf_121 rfl ?_
  refine PW_iadd c_M_twoOf_122 ?_
  refine PW_ireturn (ty := .int) c_M_twoOf_123 rfl rfl ?_
  exact h
theorem sp_M_twoOf_45 {z : ZS} {post : Option Value → List PE → Prop} {x y : XS} {a b : Int32} (h : post (some (.int (twF 45 a b))) (E x y)) : PW (0, 0, 0, z) m_M_twoOf post 0 [some (.int 45), some (.int a), some (.int b)] [] (E x y) := by
  refine PW_iload_n c_M_twoOf_0 rfl ?_
  refine PW_tableIn (tgt := 124) c_M_twoOf_1 (by decide) (by decide) rfl rfl ?_
  refine PW_iload_n c_M_twoOf_124 rfl ?_
  refine PW_iload_n c_M_twoOf_125 rfl ?_
  refine PW_isub c_M_twoOf_126 ?_
  refine PW_ireturn (ty := .int) c_M_twoOf_127 rfl rfl ?_
  exact h
theorem sp_M_twoOf_47 {z : ZS} {post : Option Value → List PE → Prop} {x y : XS} {a b : Int32} (h : post (some (.int (twF 47 a b))) (E x y)) : PW (0, 0, 0, z) m_M_twoOf post 0 [some (.int 47), some (.int a), some (.int b)] [] (E x y) := by
  refine PW_iload_n c_M_twoOf_0 rfl ?_
  refine PW_tableIn (tgt := 132) c_M_twoOf_1 (by decide) (by decide) rfl rfl ?_
  refine PW_iload_n c_M_twoOf_132 rfl ?_
  refine PW_if_ne c_M_twoOf_133 (fun h0 => ?_) (fun h0 => ?_)
  · refine PW_iload_n c_M_twoOf_140 rfl ?_
    refine PW_iconst (v := -1) c_M_twoOf_141 (by decide) ?_
    refine PW_icmp_ne c_M_twoOf_142 (fun h1 => ?_) (fun h1 => ?_)
    · refine PW_iload_n c_M_twoOf_150 rfl ?_
      refine PW_iload_n c_M_twoOf_151 rfl ?_
      refine PW_idiv c_M_twoOf_152 h0 ?_
      refine PW_ireturn (ty := .int) c_M_twoOf_153 rfl rfl ?_
      exact pqi h (by rw [show twF 47 a b = (if b = 0 then 0 else a / b) from rfl]; exact if_neg h0)
    · refine PW_iload_n c_M_twoOf_145 rfl ?_
      refine PW_ineg c_M_twoOf_146 ?_
      refine PW_goto c_M_twoOf_147 ?_
      refine PW_ireturn (ty := .int) c_M_twoOf_153 rfl rfl ?_
      exact pqi h (by show (if b = 0 then 0 else a / b) = _; rw [if_neg h0, h1]; exact (dv1 a).1)
  · refine PW_iconst (v := 0) c_M_twoOf_136 (by decide) ?_
    refine PW_goto c_M_twoOf_137 ?_
    refine PW_ireturn (ty := .int) c_M_twoOf_153 rfl rfl ?_
    exact pqi h (by rw [show twF 47 a b = (if b = 0 then 0 else a / b) from rfl]; exact if_pos h0)
theorem sp_M_twoOf_60 {z : ZS} {post : Option Value → List PE → Prop} {x y : XS} {a b : Int32} (h : post (some (.int (twF 60 a b))) (E x y)) : PW (0, 0, 0, z) m_M_twoOf post 0 [some (.int 60), some (.int a), some (.int b)] [] (E x y) := by
  refine PW_iload_n c_M_twoOf_0 rfl ?_
  refine PW_tableIn (tgt := 171) c_M_twoOf_1 (by decide) (by decide) rfl rfl ?_
  refine PW_iload_n c_M_twoOf_171 rfl ?_
  refine PW_iload_n c_M_twoOf_172 rfl ?_
  refine PW_icmp_ge c_M_twoOf_173 (fun h0 => ?_) (fun h0 => ?_)
  · refine PW_iconst (v := 0) c_M_twoOf_180 (by decide) ?_
    refine PW_ireturn (ty := .int) c_M_twoOf_181 rfl rfl ?_
    exact pqi h (by rw [show twF 60 a b = (if a < b then 1 else 0) from rfl]; exact if_neg (Int32.not_lt.mpr h0))
  · refine PW_iconst (v := 1) c_M_twoOf_176 (by decide) ?_
    refine PW_goto c_M_twoOf_177 ?_
    refine PW_ireturn (ty := .int) c_M_twoOf_181 rfl rfl ?_
    exact pqi h (by rw [show twF 60 a b = (if a < b then 1 else 0) from rfl]; exact if_pos (Int32.not_le.mp h0))
theorem sp_M_twoOf_61 {z : ZS} {post : Option Value → List PE → Prop} {x y : XS} {a b : Int32} (h : post (some (.int (twF 61 a b))) (E x y)) : PW (0, 0, 0, z) m_M_twoOf post 0 [some (.int 61), some (.int a), some (.int b)] [] (E x y) := by
  refine PW_iload_n c_M_twoOf_0 rfl ?_
  refine PW_tableIn (tgt := 182) c_M_twoOf_1 (by decide) (by decide) rfl rfl ?_
  refine PW_iload_n c_M_twoOf_182 rfl ?_
  refine PW_iload_n c_M_twoOf_183 rfl ?_
  refine PW_icmp_ne c_M_twoOf_184 (fun h0 => ?_) (fun h0 => ?_)
  · refine PW_iconst (v := 0) c_M_twoOf_191 (by decide) ?_
    refine PW_ireturn (ty := .int) c_M_twoOf_192 rfl rfl ?_
    exact pqi h (by rw [show twF 61 a b = (if a = b then 1 else 0) from rfl]; exact if_neg h0)
  · refine PW_iconst (v := 1) c_M_twoOf_187 (by decide) ?_
    refine PW_goto c_M_twoOf_188 ?_
    refine PW_ireturn (ty := .int) c_M_twoOf_192 rfl rfl ?_
    exact pqi h (by rw [show twF 61 a b = (if a = b then 1 else 0) from rfl]; exact if_pos h0)
theorem sp_M_twoOf_62 {z : ZS} {post : Option Value → List PE → Prop} {x y : XS} {a b : Int32} (h : post (some (.int (twF 62 a b))) (E x y)) : PW (0, 0, 0, z) m_M_twoOf post 0 [some (.int 62), some (.int a), some (.int b)] [] (E x y) := by
  refine PW_iload_n c_M_twoOf_0 rfl ?_
  refine PW_tableIn (tgt := 193) c_M_twoOf_1 (by decide) (by decide) rfl rfl ?_
  refine PW_iload_n c_M_twoOf_193 rfl ?_
  refine PW_iload_n c_M_twoOf_194 rfl ?_
  refine PW_icmp_le c_M_twoOf_195 (fun h0 => ?_) (fun h0 => ?_)
  · refine PW_iconst (v := 0) c_M_twoOf_202 (by decide) ?_
    refine PW_ireturn (ty := .int) c_M_twoOf_203 rfl rfl ?_
    exact pqi h (by rw [show twF 62 a b = (if b < a then 1 else 0) from rfl]; exact if_neg (Int32.not_lt.mpr h0))
  · refine PW_iconst (v := 1) c_M_twoOf_198 (by decide) ?_
    refine PW_goto c_M_twoOf_199 ?_
    refine PW_ireturn (ty := .int) c_M_twoOf_203 rfl rfl ?_
    exact pqi h (by rw [show twF 62 a b = (if b < a then 1 else 0) from rfl]; exact if_pos (Int32.not_le.mp h0))
theorem sp_M_twoOf_124 {z : ZS} {post : Option Value → List PE → Prop} {x y : XS} {a b : Int32} (h : post (some (.int (twF 124 a b))) (E x y)) : PW (0, 0, 0, z) m_M_twoOf post 0 [some (.int 124), some (.int a), some (.int b)] [] (E x y) := by
  refine PW_iload_n c_M_twoOf_0 rfl ?_
  refine PW_tableOut (tgt := 218) c_M_twoOf_1 (by decide) rfl ?_
  refine PW_iload_n c_M_twoOf_218 rfl ?_
  refine PW_if_ne c_M_twoOf_219 (fun h0 => ?_) (fun h0 => ?_)
  · refine PW_iconst (v := 1) c_M_twoOf_226 (by decide) ?_
    refine PW_goto c_M_twoOf_227 ?_
    refine PW_ireturn (ty := .int) c_M_twoOf_231 rfl rfl ?_
    exact pqi h (by rw [show twF 124 a b = (if ¬ a = 0 ∨ ¬ b = 0 then 1 else 0) from rfl]; exact if_pos (by simp [h0]))
  · refine PW_iload_n c_M_twoOf_222 rfl ?_
    refine PW_if_eq c_M_twoOf_223 (fun h1 => ?_) (fun h1 => ?_)
    · refine PW_iconst (v := 0) c_M_twoOf_230 (by decide) ?_
      refine PW_ireturn (ty := .int) c_M_twoOf_231 rfl rfl ?_
      exact pqi h (by rw [show twF 124 a b = (if ¬ a = 0 ∨ ¬ b = 0 then 1 else 0) from rfl]; exact if_neg (by simp [h0, h1]))
    · refine PW_iconst (v := 1) c_M_twoOf_226 (by decide) ?_
      refine PW_goto c_M_twoOf_227 ?_
      refine PW_ireturn (ty := .int) c_M_twoOf_231 rfl rfl ?_
      exact pqi h (by rw [show twF 124 a b = (if ¬ a = 0 ∨ ¬ b = 0 then 1 else 0) from rfl]; exact if_pos (by simp [h0, h1]))
