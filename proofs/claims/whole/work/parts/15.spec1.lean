theorem sp_M_within {z : ZS} {post : Option Value → List PE → Prop} {x y : XS} {v a b : Int32} (h : post (some (.int (b2i (a ≤ v ∧ v ≤ b)))) (E x y)) : PW (0, 0, 0, z) m_M_within post 0 [some (.int v), some (.int a), some (.int b)] [] (E x y) := by
  refine PW_iload_n c_M_within_0 rfl ?_
  refine PW_iload_n c_M_within_1 rfl ?_
  refine PW_icmp_lt c_M_within_2 (fun h0 => ?_) (fun h0 => ?_)
  · refine PW_iconst (v := 0) c_M_within_14 (by decide) ?_
    refine PW_ireturn (ty := .boolean) c_M_within_15 rfl (by decide +kernel) ?_
    first | (rw [b2i_t (by constructor <;> first | assumption | exact Int32.not_lt.mp (by assumption))] at h; exact h) | (rw [b2i_f (by rintro ⟨q1, q2⟩; first | exact absurd q2 (by assumption) | exact absurd (Int32.not_lt.mpr q1) (by simpa using (by assumption)) )] at h; exact h)
  · refine PW_iload_n c_M_within_5 rfl ?_
    refine PW_iload_n c_M_within_6 rfl ?_
    refine PW_icmp_gt c_M_within_7 (fun h1 => ?_) (fun h1 => ?_)
    · refine PW_iconst (v := 0) c_M_within_14 (by decide) ?_
      refine PW_ireturn (ty := .boolean) c_M_within_15 rfl (by decide +kernel) ?_
      first | (rw [b2i_t (by constructor <;> first | assumption | exact Int32.not_lt.mp (by assumption))] at h; exact h) | (rw [b2i_f (by rintro ⟨q1, q2⟩; first | exact absurd q2 (by assumption) | exact absurd (Int32.not_lt.mpr q1) (by simpa using (by assumption)) )] at h; exact h)
    · refine PW_iconst (v := 1) c_M_within_10 (by decide) ?_
      refine PW_goto c_M_within_11 ?_
      refine PW_ireturn (ty := .boolean) c_M_within_15 rfl (by decide +kernel) ?_
      first | (rw [b2i_t (by constructor <;> first | assumption | exact Int32.not_lt.mp (by assumption))] at h; exact h) | (rw [b2i_f (by rintro ⟨q1, q2⟩; first | exact absurd q2 (by assumption) | exact absurd (Int32.not_lt.mpr q1) (by simpa using (by assumption)) )] at h; exact h)
