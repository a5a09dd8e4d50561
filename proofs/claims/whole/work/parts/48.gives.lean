/-! the reference's lines -/
def atM (y : XS) (k : Nat) (S : List Stp0) : Prop := ∀ (i : Nat) (s : Stp0), S[i]? = some s → y.2.1 84 (k + i) = nI s.1 ∧ y.2.1 85 (k + i) = s.2
theorem atM_app {y : XS} {k : Nat} {A B : List Stp0} (h : atM y k (A ++ B)) : atM y k A ∧ atM y (k + A.length) B := by
  refine ⟨fun i s hs => h i s ?_, fun i s hs => ?_⟩
  · rw [List.getElem?_append_left (List.getElem?_eq_some_iff.mp hs).1]; exact hs
  · rw [Nat.add_assoc]
    exact h (A.length + i) s (by rw [List.getElem?_append_right (by omega), Nat.add_sub_cancel_left]; exact hs)
theorem atM_cons {y : XS} {k : Nat} {s : Stp0} {t : List Stp0} (h : atM y k (s :: t)) : (y.2.1 84 k = nI s.1 ∧ y.2.1 85 k = s.2) ∧ atM y (k + 1) t := by
  refine ⟨h 0 s rfl, fun i r hr => ?_⟩
  rw [Nat.add_assoc, Nat.add_comm 1 i]
  exact h (i + 1) r hr
theorem dep_need : ∀ (S : List Stp0) (n e : Nat), depS S n = some e → n ≤ S.length + e
  | [], n, e, h => by rw [depS] at h; have := Option.some.inj h; omega
  | s :: t, n, e, h => by
    rw [depS] at h
    rw [List.length_cons]
    by_cases h1 : s.1 = 1 ∨ s.1 = 2
    · rw [if_pos h1] at h; have := dep_need t _ e h; omega
    · rw [if_neg h1] at h
      by_cases h2 : s.1 = 3 ∨ s.1 = 4
      · rw [if_pos h2] at h
        by_cases h3 : n = 0
        · rw [if_pos h3] at h; cases h
        · rw [if_neg h3] at h; have := dep_need t _ e h; omega
      · rw [if_neg h2] at h
        by_cases h3 : n < 2
        · rw [if_pos h3] at h; cases h
        · rw [if_neg h3] at h; have := dep_need t _ e h; omega
theorem sp_mstep {y : XS} {fc : Nat → Int32} {a0 : Int32} {Ed k : Nat} (hfc : ∀ i, i < 5 → y.2.1 89 i = fc i) (hEd : Ed ≤ 130) (hk : k < Ed) {a : Nat} {v : Int32} {t : List Stp0} {e : Nat} {L : List Int32} {f : Nat → Int32} (h84 : y.2.1 84 k = nI a) (h85 : y.2.1 85 k = v) (hok : okS (a, v)) (hd : depS ((a, v) :: t) L.length = some e) (hL : L.length < 110) (hs : stk f L) : ∃ f' : Nat → Int32, stk f' (st1 fc (a, v) L) ∧ ∀ {x : XS} {z : ZS} {post : Option Value → List PE → Prop} {l6 : Option Value}, (∀ l6' : Option Value, PW (1, 0, 0, z) m_M_worked post 12 [some (.ref 70), some (.int 0), some (.int a0), some (.int (nI Ed)), some (.int (nI (st1 fc (a, v) L).length)), some (.int (nI (k + 1))), l6'] [] (E x (sA y 90 (f')))) → PW (1, 0, 0, z) m_M_worked post 12 [some (.ref 70), some (.int 0), some (.int a0), some (.int (nI Ed)), some (.int (nI L.length)), some (.int (nI k)), l6] [] (E x (sA y 90 f)) := by
  rw [depS] at hd
  rcases hok with h1 | ⟨h1, h2, h3⟩ | h1 | h1 | h1
  · have h1 : a = 1 := h1
    subst h1
    exact ⟨_, stk_push (v := v) hs, fun {x z post l6} h => sp_m1 hEd hk (by omega) h84 h85 h⟩
  · have h1 : a = 2 := h1
    subst h1
    have h2 : 0 ≤ v.toInt := h2
    have h3 : v.toInt < 5 := h3
    refine ⟨upd f L.length (fc v.toNatClampNeg), stk_push hs, fun {x z post l6} h => sp_m2 hEd hk (by omega) h84 h85 ⟨h2, h3⟩ ?_⟩
    rw [hfc v.toNatClampNeg (by show v.toInt.toNat < 5; omega)]
    exact h
  · have h1 : a = 3 := h1
    subst h1
    rw [if_neg (show ¬ (3 = 1 ∨ 3 = 2) by decide), if_pos (Or.inl rfl)] at hd
    cases L with
    | nil => rw [if_pos (show ([] : List Int32).length = 0 from rfl)] at hd; cases hd
    | cons b u =>
      refine ⟨upd f u.length (if f u.length = 0 then 1 else 0), ?_, fun {x z post l6} h => sp_m3 hEd hk (by rw [List.length_cons] at hL; omega) h84 h85 h⟩
      rw [hs.1]
      exact stk_push hs.2
  · have h1 : a = 4 := h1
    subst h1
    rw [if_neg (show ¬ (4 = 1 ∨ 4 = 2) by decide), if_pos (Or.inr rfl)] at hd
    cases L with
    | nil => rw [if_pos (show ([] : List Int32).length = 0 from rfl)] at hd; cases hd
    | cons b u =>
      refine ⟨upd f u.length (-(f u.length)), ?_, fun {x z post l6} h => sp_m4 hEd hk (by rw [List.length_cons] at hL; omega) h84 h85 h⟩
      rw [hs.1]
      exact stk_push hs.2
  · have hb := okS_bin h1
    obtain ⟨n1, n2, n3, n4⟩ := bin_ne hb
    rw [if_neg (fun q => q.elim n1 n2), if_neg (fun q => q.elim n3 n4)] at hd
    cases L with
    | nil => rw [if_pos (show ([] : List Int32).length < 2 by decide)] at hd; cases hd
    | cons b u =>
      cases u with
      | nil => rw [if_pos (show [b].length < 2 from Nat.lt_succ_self 1)] at hd; cases hd
      | cons c w =>
        have e1 : st1 fc (a, v) (b :: c :: w) = twF a c b :: w := by
          unfold st1
          rw [if_neg n1, if_neg n2]
          simp only [if_neg n3, if_neg n4]
        refine ⟨upd f w.length (twF a (f w.length) (f (w.length + 1))), ?_, fun {x z post l6} h => sp_mb hb hEd hk (by rw [List.length_cons, List.length_cons] at hL; omega) h84 h85 ?_⟩
        · rw [e1, hs.2.1, show f (w.length + 1) = b from hs.1]
          exact stk_push hs.2.2
        · rw [e1] at h
          exact h
theorem M_seg {y : XS} {fc : Nat → Int32} {a0 : Int32} {Ed : Nat} (hfc : ∀ i, i < 5 → y.2.1 89 i = fc i) (hEd : Ed ≤ 130) : ∀ (S : List Stp0) (k : Nat) (L : List Int32) (f : Nat → Int32), atM y k S → (∀ s ∈ S, okS s) → depS S L.length = some 1 → L.length + S.length ≤ 130 → k + S.length ≤ Ed → stk f L → ∃ f' : Nat → Int32, stk f' (evL fc S L) ∧ ∀ {x : XS} {z : ZS} {post : Option Value → List PE → Prop} {l6 : Option Value}, (∀ l6' : Option Value, PW (1, 0, 0, z) m_M_worked post 12 [some (.ref 70), some (.int 0), some (.int a0), some (.int (nI Ed)), some (.int (nI (evL fc S L).length)), some (.int (nI (k + S.length))), l6'] [] (E x (sA y 90 (f')))) → PW (1, 0, 0, z) m_M_worked post 12 [some (.ref 70), some (.int 0), some (.int a0), some (.int (nI Ed)), some (.int (nI L.length)), some (.int (nI k)), l6] [] (E x (sA y 90 f))
  | [], k, L, f, _, _, _, _, _, hs => ⟨f, hs, fun {x z post l6} h => h l6⟩
  | (a, v) :: t, k, L, f, hat, hok, hd, hL, hkE, hs => by
    have hneed := dep_need _ _ _ hd
    rw [List.length_cons] at hL hkE hneed
    obtain ⟨⟨h84, h85⟩, hat2⟩ := atM_cons hat
    obtain ⟨f1, hs1, H1⟩ := sp_mstep (a0 := a0) (Ed := Ed) (k := k) hfc hEd (by omega) h84 h85 (hok _ List.mem_cons_self) hd (by omega) hs
    obtain ⟨f', hs', H2⟩ := M_seg (a0 := a0) hfc hEd t (k + 1) _ f1 hat2 (fun s q => hok s (List.mem_cons_of_mem _ q)) (dep_st1 hd) (by have := st1_len fc (a, v) L; omega) (by omega) hs1
    refine ⟨f', hs', fun {x z post l6} h => H1 (l6 := l6) (fun l6' => H2 (l6 := l6') (fun l7 => ?_))⟩
    have q := h l7
    rw [List.length_cons, show k + (t.length + 1) = k + 1 + t.length by omega] at q
    exact q
theorem sp_M_worked {y : XS} {fc : Nat → Int32} {A Ed : Nat} {S : List Stp0} (hfc : ∀ i, i < 5 → y.2.1 89 i = fc i) (hEd : Ed ≤ 130) (hAE : A + S.length = Ed) (hat : atM y A S) (hok : ∀ s ∈ S, okS s) (hd : depS S 0 = some 1) (f : Nat → Int32) : ∃ f' : Nat → Int32, ∀ {x : XS} {z : ZS} {post : Option Value → List PE → Prop}, post (some (.int (hdv (evL fc S [])))) (E x (sA y 90 f')) → PW (1, 0, 0, z) m_M_worked post 0 [some (.ref 70), some (.int 0), some (.int (nI A)), some (.int (nI Ed)), none, none, none] [] (E x (sA y 90 f)) := by
  obtain ⟨f', hs', H⟩ := M_seg (a0 := nI A) (Ed := Ed) hfc hEd S A [] f hat hok hd (by rw [List.length_nil]; omega) (by omega) trivial
  refine ⟨f', fun {x z post} h => ?_⟩
  rw [← stk_top hs' (dep_len S [] 1 hd)] at h
  refine PW_iconst (v := 0) c_M_worked_0 (by decide) ?_
  refine PW_istore (i := 4) (L2 := [some (.ref 70), some (.int 0), some (.int (nI A)), some (.int (nI Ed)), some (.int 0), none, none]) c_M_worked_1 (Nat.le_of_ble_eq_true rfl) rfl rfl ?_
  refine PW_sipush (v := 130) c_M_worked_3 (by decide) ?_
  refine PW_iload_n c_M_worked_6 rfl ?_
  refine PW_imul c_M_worked_7 ?_
  refine PW_iload_n c_M_worked_8 rfl ?_
  refine PW_iadd c_M_worked_9 ?_
  refine PW_istore (i := 5) (L2 := [some (.ref 70), some (.int 0), some (.int (nI A)), some (.int (nI Ed)), some (.int 0), some (.int ((130 * 0) + (nI A))), none]) c_M_worked_10 (Nat.le_of_ble_eq_true rfl) rfl rfl ?_
  refine PW.eqL ?_ rfl rfl (H (l6 := none) (fun l7 => ?_))
  · show ([some (.ref 70), some (.int 0), some (.int (nI A)), some (.int (nI Ed)), some (.int 0), some (.int ((130 * 0) + (nI A))), none] : List (Option Value)) = _
    rw [show (130 * 0 + nI A : Int32) = nI A by rw [show (130 * 0 : Int32) = 0 by decide, Int32.zero_add]] <;> rfl
  · rw [hAE]
    exact sp_mend h
theorem sp_gend {z : ZS} {post : Option Value → List PE → Prop} {x y : XS} {F : Nat} {p : Txt} {f : Nat → Int32} (h86 : y.2.1 86 0 = nI p.length) (h : post (some (.int 0)) (E x (sA y 90 f))) : PW (2, 0, 0, z) m_M_gives post 7 [some (.ref 70), some (.int 0), some (.int (nI F)), some (.int (nI p.length))] [] (E x (sA y 90 f)) := by
  refine PW_iload_n c_M_gives_7 rfl ?_
  refine PW_bipush (v := 61) c_M_gives_8 (by decide) ?_
  refine PW_iload_n c_M_gives_10 rfl ?_
  refine PW_imul c_M_gives_11 ?_
  refine PW_aload_n c_M_gives_12 rfl ?_
  refine PW_get (v := .ref 86) c_M_gives_13 fl_M_56 (gf_70_24 _ _) ?_
  refine PW_iload_n c_M_gives_16 rfl ?_
  refine PW_iald (j := 0) c_M_gives_17 (ar_86 _ _) (vp_in_iff.mpr (by decide)) rfl ?_
  show PW _ _ _ 18 [some (.ref 70), some (.int 0), some (.int (nI F)), some (.int (nI p.length))] [.int ((y.2.1 86) 0), .int (61 * 0), .int (nI p.length)] (E x (sA y 90 f))
  refine PW_iadd c_M_gives_18 ?_
  refine PW_icmp_ge c_M_gives_19 (fun h0 => ?_) (fun h0 => absurd (by rw [(show (61 * 0 + y.2.1 86 0 : Int32) = nI p.length by rw [h86, show (61 * 0 : Int32) = 0 by decide, Int32.zero_add])]; exact Int32.le_refl _) h0)
  refine PW_iconst (v := 0) c_M_gives_78 (by decide) ?_
  refine PW_ireturn (ty := .int) c_M_gives_79 rfl rfl ?_
  exact h
theorem txM_app (a b : Txt) : txM (a ++ b) = txM a ++ txM b := by unfold txM; rw [List.flatMap_append]
theorem txM_one (l : List Stp0 × List Stp0) : txM [l] = l.1 ++ l.2 := by unfold txM; simp
set_option maxHeartbeats 1000000 in
theorem M_lines {y : XS} {fc : Nat → Int32} {p : Txt} (hfc : ∀ i, i < 5 → y.2.1 89 i = fc i) (hM : LawM p y) (hok : ∀ l ∈ p, okL l) : ∀ (q pre : Txt), p = pre ++ q → ∀ f : Nat → Int32, ∃ f' : Nat → Int32, ∀ {x : XS} {z : ZS} {post : Option Value → List PE → Prop}, post (some (.int (txV fc q))) (E x (sA y 90 f')) → PW (2, 0, 0, z) m_M_gives post 7 [some (.ref 70), some (.int 0), some (.int (nI (txM pre).length)), some (.int (nI pre.length))] [] (E x (sA y 90 f))
  | [], pre, hp, f => ⟨f, fun {x z post} h => by
    rw [List.append_nil] at hp
    rw [← hp]
    exact sp_gend hM.1 h⟩
  | (c, v) :: q, pre, hp, f => by
    obtain ⟨h86, hp61, hlen, hst, hln⟩ := id hM
    have hmem : (c, v) ∈ p := by rw [hp]; exact List.mem_append_right _ List.mem_cons_self
    obtain ⟨o1, o2, o3⟩ := hok _ hmem
    have hat0 : atM y 0 (txM p) := fun i s hs => by rw [Nat.zero_add]; exact hst i s hs
    have etx : txM p = txM pre ++ (c ++ (v ++ txM q)) := by
      rw [hp, show pre ++ (c, v) :: q = pre ++ ([(c, v)] ++ q) from rfl, txM_app, txM_app, txM_one, List.append_assoc]
    rw [etx] at hat0 hlen
    have b1 := (atM_app hat0).2
    rw [Nat.zero_add] at b1
    have hatc := (atM_app b1).1
    have hatv := (atM_app (atM_app b1).2).1
    rw [List.length_append, List.length_append, List.length_append] at hlen
    have hget : p[pre.length]? = some (c, v) := by rw [hp, List.getElem?_append_right (Nat.le_refl _), Nat.sub_self]; rfl
    obtain ⟨h87, h88⟩ := hln _ _ hget
    have htake : p.take pre.length = pre := by rw [hp, List.take_left']; rfl
    rw [htake] at h87 h88
    have hpl : pre.length < p.length := (List.getElem?_eq_some_iff.mp hget).1
    have hF2 : (txM pre).length + c.length + v.length = (txM (pre ++ [(c, v)])).length := by rw [txM_app, txM_one, List.length_append, List.length_append]; show _ = (txM pre).length + (c.length + v.length); omega
    have hl2 : pre.length + 1 = (pre ++ [(c, v)]).length := by rw [List.length_append]; rfl
    have hpl2 : p.length ≤ 61 := hp61
    generalize hF : (txM pre).length = F at *
    generalize hl : pre.length = l at *
    by_cases hc : c = []
    · have hc0 : c.length = 0 := by rw [hc]; rfl
      obtain ⟨f2, H2⟩ := sp_M_worked (A := F + c.length) (Ed := F + c.length + v.length) hfc (by omega) rfl hatv (fun s z => o3 s (List.mem_append_right _ z)) o2 f
      refine ⟨f2, fun {x z post} h => ?_⟩
      rw [txV, if_pos (Or.inl hc)] at h
      refine PW_iload_n c_M_gives_7 rfl ?_
      refine PW_bipush (v := 61) c_M_gives_8 (by decide) ?_
      refine PW_iload_n c_M_gives_10 rfl ?_
      refine PW_imul c_M_gives_11 ?_
      refine PW_aload_n c_M_gives_12 rfl ?_
      refine PW_get (v := .ref 86) c_M_gives_13 fl_M_56 (gf_70_24 _ _) ?_
      refine PW_iload_n c_M_gives_16 rfl ?_
      refine PW_iald (j := 0) c_M_gives_17 (ar_86 _ _) (vp_in_iff.mpr (by decide)) rfl ?_
      show PW _ _ _ 18 [some (.ref 70), some (.int 0), some (.int (nI F)), some (.int (nI l))] [.int ((y.2.1 86) 0), .int (61 * 0), .int (nI l)] (E x (sA y 90 f))
      refine PW_iadd c_M_gives_18 ?_
      refine PW_icmp_ge c_M_gives_19 (fun h0 => absurd h0 (by rw [(show (61 * 0 + y.2.1 86 0 : Int32) = nI p.length by rw [h86, show (61 * 0 : Int32) = 0 by decide, Int32.zero_add])]; exact fun q => absurd ((nI_leI (by omega) (by omega)).mp q) (by omega))) (fun h0 => ?_)
      refine PW_aload_n c_M_gives_22 rfl ?_
      refine PW_get (v := .ref 87) c_M_gives_23 fl_M_59 (gf_70_25 _ _) ?_
      refine PW_iload_n c_M_gives_26 rfl ?_
      refine PW_sald (j := l) c_M_gives_27 (ar_87 _ _) (vp_in_nI (by omega) (by decide)) (nI_clamp (by omega)) ?_
      show PW _ _ _ 28 [some (.ref 70), some (.int 0), some (.int (nI F)), some (.int (nI l))] [.int ((y.2.1 87) l)] (E x (sA y 90 f))
      rw [h87]
      show PW _ _ _ 28 [some (.ref 70), some (.int 0), some (.int (nI F)), some (.int (nI l))] [.int (nI (F + c.length))] (E x (sA y 90 f))
      refine PW_iload_n c_M_gives_28 rfl ?_
      refine PW_icmp_eq c_M_gives_29 (fun h1 => ?_) (fun h1 => absurd (by rw [hc0]; rfl) h1)
      refine PW_aload_n c_M_gives_47 rfl ?_
      refine PW_iload_n c_M_gives_48 rfl ?_
      refine PW_aload_n c_M_gives_49 rfl ?_
      refine PW_get (v := .ref 87) c_M_gives_50 fl_M_59 (gf_70_25 _ _) ?_
      refine PW_iload_n c_M_gives_53 rfl ?_
      refine PW_sald (j := l) c_M_gives_54 (ar_87 _ _) (vp_in_nI (by omega) (by decide)) (nI_clamp (by omega)) ?_
      show PW _ _ _ 55 [some (.ref 70), some (.int 0), some (.int (nI F)), some (.int (nI l))] [.int ((y.2.1 87) l), .int 0, .ref 70] (E x (sA y 90 f))
      rw [h87]
      show PW _ _ _ 55 [some (.ref 70), some (.int 0), some (.int (nI F)), some (.int (nI l))] [.int (nI (F + c.length)), .int 0, .ref 70] (E x (sA y 90 f))
      refine PW_aload_n c_M_gives_55 rfl ?_
      refine PW_get (v := .ref 88) c_M_gives_56 fl_M_63 (gf_70_26 _ _) ?_
      refine PW_iload_n c_M_gives_59 rfl ?_
      refine PW_sald (j := l) c_M_gives_60 (ar_88 _ _) (vp_in_nI (by omega) (by decide)) (nI_clamp (by omega)) ?_
      show PW _ _ _ 61 [some (.ref 70), some (.int 0), some (.int (nI F)), some (.int (nI l))] [.int ((y.2.1 88) l), .int (nI (F + c.length)), .int 0, .ref 70] (E x (sA y 90 f))
      rw [h88]
      show PW _ _ _ 61 [some (.ref 70), some (.int 0), some (.int (nI F)), some (.int (nI l))] [.int (nI (F + c.length + v.length)), .int (nI (F + c.length)), .int 0, .ref 70] (E x (sA y 90 f))
      refine PW_V0 (d2 := 1) (st := []) [.int 0, .int (nI (F + c.length)), .int (nI (F + c.length + v.length))] c_M_gives_61 lk_M_gives_243 (po_70 _ _) rfl rfl rfl (Nat.le_of_ble_eq_true rfl) (by first | decide | omega) (Nat.le_of_ble_eq_true rfl) ?_
      refine H2 ?_
      show PW _ _ _ 64 [some (.ref 70), some (.int 0), some (.int (nI F)), some (.int (nI l))] [.int (hdv (evL fc v []))] (E x (sA y 90 f2))
      refine PW_ireturn (ty := .int) c_M_gives_64 rfl rfl ?_
      exact h
    · have hc0 : ¬ c.length = 0 := fun z => hc (List.length_eq_zero_iff.mp z)
      have o1 := o1.resolve_left hc
      obtain ⟨f1, H1⟩ := sp_M_worked (A := F) (Ed := F + c.length) hfc (by omega) rfl hatc (fun s z => o3 s (List.mem_append_left _ z)) o1 f
      by_cases hv : hdv (evL fc c []) = 0
      · obtain ⟨f', H3⟩ := M_lines hfc hM hok q (pre ++ [(c, v)]) (by rw [hp, List.append_assoc]; rfl) f1
        refine ⟨f', fun {x z post} h => ?_⟩
        rw [txV, if_neg (fun z => z.elim hc (fun z => z hv))] at h
        refine PW_iload_n c_M_gives_7 rfl ?_
        refine PW_bipush (v := 61) c_M_gives_8 (by decide) ?_
        refine PW_iload_n c_M_gives_10 rfl ?_
        refine PW_imul c_M_gives_11 ?_
        refine PW_aload_n c_M_gives_12 rfl ?_
        refine PW_get (v := .ref 86) c_M_gives_13 fl_M_56 (gf_70_24 _ _) ?_
        refine PW_iload_n c_M_gives_16 rfl ?_
        refine PW_iald (j := 0) c_M_gives_17 (ar_86 _ _) (vp_in_iff.mpr (by decide)) rfl ?_
        show PW _ _ _ 18 [some (.ref 70), some (.int 0), some (.int (nI F)), some (.int (nI l))] [.int ((y.2.1 86) 0), .int (61 * 0), .int (nI l)] (E x (sA y 90 f))
        refine PW_iadd c_M_gives_18 ?_
        refine PW_icmp_ge c_M_gives_19 (fun h0 => absurd h0 (by rw [(show (61 * 0 + y.2.1 86 0 : Int32) = nI p.length by rw [h86, show (61 * 0 : Int32) = 0 by decide, Int32.zero_add])]; exact fun q => absurd ((nI_leI (by omega) (by omega)).mp q) (by omega))) (fun h0 => ?_)
        refine PW_aload_n c_M_gives_22 rfl ?_
        refine PW_get (v := .ref 87) c_M_gives_23 fl_M_59 (gf_70_25 _ _) ?_
        refine PW_iload_n c_M_gives_26 rfl ?_
        refine PW_sald (j := l) c_M_gives_27 (ar_87 _ _) (vp_in_nI (by omega) (by decide)) (nI_clamp (by omega)) ?_
        show PW _ _ _ 28 [some (.ref 70), some (.int 0), some (.int (nI F)), some (.int (nI l))] [.int ((y.2.1 87) l)] (E x (sA y 90 f))
        rw [h87]
        show PW _ _ _ 28 [some (.ref 70), some (.int 0), some (.int (nI F)), some (.int (nI l))] [.int (nI (F + c.length))] (E x (sA y 90 f))
        refine PW_iload_n c_M_gives_28 rfl ?_
        refine PW_icmp_eq c_M_gives_29 (fun h1 => absurd h1 (fun q => hc0 (by have := (nI_eq (by omega) (by omega)).mp q; omega))) (fun h1 => ?_)
        refine PW_aload_n c_M_gives_32 rfl ?_
        refine PW_iload_n c_M_gives_33 rfl ?_
        refine PW_iload_n c_M_gives_34 rfl ?_
        refine PW_aload_n c_M_gives_35 rfl ?_
        refine PW_get (v := .ref 87) c_M_gives_36 fl_M_59 (gf_70_25 _ _) ?_
        refine PW_iload_n c_M_gives_39 rfl ?_
        refine PW_sald (j := l) c_M_gives_40 (ar_87 _ _) (vp_in_nI (by omega) (by decide)) (nI_clamp (by omega)) ?_
        show PW _ _ _ 41 [some (.ref 70), some (.int 0), some (.int (nI F)), some (.int (nI l))] [.int ((y.2.1 87) l), .int (nI F), .int 0, .ref 70] (E x (sA y 90 f))
        rw [h87]
        show PW _ _ _ 41 [some (.ref 70), some (.int 0), some (.int (nI F)), some (.int (nI l))] [.int (nI (F + c.length)), .int (nI F), .int 0, .ref 70] (E x (sA y 90 f))
        refine PW_V0 (d2 := 1) (st := []) [.int 0, .int (nI F), .int (nI (F + c.length))] c_M_gives_41 lk_M_gives_243 (po_70 _ _) rfl rfl rfl (Nat.le_of_ble_eq_true rfl) (by first | decide | omega) (Nat.le_of_ble_eq_true rfl) ?_
        refine H1 ?_
        show PW _ _ _ 44 [some (.ref 70), some (.int 0), some (.int (nI F)), some (.int (nI l))] [.int (hdv (evL fc c []))] (E x (sA y 90 f1))
        refine PW_if_eq c_M_gives_44 (fun h2 => ?_) (fun h2 => absurd hv h2)
        refine PW_aload_n c_M_gives_65 rfl ?_
        refine PW_get (v := .ref 88) c_M_gives_66 fl_M_63 (gf_70_26 _ _) ?_
        refine PW_iload_n c_M_gives_69 rfl ?_
        refine PW_sald (j := l) c_M_gives_70 (ar_88 _ _) (vp_in_nI (by omega) (by decide)) (nI_clamp (by omega)) ?_
        show PW _ _ _ 71 [some (.ref 70), some (.int 0), some (.int (nI F)), some (.int (nI l))] [.int ((y.2.1 88) l)] (E x (sA y 90 f1))
        rw [h88]
        show PW _ _ _ 71 [some (.ref 70), some (.int 0), some (.int (nI F)), some (.int (nI l))] [.int (nI (F + c.length + v.length))] (E x (sA y 90 f1))
        refine PW_istore_n (i := 2) (L2 := [some (.ref 70), some (.int 0), some (.int (nI (F + c.length + v.length))), some (.int (nI l))]) c_M_gives_71 rfl (Nat.le_of_ble_eq_true rfl) rfl rfl ?_
        refine PW_iinc (i := 3) (v := (nI l) + 1) (L2 := [some (.ref 70), some (.int 0), some (.int (nI (F + c.length + v.length))), some (.int ((nI l) + 1))]) c_M_gives_72 rfl (iinc_v (by decide)) (Nat.le_of_ble_eq_true rfl) rfl rfl ?_
        refine PW_goto c_M_gives_75 ?_
        refine PW.eqL ?_ rfl rfl (H3 h)
        show ([some (.ref 70), some (.int 0), some (.int (nI (F + c.length + v.length))), some (.int ((nI l) + 1))] : List (Option Value)) = _
        rw [nI_1, hF2, hl2]
      · obtain ⟨f2, H2⟩ := sp_M_worked (A := F + c.length) (Ed := F + c.length + v.length) hfc (by omega) rfl hatv (fun s z => o3 s (List.mem_append_right _ z)) o2 f1
        refine ⟨f2, fun {x z post} h => ?_⟩
        rw [txV, if_pos (Or.inr hv)] at h
        refine PW_iload_n c_M_gives_7 rfl ?_
        refine PW_bipush (v := 61) c_M_gives_8 (by decide) ?_
        refine PW_iload_n c_M_gives_10 rfl ?_
        refine PW_imul c_M_gives_11 ?_
        refine PW_aload_n c_M_gives_12 rfl ?_
        refine PW_get (v := .ref 86) c_M_gives_13 fl_M_56 (gf_70_24 _ _) ?_
        refine PW_iload_n c_M_gives_16 rfl ?_
        refine PW_iald (j := 0) c_M_gives_17 (ar_86 _ _) (vp_in_iff.mpr (by decide)) rfl ?_
        show PW _ _ _ 18 [some (.ref 70), some (.int 0), some (.int (nI F)), some (.int (nI l))] [.int ((y.2.1 86) 0), .int (61 * 0), .int (nI l)] (E x (sA y 90 f))
        refine PW_iadd c_M_gives_18 ?_
        refine PW_icmp_ge c_M_gives_19 (fun h0 => absurd h0 (by rw [(show (61 * 0 + y.2.1 86 0 : Int32) = nI p.length by rw [h86, show (61 * 0 : Int32) = 0 by decide, Int32.zero_add])]; exact fun q => absurd ((nI_leI (by omega) (by omega)).mp q) (by omega))) (fun h0 => ?_)
        refine PW_aload_n c_M_gives_22 rfl ?_
        refine PW_get (v := .ref 87) c_M_gives_23 fl_M_59 (gf_70_25 _ _) ?_
        refine PW_iload_n c_M_gives_26 rfl ?_
        refine PW_sald (j := l) c_M_gives_27 (ar_87 _ _) (vp_in_nI (by omega) (by decide)) (nI_clamp (by omega)) ?_
        show PW _ _ _ 28 [some (.ref 70), some (.int 0), some (.int (nI F)), some (.int (nI l))] [.int ((y.2.1 87) l)] (E x (sA y 90 f))
        rw [h87]
        show PW _ _ _ 28 [some (.ref 70), some (.int 0), some (.int (nI F)), some (.int (nI l))] [.int (nI (F + c.length))] (E x (sA y 90 f))
        refine PW_iload_n c_M_gives_28 rfl ?_
        refine PW_icmp_eq c_M_gives_29 (fun h1 => absurd h1 (fun q => hc0 (by have := (nI_eq (by omega) (by omega)).mp q; omega))) (fun h1 => ?_)
        refine PW_aload_n c_M_gives_32 rfl ?_
        refine PW_iload_n c_M_gives_33 rfl ?_
        refine PW_iload_n c_M_gives_34 rfl ?_
        refine PW_aload_n c_M_gives_35 rfl ?_
        refine PW_get (v := .ref 87) c_M_gives_36 fl_M_59 (gf_70_25 _ _) ?_
        refine PW_iload_n c_M_gives_39 rfl ?_
        refine PW_sald (j := l) c_M_gives_40 (ar_87 _ _) (vp_in_nI (by omega) (by decide)) (nI_clamp (by omega)) ?_
        show PW _ _ _ 41 [some (.ref 70), some (.int 0), some (.int (nI F)), some (.int (nI l))] [.int ((y.2.1 87) l), .int (nI F), .int 0, .ref 70] (E x (sA y 90 f))
        rw [h87]
        show PW _ _ _ 41 [some (.ref 70), some (.int 0), some (.int (nI F)), some (.int (nI l))] [.int (nI (F + c.length)), .int (nI F), .int 0, .ref 70] (E x (sA y 90 f))
        refine PW_V0 (d2 := 1) (st := []) [.int 0, .int (nI F), .int (nI (F + c.length))] c_M_gives_41 lk_M_gives_243 (po_70 _ _) rfl rfl rfl (Nat.le_of_ble_eq_true rfl) (by first | decide | omega) (Nat.le_of_ble_eq_true rfl) ?_
        refine H1 ?_
        show PW _ _ _ 44 [some (.ref 70), some (.int 0), some (.int (nI F)), some (.int (nI l))] [.int (hdv (evL fc c []))] (E x (sA y 90 f1))
        refine PW_if_eq c_M_gives_44 (fun h2 => absurd h2 hv) (fun h2 => ?_)
        refine PW_aload_n c_M_gives_47 rfl ?_
        refine PW_iload_n c_M_gives_48 rfl ?_
        refine PW_aload_n c_M_gives_49 rfl ?_
        refine PW_get (v := .ref 87) c_M_gives_50 fl_M_59 (gf_70_25 _ _) ?_
        refine PW_iload_n c_M_gives_53 rfl ?_
        refine PW_sald (j := l) c_M_gives_54 (ar_87 _ _) (vp_in_nI (by omega) (by decide)) (nI_clamp (by omega)) ?_
        show PW _ _ _ 55 [some (.ref 70), some (.int 0), some (.int (nI F)), some (.int (nI l))] [.int ((y.2.1 87) l), .int 0, .ref 70] (E x (sA y 90 f1))
        rw [h87]
        show PW _ _ _ 55 [some (.ref 70), some (.int 0), some (.int (nI F)), some (.int (nI l))] [.int (nI (F + c.length)), .int 0, .ref 70] (E x (sA y 90 f1))
        refine PW_aload_n c_M_gives_55 rfl ?_
        refine PW_get (v := .ref 88) c_M_gives_56 fl_M_63 (gf_70_26 _ _) ?_
        refine PW_iload_n c_M_gives_59 rfl ?_
        refine PW_sald (j := l) c_M_gives_60 (ar_88 _ _) (vp_in_nI (by omega) (by decide)) (nI_clamp (by omega)) ?_
        show PW _ _ _ 61 [some (.ref 70), some (.int 0), some (.int (nI F)), some (.int (nI l))] [.int ((y.2.1 88) l), .int (nI (F + c.length)), .int 0, .ref 70] (E x (sA y 90 f1))
        rw [h88]
        show PW _ _ _ 61 [some (.ref 70), some (.int 0), some (.int (nI F)), some (.int (nI l))] [.int (nI (F + c.length + v.length)), .int (nI (F + c.length)), .int 0, .ref 70] (E x (sA y 90 f1))
        refine PW_V0 (d2 := 1) (st := []) [.int 0, .int (nI (F + c.length)), .int (nI (F + c.length + v.length))] c_M_gives_61 lk_M_gives_243 (po_70 _ _) rfl rfl rfl (Nat.le_of_ble_eq_true rfl) (by first | decide | omega) (Nat.le_of_ble_eq_true rfl) ?_
        refine H2 ?_
        show PW _ _ _ 64 [some (.ref 70), some (.int 0), some (.int (nI F)), some (.int (nI l))] [.int (hdv (evL fc v []))] (E x (sA y 90 f2))
        refine PW_ireturn (ty := .int) c_M_gives_64 rfl rfl ?_
        exact h
theorem sp_M_gives {y : XS} {fc : Nat → Int32} {p : Txt} (hfc : ∀ i, i < 5 → y.2.1 89 i = fc i) (hM : LawM p y) (hok : ∀ l ∈ p, okL l) (f : Nat → Int32) : ∃ f' : Nat → Int32, ∀ {x : XS} {z : ZS} {post : Option Value → List PE → Prop}, post (some (.int (txV fc p))) (E x (sA y 90 f')) → PW (2, 0, 0, z) m_M_gives post 0 [some (.ref 70), some (.int 0), none, none] [] (E x (sA y 90 f)) := by
  obtain ⟨f', H⟩ := M_lines hfc hM hok p [] rfl f
  refine ⟨f', fun {x z post} h => ?_⟩
  refine PW_iconst (v := 0) c_M_gives_0 (by decide) ?_
  refine PW_istore_n (i := 2) (L2 := [some (.ref 70), some (.int 0), some (.int 0), none]) c_M_gives_1 rfl (Nat.le_of_ble_eq_true rfl) rfl rfl ?_
  refine PW_bipush (v := 61) c_M_gives_2 (by decide) ?_
  refine PW_iload_n c_M_gives_4 rfl ?_
  refine PW_imul c_M_gives_5 ?_
  refine PW_istore_n (i := 3) (L2 := [some (.ref 70), some (.int 0), some (.int 0), some (.int (61 * 0))]) c_M_gives_6 rfl (Nat.le_of_ble_eq_true rfl) rfl rfl ?_
  refine PW.eqL ?_ rfl rfl (H h)
  rfl
