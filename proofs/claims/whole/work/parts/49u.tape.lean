/-! the tape of the one side -/
def wrA (f h : Nat → Int32) (k : Nat) (l : List (Int32 × Int32)) : Prop := ∀ i s, l[i]? = some s → f (k + i) = s.1 ∧ h (k + i) = s.2
theorem wrA_nil {f h : Nat → Int32} {k : Nat} : wrA f h k [] := fun i s q => by rw [List.getElem?_nil] at q; exact absurd q (by simp)
theorem wrA_app {f h : Nat → Int32} {k : Nat} {l l2 : List (Int32 × Int32)} (a : wrA f h k l) (b : wrA f h (k + l.length) l2) : wrA f h k (l ++ l2) := fun i s q => by
  rcases Nat.lt_or_ge i l.length with w | w
  · rw [List.getElem?_append_left w] at q
    exact a i s q
  · rw [List.getElem?_append_right w] at q
    have := b (i - l.length) s q
    rwa [show k + l.length + (i - l.length) = k + i by omega] at this
def lowA (f h f' h' : Nat → Int32) (m : Nat) : Prop := ∀ i, i < m → f' i = f i ∧ h' i = h i
theorem lowA_0 {f h : Nat → Int32} {m : Nat} : lowA f h f h m := fun _ _ => ⟨rfl, rfl⟩
theorem lowA_t {f h f' h' f2 h2 : Nat → Int32} {m m2 : Nat} (a : lowA f h f' h' m) (b : lowA f' h' f2 h2 m2) (q : m ≤ m2) : lowA f h f2 h2 m := fun i hi => ⟨(b i (by omega)).1.trans (a i hi).1, (b i (by omega)).2.trans (a i hi).2⟩
theorem lowA_u {f h : Nat → Int32} {m kk : Nat} {a v : Int32} (q : m ≤ kk) : lowA f h (upd f kk a) (upd h kk v) m := fun i hi => ⟨upd_n (by omega), upd_n (by omega)⟩
theorem wrA_low {f h f' h' : Nat → Int32} {k m : Nat} {l : List (Int32 × Int32)} (a : wrA f h k l) (b : lowA f h f' h' m) (q : k + l.length ≤ m) : wrA f' h' k l := fun i s w => by
  have hi : i < l.length := by
    rcases Nat.lt_or_ge i l.length with z | z
    · exact z
    · rw [List.getElem?_eq_none z] at w; exact absurd w (by simp)
  have z := a i s w
  exact ⟨(b (k + i) (by omega)).1.trans z.1, (b (k + i) (by omega)).2.trans z.2⟩
theorem wrA_one {f h : Nat → Int32} {kk : Nat} {a v : Int32} : wrA (upd f kk a) (upd h kk v) kk [(a, v)] := fun i s w => by
  match i, w with
  | 0, w =>
    have w : some (a, v) = some s := w
    rw [← Option.some.inj w]
    exact ⟨upd_s, upd_s⟩
  | i + 1, w =>
    have w : (none : Option (Int32 × Int32)) = some s := w
    exact absurd w (by simp)
theorem wrA_snoc {f h : Nat → Int32} {k kk : Nat} {a v : Int32} {l : List (Int32 × Int32)} (q : kk = k + l.length) (w : wrA f h k l) : wrA (upd f kk a) (upd h kk v) k (l ++ [(a, v)]) := wrA_app (wrA_low w (lowA_u (Nat.le_refl kk)) (by omega)) (q ▸ wrA_one)
def tpX (X : XS) (g : Nat → Nat) (n : Nat) : Prop := X.1 219 = nI n ∧ n ≤ 120 ∧ ∀ i, i < n → X.2.1 28 i = nI (g i) ∧ g i < 256
def frT (X X' : XS) : Prop := (∀ m, m ≠ 220 → m ≠ 221 → X'.1 m = X.1 m) ∧ (∀ a, a ≠ 29 → a ≠ 30 → X'.2.1 a = X.2.1 a) ∧ X'.2.2 = X.2.2
theorem frT_0 (X : XS) : frT X X := ⟨fun _ _ _ => rfl, fun _ _ _ => rfl, rfl⟩
theorem frT_t {X X' X2 : XS} (a : frT X X') (b : frT X' X2) : frT X X2 := ⟨fun m p q => (b.1 m p q).trans (a.1 m p q), fun m p q => (b.2.1 m p q).trans (a.2.1 m p q), b.2.2.trans a.2.2⟩
theorem frT_p {X : XS} {v : Int32} : frT X (sI X 220 v) := ⟨fun m p q => sI_n p, fun _ _ _ => rfl, rfl⟩
def wrt (X : XS) (k : Nat) (a v : Int32) : XS := sI (sA (sA X 29 (upd (X.2.1 29) k a)) 30 (upd (X.2.1 30) k v)) 221 (nI (k + 1))
theorem frT_w {X : XS} {k : Nat} {a v : Int32} : frT X (wrt X k a v) := ⟨fun m p q => sI_n q, fun m p q => by show (if m = 30 then _ else if m = 29 then _ else X.2.1 m) = _; rw [if_neg q, if_neg p], rfl⟩
theorem wrt_29 {X : XS} {k : Nat} {a v : Int32} : (wrt X k a v).2.1 29 = upd (X.2.1 29) k a := rfl
theorem wrt_30 {X : XS} {k : Nat} {a v : Int32} : (wrt X k a v).2.1 30 = upd (X.2.1 30) k v := rfl
theorem tpX_fr {X X' : XS} {g : Nat → Nat} {n : Nat} (h : tpX X g n) (f : frT X X') : tpX X' g n := ⟨(f.1 219 (by decide) (by decide)).trans h.1, h.2.1, fun i hi => by rw [f.2.1 28 (by decide) (by decide)]; exact h.2.2 i hi⟩
theorem tpX_sg {X : XS} {g : Nat → Nat} {n p : Nat} (h : tpX X g n) : sg g n p < 257 := by
  unfold sg
  split
  · rename_i q; have := (h.2.2 p q).2; omega
  · omega
def lvI (c : Nat) : Int32 := if lvO c < 5 then nI (lvO c) else -1
def nmI (c : Nat) : Int32 := if nmO c < 5 then nI (nmO c) else -1
theorem lvI_eq {c lev : Nat} (hl : lev < 5) : lvI c = nI lev ↔ lvO c = lev := by
  unfold lvI
  split
  · exact nI_eq (by omega) (by omega)
  · constructor
    · intro h
      have := congrArg Int32.toInt h
      rw [nI_toInt (by omega), show (-1 : Int32).toInt = -1 by decide] at this
      omega
    · intro h; omega
theorem sp_T_sign {X y : XS} {g : Nat → Nat} {n p : Nat} (hT : tpX X g n) (hp : X.1 220 = nI p) (hpn : p ≤ n) {z : ZS} {post : Option Value → List PE → Prop} (h : post (some (.int (sgX (sg g n p)))) (E X y)) : PW (0, 0, 0, z) m_T_sign post 0 [some (.ref 27)] [] (E X y) := by
  have hn := hT.2.1
  by_cases hlt : p < n
  · have e : sgX (sg g n p) = X.2.1 28 p := by
      unfold sg; rw [if_pos hlt]; unfold sgX; rw [if_pos (hT.2.2 p hlt).2, (hT.2.2 p hlt).1]
    refine PW_aload_n c_T_sign_0 rfl ?_
    refine PW_get (v := .int (X.1 220)) c_T_sign_1 fl_T_28 (gf_27_4 _ _) ?_
    rw [hp]
    show PW _ _ _ 4 [some (.ref 27)] [.int (nI p)] (E X y)
    refine PW_if_lt c_T_sign_4 (fun h0 => absurd h0 (nI_pos (by omega))) (fun h0 => ?_)
    refine PW_aload_n c_T_sign_7 rfl ?_
    refine PW_get (v := .int (X.1 220)) c_T_sign_8 fl_T_28 (gf_27_4 _ _) ?_
    rw [hp]
    show PW _ _ _ 11 [some (.ref 27)] [.int (nI p)] (E X y)
    refine PW_aload_n c_T_sign_11 rfl ?_
    refine PW_get (v := .int (X.1 219)) c_T_sign_12 fl_T_21 (gf_27_3 _ _) ?_
    rw [hT.1]
    show PW _ _ _ 15 [some (.ref 27)] [.int (nI n), .int (nI p)] (E X y)
    refine PW_icmp_ge c_T_sign_15 (fun h1 => absurd h1 (fun q => absurd ((nI_leI (by omega) (by omega)).mp q) (by omega))) (fun h1 => ?_)
    refine PW_aload_n c_T_sign_18 rfl ?_
    refine PW_get (v := .int (X.1 220)) c_T_sign_19 fl_T_28 (gf_27_4 _ _) ?_
    rw [hp]
    show PW _ _ _ 22 [some (.ref 27)] [.int (nI p)] (E X y)
    refine PW_bipush (v := 120) c_T_sign_22 (by decide) ?_
    refine PW_icmp_ge c_T_sign_24 (fun h2 => absurd h2 (fun q => absurd ((nI_leI (a := 120) (by decide) (by omega)).mp q) (by omega))) (fun h2 => ?_)
    refine PW_aload_n c_T_sign_27 rfl ?_
    refine PW_get (v := .ref 28) c_T_sign_28 fl_T_9 (gf_27_0 _ _) ?_
    refine PW_aload_n c_T_sign_31 rfl ?_
    refine PW_get (v := .int (X.1 220)) c_T_sign_32 fl_T_28 (gf_27_4 _ _) ?_
    rw [hp]
    show PW _ _ _ 35 [some (.ref 27)] [.int (nI p), .ref 28] (E X y)
    refine PW_iald (j := p) c_T_sign_35 (ar_28 _ _) (vp_in_nI (by omega) (by decide)) (nI_clamp (by omega)) ?_
    show PW _ _ _ 36 [some (.ref 27)] [.int ((X.2.1 28) p)] (E X y)
    refine PW_goto c_T_sign_36 ?_
    refine PW_ireturn (ty := .int) c_T_sign_40 rfl rfl ?_
    exact pqi h e
  · have e : sgX (sg g n p) = -1 := by
      unfold sg; rw [if_neg hlt]; rfl
    refine PW_aload_n c_T_sign_0 rfl ?_
    refine PW_get (v := .int (X.1 220)) c_T_sign_1 fl_T_28 (gf_27_4 _ _) ?_
    rw [hp]
    show PW _ _ _ 4 [some (.ref 27)] [.int (nI p)] (E X y)
    refine PW_if_lt c_T_sign_4 (fun h0 => absurd h0 (nI_pos (by omega))) (fun h0 => ?_)
    refine PW_aload_n c_T_sign_7 rfl ?_
    refine PW_get (v := .int (X.1 220)) c_T_sign_8 fl_T_28 (gf_27_4 _ _) ?_
    rw [hp]
    show PW _ _ _ 11 [some (.ref 27)] [.int (nI p)] (E X y)
    refine PW_aload_n c_T_sign_11 rfl ?_
    refine PW_get (v := .int (X.1 219)) c_T_sign_12 fl_T_21 (gf_27_3 _ _) ?_
    rw [hT.1]
    show PW _ _ _ 15 [some (.ref 27)] [.int (nI n), .int (nI p)] (E X y)
    refine PW_icmp_ge c_T_sign_15 (fun h1 => ?_) (fun h1 => absurd ((nI_leI (by omega) (by omega)).mpr (by omega)) h1)
    refine PW_iconst (v := -1) c_T_sign_39 (by decide) ?_
    refine PW_ireturn (ty := .int) c_T_sign_40 rfl rfl ?_
    exact pqi h e
theorem sp_T_levelOf {x y : XS} {c : Nat} (hc : c < 257) {z : ZS} {post : Option Value → List PE → Prop} (h : post (some (.int (lvI c))) (E x y)) : PW (0, 0, 0, z) m_T_levelOf post 0 [some (.int (sgX c))] [] (E x y) := by
  refine PW_iload_n c_T_levelOf_0 rfl ?_
  by_cases h0 : sgX c = 37
  · refine PW_lookup (tgt := 100) (off := 99) c_T_levelOf_1 (by decide) (by rw [h0]; rfl) rfl ?_
    refine PW_iconst (v := 4) c_T_levelOf_100 (by decide) ?_
    refine PW_ireturn (ty := .int) c_T_levelOf_101 rfl rfl ?_
    exact pqi h (by rw [show c = 37 from (sgX_k hc (by decide) (k := 37)).mp h0]; rfl)
  by_cases h1 : sgX c = 38
  · refine PW_lookup (tgt := 94) (off := 93) c_T_levelOf_1 (by decide) (by rw [h1]; rfl) rfl ?_
    refine PW_iconst (v := 1) c_T_levelOf_94 (by decide) ?_
    refine PW_ireturn (ty := .int) c_T_levelOf_95 rfl rfl ?_
    exact pqi h (by rw [show c = 38 from (sgX_k hc (by decide) (k := 38)).mp h1]; rfl)
  by_cases h2 : sgX c = 42
  · refine PW_lookup (tgt := 100) (off := 99) c_T_levelOf_1 (by decide) (by rw [h2]; rfl) rfl ?_
    refine PW_iconst (v := 4) c_T_levelOf_100 (by decide) ?_
    refine PW_ireturn (ty := .int) c_T_levelOf_101 rfl rfl ?_
    exact pqi h (by rw [show c = 42 from (sgX_k hc (by decide) (k := 42)).mp h2]; rfl)
  by_cases h3 : sgX c = 43
  · refine PW_lookup (tgt := 98) (off := 97) c_T_levelOf_1 (by decide) (by rw [h3]; rfl) rfl ?_
    refine PW_iconst (v := 3) c_T_levelOf_98 (by decide) ?_
    refine PW_ireturn (ty := .int) c_T_levelOf_99 rfl rfl ?_
    exact pqi h (by rw [show c = 43 from (sgX_k hc (by decide) (k := 43)).mp h3]; rfl)
  by_cases h4 : sgX c = 45
  · refine PW_lookup (tgt := 98) (off := 97) c_T_levelOf_1 (by decide) (by rw [h4]; rfl) rfl ?_
    refine PW_iconst (v := 3) c_T_levelOf_98 (by decide) ?_
    refine PW_ireturn (ty := .int) c_T_levelOf_99 rfl rfl ?_
    exact pqi h (by rw [show c = 45 from (sgX_k hc (by decide) (k := 45)).mp h4]; rfl)
  by_cases h5 : sgX c = 47
  · refine PW_lookup (tgt := 100) (off := 99) c_T_levelOf_1 (by decide) (by rw [h5]; rfl) rfl ?_
    refine PW_iconst (v := 4) c_T_levelOf_100 (by decide) ?_
    refine PW_ireturn (ty := .int) c_T_levelOf_101 rfl rfl ?_
    exact pqi h (by rw [show c = 47 from (sgX_k hc (by decide) (k := 47)).mp h5]; rfl)
  by_cases h6 : sgX c = 60
  · refine PW_lookup (tgt := 96) (off := 95) c_T_levelOf_1 (by decide) (by rw [h6]; rfl) rfl ?_
    refine PW_iconst (v := 2) c_T_levelOf_96 (by decide) ?_
    refine PW_ireturn (ty := .int) c_T_levelOf_97 rfl rfl ?_
    exact pqi h (by rw [show c = 60 from (sgX_k hc (by decide) (k := 60)).mp h6]; rfl)
  by_cases h7 : sgX c = 61
  · refine PW_lookup (tgt := 96) (off := 95) c_T_levelOf_1 (by decide) (by rw [h7]; rfl) rfl ?_
    refine PW_iconst (v := 2) c_T_levelOf_96 (by decide) ?_
    refine PW_ireturn (ty := .int) c_T_levelOf_97 rfl rfl ?_
    exact pqi h (by rw [show c = 61 from (sgX_k hc (by decide) (k := 61)).mp h7]; rfl)
  by_cases h8 : sgX c = 62
  · refine PW_lookup (tgt := 96) (off := 95) c_T_levelOf_1 (by decide) (by rw [h8]; rfl) rfl ?_
    refine PW_iconst (v := 2) c_T_levelOf_96 (by decide) ?_
    refine PW_ireturn (ty := .int) c_T_levelOf_97 rfl rfl ?_
    exact pqi h (by rw [show c = 62 from (sgX_k hc (by decide) (k := 62)).mp h8]; rfl)
  by_cases h9 : sgX c = 124
  · refine PW_lookup (tgt := 92) (off := 91) c_T_levelOf_1 (by decide) (by rw [h9]; rfl) rfl ?_
    refine PW_iconst (v := 0) c_T_levelOf_92 (by decide) ?_
    refine PW_ireturn (ty := .int) c_T_levelOf_93 rfl rfl ?_
    exact pqi h (by rw [show c = 124 from (sgX_k hc (by decide) (k := 124)).mp h9]; rfl)
  refine PW_lookup (tgt := 102) (off := 101) c_T_levelOf_1 (by decide) (by rw [lv_osw h0 (by decide)]; rw [lv_osw h1 (by decide)]; rw [lv_osw h2 (by decide)]; rw [lv_osw h3 (by decide)]; rw [lv_osw h4 (by decide)]; rw [lv_osw h5 (by decide)]; rw [lv_osw h6 (by decide)]; rw [lv_osw h7 (by decide)]; rw [lv_osw h8 (by decide)]; rw [lv_osw h9 (by decide)]; rfl) rfl ?_
  refine PW_iconst (v := -1) c_T_levelOf_102 (by decide) ?_
  refine PW_ireturn (ty := .int) c_T_levelOf_103 rfl rfl ?_
  exact pqi h (by
    have n37 : ¬ c = 37 := fun q => h0 ((sgX_k hc (by decide) (k := 37)).mpr q)
    have n38 : ¬ c = 38 := fun q => h1 ((sgX_k hc (by decide) (k := 38)).mpr q)
    have n42 : ¬ c = 42 := fun q => h2 ((sgX_k hc (by decide) (k := 42)).mpr q)
    have n43 : ¬ c = 43 := fun q => h3 ((sgX_k hc (by decide) (k := 43)).mpr q)
    have n45 : ¬ c = 45 := fun q => h4 ((sgX_k hc (by decide) (k := 45)).mpr q)
    have n47 : ¬ c = 47 := fun q => h5 ((sgX_k hc (by decide) (k := 47)).mpr q)
    have n60 : ¬ c = 60 := fun q => h6 ((sgX_k hc (by decide) (k := 60)).mpr q)
    have n61 : ¬ c = 61 := fun q => h7 ((sgX_k hc (by decide) (k := 61)).mpr q)
    have n62 : ¬ c = 62 := fun q => h8 ((sgX_k hc (by decide) (k := 62)).mpr q)
    have n124 : ¬ c = 124 := fun q => h9 ((sgX_k hc (by decide) (k := 124)).mpr q)
    have e : lvO c = 9 := by unfold lvO; rw [if_neg n124, if_neg n38, if_neg (by omega), if_neg (by omega), if_neg (by omega)]
    exact if_neg (show ¬ lvO c < 5 by rw [e]; decide))
theorem sp_L_nameOf {x y : XS} {c : Nat} (hc : c < 257) {z : ZS} {post : Option Value → List PE → Prop} (h : post (some (.int (nmI c))) (E x y)) : PW (0, 0, 0, z) m_L_nameOf post 0 [some (.int (sgX c))] [] (E x y) := by
  refine PW_iload_n c_L_nameOf_0 rfl ?_
  by_cases h0 : sgX c = 97
  · refine PW_lookup (tgt := 56) (off := 55) c_L_nameOf_1 (by decide) (by rw [h0]; rfl) rfl ?_
    refine PW_iconst (v := 2) c_L_nameOf_56 (by decide) ?_
    refine PW_ireturn (ty := .int) c_L_nameOf_57 rfl rfl ?_
    exact pqi h (by rw [show c = 97 from (sgX_k hc (by decide) (k := 97)).mp h0]; rfl)
  by_cases h1 : sgX c = 104
  · refine PW_lookup (tgt := 58) (off := 57) c_L_nameOf_1 (by decide) (by rw [h1]; rfl) rfl ?_
    refine PW_iconst (v := 3) c_L_nameOf_58 (by decide) ?_
    refine PW_ireturn (ty := .int) c_L_nameOf_59 rfl rfl ?_
    exact pqi h (by rw [show c = 104 from (sgX_k hc (by decide) (k := 104)).mp h1]; rfl)
  by_cases h2 : sgX c = 109
  · refine PW_lookup (tgt := 60) (off := 59) c_L_nameOf_1 (by decide) (by rw [h2]; rfl) rfl ?_
    refine PW_iconst (v := 4) c_L_nameOf_60 (by decide) ?_
    refine PW_ireturn (ty := .int) c_L_nameOf_61 rfl rfl ?_
    exact pqi h (by rw [show c = 109 from (sgX_k hc (by decide) (k := 109)).mp h2]; rfl)
  by_cases h3 : sgX c = 110
  · refine PW_lookup (tgt := 54) (off := 53) c_L_nameOf_1 (by decide) (by rw [h3]; rfl) rfl ?_
    refine PW_iconst (v := 1) c_L_nameOf_54 (by decide) ?_
    refine PW_ireturn (ty := .int) c_L_nameOf_55 rfl rfl ?_
    exact pqi h (by rw [show c = 110 from (sgX_k hc (by decide) (k := 110)).mp h3]; rfl)
  by_cases h4 : sgX c = 116
  · refine PW_lookup (tgt := 52) (off := 51) c_L_nameOf_1 (by decide) (by rw [h4]; rfl) rfl ?_
    refine PW_iconst (v := 0) c_L_nameOf_52 (by decide) ?_
    refine PW_ireturn (ty := .int) c_L_nameOf_53 rfl rfl ?_
    exact pqi h (by rw [show c = 116 from (sgX_k hc (by decide) (k := 116)).mp h4]; rfl)
  refine PW_lookup (tgt := 62) (off := 61) c_L_nameOf_1 (by decide) (by rw [lv_osw h0 (by decide)]; rw [lv_osw h1 (by decide)]; rw [lv_osw h2 (by decide)]; rw [lv_osw h3 (by decide)]; rw [lv_osw h4 (by decide)]; rfl) rfl ?_
  refine PW_iconst (v := -1) c_L_nameOf_62 (by decide) ?_
  refine PW_ireturn (ty := .int) c_L_nameOf_63 rfl rfl ?_
  exact pqi h (by
    have n97 : ¬ c = 97 := fun q => h0 ((sgX_k hc (by decide) (k := 97)).mpr q)
    have n104 : ¬ c = 104 := fun q => h1 ((sgX_k hc (by decide) (k := 104)).mpr q)
    have n109 : ¬ c = 109 := fun q => h2 ((sgX_k hc (by decide) (k := 109)).mpr q)
    have n110 : ¬ c = 110 := fun q => h3 ((sgX_k hc (by decide) (k := 110)).mpr q)
    have n116 : ¬ c = 116 := fun q => h4 ((sgX_k hc (by decide) (k := 116)).mpr q)
    have e : nmO c = 9 := by unfold nmO; rw [if_neg n116, if_neg n110, if_neg n97, if_neg n104, if_neg n109]
    exact if_neg (show ¬ nmO c < 5 by rw [e]; decide))
theorem sp_M_nameOf {x y : XS} {c : Nat} (hc : c < 257) {z : ZS} {post : Option Value → List PE → Prop} (h : post (some (.int (nmI c))) (E x y)) : PW (0, 0, 0, z) m_M_nameOf post 0 [some (.int (lkM c))] [] (E x y) := by
  refine PW_iload_n c_M_nameOf_0 rfl ?_
  by_cases h0 : lkM c = 97
  · refine PW_lookup (tgt := 56) (off := 55) c_M_nameOf_1 (by decide) (by rw [h0]; rfl) rfl ?_
    refine PW_iconst (v := 2) c_M_nameOf_56 (by decide) ?_
    refine PW_ireturn (ty := .int) c_M_nameOf_57 rfl rfl ?_
    exact pqi h (by rw [show c = 97 from (lkM_k hc (by decide) (k := 97)).mp h0]; rfl)
  by_cases h1 : lkM c = 104
  · refine PW_lookup (tgt := 58) (off := 57) c_M_nameOf_1 (by decide) (by rw [h1]; rfl) rfl ?_
    refine PW_iconst (v := 3) c_M_nameOf_58 (by decide) ?_
    refine PW_ireturn (ty := .int) c_M_nameOf_59 rfl rfl ?_
    exact pqi h (by rw [show c = 104 from (lkM_k hc (by decide) (k := 104)).mp h1]; rfl)
  by_cases h2 : lkM c = 109
  · refine PW_lookup (tgt := 60) (off := 59) c_M_nameOf_1 (by decide) (by rw [h2]; rfl) rfl ?_
    refine PW_iconst (v := 4) c_M_nameOf_60 (by decide) ?_
    refine PW_ireturn (ty := .int) c_M_nameOf_61 rfl rfl ?_
    exact pqi h (by rw [show c = 109 from (lkM_k hc (by decide) (k := 109)).mp h2]; rfl)
  by_cases h3 : lkM c = 110
  · refine PW_lookup (tgt := 54) (off := 53) c_M_nameOf_1 (by decide) (by rw [h3]; rfl) rfl ?_
    refine PW_iconst (v := 1) c_M_nameOf_54 (by decide) ?_
    refine PW_ireturn (ty := .int) c_M_nameOf_55 rfl rfl ?_
    exact pqi h (by rw [show c = 110 from (lkM_k hc (by decide) (k := 110)).mp h3]; rfl)
  by_cases h4 : lkM c = 116
  · refine PW_lookup (tgt := 52) (off := 51) c_M_nameOf_1 (by decide) (by rw [h4]; rfl) rfl ?_
    refine PW_iconst (v := 0) c_M_nameOf_52 (by decide) ?_
    refine PW_ireturn (ty := .int) c_M_nameOf_53 rfl rfl ?_
    exact pqi h (by rw [show c = 116 from (lkM_k hc (by decide) (k := 116)).mp h4]; rfl)
  refine PW_lookup (tgt := 62) (off := 61) c_M_nameOf_1 (by decide) (by rw [lv_osw h0 (by decide)]; rw [lv_osw h1 (by decide)]; rw [lv_osw h2 (by decide)]; rw [lv_osw h3 (by decide)]; rw [lv_osw h4 (by decide)]; rfl) rfl ?_
  refine PW_iconst (v := -1) c_M_nameOf_62 (by decide) ?_
  refine PW_ireturn (ty := .int) c_M_nameOf_63 rfl rfl ?_
  exact pqi h (by
    have n97 : ¬ c = 97 := fun q => h0 ((lkM_k hc (by decide) (k := 97)).mpr q)
    have n104 : ¬ c = 104 := fun q => h1 ((lkM_k hc (by decide) (k := 104)).mpr q)
    have n109 : ¬ c = 109 := fun q => h2 ((lkM_k hc (by decide) (k := 109)).mpr q)
    have n110 : ¬ c = 110 := fun q => h3 ((lkM_k hc (by decide) (k := 110)).mpr q)
    have n116 : ¬ c = 116 := fun q => h4 ((lkM_k hc (by decide) (k := 116)).mpr q)
    have e : nmO c = 9 := by unfold nmO; rw [if_neg n116, if_neg n110, if_neg n97, if_neg n104, if_neg n109]
    exact if_neg (show ¬ nmO c < 5 by rw [e]; decide))
theorem sp_T_isDigit {z : ZS} {post : Option Value → List PE → Prop} {x y : XS}  {v : Int32}  (h : post (some (.int (b2i (48 ≤ v ∧ v ≤ 57)))) (E x y)) : PW (0, 0, 0, z) m_T_isDigit post 0 [some (.int v)] [] (E x y) := by
  refine PW_iload_n c_T_isDigit_0 rfl ?_
  refine PW_bipush (v := 48) c_T_isDigit_1 (by decide) ?_
  refine PW_icmp_lt c_T_isDigit_3 (fun h0 => ?_) (fun h0 => ?_)
  · refine PW_iconst (v := 0) c_T_isDigit_16 (by decide) ?_
    refine PW_ireturn (ty := .boolean) c_T_isDigit_17 rfl (by decide +kernel) ?_
    exact pq0 h (by simp only [Int32.lt_iff_toInt_lt, Int32.le_iff_toInt_le, Int32.not_lt, Int32.not_le, ← Int32.toInt_inj, tiA] at *; omega)
  · refine PW_iload_n c_T_isDigit_6 rfl ?_
    refine PW_bipush (v := 57) c_T_isDigit_7 (by decide) ?_
    refine PW_icmp_gt c_T_isDigit_9 (fun h1 => ?_) (fun h1 => ?_)
    · refine PW_iconst (v := 0) c_T_isDigit_16 (by decide) ?_
      refine PW_ireturn (ty := .boolean) c_T_isDigit_17 rfl (by decide +kernel) ?_
      exact pq0 h (by simp only [Int32.lt_iff_toInt_lt, Int32.le_iff_toInt_le, Int32.not_lt, Int32.not_le, ← Int32.toInt_inj, tiA] at *; omega)
    · refine PW_iconst (v := 1) c_T_isDigit_12 (by decide) ?_
      refine PW_goto c_T_isDigit_13 ?_
      refine PW_ireturn (ty := .boolean) c_T_isDigit_17 rfl (by decide +kernel) ?_
      exact pq1 h (by simp only [Int32.lt_iff_toInt_lt, Int32.le_iff_toInt_le, Int32.not_lt, Int32.not_le, ← Int32.toInt_inj, tiA] at *; omega)
theorem sp_T_write {X y : XS} {k : Nat} {a v : Int32} (hs : X.1 221 = nI k) (hk : k < 256) {z : ZS} {post : Option Value → List PE → Prop} (h : post none (E (wrt X k a v) y)) : PW (0, 0, 0, z) m_T_write post 0 [some (.ref 27), some (.int a), some (.int v)] [] (E X y) := by
  refine PW_aload_n c_T_write_0 rfl ?_
  refine PW_get (v := .int (X.1 221)) c_T_write_1 fl_T_25 (gf_27_5 _ _) ?_
  rw [hs]
  show PW _ _ _ 4 [some (.ref 27), some (.int a), some (.int v)] [.int (nI k)] (E X y)
  refine PW_if_lt c_T_write_4 (fun h0 => absurd h0 (nI_pos (by omega))) (fun h0 => ?_)
  refine PW_aload_n c_T_write_7 rfl ?_
  refine PW_get (v := .int (X.1 221)) c_T_write_8 fl_T_25 (gf_27_5 _ _) ?_
  rw [hs]
  show PW _ _ _ 11 [some (.ref 27), some (.int a), some (.int v)] [.int (nI k)] (E X y)
  refine PW_sipush (v := 256) c_T_write_11 (by decide) ?_
  refine PW_icmp_ge c_T_write_14 (fun h1 => absurd h1 (fun q => absurd ((nI_leI (a := 256) (by decide) (by omega)).mp q) (by omega))) (fun h1 => ?_)
  refine PW_aload_n c_T_write_17 rfl ?_
  refine PW_get (v := .ref 29) c_T_write_18 fl_T_15 (gf_27_1 _ _) ?_
  refine PW_aload_n c_T_write_21 rfl ?_
  refine PW_get (v := .int (X.1 221)) c_T_write_22 fl_T_25 (gf_27_5 _ _) ?_
  rw [hs]
  show PW _ _ _ 25 [some (.ref 27), some (.int a), some (.int v)] [.int (nI k), .ref 29] (E X y)
  refine PW_iload_n c_T_write_25 rfl ?_
  refine PW_iast (j := k) (w2 := E (sA X 29 (upd (X.2.1 29) k a)) y) c_T_write_26 (ar_29 _ _) (vp_in_nI hk (by decide)) (nI_clamp (by omega)) (aw_29 _ _ _) ?_
  refine PW_aload_n c_T_write_27 rfl ?_
  refine PW_get (v := .ref 30) c_T_write_28 fl_T_18 (gf_27_2 _ _) ?_
  refine PW_aload_n c_T_write_31 rfl ?_
  refine PW_get (v := .int (X.1 221)) c_T_write_32 fl_T_25 (gf_27_5 _ _) ?_
  rw [show _ = nI k from hs]
  show PW _ _ _ 35 [some (.ref 27), some (.int a), some (.int v)] [.int (nI k), .ref 30] (E (sA X 29 (upd (X.2.1 29) k a)) y)
  refine PW_iload_n c_T_write_35 rfl ?_
  refine PW_iast (j := k) (w2 := E (sA (sA X 29 (upd (X.2.1 29) k a)) 30 (upd (X.2.1 30) k v)) y) c_T_write_36 (ar_30 _ _) (vp_in_nI hk (by decide)) (nI_clamp (by omega)) (aw_30 _ _ _) ?_
  refine PW_aload_n c_T_write_37 rfl ?_
  refine PW_dup c_T_write_38 rfl ?_
  refine PW_get (v := .int (X.1 221)) c_T_write_39 fl_T_25 (gf_27_5 _ _) ?_
  rw [show _ = nI k from hs]
  show PW _ _ _ 42 [some (.ref 27), some (.int a), some (.int v)] [.int (nI k), .ref 27] (E (sA (sA X 29 (upd (X.2.1 29) k a)) 30 (upd (X.2.1 30) k v)) y)
  refine PW_iconst (v := 1) c_T_write_42 (by decide) ?_
  refine PW_iadd c_T_write_43 ?_
  refine PW_put (w2 := E (sI (sA (sA X 29 (upd (X.2.1 29) k a)) 30 (upd (X.2.1 30) k v)) 221 ((nI k) + 1)) y) c_T_write_44 fp_T_write_25 rfl (pf_27_5 _ _ _) ?_
  refine PW_vreturn c_T_write_47 rfl ?_
  rw [nI_1]
  exact h
theorem lp_T_num {X y : XS} {g : Nat → Nat} {n : Nat} (hT : tpX X g n) {z : ZS} {post : Option Value → List PE → Prop} : ∀ (j i q : Nat) (v : Int32), i + j = 4 → q ≤ n → (∀ {l2 : Option Value}, PW (1, 0, 0, z) m_T_readNumber post 48 [some (.ref 27), some (.int ((rdN g n j q v).2)), l2] [] (E (sI X 220 (nI (rdN g n j q v).1)) y)) → PW (1, 0, 0, z) m_T_readNumber post 4 [some (.ref 27), some (.int v), some (.int (nI i))] [] (E (sI X 220 (nI q)) y) := by
  have hn := hT.2.1
  intro j
  induction j with
  | zero =>
    intro i q v hi hq h
    rw [rdN] at h
    refine PW_iload_n c_T_readNumber_4 rfl ?_
    refine PW_iconst (v := 4) c_T_readNumber_5 (by decide) ?_
    refine PW_icmp_ge c_T_readNumber_6 (fun h0 => ?_) (fun h0 => absurd (by rw [show i = 4 by omega]; decide : (4 : Int32) ≤ nI i) h0)
    exact h
  | succ j ih =>
    intro i q v hi hq h
    have hc : sg g n q < 257 := tpX_sg hT
    rw [rdN] at h
    by_cases hd : isD (sg g n q)
    · rw [if_pos hd] at h
      have hqn : q < n := sg_lt (g := g) (by unfold isD at hd; omega)
      have hsx : sgX (sg g n q) = nI (sg g n q) := by unfold sgX; rw [if_pos (by unfold isD at hd; omega)]
      refine PW_iload_n c_T_readNumber_4 rfl ?_
      refine PW_iconst (v := 4) c_T_readNumber_5 (by decide) ?_
      refine PW_icmp_ge c_T_readNumber_6 (fun h0 => absurd h0 (fun w => absurd ((nI_leI (a := 4) (by decide) (by omega)).mp w) (by omega))) (fun h0 => ?_)
      refine PW_aload_n c_T_readNumber_9 rfl ?_
      refine PW_V0 (d2 := 0) (st := []) [] c_T_readNumber_10 lk_T_readNumber_35 (po_27 _ _) rfl rfl rfl (Nat.le_of_ble_eq_true rfl) (by first | decide | omega) (Nat.le_of_ble_eq_true rfl) ?_
      refine sp_T_sign (p := q) (tpX_fr hT frT_p) rfl hq ?_
      show PW _ _ _ 13 [some (.ref 27), some (.int v), some (.int (nI i))] [.int (sgX (sg g n q))] (E (sI X 220 (nI q)) y)
      refine PW_S0 (d2 := 0) (st := []) [.int (sgX (sg g n q))] c_T_readNumber_13 lk_T_readNumber_58 rfl rfl rfl (Nat.le_of_ble_eq_true rfl) (by first | decide | omega) (Nat.le_of_ble_eq_true rfl) ?_
      refine sp_T_isDigit  ?_
      show PW _ _ _ 16 [some (.ref 27), some (.int v), some (.int (nI i))] [.int (b2i (48 ≤ (sgX (sg g n q)) ∧ (sgX (sg g n q)) ≤ 57))] (E (sI X 220 (nI q)) y)
      refine PW_if_eq c_T_readNumber_16 (fun h1 => absurd ((sgX_D hc).mpr hd) (b2i_0.mp h1)) (fun _ => ?_)
      refine PW_iload_n c_T_readNumber_19 rfl ?_
      refine PW_bipush (v := 10) c_T_readNumber_20 (by decide) ?_
      refine PW_imul c_T_readNumber_22 ?_
      refine PW_aload_n c_T_readNumber_23 rfl ?_
      refine PW_V0 (d2 := 0) (st := [.int (v * 10)]) [] c_T_readNumber_24 lk_T_readNumber_35 (po_27 _ _) rfl rfl rfl (Nat.le_of_ble_eq_true rfl) (by first | decide | omega) (Nat.le_of_ble_eq_true rfl) ?_
      refine sp_T_sign (p := q) (tpX_fr hT frT_p) rfl hq ?_
      show PW _ _ _ 27 [some (.ref 27), some (.int v), some (.int (nI i))] [.int (sgX (sg g n q)), .int (v * 10)] (E (sI X 220 (nI q)) y)
      refine PW_iadd c_T_readNumber_27 ?_
      refine PW_bipush (v := 48) c_T_readNumber_28 (by decide) ?_
      refine PW_isub c_T_readNumber_30 ?_
      refine PW_istore_n (i := 1) (L2 := [some (.ref 27), some (.int (((v * 10) + (sgX (sg g n q))) - 48)), some (.int (nI i))]) c_T_readNumber_31 rfl (Nat.le_of_ble_eq_true rfl) rfl rfl ?_
      refine PW_aload_n c_T_readNumber_32 rfl ?_
      refine PW_dup c_T_readNumber_33 rfl ?_
      refine PW_get (v := .int (nI q)) c_T_readNumber_34 fl_T_28 (gf_27_4 _ _) ?_
      refine PW_iconst (v := 1) c_T_readNumber_37 (by decide) ?_
      refine PW_iadd c_T_readNumber_38 ?_
      refine PW_put (w2 := E (sI (sI X 220 (nI q)) 220 ((nI q) + 1)) y) c_T_readNumber_39 fp_T_readNumber_28 rfl (pf_27_4 _ _ _) ?_
      refine PW_iinc (i := 2) (v := (nI i) + 1) (L2 := [some (.ref 27), some (.int (((v * 10) + (sgX (sg g n q))) - 48)), some (.int ((nI i) + 1))]) c_T_readNumber_42 rfl (iinc_v (by decide)) (Nat.le_of_ble_eq_true rfl) rfl rfl ?_
      refine PW_goto c_T_readNumber_45 ?_
      refine PW.eqL ?_ rfl ?_ (ih (i + 1) (q + 1) (v * 10 + nI (sg g n q) - 48) (by omega) hqn h)
      · show ([some (.ref 27), some (.int (((v * 10) + (sgX (sg g n q))) - 48)), some (.int ((nI i) + 1))] : List (Option Value)) = [some (.ref 27), some (.int (v * 10 + nI (sg g n q) - 48)), some (.int (nI (i + 1)))]
        rw [nI_1, hsx]
      · rw [sI_sI, nI_1]
    · rw [if_neg hd] at h
      refine PW_iload_n c_T_readNumber_4 rfl ?_
      refine PW_iconst (v := 4) c_T_readNumber_5 (by decide) ?_
      refine PW_icmp_ge c_T_readNumber_6 (fun h0 => absurd h0 (fun w => absurd ((nI_leI (a := 4) (by decide) (by omega)).mp w) (by omega))) (fun h0 => ?_)
      refine PW_aload_n c_T_readNumber_9 rfl ?_
      refine PW_V0 (d2 := 0) (st := []) [] c_T_readNumber_10 lk_T_readNumber_35 (po_27 _ _) rfl rfl rfl (Nat.le_of_ble_eq_true rfl) (by first | decide | omega) (Nat.le_of_ble_eq_true rfl) ?_
      refine sp_T_sign (p := q) (tpX_fr hT frT_p) rfl hq ?_
      show PW _ _ _ 13 [some (.ref 27), some (.int v), some (.int (nI i))] [.int (sgX (sg g n q))] (E (sI X 220 (nI q)) y)
      refine PW_S0 (d2 := 0) (st := []) [.int (sgX (sg g n q))] c_T_readNumber_13 lk_T_readNumber_58 rfl rfl rfl (Nat.le_of_ble_eq_true rfl) (by first | decide | omega) (Nat.le_of_ble_eq_true rfl) ?_
      refine sp_T_isDigit  ?_
      show PW _ _ _ 16 [some (.ref 27), some (.int v), some (.int (nI i))] [.int (b2i (48 ≤ (sgX (sg g n q)) ∧ (sgX (sg g n q)) ≤ 57))] (E (sI X 220 (nI q)) y)
      refine PW_if_eq c_T_readNumber_16 (fun _ => ?_) (fun h1 => absurd (b2i_n0.mp h1) (fun w => hd ((sgX_D hc).mp w)))
      exact h
theorem sI_same {X : XS} {m : Nat} {v : Int32} (h : X.1 m = v) : sI X m v = X := by
  refine Prod.ext (funext fun q => ?_) rfl
  show (if q = m then v else X.1 q) = X.1 q
  by_cases e : q = m
  · rw [if_pos e, e, h]
  · rw [if_neg e]
theorem sp_T_num {X y : XS} {g : Nat → Nat} {n p k : Nat} (hT : tpX X g n) (hp : X.1 220 = nI p) (hs : X.1 221 = nI k) (hk : k < 256) (hpn : p ≤ n) {z : ZS} {post : Option Value → List PE → Prop} (h : post none (E (wrt (sI X 220 (nI (rdN g n 4 p 0).1)) k 48 (rdN g n 4 p 0).2) y)) : PW (1, 0, 0, z) m_T_readNumber post 0 [some (.ref 27), none, none] [] (E X y) := by
  have hX := sI_same hp
  refine PW_iconst (v := 0) c_T_readNumber_0 (by decide) ?_
  refine PW_istore_n (i := 1) (L2 := [some (.ref 27), some (.int 0), none]) c_T_readNumber_1 rfl (Nat.le_of_ble_eq_true rfl) rfl rfl ?_
  refine PW_iconst (v := 0) c_T_readNumber_2 (by decide) ?_
  refine PW_istore_n (i := 2) (L2 := [some (.ref 27), some (.int 0), some (.int 0)]) c_T_readNumber_3 rfl (Nat.le_of_ble_eq_true rfl) rfl rfl ?_
  refine PW.eqL ?_ rfl ?_ (lp_T_num (y := y) hT 4 0 p 0 rfl hpn (fun {l2} => ?_))
  · rfl
  · rw [show sI X 220 (nI p) = X from hX]
  · show PW _ _ _ 48 [some (.ref 27), some (.int ((rdN g n 4 p 0).2)), l2] [] (E (sI X 220 (nI (rdN g n 4 p 0).1)) y)
    refine PW_aload_n c_T_readNumber_48 rfl ?_
    refine PW_bipush (v := 48) c_T_readNumber_49 (by decide) ?_
    refine PW_iload_n c_T_readNumber_51 rfl ?_
    refine PW_V0 (d2 := 0) (st := []) [.int 48, .int ((rdN g n 4 p 0).2)] c_T_readNumber_52 lk_T_readNumber_43 (po_27 _ _) rfl rfl rfl (Nat.le_of_ble_eq_true rfl) (by first | decide | omega) (Nat.le_of_ble_eq_true rfl) ?_
    refine sp_T_write (X := sI X 220 (nI (rdN g n 4 p 0).1)) hs (by omega) ?_
    show PW _ _ _ 55 [some (.ref 27), some (.int ((rdN g n 4 p 0).2)), l2] [] (E (wrt (sI X 220 (nI (rdN g n 4 p 0).1)) k 48 (rdN g n 4 p 0).2) y)
    refine PW_vreturn c_T_readNumber_55 rfl ?_
    exact h
