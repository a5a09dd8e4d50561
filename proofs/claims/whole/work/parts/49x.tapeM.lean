/-! the tape of the other side -/
def tpM (Y : XS) (g : Nat → Nat) (n : Nat) : Prop := Y.1 577 = nI n ∧ n ≤ 120 ∧ ∀ i, i < n → Y.2.1 83 i = vp_nar .byte (nI (g i)) ∧ g i < 256
def frM (Y Y' : XS) : Prop := (∀ m, (m < 578 ∨ 581 < m) → Y'.1 m = Y.1 m) ∧ (∀ a, a ≠ 84 → a ≠ 85 → Y'.2.1 a = Y.2.1 a) ∧ Y'.2.2 = Y.2.2
theorem frM_0 (Y : XS) : frM Y Y := ⟨fun _ _ => rfl, fun _ _ _ => rfl, rfl⟩
theorem frM_t {Y Y' Y2 : XS} (a : frM Y Y') (b : frM Y' Y2) : frM Y Y2 := ⟨fun m p => (b.1 m p).trans (a.1 m p), fun m p q => (b.2.1 m p q).trans (a.2.1 m p q), b.2.2.trans a.2.2⟩
theorem frM_i {Y : XS} {m : Nat} {v : Int32} (h : 578 ≤ m ∧ m ≤ 581) : frM Y (sI Y m v) := ⟨fun q p => sI_n (by omega), fun _ _ _ => rfl, rfl⟩
def adS (Y : XS) (k : Nat) (a v : Int32) : XS := sI (sA (sA Y 84 (upd (Y.2.1 84) (130 + k) a)) 85 (upd (Y.2.1 85) (130 + k) v)) 581 (nI (k + 1))
theorem adS_84 {Y : XS} {k : Nat} {a v : Int32} : (adS Y k a v).2.1 84 = upd (Y.2.1 84) (130 + k) a := rfl
theorem adS_85 {Y : XS} {k : Nat} {a v : Int32} : (adS Y k a v).2.1 85 = upd (Y.2.1 85) (130 + k) v := rfl
theorem adS_1 {Y : XS} {k m : Nat} {a v : Int32} (h : m ≠ 581) : (adS Y k a v).1 m = Y.1 m := sI_n h
theorem adS_s {Y : XS} {k : Nat} {a v : Int32} : (adS Y k a v).1 581 = nI (k + 1) := sI_s
theorem frM_a {Y : XS} {k : Nat} {a v : Int32} : frM Y (adS Y k a v) := ⟨fun m p => sI_n (by omega), fun m p q => by show (if m = 85 then _ else if m = 84 then _ else Y.2.1 m) = _; rw [if_neg q, if_neg p], rfl⟩
theorem tpM_fr {Y Y' : XS} {g : Nat → Nat} {n : Nat} (h : tpM Y g n) (f : frM Y Y') : tpM Y' g n := ⟨(f.1 577 (by decide)).trans h.1, h.2.1, fun i hi => by rw [f.2.1 83 (by decide) (by decide)]; exact h.2.2 i hi⟩
theorem tpM_sg {Y : XS} {g : Nat → Nat} {n p : Nat} (h : tpM Y g n) : sg g n p < 257 := by
  unfold sg
  split
  · rename_i q; have := (h.2.2 p q).2; omega
  · omega
def stM (s : Stp0) : Int32 × Int32 := (nI s.1, s.2)
theorem sp_M_look {Y : XS} {g : Nat → Nat} {n p : Nat} (hT : tpM Y g n) (hp : Y.1 578 = nI p) (hpn : p ≤ n) {x : XS} {z : ZS} {post : Option Value → List PE → Prop} (h : post (some (.int (lkM (sg g n p)))) (E x Y)) : PW (0, 0, 0, z) m_M_look post 0 [some (.ref 70)] [] (E x Y) := by
  have hn := hT.2.1
  by_cases hlt : p < n
  · have e : lkM (sg g n p) = Y.2.1 83 p := by
      unfold sg; rw [if_pos hlt]; unfold lkM; rw [if_pos (hT.2.2 p hlt).2, (hT.2.2 p hlt).1]
    refine PW_aload_n c_M_look_0 rfl ?_
    refine PW_get (v := .int (Y.1 578)) c_M_look_1 fl_M_185 (gf_70_18 _ _) ?_
    rw [hp]
    show PW _ _ _ 4 [some (.ref 70)] [.int (nI p)] (E x Y)
    refine PW_aload_n c_M_look_4 rfl ?_
    refine PW_get (v := .int (Y.1 577)) c_M_look_5 fl_M_182 (gf_70_17 _ _) ?_
    rw [hT.1]
    show PW _ _ _ 8 [some (.ref 70)] [.int (nI n), .int (nI p)] (E x Y)
    refine PW_icmp_ge c_M_look_8 (fun h0 => absurd h0 (fun q => absurd ((nI_leI (by omega) (by omega)).mp q) (by omega))) (fun h0 => ?_)
    refine PW_aload_n c_M_look_11 rfl ?_
    refine PW_get (v := .ref 83) c_M_look_12 fl_M_46 (gf_70_16 _ _) ?_
    refine PW_aload_n c_M_look_15 rfl ?_
    refine PW_get (v := .int (Y.1 578)) c_M_look_16 fl_M_185 (gf_70_18 _ _) ?_
    rw [hp]
    show PW _ _ _ 19 [some (.ref 70)] [.int (nI p), .ref 83] (E x Y)
    refine PW_bald (j := p) c_M_look_19 (ar_83 _ _) (vp_in_nI (by omega) (by decide)) (nI_clamp (by omega)) ?_
    show PW _ _ _ 20 [some (.ref 70)] [.int ((Y.2.1 83) p)] (E x Y)
    refine PW_goto c_M_look_20 ?_
    refine PW_ireturn (ty := .int) c_M_look_24 rfl rfl ?_
    exact pqi h e
  · have e : lkM (sg g n p) = -1 := by
      unfold sg; rw [if_neg hlt]; rfl
    refine PW_aload_n c_M_look_0 rfl ?_
    refine PW_get (v := .int (Y.1 578)) c_M_look_1 fl_M_185 (gf_70_18 _ _) ?_
    rw [hp]
    show PW _ _ _ 4 [some (.ref 70)] [.int (nI p)] (E x Y)
    refine PW_aload_n c_M_look_4 rfl ?_
    refine PW_get (v := .int (Y.1 577)) c_M_look_5 fl_M_182 (gf_70_17 _ _) ?_
    rw [hT.1]
    show PW _ _ _ 8 [some (.ref 70)] [.int (nI n), .int (nI p)] (E x Y)
    refine PW_icmp_ge c_M_look_8 (fun h0 => ?_) (fun h0 => absurd ((nI_leI (by omega) (by omega)).mpr (by omega)) h0)
    refine PW_iconst (v := -1) c_M_look_23 (by decide) ?_
    refine PW_ireturn (ty := .int) c_M_look_24 rfl rfl ?_
    exact pqi h e
theorem sp_M_addStep {Y : XS} {k a : Nat} {w v : Int32} (ea : w = nI a) (ha : a < 128) (hl : Y.1 581 = nI k) (hk : k < 130) {x : XS} {z : ZS} {post : Option Value → List PE → Prop} (h : post none (E x (adS Y k (nI a) v))) : PW (0, 0, 0, z) m_M_addStep post 0 [some (.ref 70), some (.int w), some (.int v)] [] (E x Y) := by
  subst ea
  refine PW_aload_n c_M_addStep_0 rfl ?_
  refine PW_get (v := .ref 84) c_M_addStep_1 fl_M_50 (gf_70_22 _ _) ?_
  refine PW_sipush (v := 130) c_M_addStep_4 (by decide) ?_
  refine PW_aload_n c_M_addStep_7 rfl ?_
  refine PW_get (v := .int (Y.1 581)) c_M_addStep_8 fl_M_191 (gf_70_21 _ _) ?_
  rw [hl]
  show PW _ _ _ 11 [some (.ref 70), some (.int (nI a)), some (.int v)] [.int (nI k), .int 130, .ref 84] (E x Y)
  refine PW_iadd c_M_addStep_11 ?_
  refine PW_iload_n c_M_addStep_12 rfl ?_
  refine PW_i2b c_M_addStep_13 ?_
  refine PW_bast (j := 130 + k) (w2 := E x (sA Y 84 (upd (Y.2.1 84) (130 + k) (vp_nar .byte ((nI a).toInt8.toInt32))))) c_M_addStep_14 (ar_84 _ _) (by rw [show (130 : Int32) = nI 130 from rfl, nI_add]; exact vp_in_nI (by omega) (by decide)) (by rw [show (130 : Int32) = nI 130 from rfl, nI_add]; exact nI_clamp (by omega)) (aw_84 _ _ _) ?_
  refine PW_aload_n c_M_addStep_15 rfl ?_
  refine PW_get (v := .ref 85) c_M_addStep_16 fl_M_53 (gf_70_23 _ _) ?_
  refine PW_sipush (v := 130) c_M_addStep_19 (by decide) ?_
  refine PW_aload_n c_M_addStep_22 rfl ?_
  refine PW_get (v := .int (Y.1 581)) c_M_addStep_23 fl_M_191 (gf_70_21 _ _) ?_
  rw [hl]
  show PW _ _ _ 26 [some (.ref 70), some (.int (nI a)), some (.int v)] [.int (nI k), .int 130, .ref 85] (E x (sA Y 84 (upd (Y.2.1 84) (130 + k) (vp_nar .byte ((nI a).toInt8.toInt32)))))
  refine PW_iadd c_M_addStep_26 ?_
  refine PW_iload_n c_M_addStep_27 rfl ?_
  refine PW_iast (j := 130 + k) (w2 := E x (sA (sA Y 84 (upd (Y.2.1 84) (130 + k) (vp_nar .byte ((nI a).toInt8.toInt32)))) 85 (upd (Y.2.1 85) (130 + k) v))) c_M_addStep_28 (ar_85 _ _) (by rw [show (130 : Int32) = nI 130 from rfl, nI_add]; exact vp_in_nI (by omega) (by decide)) (by rw [show (130 : Int32) = nI 130 from rfl, nI_add]; exact nI_clamp (by omega)) (aw_85 _ _ _) ?_
  refine PW_aload_n c_M_addStep_29 rfl ?_
  refine PW_dup c_M_addStep_30 rfl ?_
  refine PW_get (v := .int (Y.1 581)) c_M_addStep_31 fl_M_191 (gf_70_21 _ _) ?_
  rw [hl]
  show PW _ _ _ 34 [some (.ref 70), some (.int (nI a)), some (.int v)] [.int (nI k), .ref 70] (E x (sA (sA Y 84 (upd (Y.2.1 84) (130 + k) (vp_nar .byte ((nI a).toInt8.toInt32)))) 85 (upd (Y.2.1 85) (130 + k) v)))
  refine PW_iconst (v := 1) c_M_addStep_34 (by decide) ?_
  refine PW_iadd c_M_addStep_35 ?_
  refine PW_put (w2 := E x (sI (sA (sA Y 84 (upd (Y.2.1 84) (130 + k) (vp_nar .byte ((nI a).toInt8.toInt32)))) 85 (upd (Y.2.1 85) (130 + k) v)) 581 ((nI k) + 1))) c_M_addStep_36 fp_M_addStep_191 rfl (pf_70_21 _ _ _) ?_
  refine PW_vreturn c_M_addStep_39 rfl ?_
  rw [nI_1, nar_op a ha]
  exact h
theorem lp_M_fig {Y : XS} {g : Nat → Nat} {n : Nat} (hT : tpM Y g n) {x : XS} {z : ZS} {post : Option Value → List PE → Prop} : ∀ (j i q : Nat) (v : Int32), i + j = 4 → q ≤ n → (PW (1, 0, 0, z) m_M_figure post 52 [some (.ref 70), some (.int ((rdN g n j q v).2)), some (.int (nI (i + ((rdN g n j q v).1 - q))))] [] (E x (sI Y 578 (nI (rdN g n j q v).1)))) → PW (1, 0, 0, z) m_M_figure post 4 [some (.ref 70), some (.int v), some (.int (nI i))] [] (E x (sI Y 578 (nI q))) := by
  have hn := hT.2.1
  intro j
  induction j with
  | zero =>
    intro i q v hi hq h
    rw [rdN] at h
    refine PW_iload_n c_M_figure_4 rfl ?_
    refine PW_iconst (v := 4) c_M_figure_5 (by decide) ?_
    refine PW_icmp_ge c_M_figure_6 (fun h0 => ?_) (fun h0 => absurd (by rw [show i = 4 by omega]; decide : (4 : Int32) ≤ nI i) h0)
    refine PW.eqL ?_ rfl rfl h
    show ([some (.ref 70), some (.int v), some (.int (nI i))] : List (Option Value)) = _
    rw [show i + (q - q) = i by omega]
  | succ j ih =>
    intro i q v hi hq h
    have hc : sg g n q < 257 := tpM_sg hT
    rw [rdN] at h
    by_cases hd : isD (sg g n q)
    · rw [if_pos hd] at h
      have hqn : q < n := sg_lt (g := g) (by unfold isD at hd; omega)
      have hsx : lkM (sg g n q) = nI (sg g n q) := lkM_lo (by unfold isD at hd; omega)
      have hge := (rdN_p (g := g) j (q + 1) (v * 10 + nI (sg g n q) - 48) hqn).1
      refine PW_iload_n c_M_figure_4 rfl ?_
      refine PW_iconst (v := 4) c_M_figure_5 (by decide) ?_
      refine PW_icmp_ge c_M_figure_6 (fun h0 => absurd h0 (fun w => absurd ((nI_leI (a := 4) (by decide) (by omega)).mp w) (by omega))) (fun h0 => ?_)
      refine PW_aload_n c_M_figure_9 rfl ?_
      refine PW_V0 (d2 := 0) (st := []) [] c_M_figure_10 lk_M_figure_200 (po_70 _ _) rfl rfl rfl (Nat.le_of_ble_eq_true rfl) (by first | decide | omega) (Nat.le_of_ble_eq_true rfl) ?_
      refine sp_M_look (p := q) (tpM_fr hT (frM_i (by decide))) rfl hq ?_
      show PW _ _ _ 13 [some (.ref 70), some (.int v), some (.int (nI i))] [.int (lkM (sg g n q))] (E x (sI Y 578 (nI q)))
      refine PW_bipush (v := 48) c_M_figure_13 (by decide) ?_
      refine PW_bipush (v := 57) c_M_figure_15 (by decide) ?_
      refine PW_S0 (d2 := 0) (st := []) [.int (lkM (sg g n q)), .int 48, .int 57] c_M_figure_17 lk_M_figure_131 rfl rfl rfl (Nat.le_of_ble_eq_true rfl) (by first | decide | omega) (Nat.le_of_ble_eq_true rfl) ?_
      refine sp_M_within  ?_
      show PW _ _ _ 20 [some (.ref 70), some (.int v), some (.int (nI i))] [.int (b2i ((48 : Int32) ≤ (lkM (sg g n q)) ∧ (lkM (sg g n q)) ≤ (57 : Int32)))] (E x (sI Y 578 (nI q)))
      refine PW_if_eq c_M_figure_20 (fun h1 => absurd ((lkM_D hc).mpr hd) (b2i_0.mp h1)) (fun _ => ?_)
      refine PW_bipush (v := 10) c_M_figure_23 (by decide) ?_
      refine PW_iload_n c_M_figure_25 rfl ?_
      refine PW_imul c_M_figure_26 ?_
      refine PW_aload_n c_M_figure_27 rfl ?_
      refine PW_V0 (d2 := 0) (st := [.int (10 * v)]) [] c_M_figure_28 lk_M_figure_200 (po_70 _ _) rfl rfl rfl (Nat.le_of_ble_eq_true rfl) (by first | decide | omega) (Nat.le_of_ble_eq_true rfl) ?_
      refine sp_M_look (p := q) (tpM_fr hT (frM_i (by decide))) rfl hq ?_
      show PW _ _ _ 31 [some (.ref 70), some (.int v), some (.int (nI i))] [.int (lkM (sg g n q)), .int (10 * v)] (E x (sI Y 578 (nI q)))
      refine PW_iadd c_M_figure_31 ?_
      refine PW_bipush (v := 48) c_M_figure_32 (by decide) ?_
      refine PW_isub c_M_figure_34 ?_
      refine PW_istore_n (i := 1) (L2 := [some (.ref 70), some (.int (((10 * v) + (lkM (sg g n q))) - 48)), some (.int (nI i))]) c_M_figure_35 rfl (Nat.le_of_ble_eq_true rfl) rfl rfl ?_
      refine PW_iinc (i := 2) (v := (nI i) + 1) (L2 := [some (.ref 70), some (.int (((10 * v) + (lkM (sg g n q))) - 48)), some (.int ((nI i) + 1))]) c_M_figure_36 rfl (iinc_v (by decide)) (Nat.le_of_ble_eq_true rfl) rfl rfl ?_
      refine PW_aload_n c_M_figure_39 rfl ?_
      refine PW_dup c_M_figure_40 rfl ?_
      refine PW_get (v := .int (nI q)) c_M_figure_41 fl_M_185 (gf_70_18 _ _) ?_
      refine PW_iconst (v := 1) c_M_figure_44 (by decide) ?_
      refine PW_iadd c_M_figure_45 ?_
      refine PW_put (w2 := E x (sI (sI Y 578 (nI q)) 578 ((nI q) + 1))) c_M_figure_46 fp_M_figure_185 rfl (pf_70_18 _ _ _) ?_
      refine PW_goto c_M_figure_49 ?_
      refine PW.eqL ?_ rfl ?_ (ih (i + 1) (q + 1) (v * 10 + nI (sg g n q) - 48) (by omega) hqn ?_)
      · show ([some (.ref 70), some (.int (((10 * v) + (lkM (sg g n q))) - 48)), some (.int ((nI i) + 1))] : List (Option Value)) = [some (.ref 70), some (.int (v * 10 + nI (sg g n q) - 48)), some (.int (nI (i + 1)))]
        rw [nI_1, hsx, Int32.mul_comm]
      · rw [sI_sI, nI_1]
      · rw [show i + 1 + ((rdN g n j (q + 1) (v * 10 + nI (sg g n q) - 48)).1 - (q + 1)) = i + ((rdN g n j (q + 1) (v * 10 + nI (sg g n q) - 48)).1 - q) by omega]
        exact h
    · rw [if_neg hd] at h
      refine PW_iload_n c_M_figure_4 rfl ?_
      refine PW_iconst (v := 4) c_M_figure_5 (by decide) ?_
      refine PW_icmp_ge c_M_figure_6 (fun h0 => absurd h0 (fun w => absurd ((nI_leI (a := 4) (by decide) (by omega)).mp w) (by omega))) (fun h0 => ?_)
      refine PW_aload_n c_M_figure_9 rfl ?_
      refine PW_V0 (d2 := 0) (st := []) [] c_M_figure_10 lk_M_figure_200 (po_70 _ _) rfl rfl rfl (Nat.le_of_ble_eq_true rfl) (by first | decide | omega) (Nat.le_of_ble_eq_true rfl) ?_
      refine sp_M_look (p := q) (tpM_fr hT (frM_i (by decide))) rfl hq ?_
      show PW _ _ _ 13 [some (.ref 70), some (.int v), some (.int (nI i))] [.int (lkM (sg g n q))] (E x (sI Y 578 (nI q)))
      refine PW_bipush (v := 48) c_M_figure_13 (by decide) ?_
      refine PW_bipush (v := 57) c_M_figure_15 (by decide) ?_
      refine PW_S0 (d2 := 0) (st := []) [.int (lkM (sg g n q)), .int 48, .int 57] c_M_figure_17 lk_M_figure_131 rfl rfl rfl (Nat.le_of_ble_eq_true rfl) (by first | decide | omega) (Nat.le_of_ble_eq_true rfl) ?_
      refine sp_M_within  ?_
      show PW _ _ _ 20 [some (.ref 70), some (.int v), some (.int (nI i))] [.int (b2i ((48 : Int32) ≤ (lkM (sg g n q)) ∧ (lkM (sg g n q)) ≤ (57 : Int32)))] (E x (sI Y 578 (nI q)))
      refine PW_if_eq c_M_figure_20 (fun _ => ?_) (fun h1 => absurd (b2i_n0.mp h1) (fun w => hd ((lkM_D hc).mp w)))
      refine PW.eqL ?_ rfl rfl h
      show ([some (.ref 70), some (.int v), some (.int (nI i))] : List (Option Value)) = _
      rw [show i + (q - q) = i by omega]
theorem sp_M_fig1 {Y : XS} {g : Nat → Nat} {n p k : Nat} (hT : tpM Y g n) (hp : Y.1 578 = nI p) (hF : Y.1 579 = -1) (hl : Y.1 581 = nI k) (hk : k < 130) (hpn : p ≤ n) (hd : isD (sg g n p)) (hdq : ¬ isD (sg g n (rdN g n 4 p 0).1)) {x : XS} {z : ZS} {post : Option Value → List PE → Prop} (h : post none (E x (adS (sI Y 578 (nI (rdN g n 4 p 0).1)) k (nI 1) (rdN g n 4 p 0).2))) : PW (1, 0, 0, z) m_M_figure post 0 [some (.ref 70), none, none] [] (E x Y) := by
  have hn := hT.2.1
  have hq2 := (rdN_p (g := g) 4 p 0 hpn).2.1
  have hq1 := rdN_1 hpn hd
  refine PW_iconst (v := 0) c_M_figure_0 (by decide) ?_
  refine PW_istore_n (i := 1) (L2 := [some (.ref 70), some (.int 0), none]) c_M_figure_1 rfl (Nat.le_of_ble_eq_true rfl) rfl rfl ?_
  refine PW_iconst (v := 0) c_M_figure_2 (by decide) ?_
  refine PW_istore_n (i := 2) (L2 := [some (.ref 70), some (.int 0), some (.int 0)]) c_M_figure_3 rfl (Nat.le_of_ble_eq_true rfl) rfl rfl ?_
  refine PW.eqL ?_ rfl ?_ (lp_M_fig (x := x) hT 4 0 p 0 rfl hpn ?_)
  · rfl
  · rw [sI_same hp]
  · show PW _ _ _ 52 [some (.ref 70), some (.int ((rdN g n 4 p 0).2)), some (.int (nI (0 + ((rdN g n 4 p 0).1 - p))))] [] (E x (sI Y 578 (nI (rdN g n 4 p 0).1)))
    refine PW_iload_n c_M_figure_52 rfl ?_
    refine PW_if_eq c_M_figure_53 (fun h0 => absurd h0 (fun w => absurd ((nI_eq (b := 0) (by omega) (by decide)).mp w) (by omega))) (fun h0 => ?_)
    refine PW_aload_n c_M_figure_56 rfl ?_
    refine PW_V0 (d2 := 0) (st := []) [] c_M_figure_57 lk_M_figure_200 (po_70 _ _) rfl rfl rfl (Nat.le_of_ble_eq_true rfl) (by first | decide | omega) (Nat.le_of_ble_eq_true rfl) ?_
    refine sp_M_look (p := (rdN g n 4 p 0).1) (tpM_fr hT (frM_i (by decide))) rfl hq2 ?_
    show PW _ _ _ 60 [some (.ref 70), some (.int ((rdN g n 4 p 0).2)), some (.int (nI (0 + ((rdN g n 4 p 0).1 - p))))] [.int (lkM (sg g n (rdN g n 4 p 0).1))] (E x (sI Y 578 (nI (rdN g n 4 p 0).1)))
    refine PW_bipush (v := 48) c_M_figure_60 (by decide) ?_
    refine PW_bipush (v := 57) c_M_figure_62 (by decide) ?_
    refine PW_S0 (d2 := 0) (st := []) [.int (lkM (sg g n (rdN g n 4 p 0).1)), .int 48, .int 57] c_M_figure_64 lk_M_figure_131 rfl rfl rfl (Nat.le_of_ble_eq_true rfl) (by first | decide | omega) (Nat.le_of_ble_eq_true rfl) ?_
    refine sp_M_within  ?_
    show PW _ _ _ 67 [some (.ref 70), some (.int ((rdN g n 4 p 0).2)), some (.int (nI (0 + ((rdN g n 4 p 0).1 - p))))] [.int (b2i ((48 : Int32) ≤ (lkM (sg g n (rdN g n 4 p 0).1)) ∧ (lkM (sg g n (rdN g n 4 p 0).1)) ≤ (57 : Int32)))] (E x (sI Y 578 (nI (rdN g n 4 p 0).1)))
    refine PW_if_eq c_M_figure_67 (fun _ => ?_) (fun h1 => absurd (b2i_n0.mp h1) (fun w => hdq ((lkM_D (tpM_sg hT)).mp w)))
    refine PW_aload_n c_M_figure_74 rfl ?_
    refine PW_iconst (v := 1) c_M_figure_75 (by decide) ?_
    refine PW_iload_n c_M_figure_76 rfl ?_
    refine PW_V0 (d2 := 0) (st := []) [.int 1, .int ((rdN g n 4 p 0).2)] c_M_figure_77 lk_M_figure_204 (po_70 _ _) rfl rfl rfl (Nat.le_of_ble_eq_true rfl) (by first | decide | omega) (Nat.le_of_ble_eq_true rfl) ?_
    refine sp_M_addStep (Y := sI Y 578 (nI (rdN g n 4 p 0).1)) (a := 1) rfl (by decide) hl (by omega) ?_
    show PW _ _ _ 80 [some (.ref 70), some (.int ((rdN g n 4 p 0).2)), some (.int (nI (0 + ((rdN g n 4 p 0).1 - p))))] [] (E x (adS (sI Y 578 (nI (rdN g n 4 p 0).1)) k (nI 1) (rdN g n 4 p 0).2))
    refine PW_vreturn c_M_figure_80 rfl ?_
    exact h
theorem sp_M_fig2 {Y : XS} {g : Nat → Nat} {n p k : Nat} (hT : tpM Y g n) (hp : Y.1 578 = nI p) (hF : Y.1 579 = -1) (hl : Y.1 581 = nI k) (hk : k < 130) (hpn : p ≤ n) (hd : isD (sg g n p)) (hdq : isD (sg g n (rdN g n 4 p 0).1)) {x : XS} {z : ZS} {post : Option Value → List PE → Prop} (h : post none (E x (adS (sI (sI Y 578 (nI (rdN g n 4 p 0).1)) 579 (nI (rdN g n 4 p 0).1)) k (nI 1) (rdN g n 4 p 0).2))) : PW (1, 0, 0, z) m_M_figure post 0 [some (.ref 70), none, none] [] (E x Y) := by
  have hn := hT.2.1
  have hq2 := (rdN_p (g := g) 4 p 0 hpn).2.1
  have hq1 := rdN_1 hpn hd
  refine PW_iconst (v := 0) c_M_figure_0 (by decide) ?_
  refine PW_istore_n (i := 1) (L2 := [some (.ref 70), some (.int 0), none]) c_M_figure_1 rfl (Nat.le_of_ble_eq_true rfl) rfl rfl ?_
  refine PW_iconst (v := 0) c_M_figure_2 (by decide) ?_
  refine PW_istore_n (i := 2) (L2 := [some (.ref 70), some (.int 0), some (.int 0)]) c_M_figure_3 rfl (Nat.le_of_ble_eq_true rfl) rfl rfl ?_
  refine PW.eqL ?_ rfl ?_ (lp_M_fig (x := x) hT 4 0 p 0 rfl hpn ?_)
  · rfl
  · rw [sI_same hp]
  · show PW _ _ _ 52 [some (.ref 70), some (.int ((rdN g n 4 p 0).2)), some (.int (nI (0 + ((rdN g n 4 p 0).1 - p))))] [] (E x (sI Y 578 (nI (rdN g n 4 p 0).1)))
    refine PW_iload_n c_M_figure_52 rfl ?_
    refine PW_if_eq c_M_figure_53 (fun h0 => absurd h0 (fun w => absurd ((nI_eq (b := 0) (by omega) (by decide)).mp w) (by omega))) (fun h0 => ?_)
    refine PW_aload_n c_M_figure_56 rfl ?_
    refine PW_V0 (d2 := 0) (st := []) [] c_M_figure_57 lk_M_figure_200 (po_70 _ _) rfl rfl rfl (Nat.le_of_ble_eq_true rfl) (by first | decide | omega) (Nat.le_of_ble_eq_true rfl) ?_
    refine sp_M_look (p := (rdN g n 4 p 0).1) (tpM_fr hT (frM_i (by decide))) rfl hq2 ?_
    show PW _ _ _ 60 [some (.ref 70), some (.int ((rdN g n 4 p 0).2)), some (.int (nI (0 + ((rdN g n 4 p 0).1 - p))))] [.int (lkM (sg g n (rdN g n 4 p 0).1))] (E x (sI Y 578 (nI (rdN g n 4 p 0).1)))
    refine PW_bipush (v := 48) c_M_figure_60 (by decide) ?_
    refine PW_bipush (v := 57) c_M_figure_62 (by decide) ?_
    refine PW_S0 (d2 := 0) (st := []) [.int (lkM (sg g n (rdN g n 4 p 0).1)), .int 48, .int 57] c_M_figure_64 lk_M_figure_131 rfl rfl rfl (Nat.le_of_ble_eq_true rfl) (by first | decide | omega) (Nat.le_of_ble_eq_true rfl) ?_
    refine sp_M_within  ?_
    show PW _ _ _ 67 [some (.ref 70), some (.int ((rdN g n 4 p 0).2)), some (.int (nI (0 + ((rdN g n 4 p 0).1 - p))))] [.int (b2i ((48 : Int32) ≤ (lkM (sg g n (rdN g n 4 p 0).1)) ∧ (lkM (sg g n (rdN g n 4 p 0).1)) ≤ (57 : Int32)))] (E x (sI Y 578 (nI (rdN g n 4 p 0).1)))
    refine PW_if_eq c_M_figure_67 (fun h1 => absurd ((lkM_D (tpM_sg hT)).mpr hdq) (b2i_0.mp h1)) (fun _ => ?_)
    refine PW_aload_n c_M_figure_70 rfl ?_
    refine PW_V0 (d2 := 0) (st := []) [] c_M_figure_71 lk_M_figure_197 (po_70 _ _) rfl rfl rfl (Nat.le_of_ble_eq_true rfl) (by first | decide | omega) (Nat.le_of_ble_eq_true rfl) ?_
    show PW _ _ _ 0 [some (.ref 70)] [] (E x (sI Y 578 (nI (rdN g n 4 p 0).1)))
    refine PW_aload_n c_M_faulty_0 rfl ?_
    refine PW_get (v := .int (Y.1 579)) c_M_faulty_1 fl_M_188 (gf_70_19 _ _) ?_
    rw [hF]
    show PW _ _ _ 4 [some (.ref 70)] [.int (-1)] (E x (sI Y 578 (nI (rdN g n 4 p 0).1)))
    refine PW_if_ge c_M_faulty_4 (fun h2 => absurd h2 (by decide)) (fun _ => ?_)
    refine PW_aload_n c_M_faulty_7 rfl ?_
    refine PW_aload_n c_M_faulty_8 rfl ?_
    refine PW_get (v := .int (nI (rdN g n 4 p 0).1)) c_M_faulty_9 fl_M_185 (gf_70_18 _ _) ?_
    refine PW_put (w2 := E x (sI (sI Y 578 (nI (rdN g n 4 p 0).1)) 579 (nI (rdN g n 4 p 0).1))) c_M_faulty_12 fp_M_faulty_188 rfl (pf_70_19 _ _ _) ?_
    refine PW_vreturn c_M_faulty_15 rfl ?_
    show PW _ _ _ 74 [some (.ref 70), some (.int ((rdN g n 4 p 0).2)), some (.int (nI (0 + ((rdN g n 4 p 0).1 - p))))] [] (E x (sI (sI Y 578 (nI (rdN g n 4 p 0).1)) 579 (nI (rdN g n 4 p 0).1)))
    refine PW_aload_n c_M_figure_74 rfl ?_
    refine PW_iconst (v := 1) c_M_figure_75 (by decide) ?_
    refine PW_iload_n c_M_figure_76 rfl ?_
    refine PW_V0 (d2 := 0) (st := []) [.int 1, .int ((rdN g n 4 p 0).2)] c_M_figure_77 lk_M_figure_204 (po_70 _ _) rfl rfl rfl (Nat.le_of_ble_eq_true rfl) (by first | decide | omega) (Nat.le_of_ble_eq_true rfl) ?_
    refine sp_M_addStep (Y := sI (sI Y 578 (nI (rdN g n 4 p 0).1)) 579 (nI (rdN g n 4 p 0).1)) (a := 1) rfl (by decide) hl (by omega) ?_
    show PW _ _ _ 80 [some (.ref 70), some (.int ((rdN g n 4 p 0).2)), some (.int (nI (0 + ((rdN g n 4 p 0).1 - p))))] [] (E x (adS (sI (sI Y 578 (nI (rdN g n 4 p 0).1)) 579 (nI (rdN g n 4 p 0).1)) k (nI 1) (rdN g n 4 p 0).2))
    refine PW_vreturn c_M_figure_80 rfl ?_
    exact h
theorem sp_M_fig3 {Y : XS} {g : Nat → Nat} {n p k : Nat} (hT : tpM Y g n) (hp : Y.1 578 = nI p) (hF : Y.1 579 = -1) (hl : Y.1 581 = nI k) (hk : k < 130) (hpn : p ≤ n) (hd : ¬ isD (sg g n p)) {x : XS} {z : ZS} {post : Option Value → List PE → Prop} (h : post none (E x (adS (sI (sI Y 578 (nI (rdN g n 4 p 0).1)) 579 (nI (rdN g n 4 p 0).1)) k (nI 1) (rdN g n 4 p 0).2))) : PW (1, 0, 0, z) m_M_figure post 0 [some (.ref 70), none, none] [] (E x Y) := by
  have hn := hT.2.1
  have e0 : (rdN g n 4 p 0) = (p, 0) := by rw [rdN, if_neg hd]
  have hq2 := (rdN_p (g := g) 4 p 0 hpn).2.1
  have hq1 : (rdN g n 4 p 0).1 = p := by rw [e0]
  refine PW_iconst (v := 0) c_M_figure_0 (by decide) ?_
  refine PW_istore_n (i := 1) (L2 := [some (.ref 70), some (.int 0), none]) c_M_figure_1 rfl (Nat.le_of_ble_eq_true rfl) rfl rfl ?_
  refine PW_iconst (v := 0) c_M_figure_2 (by decide) ?_
  refine PW_istore_n (i := 2) (L2 := [some (.ref 70), some (.int 0), some (.int 0)]) c_M_figure_3 rfl (Nat.le_of_ble_eq_true rfl) rfl rfl ?_
  refine PW.eqL ?_ rfl ?_ (lp_M_fig (x := x) hT 4 0 p 0 rfl hpn ?_)
  · rfl
  · rw [sI_same hp]
  · show PW _ _ _ 52 [some (.ref 70), some (.int ((rdN g n 4 p 0).2)), some (.int (nI (0 + ((rdN g n 4 p 0).1 - p))))] [] (E x (sI Y 578 (nI (rdN g n 4 p 0).1)))
    refine PW_iload_n c_M_figure_52 rfl ?_
    refine PW_if_eq c_M_figure_53 (fun h0 => ?_) (fun h0 => absurd (by rw [show 0 + ((rdN g n 4 p 0).1 - p) = 0 by omega]; rfl) h0)
    refine PW_aload_n c_M_figure_70 rfl ?_
    refine PW_V0 (d2 := 0) (st := []) [] c_M_figure_71 lk_M_figure_197 (po_70 _ _) rfl rfl rfl (Nat.le_of_ble_eq_true rfl) (by first | decide | omega) (Nat.le_of_ble_eq_true rfl) ?_
    show PW _ _ _ 0 [some (.ref 70)] [] (E x (sI Y 578 (nI (rdN g n 4 p 0).1)))
    refine PW_aload_n c_M_faulty_0 rfl ?_
    refine PW_get (v := .int (Y.1 579)) c_M_faulty_1 fl_M_188 (gf_70_19 _ _) ?_
    rw [hF]
    show PW _ _ _ 4 [some (.ref 70)] [.int (-1)] (E x (sI Y 578 (nI (rdN g n 4 p 0).1)))
    refine PW_if_ge c_M_faulty_4 (fun h1 => absurd h1 (by decide)) (fun _ => ?_)
    refine PW_aload_n c_M_faulty_7 rfl ?_
    refine PW_aload_n c_M_faulty_8 rfl ?_
    refine PW_get (v := .int (nI (rdN g n 4 p 0).1)) c_M_faulty_9 fl_M_185 (gf_70_18 _ _) ?_
    refine PW_put (w2 := E x (sI (sI Y 578 (nI (rdN g n 4 p 0).1)) 579 (nI (rdN g n 4 p 0).1))) c_M_faulty_12 fp_M_faulty_188 rfl (pf_70_19 _ _ _) ?_
    refine PW_vreturn c_M_faulty_15 rfl ?_
    show PW _ _ _ 74 [some (.ref 70), some (.int ((rdN g n 4 p 0).2)), some (.int (nI (0 + ((rdN g n 4 p 0).1 - p))))] [] (E x (sI (sI Y 578 (nI (rdN g n 4 p 0).1)) 579 (nI (rdN g n 4 p 0).1)))
    refine PW_aload_n c_M_figure_74 rfl ?_
    refine PW_iconst (v := 1) c_M_figure_75 (by decide) ?_
    refine PW_iload_n c_M_figure_76 rfl ?_
    refine PW_V0 (d2 := 0) (st := []) [.int 1, .int ((rdN g n 4 p 0).2)] c_M_figure_77 lk_M_figure_204 (po_70 _ _) rfl rfl rfl (Nat.le_of_ble_eq_true rfl) (by first | decide | omega) (Nat.le_of_ble_eq_true rfl) ?_
    refine sp_M_addStep (Y := sI (sI Y 578 (nI (rdN g n 4 p 0).1)) 579 (nI (rdN g n 4 p 0).1)) (a := 1) rfl (by decide) hl (by omega) ?_
    show PW _ _ _ 80 [some (.ref 70), some (.int ((rdN g n 4 p 0).2)), some (.int (nI (0 + ((rdN g n 4 p 0).1 - p))))] [] (E x (adS (sI (sI Y 578 (nI (rdN g n 4 p 0).1)) 579 (nI (rdN g n 4 p 0).1)) k (nI 1) (rdN g n 4 p 0).2))
    refine PW_vreturn c_M_figure_80 rfl ?_
    exact h
