/-! a change of a fact, and its couplings -/
theorem ly_out {w g a : Nat} {Y y : XS} {v : Int32} (hw : w < 8) (h : ∀ a, ¬ (79 ≤ a ∧ a ≤ 82) → Y.2.1 a = y.2.1 a) (ha : ¬ (79 ≤ a ∧ a ≤ 82)) : (lyY w Y g v).2.1 a = (lyY w y g v).2.1 a := by
  unfold lyY
  rw [sA_A, sA_A, h (71 + w) (by omega), h a ha]
theorem INV_mend1 {t : Nat} {x y : XS} {w g d : Nat} {b v : Int32} (hI : INV t x y) (hw : w < 8) (hgw : (w = 7 ∧ g < 4) ∨ (w < 7 ∧ g < nG y)) (hb : okv w b) (hv : okv w v) (hd : d < 40) (hold : ∀ i, i < d → x.2.1 51 i = y.2.1 79 i ∧ x.2.1 50 i = y.2.1 80 i ∧ x.2.1 52 i = y.2.1 81 i ∧ x.2.1 53 i = y.2.1 82 i ∧ ∃ w n : Nat, w < 8 ∧ y.2.1 79 i = nI w ∧ y.2.1 80 i = nI n ∧ ((w = 7 ∧ n < 4) ∨ (w < 7 ∧ n < nG y)) ∧ okv w (y.2.1 81 i) ∧ okv w (y.2.1 82 i)) : INV t (sI (sI (adX 50 (sfX w x g v) d (nI g) (nI w) b v) 397 (nI (d + 1))) 398 (nI (d + 1))) (lyY w (sI (adX 79 (sI y 571 0) d (nI w) (nI g) b v) 570 (nI (d + 1))) g v) := by
  have hI1 := INV_fr hI (CPg_set hI.1 hw hgw hv) (frX_st (g := g) (v := v) hw) (frY_ly (g := g) (v := v) hw) (Nat.le_refl _)
  have eY : nG (lyY w (sI (adX 79 (sI y 571 0) d (nI w) (nI g) b v) 570 (nI (d + 1))) g v) = nG y := by unfold nG; rw [lyY_1, sI_n (by decide), adX_1, sI_n (by decide)]
  refine INV_ch hI1 (CPc_add (x := x) (y := y) (w := w) (g := g) (b := b) (v := v) hd ⟨?_, sI_s⟩ ⟨?_, ?_⟩ (fun a i ha => ?_) (fun a i ha => ?_) (by rw [eY]; exact hold) hw (by rw [eY]; exact hgw) hb hv) (fun n hn => ?_) (fun a ha => ?_) ?_ (fun n hn => ?_) (fun a ha => ?_) ?_
  · rw [sI_n (by decide), sI_s]
  · rw [lyY_1, sI_s]
  · rw [lyY_1, sI_n (by decide), adX_1, sI_s]
  · rw [sI_A, sI_A, adX_row ha, adX_row ha, sfX_A hw (by omega)]
  · rw [show (lyY w (sI (adX 79 (sI y 571 0) d (nI w) (nI g) b v) 570 (nI (d + 1))) g v).2.1 (79 + a) = (sI (adX 79 (sI y 571 0) d (nI w) (nI g) b v) 570 (nI (d + 1))).2.1 (79 + a) from if_neg (by omega), sI_A, adX_row ha, adX_row ha, sI_A]
  · rw [sI_n (by omega), sI_n (by omega), adX_1]
  · rw [sI_A, sI_A, adX_out (by omega)]
  · rfl
  · rw [lyY_1, lyY_1, sI_n (by omega), adX_1, sI_n (by omega)]
  · exact ly_out hw (fun a ha => by rw [sI_A, adX_out (by omega), sI_A]) ha
  · rfl
theorem INV_mend2 {t : Nat} {x y : XS} {w g : Nat} {b v : Int32} (hI : INV t x y) (hw : w < 8) (hgw : (w = 7 ∧ g < 4) ∨ (w < 7 ∧ g < nG y)) (hb : okv w b) (hv : okv w v) (hold : ∀ i, i < 40 → x.2.1 51 i = y.2.1 79 i ∧ x.2.1 50 i = y.2.1 80 i ∧ x.2.1 52 i = y.2.1 81 i ∧ x.2.1 53 i = y.2.1 82 i ∧ ∃ w n : Nat, w < 8 ∧ y.2.1 79 i = nI w ∧ y.2.1 80 i = nI n ∧ ((w = 7 ∧ n < 4) ∨ (w < 7 ∧ n < nG y)) ∧ okv w (y.2.1 81 i) ∧ okv w (y.2.1 82 i)) : INV t (sI (sI (adX 50 (sI (dX 50 (sfX w x g v) 39) 397 39) 39 (nI g) (nI w) b v) 397 (39 + 1)) 398 (39 + 1)) (lyY w (sI (adX 79 (sI (dX 79 (sI y 571 0) 39) 570 39) 39 (nI w) (nI g) b v) 570 (39 + 1)) g v) := by
  have hI1 := INV_fr hI (CPg_set hI.1 hw hgw hv) (frX_st (g := g) (v := v) hw) (frY_ly (g := g) (v := v) hw) (Nat.le_refl _)
  have eY : nG (lyY w (sI (adX 79 (sI (dX 79 (sI y 571 0) 39) 570 39) 39 (nI w) (nI g) b v) 570 (39 + 1)) g v) = nG y := by unfold nG; rw [lyY_1, sI_n (by decide), adX_1, sI_n (by decide)]; rfl
  refine INV_ch hI1 (CPc_add (x := dX 50 x 39) (y := dX 79 y 39) (d := 39) (w := w) (g := g) (b := b) (v := v) (by decide) ⟨?_, sI_s⟩ ⟨?_, ?_⟩ (fun a i ha => ?_) (fun a i ha => ?_) (fun i hi => ?_) hw (by rw [eY]; exact hgw) hb hv) (fun n hn => ?_) (fun a ha => ?_) ?_ (fun n hn => ?_) (fun a ha => ?_) ?_
  · rw [sI_n (by decide), sI_s]; rfl
  · rw [lyY_1, sI_s]; rfl
  · rw [lyY_1, sI_n (by decide), adX_1, sI_n (by decide)]; exact (if_pos rfl : (if 571 = 571 then (0 : Int32) else y.1 571) = 0)
  · rw [sI_A, sI_A, adX_row ha, adX_row ha, sI_A, dX_row (by omega), dX_row (by omega), sfX_A hw (by omega)]
  · rw [show (lyY w (sI (adX 79 (sI (dX 79 (sI y 571 0) 39) 570 39) 39 (nI w) (nI g) b v) 570 (39 + 1)) g v).2.1 (79 + a) = (sI (adX 79 (sI (dX 79 (sI y 571 0) 39) 570 39) 39 (nI w) (nI g) b v) 570 (39 + 1)).2.1 (79 + a) from if_neg (by omega), sI_A, adX_row ha, adX_row ha, sI_A, dX_row (by omega), dX_row (by omega), sI_A]
  · rw [eY]
    have o := hold (i + 1) (by omega)
    rw [dX_row (lo := 50) (a := 51) (by omega), dX_row (lo := 50) (a := 50) (by omega), dX_row (lo := 50) (a := 52) (by omega), dX_row (lo := 50) (a := 53) (by omega), dX_row (lo := 79) (a := 79) (by omega), dX_row (lo := 79) (a := 80) (by omega), dX_row (lo := 79) (a := 81) (by omega), dX_row (lo := 79) (a := 82) (by omega)]
    simp only [if_pos hi]
    exact o
  · rw [sI_n (by omega), sI_n (by omega), adX_1, sI_n (by omega)]; rfl
  · rw [sI_A, sI_A, adX_out (by omega), sI_A, dX_out (by omega)]
  · rfl
  · rw [lyY_1, lyY_1, sI_n (by omega), adX_1, sI_n (by omega)]
    show (sI y 571 0).1 n = y.1 n
    rw [sI_n (by omega)]
  · exact ly_out hw (fun a ha => by rw [sI_A, adX_out (by omega), sI_A, dX_out (by omega), sI_A]) ha
  · rfl
theorem sub_nI {a b : Nat} (h : b ≤ a) : nI a - nI b = nI (a - b) := by
  have e : nI (a - b) + nI b = nI a := by rw [nI_add, show a - b + b = a by omega]
  rw [← e, Int32.add_sub_cancel]
theorem INV_undo {t : Nat} {x y : XS} {w g e u : Nat} (hI : INV t x y) (hw : w < 8) (hgw : (w = 7 ∧ g < 4) ∨ (w < 7 ∧ g < nG y)) (hv : okv w (y.2.1 81 e)) (hde : e + 1 + u ≤ 40) (c2 : y.1 570 = nI (e + 1)) (c3 : y.1 571 = nI u) (c4 : x.1 397 = nI (e + 1)) (c5 : x.1 398 = nI (e + 1 + u)) (c6 : ∀ i, i < e + 1 + u → x.2.1 51 i = y.2.1 79 i ∧ x.2.1 50 i = y.2.1 80 i ∧ x.2.1 52 i = y.2.1 81 i ∧ x.2.1 53 i = y.2.1 82 i ∧ okc y i) : INV t (sfX w (sI x 397 (x.1 397 - 1)) g (y.2.1 81 e)) (lyY w (sI (sI y 570 (y.1 570 - 1)) 571 (y.1 571 + 1)) g (y.2.1 81 e)) := by
  have hI1 : INV t (sI x 397 (x.1 397 - 1)) (sI (sI y 570 (y.1 570 - 1)) 571 (y.1 571 + 1)) := INV_ch hI ⟨e, u + 1, by omega, by rw [sI_n (by decide), sI_s, c2, pr1], by rw [sI_s, c3, nI_1], by rw [sI_s, c4, pr1], by rw [sI_n (by decide), c5, show e + 1 + u = e + (u + 1) by omega], fun i hi => c6 i (by omega)⟩ (fun n hn => sI_n (by omega)) (fun a ha => rfl) rfl (fun n hn => by rw [sI_n (by omega), sI_n (by omega)]) (fun a ha => rfl) rfl
  exact INV_fr hI1 (CPg_set hI1.1 hw hgw hv) (frX_st hw) (frY_ly hw) (Nat.le_refl _)
theorem INV_redo {t : Nat} {x y : XS} {w g d u : Nat} (hI : INV t x y) (hw : w < 8) (hgw : (w = 7 ∧ g < 4) ∨ (w < 7 ∧ g < nG y)) (hv : okv w (y.2.1 82 d)) (hde : d + (u + 1) ≤ 40) (c2 : y.1 570 = nI d) (c3 : y.1 571 = nI (u + 1)) (c4 : x.1 397 = nI d) (c5 : x.1 398 = nI (d + (u + 1))) (c6 : ∀ i, i < d + (u + 1) → x.2.1 51 i = y.2.1 79 i ∧ x.2.1 50 i = y.2.1 80 i ∧ x.2.1 52 i = y.2.1 81 i ∧ x.2.1 53 i = y.2.1 82 i ∧ okc y i) : INV t (sI (sfX w x g (y.2.1 82 d)) 397 ((sfX w x g (y.2.1 82 d)).1 397 + 1)) (sI (sI (lyY w y g (y.2.1 82 d)) 570 ((lyY w y g (y.2.1 82 d)).1 570 + 1)) 571 ((lyY w y g (y.2.1 82 d)).1 571 - 1)) := by
  have hI1 := INV_fr hI (CPg_set hI.1 hw hgw hv) (frX_st (g := g) (v := y.2.1 82 d) hw) (frY_ly (g := g) (v := y.2.1 82 d) hw) (Nat.le_refl _)
  have a1 : ∀ n, 390 ≤ n → n ≤ 399 → (sfX w x g (y.2.1 82 d)).1 n = x.1 n := fun n q1 q2 => sfX_1 (by omega) (by omega)
  refine INV_ch hI1 ⟨d + 1, u, by omega, ?_, ?_, ?_, ?_, fun i hi => ?_⟩ (fun n hn => sI_n (by omega)) (fun a ha => rfl) rfl (fun n hn => by rw [sI_n (by omega), sI_n (by omega)]) (fun a ha => rfl) rfl
  · rw [sI_n (by decide), sI_s, lyY_1, c2, nI_1]
  · rw [sI_s, lyY_1, c3, pr1]
  · rw [sI_s, a1 397 (by omega) (by omega), c4, nI_1]
  · rw [sI_n (by decide), a1 398 (by omega) (by omega), c5, show d + (u + 1) = d + 1 + u by omega]
  · obtain ⟨k1, k2, k3, k4, w', n', k5, k6, k7, k8, k9, k10⟩ := c6 i (by omega)
    have ex : ∀ a, 50 ≤ a → a ≤ 53 → (sfX w x g (y.2.1 82 d)).2.1 a = x.2.1 a := fun a q1 q2 => sfX_A hw (by omega)
    have ey : ∀ a, 79 ≤ a → a ≤ 82 → (lyY w y g (y.2.1 82 d)).2.1 a = y.2.1 a := fun a q1 q2 => if_neg (by omega)
    simp only [sI_A]
    unfold okc
    simp only [sI_A]
    rw [ex 51 (by omega) (by omega), ex 50 (by omega) (by omega), ex 52 (by omega) (by omega), ex 53 (by omega) (by omega), ey 79 (by omega) (by omega), ey 80 (by omega) (by omega), ey 81 (by omega) (by omega), ey 82 (by omega) (by omega)]
    exact ⟨k1, k2, k3, k4, w', n', k5, k6, k7, k8, k9, k10⟩
