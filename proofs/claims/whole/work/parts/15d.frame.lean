/-! what the coupling's parts rest on -/
theorem nG_cg {y y' : XS} (b1 : y'.1 561 = y.1 561) : nG y' = nG y := by unfold nG; rw [b1]
theorem rO_cg {y y' : XS} (b2 : ∀ a, 71 ≤ a → a ≤ 78 → y'.2.1 a = y.2.1 a) (g : Nat) (m : Int32) : rO y' g m = rO y g m := by
  unfold rO
  rw [b2 71 (by omega) (by omega), b2 72 (by omega) (by omega), b2 73 (by omega) (by omega)]
theorem thI_cg {y y' : XS} (b1 : y'.1 561 = y.1 561) (b2 : ∀ a, 71 ≤ a → a ≤ 78 → y'.2.1 a = y.2.1 a) (r m : Int32) : thI y' r m = thI y r m := by
  unfold thI
  rw [nG_cg b1]
  refine congrArg (fun p => bitsT p (nG y)) (funext fun g => ?_)
  rw [rO_cg b2]
theorem CPg.cg {x y x' y' : XS} (h : CPg x y) (a1 : ∀ n, 51 ≤ n → n ≤ 53 → x'.1 n = x.1 n) (a2 : ∀ a, 8 ≤ a → a ≤ 21 → x'.2.1 a = x.2.1 a) (b1 : y'.1 561 = y.1 561) (b2 : ∀ a, 71 ≤ a → a ≤ 78 → y'.2.1 a = y.2.1 a) : CPg x' y' := by
  obtain ⟨⟨h1, h2⟩, h3, h4, h5, h6, h7, h8, h9⟩ := h
  have e := nG_cg b1
  refine ⟨⟨by rw [b1, e]; exact h1, by rw [e]; exact h2⟩, by rw [a1 51 (by omega) (by omega), b1]; exact h3, fun w hw i hi => ?_, fun i hi => ?_, fun i q1 q2 => ?_, fun r m hr hm => ?_, ?_, ?_⟩
  · rw [a2 (8 + w) (by omega) (by omega), b2 (71 + w) (by omega) (by omega)]
    exact h4 w hw i (by rw [← e]; exact hi)
  · rw [a2 15 (by omega) (by omega), b2 78 (by omega) (by omega)]
    exact h5 i hi
  · rw [a2 13 (by omega) (by omega)]
    exact h6 i (by rw [← e]; exact q1) q2
  · rw [a2 (17 + r) (by omega) (by omega), thI_cg b1 b2]
    exact h7 r m hr hm
  · rw [a1 52 (by omega) (by omega), h8]
    unfold mustB
    rw [e, b2 75 (by omega) (by omega)]
  · rw [a1 53 (by omega) (by omega), h9]
    unfold hostB
    rw [e, b2 76 (by omega) (by omega)]
theorem CPc.cg {x y x' y' : XS} (h : CPc x y) (a1 : ∀ n, 397 ≤ n → n ≤ 398 → x'.1 n = x.1 n) (a2 : ∀ a, 50 ≤ a → a ≤ 53 → x'.2.1 a = x.2.1 a) (b1 : ∀ n, 570 ≤ n → n ≤ 571 → y'.1 n = y.1 n) (b2 : ∀ a, 79 ≤ a → a ≤ 82 → y'.2.1 a = y.2.1 a) (b3 : nG y ≤ nG y') : CPc x' y' := by
  obtain ⟨d, u, h1, h2, h3, h4, h5, h6⟩ := h
  refine ⟨d, u, h1, by rw [b1 570 (by omega) (by omega)]; exact h2, by rw [b1 571 (by omega) (by omega)]; exact h3, by rw [a1 397 (by omega) (by omega)]; exact h4, by rw [a1 398 (by omega) (by omega)]; exact h5, fun i hi => ?_⟩
  obtain ⟨k1, k2, k3, k4, w, n, k5, k6, k7, k8, k9, k10⟩ := h6 i hi
  rw [a2 51 (by omega) (by omega), a2 50 (by omega) (by omega), a2 52 (by omega) (by omega), a2 53 (by omega) (by omega)]
  unfold okc
  rw [b2 79 (by omega) (by omega), b2 80 (by omega) (by omega), b2 81 (by omega) (by omega), b2 82 (by omega) (by omega)]
  exact ⟨k1, k2, k3, k4, w, n, k5, k6, k7, by omega, k9, k10⟩
theorem CPt.cg {x y x' y' : XS} (h : CPt x y) (a1 : x'.1 219 = x.1 219) (a2 : x'.2.1 28 = x.2.1 28) (b1 : y'.1 577 = y.1 577) (b2 : y'.2.1 83 = y.2.1 83) : CPt x' y' := by
  unfold CPt
  rw [a1, a2, b1, b2]
  exact h
theorem CPl.cg {x y x' y' : XS} (h : CPl x y) (a1 : x'.1 180 = x.1 180) (a2 : ∀ a, 23 ≤ a → a ≤ 24 → x'.2.1 a = x.2.1 a) (b1 : y'.1 589 = y.1 589) (b2 : ∀ a, 84 ≤ a → a ≤ 88 → y'.2.1 a = y.2.1 a) : CPl x' y' := by
  unfold CPl LawX LawM
  rw [a1, a2 23 (by omega) (by omega), a2 24 (by omega) (by omega), b1, b2 84 (by omega) (by omega), b2 85 (by omega) (by omega), b2 86 (by omega) (by omega), b2 87 (by omega) (by omega), b2 88 (by omega) (by omega)]
  exact h
theorem okd_up {t t' : Nat} {f : Nat → Int32} (ht : t ≤ t') (q : okd t f) : okd t' f := ⟨q.1, by have := q.2.1; omega, q.2.2.1, q.2.2.2.1, q.2.2.2.2.1, fun i a b => ⟨(q.2.2.2.2.2 i a b).1, by have := (q.2.2.2.2.2 i a b).2; omega⟩⟩
theorem CPd.cg {t t' : Nat} {x y x' y' : XS} (h : CPd t x y) (ht : t ≤ t') (a1 : ∀ n, 371 ≤ n → n ≤ 388 → x'.1 n = x.1 n) (a2 : x'.2.1 47 = x.2.1 47) (b1 : y'.1 608 = y.1 608) (b2 : ∀ a, 100 ≤ a → a ≤ 101 → y'.2.1 a = y.2.1 a) : CPd t' x' y' := by
  obtain ⟨d1, d2, d3, d4, d5, d6, d7, d8, d9, d10, d11⟩ := h
  unfold CPd
  rw [a1 387 (by omega) (by omega), a1 386 (by omega) (by omega), a1 388 (by omega) (by omega), a1 372 (by omega) (by omega), a1 373 (by omega) (by omega), a1 374 (by omega) (by omega), a1 371 (by omega) (by omega), a2, b1, b2 100 (by omega) (by omega), b2 101 (by omega) (by omega)]
  exact ⟨d1, d2, d3, d4, d5, d6, okd_up ht d7, d8, okd_up ht d9, d10, d11⟩
theorem CPb.cg {x y x' y' : XS} (h : CPb x y) (a1 : ∀ n, 434 ≤ n → n ≤ 435 → x'.1 n = x.1 n) (a2 : ∀ a, 55 ≤ a → a ≤ 56 → x'.2.1 a = x.2.1 a) (b1 : ∀ n, 609 ≤ n → n ≤ 611 → y'.1 n = y.1 n) (b2 : ∀ a, 102 ≤ a → a ≤ 103 → y'.2.1 a = y.2.1 a) : CPb x' y' := by
  unfold CPb
  rw [a1 434 (by omega) (by omega), a1 435 (by omega) (by omega), a2 55 (by omega) (by omega), a2 56 (by omega) (by omega), b1 609 (by omega) (by omega), b1 611 (by omega) (by omega), b2 102 (by omega) (by omega), b2 103 (by omega) (by omega)]
  exact h
theorem CPs.cg {x y x' y' : XS} (h : CPs x y) (a1 : ∀ n, 464 ≤ n → n ≤ 551 → x'.1 n = x.1 n) (a2 : ∀ a, 59 ≤ a → a ≤ 69 → x'.2.2 a = x.2.2 a) (b1 : (y.1 609).toInt ≤ (y'.1 609).toInt) (b2 : ∀ a, 104 ≤ a → a ≤ 105 → y'.2.1 a = y.2.1 a) (b3 : y'.2.2 106 = y.2.2 106) : CPs x' y' := by
  intro j hj
  have h1 := h j hj
  unfold CPs1 at h1 ⊢
  rw [a1 ((58 + 2 * j) * 8 + 1) (by omega) (by omega), a1 ((58 + 2 * j) * 8 + 2) (by omega) (by omega), a1 ((58 + 2 * j) * 8 + 3) (by omega) (by omega), a1 ((58 + 2 * j) * 8 + 4) (by omega) (by omega), a2 (59 + 2 * j) (by omega) (by omega), b2 104 (by omega) (by omega), b2 105 (by omega) (by omega), b3]
  rcases h1 with h1 | h1 | h1
  · exact Or.inl h1
  · exact Or.inr (Or.inl ⟨h1.1, by have := h1.2.1; omega, h1.2.2⟩)
  · exact Or.inr (Or.inr h1)
