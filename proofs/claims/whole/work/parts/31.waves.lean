/-! the ends of the party: who yawns, who clears -/
theorem en_cg {y y' : XS} (h1 : y'.1 561 = y.1 561) (h2 : y'.2.1 77 = y.2.1 77) : nG y' = nG y ∧ AL y' = AL y ∧ (∀ g, enR y' g = enR y g) ∧ ∀ g, enW y' g = enW y g := by
  have e0 : nG y' = nG y := by unfold nG; rw [h1]
  have e1 : ∀ m, lvT y' m = lvT y m := fun m => by unfold lvT; rw [h2, e0]
  have e2 : ∀ g, enS y' g = enS y g := fun g => by unfold enS; rw [e1]
  have e3 : ∀ (j w : Nat) (g : Int32), enI y' j w g = enI y j w g := by
    intro j
    induction j with
    | zero => intro w g; rfl
    | succ j ih => intro w g; rw [enI, enI, e2, ih]
  exact ⟨e0, by unfold AL; rw [h1], fun g => by unfold enR; rw [e3], fun g => by unfold enW; rw [e3]⟩
theorem sp_M_goEnd2 {z : ZS} {post : Option Value → List PE → Prop} {x y y0 : XS} {gone : Int32} (h1 : y.1 561 = y0.1 561) (h2 : y.2.1 77 = y0.2.1 77) (hW : WG y0) (hS : S10 gone) (hU : sbG y0 gone) (h : post (some (.int (AL y0 &&& (enR y0 gone ^^^ -1)))) (E x (sI y 605 (nI (enW y0 gone))))) : PW (1, 0, 0, z) m_M_goEnd post 0 [some (.ref 70), some (.int gone), none, none, none, none, none] [] (E x y) := by
  obtain ⟨e0, e1, e2, e3⟩ := en_cg h1 h2
  refine sp_M_goEnd ⟨by rw [h1, e0]; exact hW.1, by rw [e0]; exact hW.2⟩ hS (by unfold sbG; rw [e1]; exact hU) ?_
  rw [e1, e2, e3]
  exact h
def stK (y : XS) (k : Nat) : Int32 := AL y &&& (enR y (1 <<< (nI k &&& 31)) ^^^ -1)
def ywI (y : XS) : Nat → Int32 × Int32
  | 0 => (-2, 11)
  | k + 1 => if bcJ (stK y k) < (ywI y k).2 then (nI k, bcJ (stK y k)) else ywI y k
def fewM (y : XS) (k : Nat) : Int32 := if k = 0 then 0 else (ywI y k).2
def wvX (y : XS) (c : Nat) (x : XS) : Nat → XS
  | 0 => x
  | k + 1 => sI (wvX y c x k) c (nI (enW y (1 <<< (nI k &&& 31))))
def clB (y : XS) : Nat → Int32
  | 0 => AL y
  | k + 1 => if bcJ (nI k) < bcJ (clB y k) ∧ AL y &&& (enR y (nI k) ^^^ -1) = 0 then nI k else clB y k
def clX (y : XS) (c : Nat) (x : XS) : Nat → XS
  | 0 => x
  | k + 1 => if bcJ (nI k) < bcJ (clB y k) then sI (clX y c x k) c (nI (enW y (nI k))) else clX y c x k
theorem wv_1 {y x : XS} {c n : Nat} (h : n ≠ c) : ∀ k, (wvX y c x k).1 n = x.1 n
  | 0 => rfl
  | k + 1 => by rw [wvX, sI_n h]; exact wv_1 h k
theorem wv_A {y x : XS} {c : Nat} : ∀ k, (wvX y c x k).2.1 = x.2.1
  | 0 => rfl
  | k + 1 => by rw [wvX, sI_A]; exact wv_A k
theorem cl_1 {y x : XS} {c n : Nat} (h : n ≠ c) : ∀ k, (clX y c x k).1 n = x.1 n
  | 0 => rfl
  | k + 1 => by
    rw [clX]
    split
    · rw [sI_n h]; exact cl_1 h k
    · exact cl_1 h k
theorem cl_A {y x : XS} {c : Nat} : ∀ k, (clX y c x k).2.1 = x.2.1
  | 0 => rfl
  | k + 1 => by
    rw [clX]
    split
    · rw [sI_A]; exact cl_A k
    · exact cl_A k
theorem wv_C {x y : XS} (C : CPg x y) : ∀ k, CPg (wvX y 354 x k) y
  | 0 => C
  | k + 1 => (wv_C C k).s354 _
theorem cl_C {x y : XS} (C : CPg x y) : ∀ k, CPg (clX y 354 x k) y
  | 0 => C
  | k + 1 => by
    rw [clX]
    split
    · exact (cl_C C k).s354 _
    · exact cl_C C k
theorem INV.e45 {t : Nat} {x y : XS} (hI : INV t x y) (f : Nat → Int32) : INV t (sA x 45 f) y := by
  obtain ⟨hg, hc, ht0, hl, hd, hb, hs⟩ := id hI
  exact ⟨hg.cg (fun n q1 q2 => by first | rfl | (simp only [sI_1, sI_A, sI_G, sA_1, sA_A, sA_G, sG_1, sG_A, sG_G]; repeat rw [if_neg (by omega)])) (fun n q1 q2 => by first | rfl | (simp only [sI_1, sI_A, sI_G, sA_1, sA_A, sA_G, sG_1, sG_A, sG_G]; repeat rw [if_neg (by omega)])) (by first | rfl | (simp only [sI_1, sI_A, sI_G, sA_1, sA_A, sA_G, sG_1, sG_A, sG_G]; repeat rw [if_neg (by omega)])) (fun n q1 q2 => by first | rfl | (simp only [sI_1, sI_A, sI_G, sA_1, sA_A, sA_G, sG_1, sG_A, sG_G]; repeat rw [if_neg (by omega)])), hc.cg (fun n q1 q2 => by first | rfl | (simp only [sI_1, sI_A, sI_G, sA_1, sA_A, sA_G, sG_1, sG_A, sG_G]; repeat rw [if_neg (by omega)])) (fun n q1 q2 => by first | rfl | (simp only [sI_1, sI_A, sI_G, sA_1, sA_A, sA_G, sG_1, sG_A, sG_G]; repeat rw [if_neg (by omega)])) (fun n q1 q2 => by first | rfl | (simp only [sI_1, sI_A, sI_G, sA_1, sA_A, sA_G, sG_1, sG_A, sG_G]; repeat rw [if_neg (by omega)])) (fun n q1 q2 => by first | rfl | (simp only [sI_1, sI_A, sI_G, sA_1, sA_A, sA_G, sG_1, sG_A, sG_G]; repeat rw [if_neg (by omega)])) (Nat.le_of_eq (nG_cg (by first | rfl | (simp only [sI_1, sI_A, sI_G, sA_1, sA_A, sA_G, sG_1, sG_A, sG_G]; repeat rw [if_neg (by omega)]))).symm), ht0.cg (by first | rfl | (simp only [sI_1, sI_A, sI_G, sA_1, sA_A, sA_G, sG_1, sG_A, sG_G]; repeat rw [if_neg (by omega)])) (by first | rfl | (simp only [sI_1, sI_A, sI_G, sA_1, sA_A, sA_G, sG_1, sG_A, sG_G]; repeat rw [if_neg (by omega)])) (by first | rfl | (simp only [sI_1, sI_A, sI_G, sA_1, sA_A, sA_G, sG_1, sG_A, sG_G]; repeat rw [if_neg (by omega)])) (by first | rfl | (simp only [sI_1, sI_A, sI_G, sA_1, sA_A, sA_G, sG_1, sG_A, sG_G]; repeat rw [if_neg (by omega)])), hl.cg (by first | rfl | (simp only [sI_1, sI_A, sI_G, sA_1, sA_A, sA_G, sG_1, sG_A, sG_G]; repeat rw [if_neg (by omega)])) (fun n q1 q2 => by first | rfl | (simp only [sI_1, sI_A, sI_G, sA_1, sA_A, sA_G, sG_1, sG_A, sG_G]; repeat rw [if_neg (by omega)])) (by first | rfl | (simp only [sI_1, sI_A, sI_G, sA_1, sA_A, sA_G, sG_1, sG_A, sG_G]; repeat rw [if_neg (by omega)])) (fun n q1 q2 => by first | rfl | (simp only [sI_1, sI_A, sI_G, sA_1, sA_A, sA_G, sG_1, sG_A, sG_G]; repeat rw [if_neg (by omega)])), hd.cg (Nat.le_refl _) (fun n q1 q2 => by first | rfl | (simp only [sI_1, sI_A, sI_G, sA_1, sA_A, sA_G, sG_1, sG_A, sG_G]; repeat rw [if_neg (by omega)])) (by first | rfl | (simp only [sI_1, sI_A, sI_G, sA_1, sA_A, sA_G, sG_1, sG_A, sG_G]; repeat rw [if_neg (by omega)])) (by first | rfl | (simp only [sI_1, sI_A, sI_G, sA_1, sA_A, sA_G, sG_1, sG_A, sG_G]; repeat rw [if_neg (by omega)])) (fun n q1 q2 => by first | rfl | (simp only [sI_1, sI_A, sI_G, sA_1, sA_A, sA_G, sG_1, sG_A, sG_G]; repeat rw [if_neg (by omega)])), hb.cg (fun n q1 q2 => by first | rfl | (simp only [sI_1, sI_A, sI_G, sA_1, sA_A, sA_G, sG_1, sG_A, sG_G]; repeat rw [if_neg (by omega)])) (fun n q1 q2 => by first | rfl | (simp only [sI_1, sI_A, sI_G, sA_1, sA_A, sA_G, sG_1, sG_A, sG_G]; repeat rw [if_neg (by omega)])) (fun n q1 q2 => by first | rfl | (simp only [sI_1, sI_A, sI_G, sA_1, sA_A, sA_G, sG_1, sG_A, sG_G]; repeat rw [if_neg (by omega)])) (fun n q1 q2 => by first | rfl | (simp only [sI_1, sI_A, sI_G, sA_1, sA_A, sA_G, sG_1, sG_A, sG_G]; repeat rw [if_neg (by omega)])), hs.cg (fun n q1 q2 => by first | rfl | (simp only [sI_1, sI_A, sI_G, sA_1, sA_A, sA_G, sG_1, sG_A, sG_G]; repeat rw [if_neg (by omega)])) (fun n q1 q2 => by first | rfl | (simp only [sI_1, sI_A, sI_G, sA_1, sA_A, sA_G, sG_1, sG_A, sG_G]; repeat rw [if_neg (by omega)])) (by first | exact Int.le_refl _ | (simp only [sI_1, sI_A, sI_G, sA_1, sA_A, sA_G, sG_1, sG_A, sG_G]; repeat rw [if_neg (by omega)])) (fun n q1 q2 => by first | rfl | (simp only [sI_1, sI_A, sI_G, sA_1, sA_A, sA_G, sG_1, sG_A, sG_G]; repeat rw [if_neg (by omega)])) (by first | rfl | (simp only [sI_1, sI_A, sI_G, sA_1, sA_A, sA_G, sG_1, sG_A, sG_G]; repeat rw [if_neg (by omega)]))⟩
theorem INV.e354 {t : Nat} {x y : XS} (hI : INV t x y) (v : Int32) : INV t (sI x 354 v) y := by
  obtain ⟨hg, hc, ht0, hl, hd, hb, hs⟩ := id hI
  exact ⟨hg.cg (fun n q1 q2 => by first | rfl | (simp only [sI_1, sI_A, sI_G, sA_1, sA_A, sA_G, sG_1, sG_A, sG_G]; repeat rw [if_neg (by omega)])) (fun n q1 q2 => by first | rfl | (simp only [sI_1, sI_A, sI_G, sA_1, sA_A, sA_G, sG_1, sG_A, sG_G]; repeat rw [if_neg (by omega)])) (by first | rfl | (simp only [sI_1, sI_A, sI_G, sA_1, sA_A, sA_G, sG_1, sG_A, sG_G]; repeat rw [if_neg (by omega)])) (fun n q1 q2 => by first | rfl | (simp only [sI_1, sI_A, sI_G, sA_1, sA_A, sA_G, sG_1, sG_A, sG_G]; repeat rw [if_neg (by omega)])), hc.cg (fun n q1 q2 => by first | rfl | (simp only [sI_1, sI_A, sI_G, sA_1, sA_A, sA_G, sG_1, sG_A, sG_G]; repeat rw [if_neg (by omega)])) (fun n q1 q2 => by first | rfl | (simp only [sI_1, sI_A, sI_G, sA_1, sA_A, sA_G, sG_1, sG_A, sG_G]; repeat rw [if_neg (by omega)])) (fun n q1 q2 => by first | rfl | (simp only [sI_1, sI_A, sI_G, sA_1, sA_A, sA_G, sG_1, sG_A, sG_G]; repeat rw [if_neg (by omega)])) (fun n q1 q2 => by first | rfl | (simp only [sI_1, sI_A, sI_G, sA_1, sA_A, sA_G, sG_1, sG_A, sG_G]; repeat rw [if_neg (by omega)])) (Nat.le_of_eq (nG_cg (by first | rfl | (simp only [sI_1, sI_A, sI_G, sA_1, sA_A, sA_G, sG_1, sG_A, sG_G]; repeat rw [if_neg (by omega)]))).symm), ht0.cg (by first | rfl | (simp only [sI_1, sI_A, sI_G, sA_1, sA_A, sA_G, sG_1, sG_A, sG_G]; repeat rw [if_neg (by omega)])) (by first | rfl | (simp only [sI_1, sI_A, sI_G, sA_1, sA_A, sA_G, sG_1, sG_A, sG_G]; repeat rw [if_neg (by omega)])) (by first | rfl | (simp only [sI_1, sI_A, sI_G, sA_1, sA_A, sA_G, sG_1, sG_A, sG_G]; repeat rw [if_neg (by omega)])) (by first | rfl | (simp only [sI_1, sI_A, sI_G, sA_1, sA_A, sA_G, sG_1, sG_A, sG_G]; repeat rw [if_neg (by omega)])), hl.cg (by first | rfl | (simp only [sI_1, sI_A, sI_G, sA_1, sA_A, sA_G, sG_1, sG_A, sG_G]; repeat rw [if_neg (by omega)])) (fun n q1 q2 => by first | rfl | (simp only [sI_1, sI_A, sI_G, sA_1, sA_A, sA_G, sG_1, sG_A, sG_G]; repeat rw [if_neg (by omega)])) (by first | rfl | (simp only [sI_1, sI_A, sI_G, sA_1, sA_A, sA_G, sG_1, sG_A, sG_G]; repeat rw [if_neg (by omega)])) (fun n q1 q2 => by first | rfl | (simp only [sI_1, sI_A, sI_G, sA_1, sA_A, sA_G, sG_1, sG_A, sG_G]; repeat rw [if_neg (by omega)])), hd.cg (Nat.le_refl _) (fun n q1 q2 => by first | rfl | (simp only [sI_1, sI_A, sI_G, sA_1, sA_A, sA_G, sG_1, sG_A, sG_G]; repeat rw [if_neg (by omega)])) (by first | rfl | (simp only [sI_1, sI_A, sI_G, sA_1, sA_A, sA_G, sG_1, sG_A, sG_G]; repeat rw [if_neg (by omega)])) (by first | rfl | (simp only [sI_1, sI_A, sI_G, sA_1, sA_A, sA_G, sG_1, sG_A, sG_G]; repeat rw [if_neg (by omega)])) (fun n q1 q2 => by first | rfl | (simp only [sI_1, sI_A, sI_G, sA_1, sA_A, sA_G, sG_1, sG_A, sG_G]; repeat rw [if_neg (by omega)])), hb.cg (fun n q1 q2 => by first | rfl | (simp only [sI_1, sI_A, sI_G, sA_1, sA_A, sA_G, sG_1, sG_A, sG_G]; repeat rw [if_neg (by omega)])) (fun n q1 q2 => by first | rfl | (simp only [sI_1, sI_A, sI_G, sA_1, sA_A, sA_G, sG_1, sG_A, sG_G]; repeat rw [if_neg (by omega)])) (fun n q1 q2 => by first | rfl | (simp only [sI_1, sI_A, sI_G, sA_1, sA_A, sA_G, sG_1, sG_A, sG_G]; repeat rw [if_neg (by omega)])) (fun n q1 q2 => by first | rfl | (simp only [sI_1, sI_A, sI_G, sA_1, sA_A, sA_G, sG_1, sG_A, sG_G]; repeat rw [if_neg (by omega)])), hs.cg (fun n q1 q2 => by first | rfl | (simp only [sI_1, sI_A, sI_G, sA_1, sA_A, sA_G, sG_1, sG_A, sG_G]; repeat rw [if_neg (by omega)])) (fun n q1 q2 => by first | rfl | (simp only [sI_1, sI_A, sI_G, sA_1, sA_A, sA_G, sG_1, sG_A, sG_G]; repeat rw [if_neg (by omega)])) (by first | exact Int.le_refl _ | (simp only [sI_1, sI_A, sI_G, sA_1, sA_A, sA_G, sG_1, sG_A, sG_G]; repeat rw [if_neg (by omega)])) (fun n q1 q2 => by first | rfl | (simp only [sI_1, sI_A, sI_G, sA_1, sA_A, sA_G, sG_1, sG_A, sG_G]; repeat rw [if_neg (by omega)])) (by first | rfl | (simp only [sI_1, sI_A, sI_G, sA_1, sA_A, sA_G, sG_1, sG_A, sG_G]; repeat rw [if_neg (by omega)]))⟩
theorem INV.e605 {t : Nat} {x y : XS} (hI : INV t x y) (v : Int32) : INV t x (sI y 605 v) := by
  obtain ⟨hg, hc, ht0, hl, hd, hb, hs⟩ := id hI
  exact ⟨hg.cg (fun n q1 q2 => by first | rfl | (simp only [sI_1, sI_A, sI_G, sA_1, sA_A, sA_G, sG_1, sG_A, sG_G]; repeat rw [if_neg (by omega)])) (fun n q1 q2 => by first | rfl | (simp only [sI_1, sI_A, sI_G, sA_1, sA_A, sA_G, sG_1, sG_A, sG_G]; repeat rw [if_neg (by omega)])) (by first | rfl | (simp only [sI_1, sI_A, sI_G, sA_1, sA_A, sA_G, sG_1, sG_A, sG_G]; repeat rw [if_neg (by omega)])) (fun n q1 q2 => by first | rfl | (simp only [sI_1, sI_A, sI_G, sA_1, sA_A, sA_G, sG_1, sG_A, sG_G]; repeat rw [if_neg (by omega)])), hc.cg (fun n q1 q2 => by first | rfl | (simp only [sI_1, sI_A, sI_G, sA_1, sA_A, sA_G, sG_1, sG_A, sG_G]; repeat rw [if_neg (by omega)])) (fun n q1 q2 => by first | rfl | (simp only [sI_1, sI_A, sI_G, sA_1, sA_A, sA_G, sG_1, sG_A, sG_G]; repeat rw [if_neg (by omega)])) (fun n q1 q2 => by first | rfl | (simp only [sI_1, sI_A, sI_G, sA_1, sA_A, sA_G, sG_1, sG_A, sG_G]; repeat rw [if_neg (by omega)])) (fun n q1 q2 => by first | rfl | (simp only [sI_1, sI_A, sI_G, sA_1, sA_A, sA_G, sG_1, sG_A, sG_G]; repeat rw [if_neg (by omega)])) (Nat.le_of_eq (nG_cg (by first | rfl | (simp only [sI_1, sI_A, sI_G, sA_1, sA_A, sA_G, sG_1, sG_A, sG_G]; repeat rw [if_neg (by omega)]))).symm), ht0.cg (by first | rfl | (simp only [sI_1, sI_A, sI_G, sA_1, sA_A, sA_G, sG_1, sG_A, sG_G]; repeat rw [if_neg (by omega)])) (by first | rfl | (simp only [sI_1, sI_A, sI_G, sA_1, sA_A, sA_G, sG_1, sG_A, sG_G]; repeat rw [if_neg (by omega)])) (by first | rfl | (simp only [sI_1, sI_A, sI_G, sA_1, sA_A, sA_G, sG_1, sG_A, sG_G]; repeat rw [if_neg (by omega)])) (by first | rfl | (simp only [sI_1, sI_A, sI_G, sA_1, sA_A, sA_G, sG_1, sG_A, sG_G]; repeat rw [if_neg (by omega)])), hl.cg (by first | rfl | (simp only [sI_1, sI_A, sI_G, sA_1, sA_A, sA_G, sG_1, sG_A, sG_G]; repeat rw [if_neg (by omega)])) (fun n q1 q2 => by first | rfl | (simp only [sI_1, sI_A, sI_G, sA_1, sA_A, sA_G, sG_1, sG_A, sG_G]; repeat rw [if_neg (by omega)])) (by first | rfl | (simp only [sI_1, sI_A, sI_G, sA_1, sA_A, sA_G, sG_1, sG_A, sG_G]; repeat rw [if_neg (by omega)])) (fun n q1 q2 => by first | rfl | (simp only [sI_1, sI_A, sI_G, sA_1, sA_A, sA_G, sG_1, sG_A, sG_G]; repeat rw [if_neg (by omega)])), hd.cg (Nat.le_refl _) (fun n q1 q2 => by first | rfl | (simp only [sI_1, sI_A, sI_G, sA_1, sA_A, sA_G, sG_1, sG_A, sG_G]; repeat rw [if_neg (by omega)])) (by first | rfl | (simp only [sI_1, sI_A, sI_G, sA_1, sA_A, sA_G, sG_1, sG_A, sG_G]; repeat rw [if_neg (by omega)])) (by first | rfl | (simp only [sI_1, sI_A, sI_G, sA_1, sA_A, sA_G, sG_1, sG_A, sG_G]; repeat rw [if_neg (by omega)])) (fun n q1 q2 => by first | rfl | (simp only [sI_1, sI_A, sI_G, sA_1, sA_A, sA_G, sG_1, sG_A, sG_G]; repeat rw [if_neg (by omega)])), hb.cg (fun n q1 q2 => by first | rfl | (simp only [sI_1, sI_A, sI_G, sA_1, sA_A, sA_G, sG_1, sG_A, sG_G]; repeat rw [if_neg (by omega)])) (fun n q1 q2 => by first | rfl | (simp only [sI_1, sI_A, sI_G, sA_1, sA_A, sA_G, sG_1, sG_A, sG_G]; repeat rw [if_neg (by omega)])) (fun n q1 q2 => by first | rfl | (simp only [sI_1, sI_A, sI_G, sA_1, sA_A, sA_G, sG_1, sG_A, sG_G]; repeat rw [if_neg (by omega)])) (fun n q1 q2 => by first | rfl | (simp only [sI_1, sI_A, sI_G, sA_1, sA_A, sA_G, sG_1, sG_A, sG_G]; repeat rw [if_neg (by omega)])), hs.cg (fun n q1 q2 => by first | rfl | (simp only [sI_1, sI_A, sI_G, sA_1, sA_A, sA_G, sG_1, sG_A, sG_G]; repeat rw [if_neg (by omega)])) (fun n q1 q2 => by first | rfl | (simp only [sI_1, sI_A, sI_G, sA_1, sA_A, sA_G, sG_1, sG_A, sG_G]; repeat rw [if_neg (by omega)])) (by first | exact Int.le_refl _ | (simp only [sI_1, sI_A, sI_G, sA_1, sA_A, sA_G, sG_1, sG_A, sG_G]; repeat rw [if_neg (by omega)])) (fun n q1 q2 => by first | rfl | (simp only [sI_1, sI_A, sI_G, sA_1, sA_A, sA_G, sG_1, sG_A, sG_G]; repeat rw [if_neg (by omega)])) (by first | rfl | (simp only [sI_1, sI_A, sI_G, sA_1, sA_A, sA_G, sG_1, sG_A, sG_G]; repeat rw [if_neg (by omega)]))⟩
theorem INV.wvx {t : Nat} {x y y0 : XS} (hI : INV t x y) : ∀ k, INV t (wvX y0 354 x k) y
  | 0 => hI
  | k + 1 => (INV.wvx hI k).e354 _
theorem INV.wvy {t : Nat} {x y y0 : XS} (hI : INV t x y) : ∀ k, INV t x (wvX y0 605 y k)
  | 0 => hI
  | k + 1 => (INV.wvy hI k).e605 _
theorem INV.clx {t : Nat} {x y y0 : XS} (hI : INV t x y) : ∀ k, INV t (clX y0 354 x k) y
  | 0 => hI
  | k + 1 => by
    rw [clX]
    split
    · exact (INV.clx hI k).e354 _
    · exact INV.clx hI k
theorem INV.cly {t : Nat} {x y y0 : XS} (hI : INV t x y) : ∀ k, INV t x (clX y0 605 y k)
  | 0 => hI
  | k + 1 => by
    rw [clX]
    split
    · exact (INV.cly hI k).e605 _
    · exact INV.cly hI k
theorem bc11 {v : Int32} (h : S10 v) : bcJ v < 11 := by
  have q := (kern_S h).2.2
  rw [Int32.lt_iff_toInt_lt, show (11 : Int32).toInt = 11 by decide]
  omega
theorem yw_b {y : XS} (hW : WG y) : ∀ k, 0 < k → k ≤ 10 → ¬ (ywI y k).1 < 0
  | 0, h, _ => absurd h (by decide)
  | k + 1, _, h => by
    rw [ywI]
    split
    · exact nI_pos (by omega)
    · rename_i q
      by_cases hk : k = 0
      · subst hk
        exact absurd (bc11 (S10_left hW _)) q
      · exact yw_b hW k (by omega) (by omega)
theorem sbG_lt_all : ∀ n : Nat, n < 11 → ∀ k : Nat, k < 1024 → k < 2 ^ n → nI k &&& (((1 <<< (nI n &&& 31)) - 1) ^^^ -1) = 0 := by decide +kernel
theorem sbG_lt {y : XS} (hW : WG y) {k : Nat} (hk : k < 2 ^ nG y) : sbG y (nI k) := by
  have h := (AL_nI hW).2.2
  unfold sbG AL
  rw [hW.1]
  exact sbG_lt_all _ (by have := hW.2; omega) k (by omega) hk
theorem S10_clB {y : XS} (hW : WG y) : ∀ k, k ≤ 1024 → S10 (clB y k)
  | 0, _ => S10_AL hW
  | k + 1, h => by
    rw [clB]
    split
    · exact ⟨k, by omega, rfl⟩
    · exact S10_clB hW k (by omega)
theorem lp_Y_best {z : ZS} {post : Option Value → List PE → Prop} {x y : XS} {gc : Int32} (C : CPg x y) (hL : lvd y (x.2.1 45)) (hgc : gc = nI (nG y)) (h : post (some (.int (ywI y (nG y)).1)) (E (wvX y 354 x (nG y)) y)) : ∀ (j k : Nat), k + j = nG y → ∀ l5 : Option Value, post (some (.int (ywI y (nG y)).1)) (E (wvX y 354 x (nG y)) y) → PW (4, 0, 0, z) m_Y_bestYawner post 21 [some (.ref 44), some (.int ((ywI y k).1)), some (.int ((ywI y k).2)), some (.int gc), some (.int (nI k)), l5] [] (E (wvX y 354 x k) y) := by
  have hn := C.1.2
  intro j
  induction j with
  | zero =>
    intro k hk l5 h
    refine PW_iload c_Y_bestYawner_21 rfl ?_
    refine PW_iload_n c_Y_bestYawner_23 rfl ?_
    refine PW_icmp_ge c_Y_bestYawner_24 (fun h0 => ?_) (fun h0 => absurd ((ge_t2 hgc (by omega) (by omega)).mpr (by omega)) h0)
    refine PW_iload_n c_Y_bestYawner_58 rfl ?_
    refine PW_ireturn (ty := .int) c_Y_bestYawner_59 rfl rfl ?_
    rw [show k = nG y by omega]
    exact h
  | succ j ih =>
    intro k hk l5 h
    by_cases hB : bcJ (stK y k) < (ywI y k).2
    · skip
      refine PW_iload c_Y_bestYawner_21 rfl ?_
      refine PW_iload_n c_Y_bestYawner_23 rfl ?_
      refine PW_icmp_ge c_Y_bestYawner_24 (fun h0 => absurd h0 (fun q => absurd ((ge_t2 hgc (by omega) (by omega)).mp q) (by omega))) (fun h0 => ?_)
      refine PW_aload_n c_Y_bestYawner_27 rfl ?_
      refine PW_iconst (v := 1) c_Y_bestYawner_28 (by decide) ?_
      refine PW_iload c_Y_bestYawner_29 rfl ?_
      refine PW_ishl c_Y_bestYawner_31 ?_
      refine PW_V0 (d2 := 1) (st := []) [.int (1 <<< ((nI k) &&& 31))] c_Y_bestYawner_32 lk_Y_bestYawner_28 (po_44 _ _) rfl rfl rfl (Nat.le_of_ble_eq_true rfl) (by first | decide | omega) (Nat.le_of_ble_eq_true rfl) ?_
      refine sp_Y_stay (wv_C C k) (by rw [wv_A]; exact hL) (S10_sh (by omega)) ?_
      show PW _ _ _ 35 [some (.ref 44), some (.int ((ywI y k).1)), some (.int ((ywI y k).2)), some (.int gc), some (.int (nI k)), l5] [.int (AL y &&& (enR y (1 <<< ((nI k) &&& 31)) ^^^ -1))] (E (sI (wvX y 354 x k) 354 (nI (enW y (1 <<< ((nI k) &&& 31))))) y)
      refine PW_S0 (d2 := 0) (st := []) [.int (AL y &&& (enR y (1 <<< ((nI k) &&& 31)) ^^^ -1))] c_Y_bestYawner_35 lk_Y_bestYawner_36 rfl rfl rfl (Nat.le_of_ble_eq_true rfl) (by first | decide | omega) (Nat.le_of_ble_eq_true rfl) ?_
      refine sp_J_bitCount  ?_
      show PW _ _ _ 38 [some (.ref 44), some (.int ((ywI y k).1)), some (.int ((ywI y k).2)), some (.int gc), some (.int (nI k)), l5] [.int (bcJ (AL y &&& (enR y (1 <<< ((nI k) &&& 31)) ^^^ -1)))] (E (sI (wvX y 354 x k) 354 (nI (enW y (1 <<< ((nI k) &&& 31))))) y)
      refine PW_istore (i := 5) (L2 := [some (.ref 44), some (.int ((ywI y k).1)), some (.int ((ywI y k).2)), some (.int gc), some (.int (nI k)), some (.int (bcJ (AL y &&& (enR y (1 <<< ((nI k) &&& 31)) ^^^ -1))))]) c_Y_bestYawner_38 (Nat.le_of_ble_eq_true rfl) rfl rfl ?_
      refine PW_iload c_Y_bestYawner_40 rfl ?_
      refine PW_iload_n c_Y_bestYawner_42 rfl ?_
      refine PW_icmp_ge c_Y_bestYawner_43 (fun h1 => absurd h1 (Int32.not_le.mpr hB)) (fun h1 => ?_)
      refine PW_iload c_Y_bestYawner_46 rfl ?_
      refine PW_istore_n (i := 2) (L2 := [some (.ref 44), some (.int ((ywI y k).1)), some (.int (bcJ (AL y &&& (enR y (1 <<< ((nI k) &&& 31)) ^^^ -1)))), some (.int gc), some (.int (nI k)), some (.int (bcJ (AL y &&& (enR y (1 <<< ((nI k) &&& 31)) ^^^ -1))))]) c_Y_bestYawner_48 rfl (Nat.le_of_ble_eq_true rfl) rfl rfl ?_
      refine PW_iload c_Y_bestYawner_49 rfl ?_
      refine PW_istore_n (i := 1) (L2 := [some (.ref 44), some (.int (nI k)), some (.int (bcJ (AL y &&& (enR y (1 <<< ((nI k) &&& 31)) ^^^ -1)))), some (.int gc), some (.int (nI k)), some (.int (bcJ (AL y &&& (enR y (1 <<< ((nI k) &&& 31)) ^^^ -1))))]) c_Y_bestYawner_51 rfl (Nat.le_of_ble_eq_true rfl) rfl rfl ?_
      refine PW_iinc (i := 4) (v := (nI k) + 1) (L2 := [some (.ref 44), some (.int (nI k)), some (.int (bcJ (AL y &&& (enR y (1 <<< ((nI k) &&& 31)) ^^^ -1)))), some (.int gc), some (.int ((nI k) + 1)), some (.int (bcJ (AL y &&& (enR y (1 <<< ((nI k) &&& 31)) ^^^ -1))))]) c_Y_bestYawner_52 rfl (iinc_v (by decide)) (Nat.le_of_ble_eq_true rfl) rfl rfl ?_
      refine PW_goto c_Y_bestYawner_55 ?_
      refine PW.eqL ?_ rfl rfl (ih (k + 1) (by omega) (some (.int (bcJ (AL y &&& (enR y (1 <<< ((nI k) &&& 31)) ^^^ -1))))) h)
      have e : ywI y (k + 1) = (nI k, bcJ (stK y k)) := by rw [ywI, if_pos hB]
      show ([some (.ref 44), some (.int (nI k)), some (.int (bcJ (AL y &&& (enR y (1 <<< ((nI k) &&& 31)) ^^^ -1)))), some (.int gc), some (.int ((nI k) + 1)), some (.int (bcJ (AL y &&& (enR y (1 <<< ((nI k) &&& 31)) ^^^ -1))))] : List (Option Value)) = _
      rw [nI_1, e] <;> rfl
    · skip
      refine PW_iload c_Y_bestYawner_21 rfl ?_
      refine PW_iload_n c_Y_bestYawner_23 rfl ?_
      refine PW_icmp_ge c_Y_bestYawner_24 (fun h0 => absurd h0 (fun q => absurd ((ge_t2 hgc (by omega) (by omega)).mp q) (by omega))) (fun h0 => ?_)
      refine PW_aload_n c_Y_bestYawner_27 rfl ?_
      refine PW_iconst (v := 1) c_Y_bestYawner_28 (by decide) ?_
      refine PW_iload c_Y_bestYawner_29 rfl ?_
      refine PW_ishl c_Y_bestYawner_31 ?_
      refine PW_V0 (d2 := 1) (st := []) [.int (1 <<< ((nI k) &&& 31))] c_Y_bestYawner_32 lk_Y_bestYawner_28 (po_44 _ _) rfl rfl rfl (Nat.le_of_ble_eq_true rfl) (by first | decide | omega) (Nat.le_of_ble_eq_true rfl) ?_
      refine sp_Y_stay (wv_C C k) (by rw [wv_A]; exact hL) (S10_sh (by omega)) ?_
      show PW _ _ _ 35 [some (.ref 44), some (.int ((ywI y k).1)), some (.int ((ywI y k).2)), some (.int gc), some (.int (nI k)), l5] [.int (AL y &&& (enR y (1 <<< ((nI k) &&& 31)) ^^^ -1))] (E (sI (wvX y 354 x k) 354 (nI (enW y (1 <<< ((nI k) &&& 31))))) y)
      refine PW_S0 (d2 := 0) (st := []) [.int (AL y &&& (enR y (1 <<< ((nI k) &&& 31)) ^^^ -1))] c_Y_bestYawner_35 lk_Y_bestYawner_36 rfl rfl rfl (Nat.le_of_ble_eq_true rfl) (by first | decide | omega) (Nat.le_of_ble_eq_true rfl) ?_
      refine sp_J_bitCount  ?_
      show PW _ _ _ 38 [some (.ref 44), some (.int ((ywI y k).1)), some (.int ((ywI y k).2)), some (.int gc), some (.int (nI k)), l5] [.int (bcJ (AL y &&& (enR y (1 <<< ((nI k) &&& 31)) ^^^ -1)))] (E (sI (wvX y 354 x k) 354 (nI (enW y (1 <<< ((nI k) &&& 31))))) y)
      refine PW_istore (i := 5) (L2 := [some (.ref 44), some (.int ((ywI y k).1)), some (.int ((ywI y k).2)), some (.int gc), some (.int (nI k)), some (.int (bcJ (AL y &&& (enR y (1 <<< ((nI k) &&& 31)) ^^^ -1))))]) c_Y_bestYawner_38 (Nat.le_of_ble_eq_true rfl) rfl rfl ?_
      refine PW_iload c_Y_bestYawner_40 rfl ?_
      refine PW_iload_n c_Y_bestYawner_42 rfl ?_
      refine PW_icmp_ge c_Y_bestYawner_43 (fun h1 => ?_) (fun h1 => absurd (Int32.not_lt.mp hB) h1)
      refine PW_iinc (i := 4) (v := (nI k) + 1) (L2 := [some (.ref 44), some (.int ((ywI y k).1)), some (.int ((ywI y k).2)), some (.int gc), some (.int ((nI k) + 1)), some (.int (bcJ (AL y &&& (enR y (1 <<< ((nI k) &&& 31)) ^^^ -1))))]) c_Y_bestYawner_52 rfl (iinc_v (by decide)) (Nat.le_of_ble_eq_true rfl) rfl rfl ?_
      refine PW_goto c_Y_bestYawner_55 ?_
      refine PW.eqL ?_ rfl rfl (ih (k + 1) (by omega) (some (.int (bcJ (AL y &&& (enR y (1 <<< ((nI k) &&& 31)) ^^^ -1))))) h)
      have e : ywI y (k + 1) = ywI y k := by rw [ywI, if_neg hB]
      show ([some (.ref 44), some (.int ((ywI y k).1)), some (.int ((ywI y k).2)), some (.int gc), some (.int ((nI k) + 1)), some (.int (bcJ (AL y &&& (enR y (1 <<< ((nI k) &&& 31)) ^^^ -1))))] : List (Option Value)) = _
      rw [nI_1, e] <;> rfl
theorem sp_Y_best {z : ZS} {post : Option Value → List PE → Prop} {x y : XS} {f : Nat → Int32} (C : CPg x y) (hf1 : lvd y f) (hf2 : ∀ {z : ZS} {post : Option Value → List PE → Prop}, post none (E (sA x 45 f) y) → PW (3, 0, 0, z) m_Y_readLeaving post 0 [some (.ref 44), none, none, none, none] [] (E x y)) (h : post (some (.int (ywI y (nG y)).1)) (E (wvX y 354 (sA x 45 f) (nG y)) y)) : PW (4, 0, 0, z) m_Y_bestYawner post 0 [some (.ref 44), none, none, none, none, none] [] (E x y) := by
  refine PW_aload_n c_Y_bestYawner_0 rfl ?_
  refine PW_V0 (d2 := 3) (st := []) [] c_Y_bestYawner_1 lk_Y_bestYawner_25 (po_44 _ _) rfl rfl rfl (Nat.le_of_ble_eq_true rfl) (by first | decide | omega) (Nat.le_of_ble_eq_true rfl) ?_
  refine hf2 ?_
  show PW _ _ _ 4 [some (.ref 44), none, none, none, none, none] [] (E (sA x 45 f) y)
  refine PW_bipush (v := -2) c_Y_bestYawner_4 (by decide) ?_
  refine PW_istore_n (i := 1) (L2 := [some (.ref 44), some (.int (-2)), none, none, none, none]) c_Y_bestYawner_6 rfl (Nat.le_of_ble_eq_true rfl) rfl rfl ?_
  refine PW_bipush (v := 11) c_Y_bestYawner_7 (by decide) ?_
  refine PW_istore_n (i := 2) (L2 := [some (.ref 44), some (.int (-2)), some (.int 11), none, none, none]) c_Y_bestYawner_9 rfl (Nat.le_of_ble_eq_true rfl) rfl rfl ?_
  refine PW_aload_n c_Y_bestYawner_10 rfl ?_
  refine PW_get (v := .ref 6) c_Y_bestYawner_11 fl_Y_17 (gf_44_0 _ _) ?_
  refine PW_V0 (d2 := 0) (st := []) [] c_Y_bestYawner_14 lk_Y_bestYawner_32 (po_6 _ _) rfl rfl rfl (Nat.le_of_ble_eq_true rfl) (by first | decide | omega) (Nat.le_of_ble_eq_true rfl) ?_
  show PW _ _ _ 0 [some (.ref 6)] [] (E (sA x 45 f) y)
  refine PW_aload_n c_H_guestCount_0 rfl ?_
  refine PW_get (v := .int (x.1 51)) c_H_guestCount_1 fl_H_29 (gf_6_3 _ _) ?_
  refine PW_ireturn (ty := .int) c_H_guestCount_4 rfl rfl ?_
  show PW _ _ _ 17 [some (.ref 44), some (.int (-2)), some (.int 11), none, none, none] [.int (x.1 51)] (E (sA x 45 f) y)
  refine PW_istore_n (i := 3) (L2 := [some (.ref 44), some (.int (-2)), some (.int 11), some (.int (x.1 51)), none, none]) c_Y_bestYawner_17 rfl (Nat.le_of_ble_eq_true rfl) rfl rfl ?_
  refine PW_iconst (v := 0) c_Y_bestYawner_18 (by decide) ?_
  refine PW_istore (i := 4) (L2 := [some (.ref 44), some (.int (-2)), some (.int 11), some (.int (x.1 51)), some (.int 0), none]) c_Y_bestYawner_19 (Nat.le_of_ble_eq_true rfl) rfl rfl ?_
  exact lp_Y_best (C.s45 f) (by rw [sA_at]; exact hf1) (C.x51.trans C.1.1) h (nG y) 0 (Nat.zero_add _) none h
theorem lp_M_yawn {z : ZS} {post : Option Value → List PE → Prop} {x y : XS} (hW : WG y) (h : post (some (.int (ywI y (nG y)).1)) (E x (wvX y 605 y (nG y)))) : ∀ (j k : Nat), k + j = nG y → ∀ l4 : Option Value, post (some (.int (ywI y (nG y)).1)) (E x (wvX y 605 y (nG y))) → PW (2, 0, 0, z) m_M_yawn post 7 [some (.ref 70), some (.int ((ywI y k).1)), some (.int (fewM y k)), some (.int (nI k)), l4] [] (E x (wvX y 605 y k)) := by
  have hn := hW.2
  intro j
  induction j with
  | zero =>
    intro k hk l4 h
    refine PW_iload_n c_M_yawn_7 rfl ?_
    refine PW_aload_n c_M_yawn_8 rfl ?_
    refine PW_get (v := .int ((wvX y 605 y k).1 561)) c_M_yawn_9 fl_M_128 (gf_70_1 _ _) ?_
    refine PW_icmp_ge c_M_yawn_12 (fun h0 => ?_) (fun h0 => absurd ((ge_t2 ((wv_1 (by decide) k).trans hW.1) (by omega) (by omega)).mpr (by omega)) h0)
    refine PW_iload_n c_M_yawn_51 rfl ?_
    refine PW_ireturn (ty := .int) c_M_yawn_52 rfl rfl ?_
    rw [show k = nG y by omega]
    exact h
  | succ j ih =>
    intro k hk l4 h
    by_cases hk0 : k = 0
    · have hB : bcJ (stK y k) < (ywI y k).2 := by rw [hk0]; exact bc11 (S10_left hW _)
      refine PW_iload_n c_M_yawn_7 rfl ?_
      refine PW_aload_n c_M_yawn_8 rfl ?_
      refine PW_get (v := .int ((wvX y 605 y k).1 561)) c_M_yawn_9 fl_M_128 (gf_70_1 _ _) ?_
      refine PW_icmp_ge c_M_yawn_12 (fun h0 => absurd h0 (fun q => absurd ((ge_t2 ((wv_1 (by decide) k).trans hW.1) (by omega) (by omega)).mp q) (by omega))) (fun h0 => ?_)
      refine PW_aload_n c_M_yawn_15 rfl ?_
      refine PW_iconst (v := 1) c_M_yawn_16 (by decide) ?_
      refine PW_iload_n c_M_yawn_17 rfl ?_
      refine PW_ishl c_M_yawn_18 ?_
      refine PW_V0 (d2 := 1) (st := []) [.int (1 <<< ((nI k) &&& 31))] c_M_yawn_19 lk_M_yawn_345 (po_70 _ _) rfl rfl rfl (Nat.le_of_ble_eq_true rfl) (by first | decide | omega) (Nat.le_of_ble_eq_true rfl) ?_
      refine sp_M_goEnd2 (y0 := y) (wv_1 (by decide) k) (by rw [wv_A]) hW (S10_sh (by omega)) (sbG_sh hW (by omega)) ?_
      show PW _ _ _ 22 [some (.ref 70), some (.int ((ywI y k).1)), some (.int (fewM y k)), some (.int (nI k)), l4] [.int (AL y &&& (enR y (1 <<< ((nI k) &&& 31)) ^^^ -1))] (E x (sI (wvX y 605 y k) 605 (nI (enW y (1 <<< ((nI k) &&& 31))))))
      refine PW_S0 (d2 := 0) (st := []) [.int (AL y &&& (enR y (1 <<< ((nI k) &&& 31)) ^^^ -1))] c_M_yawn_22 lk_M_yawn_259 rfl rfl rfl (Nat.le_of_ble_eq_true rfl) (by first | decide | omega) (Nat.le_of_ble_eq_true rfl) ?_
      refine sp_M_bitsOf (S10_left hW _) ?_
      show PW _ _ _ 25 [some (.ref 70), some (.int ((ywI y k).1)), some (.int (fewM y k)), some (.int (nI k)), l4] [.int (bcJ (AL y &&& (enR y (1 <<< ((nI k) &&& 31)) ^^^ -1)))] (E x (sI (wvX y 605 y k) 605 (nI (enW y (1 <<< ((nI k) &&& 31))))))
      refine PW_istore (i := 4) (L2 := [some (.ref 70), some (.int ((ywI y k).1)), some (.int (fewM y k)), some (.int (nI k)), some (.int (bcJ (AL y &&& (enR y (1 <<< ((nI k) &&& 31)) ^^^ -1))))]) c_M_yawn_25 (Nat.le_of_ble_eq_true rfl) rfl rfl ?_
      refine PW_iload_n c_M_yawn_27 rfl ?_
      refine PW_if_lt c_M_yawn_28 (fun h1 => ?_) (fun h1 => absurd (by rw [hk0]; exact (by decide : (-2 : Int32) < 0)) h1)
      refine PW_iload_n c_M_yawn_40 rfl ?_
      refine PW_istore_n (i := 1) (L2 := [some (.ref 70), some (.int (nI k)), some (.int (fewM y k)), some (.int (nI k)), some (.int (bcJ (AL y &&& (enR y (1 <<< ((nI k) &&& 31)) ^^^ -1))))]) c_M_yawn_41 rfl (Nat.le_of_ble_eq_true rfl) rfl rfl ?_
      refine PW_iload c_M_yawn_42 rfl ?_
      refine PW_istore_n (i := 2) (L2 := [some (.ref 70), some (.int (nI k)), some (.int (bcJ (AL y &&& (enR y (1 <<< ((nI k) &&& 31)) ^^^ -1)))), some (.int (nI k)), some (.int (bcJ (AL y &&& (enR y (1 <<< ((nI k) &&& 31)) ^^^ -1))))]) c_M_yawn_44 rfl (Nat.le_of_ble_eq_true rfl) rfl rfl ?_
      refine PW_iinc (i := 3) (v := (nI k) + 1) (L2 := [some (.ref 70), some (.int (nI k)), some (.int (bcJ (AL y &&& (enR y (1 <<< ((nI k) &&& 31)) ^^^ -1)))), some (.int ((nI k) + 1)), some (.int (bcJ (AL y &&& (enR y (1 <<< ((nI k) &&& 31)) ^^^ -1))))]) c_M_yawn_45 rfl (iinc_v (by decide)) (Nat.le_of_ble_eq_true rfl) rfl rfl ?_
      refine PW_goto c_M_yawn_48 ?_
      refine PW.eqL ?_ rfl rfl (ih (k + 1) (by omega) (some (.int (bcJ (AL y &&& (enR y (1 <<< ((nI k) &&& 31)) ^^^ -1))))) h)
      have e : ywI y (k + 1) = (nI k, bcJ (stK y k)) := by rw [ywI, if_pos hB]
      show ([some (.ref 70), some (.int (nI k)), some (.int (bcJ (AL y &&& (enR y (1 <<< ((nI k) &&& 31)) ^^^ -1)))), some (.int ((nI k) + 1)), some (.int (bcJ (AL y &&& (enR y (1 <<< ((nI k) &&& 31)) ^^^ -1))))] : List (Option Value)) = _
      rw [nI_1, fewM, if_neg (Nat.succ_ne_zero k), e] <;> rfl
    · by_cases hB : bcJ (stK y k) < (ywI y k).2
      · skip
        refine PW_iload_n c_M_yawn_7 rfl ?_
        refine PW_aload_n c_M_yawn_8 rfl ?_
        refine PW_get (v := .int ((wvX y 605 y k).1 561)) c_M_yawn_9 fl_M_128 (gf_70_1 _ _) ?_
        refine PW_icmp_ge c_M_yawn_12 (fun h0 => absurd h0 (fun q => absurd ((ge_t2 ((wv_1 (by decide) k).trans hW.1) (by omega) (by omega)).mp q) (by omega))) (fun h0 => ?_)
        refine PW_aload_n c_M_yawn_15 rfl ?_
        refine PW_iconst (v := 1) c_M_yawn_16 (by decide) ?_
        refine PW_iload_n c_M_yawn_17 rfl ?_
        refine PW_ishl c_M_yawn_18 ?_
        refine PW_V0 (d2 := 1) (st := []) [.int (1 <<< ((nI k) &&& 31))] c_M_yawn_19 lk_M_yawn_345 (po_70 _ _) rfl rfl rfl (Nat.le_of_ble_eq_true rfl) (by first | decide | omega) (Nat.le_of_ble_eq_true rfl) ?_
        refine sp_M_goEnd2 (y0 := y) (wv_1 (by decide) k) (by rw [wv_A]) hW (S10_sh (by omega)) (sbG_sh hW (by omega)) ?_
        show PW _ _ _ 22 [some (.ref 70), some (.int ((ywI y k).1)), some (.int (fewM y k)), some (.int (nI k)), l4] [.int (AL y &&& (enR y (1 <<< ((nI k) &&& 31)) ^^^ -1))] (E x (sI (wvX y 605 y k) 605 (nI (enW y (1 <<< ((nI k) &&& 31))))))
        refine PW_S0 (d2 := 0) (st := []) [.int (AL y &&& (enR y (1 <<< ((nI k) &&& 31)) ^^^ -1))] c_M_yawn_22 lk_M_yawn_259 rfl rfl rfl (Nat.le_of_ble_eq_true rfl) (by first | decide | omega) (Nat.le_of_ble_eq_true rfl) ?_
        refine sp_M_bitsOf (S10_left hW _) ?_
        show PW _ _ _ 25 [some (.ref 70), some (.int ((ywI y k).1)), some (.int (fewM y k)), some (.int (nI k)), l4] [.int (bcJ (AL y &&& (enR y (1 <<< ((nI k) &&& 31)) ^^^ -1)))] (E x (sI (wvX y 605 y k) 605 (nI (enW y (1 <<< ((nI k) &&& 31))))))
        refine PW_istore (i := 4) (L2 := [some (.ref 70), some (.int ((ywI y k).1)), some (.int (fewM y k)), some (.int (nI k)), some (.int (bcJ (AL y &&& (enR y (1 <<< ((nI k) &&& 31)) ^^^ -1))))]) c_M_yawn_25 (Nat.le_of_ble_eq_true rfl) rfl rfl ?_
        refine PW_iload_n c_M_yawn_27 rfl ?_
        refine PW_if_lt c_M_yawn_28 (fun h1 => absurd h1 (yw_b hW k (by omega) (by omega))) (fun h1 => ?_)
        refine PW_iload c_M_yawn_31 rfl ?_
        refine PW_iload_n c_M_yawn_33 rfl ?_
        refine PW_icmp_lt c_M_yawn_34 (fun h2 => ?_) (fun h2 => absurd (by rw [fewM, if_neg hk0]; exact hB) h2)
        refine PW_iload_n c_M_yawn_40 rfl ?_
        refine PW_istore_n (i := 1) (L2 := [some (.ref 70), some (.int (nI k)), some (.int (fewM y k)), some (.int (nI k)), some (.int (bcJ (AL y &&& (enR y (1 <<< ((nI k) &&& 31)) ^^^ -1))))]) c_M_yawn_41 rfl (Nat.le_of_ble_eq_true rfl) rfl rfl ?_
        refine PW_iload c_M_yawn_42 rfl ?_
        refine PW_istore_n (i := 2) (L2 := [some (.ref 70), some (.int (nI k)), some (.int (bcJ (AL y &&& (enR y (1 <<< ((nI k) &&& 31)) ^^^ -1)))), some (.int (nI k)), some (.int (bcJ (AL y &&& (enR y (1 <<< ((nI k) &&& 31)) ^^^ -1))))]) c_M_yawn_44 rfl (Nat.le_of_ble_eq_true rfl) rfl rfl ?_
        refine PW_iinc (i := 3) (v := (nI k) + 1) (L2 := [some (.ref 70), some (.int (nI k)), some (.int (bcJ (AL y &&& (enR y (1 <<< ((nI k) &&& 31)) ^^^ -1)))), some (.int ((nI k) + 1)), some (.int (bcJ (AL y &&& (enR y (1 <<< ((nI k) &&& 31)) ^^^ -1))))]) c_M_yawn_45 rfl (iinc_v (by decide)) (Nat.le_of_ble_eq_true rfl) rfl rfl ?_
        refine PW_goto c_M_yawn_48 ?_
        refine PW.eqL ?_ rfl rfl (ih (k + 1) (by omega) (some (.int (bcJ (AL y &&& (enR y (1 <<< ((nI k) &&& 31)) ^^^ -1))))) h)
        have e : ywI y (k + 1) = (nI k, bcJ (stK y k)) := by rw [ywI, if_pos hB]
        show ([some (.ref 70), some (.int (nI k)), some (.int (bcJ (AL y &&& (enR y (1 <<< ((nI k) &&& 31)) ^^^ -1)))), some (.int ((nI k) + 1)), some (.int (bcJ (AL y &&& (enR y (1 <<< ((nI k) &&& 31)) ^^^ -1))))] : List (Option Value)) = _
        rw [nI_1, fewM, if_neg (Nat.succ_ne_zero k), e] <;> rfl
      · skip
        refine PW_iload_n c_M_yawn_7 rfl ?_
        refine PW_aload_n c_M_yawn_8 rfl ?_
        refine PW_get (v := .int ((wvX y 605 y k).1 561)) c_M_yawn_9 fl_M_128 (gf_70_1 _ _) ?_
        refine PW_icmp_ge c_M_yawn_12 (fun h0 => absurd h0 (fun q => absurd ((ge_t2 ((wv_1 (by decide) k).trans hW.1) (by omega) (by omega)).mp q) (by omega))) (fun h0 => ?_)
        refine PW_aload_n c_M_yawn_15 rfl ?_
        refine PW_iconst (v := 1) c_M_yawn_16 (by decide) ?_
        refine PW_iload_n c_M_yawn_17 rfl ?_
        refine PW_ishl c_M_yawn_18 ?_
        refine PW_V0 (d2 := 1) (st := []) [.int (1 <<< ((nI k) &&& 31))] c_M_yawn_19 lk_M_yawn_345 (po_70 _ _) rfl rfl rfl (Nat.le_of_ble_eq_true rfl) (by first | decide | omega) (Nat.le_of_ble_eq_true rfl) ?_
        refine sp_M_goEnd2 (y0 := y) (wv_1 (by decide) k) (by rw [wv_A]) hW (S10_sh (by omega)) (sbG_sh hW (by omega)) ?_
        show PW _ _ _ 22 [some (.ref 70), some (.int ((ywI y k).1)), some (.int (fewM y k)), some (.int (nI k)), l4] [.int (AL y &&& (enR y (1 <<< ((nI k) &&& 31)) ^^^ -1))] (E x (sI (wvX y 605 y k) 605 (nI (enW y (1 <<< ((nI k) &&& 31))))))
        refine PW_S0 (d2 := 0) (st := []) [.int (AL y &&& (enR y (1 <<< ((nI k) &&& 31)) ^^^ -1))] c_M_yawn_22 lk_M_yawn_259 rfl rfl rfl (Nat.le_of_ble_eq_true rfl) (by first | decide | omega) (Nat.le_of_ble_eq_true rfl) ?_
        refine sp_M_bitsOf (S10_left hW _) ?_
        show PW _ _ _ 25 [some (.ref 70), some (.int ((ywI y k).1)), some (.int (fewM y k)), some (.int (nI k)), l4] [.int (bcJ (AL y &&& (enR y (1 <<< ((nI k) &&& 31)) ^^^ -1)))] (E x (sI (wvX y 605 y k) 605 (nI (enW y (1 <<< ((nI k) &&& 31))))))
        refine PW_istore (i := 4) (L2 := [some (.ref 70), some (.int ((ywI y k).1)), some (.int (fewM y k)), some (.int (nI k)), some (.int (bcJ (AL y &&& (enR y (1 <<< ((nI k) &&& 31)) ^^^ -1))))]) c_M_yawn_25 (Nat.le_of_ble_eq_true rfl) rfl rfl ?_
        refine PW_iload_n c_M_yawn_27 rfl ?_
        refine PW_if_lt c_M_yawn_28 (fun h1 => absurd h1 (yw_b hW k (by omega) (by omega))) (fun h1 => ?_)
        refine PW_iload c_M_yawn_31 rfl ?_
        refine PW_iload_n c_M_yawn_33 rfl ?_
        refine PW_icmp_lt c_M_yawn_34 (fun h2 => absurd h2 (by rw [fewM, if_neg hk0]; exact hB)) (fun h2 => ?_)
        refine PW_goto c_M_yawn_37 ?_
        refine PW_iinc (i := 3) (v := (nI k) + 1) (L2 := [some (.ref 70), some (.int ((ywI y k).1)), some (.int (fewM y k)), some (.int ((nI k) + 1)), some (.int (bcJ (AL y &&& (enR y (1 <<< ((nI k) &&& 31)) ^^^ -1))))]) c_M_yawn_45 rfl (iinc_v (by decide)) (Nat.le_of_ble_eq_true rfl) rfl rfl ?_
        refine PW_goto c_M_yawn_48 ?_
        refine PW.eqL ?_ rfl rfl (ih (k + 1) (by omega) (some (.int (bcJ (AL y &&& (enR y (1 <<< ((nI k) &&& 31)) ^^^ -1))))) h)
        have e : ywI y (k + 1) = ywI y k := by rw [ywI, if_neg hB]
        show ([some (.ref 70), some (.int ((ywI y k).1)), some (.int (fewM y k)), some (.int ((nI k) + 1)), some (.int (bcJ (AL y &&& (enR y (1 <<< ((nI k) &&& 31)) ^^^ -1))))] : List (Option Value)) = _
        rw [nI_1, fewM, fewM, if_neg hk0, if_neg (Nat.succ_ne_zero k), e] <;> rfl
theorem lp_Y_clear {z : ZS} {post : Option Value → List PE → Prop} {x y : XS} (C : CPg x y) (hL : lvd y (x.2.1 45)) (h : post (some (.int (clB y (2 ^ nG y)))) (E (clX y 354 x (2 ^ nG y)) y)) : ∀ (j k : Nat), k + j = 2 ^ nG y → PW (4, 0, 0, z) m_Y_fewestToClear post 16 [some (.ref 44), some (.int (AL y)), some (.int (clB y k)), some (.int (nI k))] [] (E (clX y 354 x k) y) := by
  obtain ⟨hA1, hA2, hP⟩ := AL_nI C.1
  have hP0 : 0 < 2 ^ nG y := Nat.pow_pos (by decide)
  intro j
  induction j with
  | zero =>
    intro k hk
    refine PW_iload_n c_Y_fewestToClear_16 rfl ?_
    refine PW_iload_n c_Y_fewestToClear_17 rfl ?_
    refine PW_icmp_gt c_Y_fewestToClear_18 (fun h0 => ?_) (fun h0 => absurd (by rw [hA1]; exact (nI_ltI (by omega) (by omega)).mpr (by omega)) h0)
    refine PW_iload_n c_Y_fewestToClear_48 rfl ?_
    refine PW_ireturn (ty := .int) c_Y_fewestToClear_49 rfl rfl ?_
    rw [show k = 2 ^ nG y by omega]
    exact h
  | succ j ih =>
    intro k hk
    by_cases hA : bcJ (nI k) < bcJ (clB y k)
    · by_cases hB : AL y &&& (enR y (nI k) ^^^ -1) = 0
      · skip
        refine PW_iload_n c_Y_fewestToClear_16 rfl ?_
        refine PW_iload_n c_Y_fewestToClear_17 rfl ?_
        refine PW_icmp_gt c_Y_fewestToClear_18 (fun h0 => absurd h0 (fun q => by rw [hA1] at q; exact absurd ((nI_ltI (by omega) (by omega)).mp q) (by omega))) (fun h0 => ?_)
        refine PW_iload_n c_Y_fewestToClear_21 rfl ?_
        refine PW_S0 (d2 := 0) (st := []) [.int (nI k)] c_Y_fewestToClear_22 lk_Y_fewestToClear_36 rfl rfl rfl (Nat.le_of_ble_eq_true rfl) (by first | decide | omega) (Nat.le_of_ble_eq_true rfl) ?_
        refine sp_J_bitCount  ?_
        show PW _ _ _ 25 [some (.ref 44), some (.int (AL y)), some (.int (clB y k)), some (.int (nI k))] [.int (bcJ (nI k))] (E (clX y 354 x k) y)
        refine PW_iload_n c_Y_fewestToClear_25 rfl ?_
        refine PW_S0 (d2 := 0) (st := [.int (bcJ (nI k))]) [.int (clB y k)] c_Y_fewestToClear_26 lk_Y_fewestToClear_36 rfl rfl rfl (Nat.le_of_ble_eq_true rfl) (by first | decide | omega) (Nat.le_of_ble_eq_true rfl) ?_
        refine sp_J_bitCount  ?_
        show PW _ _ _ 29 [some (.ref 44), some (.int (AL y)), some (.int (clB y k)), some (.int (nI k))] [.int (bcJ (clB y k)), .int (bcJ (nI k))] (E (clX y 354 x k) y)
        refine PW_icmp_ge c_Y_fewestToClear_29 (fun h1 => absurd h1 (Int32.not_le.mpr hA)) (fun h1 => ?_)
        refine PW_aload_n c_Y_fewestToClear_32 rfl ?_
        refine PW_iload_n c_Y_fewestToClear_33 rfl ?_
        refine PW_V0 (d2 := 1) (st := []) [.int (nI k)] c_Y_fewestToClear_34 lk_Y_fewestToClear_28 (po_44 _ _) rfl rfl rfl (Nat.le_of_ble_eq_true rfl) (by first | decide | omega) (Nat.le_of_ble_eq_true rfl) ?_
        refine sp_Y_stay (cl_C C k) (by rw [cl_A]; exact hL) ⟨k, by omega, rfl⟩ ?_
        show PW _ _ _ 37 [some (.ref 44), some (.int (AL y)), some (.int (clB y k)), some (.int (nI k))] [.int (AL y &&& (enR y (nI k) ^^^ -1))] (E (sI (clX y 354 x k) 354 (nI (enW y (nI k)))) y)
        refine PW_if_ne c_Y_fewestToClear_37 (fun h2 => absurd h2 (not_not_intro hB)) (fun h2 => ?_)
        refine PW_iload_n c_Y_fewestToClear_40 rfl ?_
        refine PW_istore_n (i := 2) (L2 := [some (.ref 44), some (.int (AL y)), some (.int (nI k)), some (.int (nI k))]) c_Y_fewestToClear_41 rfl (Nat.le_of_ble_eq_true rfl) rfl rfl ?_
        refine PW_iinc (i := 3) (v := (nI k) + 1) (L2 := [some (.ref 44), some (.int (AL y)), some (.int (nI k)), some (.int ((nI k) + 1))]) c_Y_fewestToClear_42 rfl (iinc_v (by decide)) (Nat.le_of_ble_eq_true rfl) rfl rfl ?_
        refine PW_goto c_Y_fewestToClear_45 ?_
        refine PW.eqL ?_ rfl ?_ (ih (k + 1) (by omega))
        · show ([some (.ref 44), some (.int (AL y)), some (.int (nI k)), some (.int ((nI k) + 1))] : List (Option Value)) = [some (.ref 44), some (.int (AL y)), some (.int (clB y (k + 1))), some (.int (nI (k + 1)))]
          rw [nI_1, clB, if_pos ⟨hA, hB⟩]
        · rw [clX, if_pos hA]
      · skip
        refine PW_iload_n c_Y_fewestToClear_16 rfl ?_
        refine PW_iload_n c_Y_fewestToClear_17 rfl ?_
        refine PW_icmp_gt c_Y_fewestToClear_18 (fun h0 => absurd h0 (fun q => by rw [hA1] at q; exact absurd ((nI_ltI (by omega) (by omega)).mp q) (by omega))) (fun h0 => ?_)
        refine PW_iload_n c_Y_fewestToClear_21 rfl ?_
        refine PW_S0 (d2 := 0) (st := []) [.int (nI k)] c_Y_fewestToClear_22 lk_Y_fewestToClear_36 rfl rfl rfl (Nat.le_of_ble_eq_true rfl) (by first | decide | omega) (Nat.le_of_ble_eq_true rfl) ?_
        refine sp_J_bitCount  ?_
        show PW _ _ _ 25 [some (.ref 44), some (.int (AL y)), some (.int (clB y k)), some (.int (nI k))] [.int (bcJ (nI k))] (E (clX y 354 x k) y)
        refine PW_iload_n c_Y_fewestToClear_25 rfl ?_
        refine PW_S0 (d2 := 0) (st := [.int (bcJ (nI k))]) [.int (clB y k)] c_Y_fewestToClear_26 lk_Y_fewestToClear_36 rfl rfl rfl (Nat.le_of_ble_eq_true rfl) (by first | decide | omega) (Nat.le_of_ble_eq_true rfl) ?_
        refine sp_J_bitCount  ?_
        show PW _ _ _ 29 [some (.ref 44), some (.int (AL y)), some (.int (clB y k)), some (.int (nI k))] [.int (bcJ (clB y k)), .int (bcJ (nI k))] (E (clX y 354 x k) y)
        refine PW_icmp_ge c_Y_fewestToClear_29 (fun h1 => absurd h1 (Int32.not_le.mpr hA)) (fun h1 => ?_)
        refine PW_aload_n c_Y_fewestToClear_32 rfl ?_
        refine PW_iload_n c_Y_fewestToClear_33 rfl ?_
        refine PW_V0 (d2 := 1) (st := []) [.int (nI k)] c_Y_fewestToClear_34 lk_Y_fewestToClear_28 (po_44 _ _) rfl rfl rfl (Nat.le_of_ble_eq_true rfl) (by first | decide | omega) (Nat.le_of_ble_eq_true rfl) ?_
        refine sp_Y_stay (cl_C C k) (by rw [cl_A]; exact hL) ⟨k, by omega, rfl⟩ ?_
        show PW _ _ _ 37 [some (.ref 44), some (.int (AL y)), some (.int (clB y k)), some (.int (nI k))] [.int (AL y &&& (enR y (nI k) ^^^ -1))] (E (sI (clX y 354 x k) 354 (nI (enW y (nI k)))) y)
        refine PW_if_ne c_Y_fewestToClear_37 (fun h2 => ?_) (fun h2 => absurd h2 hB)
        refine PW_iinc (i := 3) (v := (nI k) + 1) (L2 := [some (.ref 44), some (.int (AL y)), some (.int (clB y k)), some (.int ((nI k) + 1))]) c_Y_fewestToClear_42 rfl (iinc_v (by decide)) (Nat.le_of_ble_eq_true rfl) rfl rfl ?_
        refine PW_goto c_Y_fewestToClear_45 ?_
        refine PW.eqL ?_ rfl ?_ (ih (k + 1) (by omega))
        · show ([some (.ref 44), some (.int (AL y)), some (.int (clB y k)), some (.int ((nI k) + 1))] : List (Option Value)) = [some (.ref 44), some (.int (AL y)), some (.int (clB y (k + 1))), some (.int (nI (k + 1)))]
          rw [nI_1, clB, if_neg (fun q => hB q.2)]
        · rw [clX, if_pos hA]
    · skip
      refine PW_iload_n c_Y_fewestToClear_16 rfl ?_
      refine PW_iload_n c_Y_fewestToClear_17 rfl ?_
      refine PW_icmp_gt c_Y_fewestToClear_18 (fun h0 => absurd h0 (fun q => by rw [hA1] at q; exact absurd ((nI_ltI (by omega) (by omega)).mp q) (by omega))) (fun h0 => ?_)
      refine PW_iload_n c_Y_fewestToClear_21 rfl ?_
      refine PW_S0 (d2 := 0) (st := []) [.int (nI k)] c_Y_fewestToClear_22 lk_Y_fewestToClear_36 rfl rfl rfl (Nat.le_of_ble_eq_true rfl) (by first | decide | omega) (Nat.le_of_ble_eq_true rfl) ?_
      refine sp_J_bitCount  ?_
      show PW _ _ _ 25 [some (.ref 44), some (.int (AL y)), some (.int (clB y k)), some (.int (nI k))] [.int (bcJ (nI k))] (E (clX y 354 x k) y)
      refine PW_iload_n c_Y_fewestToClear_25 rfl ?_
      refine PW_S0 (d2 := 0) (st := [.int (bcJ (nI k))]) [.int (clB y k)] c_Y_fewestToClear_26 lk_Y_fewestToClear_36 rfl rfl rfl (Nat.le_of_ble_eq_true rfl) (by first | decide | omega) (Nat.le_of_ble_eq_true rfl) ?_
      refine sp_J_bitCount  ?_
      show PW _ _ _ 29 [some (.ref 44), some (.int (AL y)), some (.int (clB y k)), some (.int (nI k))] [.int (bcJ (clB y k)), .int (bcJ (nI k))] (E (clX y 354 x k) y)
      refine PW_icmp_ge c_Y_fewestToClear_29 (fun h1 => ?_) (fun h1 => absurd (Int32.not_lt.mp hA) h1)
      refine PW_iinc (i := 3) (v := (nI k) + 1) (L2 := [some (.ref 44), some (.int (AL y)), some (.int (clB y k)), some (.int ((nI k) + 1))]) c_Y_fewestToClear_42 rfl (iinc_v (by decide)) (Nat.le_of_ble_eq_true rfl) rfl rfl ?_
      refine PW_goto c_Y_fewestToClear_45 ?_
      refine PW.eqL ?_ rfl ?_ (ih (k + 1) (by omega))
      · show ([some (.ref 44), some (.int (AL y)), some (.int (clB y k)), some (.int ((nI k) + 1))] : List (Option Value)) = [some (.ref 44), some (.int (AL y)), some (.int (clB y (k + 1))), some (.int (nI (k + 1)))]
        rw [nI_1, clB, if_neg (fun q => hA q.1)]
      · rw [clX, if_neg hA]
theorem sp_Y_clear {z : ZS} {post : Option Value → List PE → Prop} {x y : XS} {f : Nat → Int32} (C : CPg x y) (hf1 : lvd y f) (hf2 : ∀ {z : ZS} {post : Option Value → List PE → Prop}, post none (E (sA x 45 f) y) → PW (3, 0, 0, z) m_Y_readLeaving post 0 [some (.ref 44), none, none, none, none] [] (E x y)) (h : post (some (.int (clB y (2 ^ nG y)))) (E (clX y 354 (sA x 45 f) (2 ^ nG y)) y)) : PW (4, 0, 0, z) m_Y_fewestToClear post 0 [some (.ref 44), none, none, none] [] (E x y) := by
  refine PW_aload_n c_Y_fewestToClear_0 rfl ?_
  refine PW_V0 (d2 := 3) (st := []) [] c_Y_fewestToClear_1 lk_Y_fewestToClear_25 (po_44 _ _) rfl rfl rfl (Nat.le_of_ble_eq_true rfl) (by first | decide | omega) (Nat.le_of_ble_eq_true rfl) ?_
  refine hf2 ?_
  show PW _ _ _ 4 [some (.ref 44), none, none, none] [] (E (sA x 45 f) y)
  refine PW_aload_n c_Y_fewestToClear_4 rfl ?_
  refine PW_get (v := .ref 6) c_Y_fewestToClear_5 fl_Y_17 (gf_44_0 _ _) ?_
  refine PW_V0 (d2 := 0) (st := []) [] c_Y_fewestToClear_8 lk_Y_fewestToClear_41 (po_6 _ _) rfl rfl rfl (Nat.le_of_ble_eq_true rfl) (by first | decide | omega) (Nat.le_of_ble_eq_true rfl) ?_
  refine sp_H_ev (C.s45 f) ?_
  show PW _ _ _ 11 [some (.ref 44), none, none, none] [.int (AL y)] (E (sA x 45 f) y)
  refine PW_istore_n (i := 1) (L2 := [some (.ref 44), some (.int (AL y)), none, none]) c_Y_fewestToClear_11 rfl (Nat.le_of_ble_eq_true rfl) rfl rfl ?_
  refine PW_iload_n c_Y_fewestToClear_12 rfl ?_
  refine PW_istore_n (i := 2) (L2 := [some (.ref 44), some (.int (AL y)), some (.int (AL y)), none]) c_Y_fewestToClear_13 rfl (Nat.le_of_ble_eq_true rfl) rfl rfl ?_
  refine PW_iconst (v := 0) c_Y_fewestToClear_14 (by decide) ?_
  refine PW_istore_n (i := 3) (L2 := [some (.ref 44), some (.int (AL y)), some (.int (AL y)), some (.int 0)]) c_Y_fewestToClear_15 rfl (Nat.le_of_ble_eq_true rfl) rfl rfl ?_
  exact lp_Y_clear (C.s45 f) (by rw [sA_at]; exact hf1) h (2 ^ nG y) 0 (Nat.zero_add _)
theorem lp_M_clear {z : ZS} {post : Option Value → List PE → Prop} {x y : XS} (hW : WG y) (h : post (some (.int (clB y (2 ^ nG y)))) (E x (clX y 605 y (2 ^ nG y)))) : ∀ (j k : Nat), k + j = 2 ^ nG y → PW (2, 0, 0, z) m_M_clear post 11 [some (.ref 70), some (.int (clB y k)), some (.int (nI k))] [] (E x (clX y 605 y k)) := by
  obtain ⟨hA1, hA2, hP⟩ := AL_nI hW
  intro j
  induction j with
  | zero =>
    intro k hk
    have e : (1 <<< ((clX y 605 y k).1 561 &&& 31) : Int32) = nI (2 ^ nG y) := by rw [cl_1 (by decide)]; exact hA2
    refine PW_iload_n c_M_clear_11 rfl ?_
    refine PW_iconst (v := 1) c_M_clear_12 (by decide) ?_
    refine PW_aload_n c_M_clear_13 rfl ?_
    refine PW_get (v := .int ((clX y 605 y k).1 561)) c_M_clear_14 fl_M_128 (gf_70_1 _ _) ?_
    refine PW_ishl c_M_clear_17 ?_
    refine PW_icmp_ge c_M_clear_18 (fun h0 => ?_) (fun h0 => absurd ((ge_t2 e (by omega) (by omega)).mpr (by omega)) h0)
    refine PW_iload_n c_M_clear_48 rfl ?_
    refine PW_ireturn (ty := .int) c_M_clear_49 rfl rfl ?_
    rw [show k = 2 ^ nG y by omega]
    exact h
  | succ j ih =>
    intro k hk
    have e : (1 <<< ((clX y 605 y k).1 561 &&& 31) : Int32) = nI (2 ^ nG y) := by rw [cl_1 (by decide)]; exact hA2
    by_cases hA : bcJ (nI k) < bcJ (clB y k)
    · by_cases hB : AL y &&& (enR y (nI k) ^^^ -1) = 0
      · skip
        refine PW_iload_n c_M_clear_11 rfl ?_
        refine PW_iconst (v := 1) c_M_clear_12 (by decide) ?_
        refine PW_aload_n c_M_clear_13 rfl ?_
        refine PW_get (v := .int ((clX y 605 y k).1 561)) c_M_clear_14 fl_M_128 (gf_70_1 _ _) ?_
        refine PW_ishl c_M_clear_17 ?_
        refine PW_icmp_ge c_M_clear_18 (fun h0 => absurd h0 (fun q => absurd ((ge_t2 e (by omega) (by omega)).mp q) (by omega))) (fun h0 => ?_)
        refine PW_iload_n c_M_clear_21 rfl ?_
        refine PW_S0 (d2 := 0) (st := []) [.int (nI k)] c_M_clear_22 lk_M_clear_259 rfl rfl rfl (Nat.le_of_ble_eq_true rfl) (by first | decide | omega) (Nat.le_of_ble_eq_true rfl) ?_
        refine sp_M_bitsOf ⟨k, by omega, rfl⟩ ?_
        show PW _ _ _ 25 [some (.ref 70), some (.int (clB y k)), some (.int (nI k))] [.int (bcJ (nI k))] (E x (clX y 605 y k))
        refine PW_iload_n c_M_clear_25 rfl ?_
        refine PW_S0 (d2 := 0) (st := [.int (bcJ (nI k))]) [.int (clB y k)] c_M_clear_26 lk_M_clear_259 rfl rfl rfl (Nat.le_of_ble_eq_true rfl) (by first | decide | omega) (Nat.le_of_ble_eq_true rfl) ?_
        refine sp_M_bitsOf (S10_clB hW k (by omega)) ?_
        show PW _ _ _ 29 [some (.ref 70), some (.int (clB y k)), some (.int (nI k))] [.int (bcJ (clB y k)), .int (bcJ (nI k))] (E x (clX y 605 y k))
        refine PW_icmp_ge c_M_clear_29 (fun h1 => absurd h1 (Int32.not_le.mpr hA)) (fun h1 => ?_)
        refine PW_aload_n c_M_clear_32 rfl ?_
        refine PW_iload_n c_M_clear_33 rfl ?_
        refine PW_V0 (d2 := 1) (st := []) [.int (nI k)] c_M_clear_34 lk_M_clear_345 (po_70 _ _) rfl rfl rfl (Nat.le_of_ble_eq_true rfl) (by first | decide | omega) (Nat.le_of_ble_eq_true rfl) ?_
        refine sp_M_goEnd2 (y0 := y) (cl_1 (by decide) k) (by rw [cl_A]) hW ⟨k, by omega, rfl⟩ (sbG_lt hW (by omega)) ?_
        show PW _ _ _ 37 [some (.ref 70), some (.int (clB y k)), some (.int (nI k))] [.int (AL y &&& (enR y (nI k) ^^^ -1))] (E x (sI (clX y 605 y k) 605 (nI (enW y (nI k)))))
        refine PW_if_ne c_M_clear_37 (fun h2 => absurd h2 (not_not_intro hB)) (fun h2 => ?_)
        refine PW_iload_n c_M_clear_40 rfl ?_
        refine PW_istore_n (i := 1) (L2 := [some (.ref 70), some (.int (nI k)), some (.int (nI k))]) c_M_clear_41 rfl (Nat.le_of_ble_eq_true rfl) rfl rfl ?_
        refine PW_iinc (i := 2) (v := (nI k) + 1) (L2 := [some (.ref 70), some (.int (nI k)), some (.int ((nI k) + 1))]) c_M_clear_42 rfl (iinc_v (by decide)) (Nat.le_of_ble_eq_true rfl) rfl rfl ?_
        refine PW_goto c_M_clear_45 ?_
        refine PW.eqL ?_ rfl ?_ (ih (k + 1) (by omega))
        · show ([some (.ref 70), some (.int (nI k)), some (.int ((nI k) + 1))] : List (Option Value)) = [some (.ref 70), some (.int (clB y (k + 1))), some (.int (nI (k + 1)))]
          rw [nI_1, clB, if_pos ⟨hA, hB⟩]
        · rw [clX, if_pos hA]
      · skip
        refine PW_iload_n c_M_clear_11 rfl ?_
        refine PW_iconst (v := 1) c_M_clear_12 (by decide) ?_
        refine PW_aload_n c_M_clear_13 rfl ?_
        refine PW_get (v := .int ((clX y 605 y k).1 561)) c_M_clear_14 fl_M_128 (gf_70_1 _ _) ?_
        refine PW_ishl c_M_clear_17 ?_
        refine PW_icmp_ge c_M_clear_18 (fun h0 => absurd h0 (fun q => absurd ((ge_t2 e (by omega) (by omega)).mp q) (by omega))) (fun h0 => ?_)
        refine PW_iload_n c_M_clear_21 rfl ?_
        refine PW_S0 (d2 := 0) (st := []) [.int (nI k)] c_M_clear_22 lk_M_clear_259 rfl rfl rfl (Nat.le_of_ble_eq_true rfl) (by first | decide | omega) (Nat.le_of_ble_eq_true rfl) ?_
        refine sp_M_bitsOf ⟨k, by omega, rfl⟩ ?_
        show PW _ _ _ 25 [some (.ref 70), some (.int (clB y k)), some (.int (nI k))] [.int (bcJ (nI k))] (E x (clX y 605 y k))
        refine PW_iload_n c_M_clear_25 rfl ?_
        refine PW_S0 (d2 := 0) (st := [.int (bcJ (nI k))]) [.int (clB y k)] c_M_clear_26 lk_M_clear_259 rfl rfl rfl (Nat.le_of_ble_eq_true rfl) (by first | decide | omega) (Nat.le_of_ble_eq_true rfl) ?_
        refine sp_M_bitsOf (S10_clB hW k (by omega)) ?_
        show PW _ _ _ 29 [some (.ref 70), some (.int (clB y k)), some (.int (nI k))] [.int (bcJ (clB y k)), .int (bcJ (nI k))] (E x (clX y 605 y k))
        refine PW_icmp_ge c_M_clear_29 (fun h1 => absurd h1 (Int32.not_le.mpr hA)) (fun h1 => ?_)
        refine PW_aload_n c_M_clear_32 rfl ?_
        refine PW_iload_n c_M_clear_33 rfl ?_
        refine PW_V0 (d2 := 1) (st := []) [.int (nI k)] c_M_clear_34 lk_M_clear_345 (po_70 _ _) rfl rfl rfl (Nat.le_of_ble_eq_true rfl) (by first | decide | omega) (Nat.le_of_ble_eq_true rfl) ?_
        refine sp_M_goEnd2 (y0 := y) (cl_1 (by decide) k) (by rw [cl_A]) hW ⟨k, by omega, rfl⟩ (sbG_lt hW (by omega)) ?_
        show PW _ _ _ 37 [some (.ref 70), some (.int (clB y k)), some (.int (nI k))] [.int (AL y &&& (enR y (nI k) ^^^ -1))] (E x (sI (clX y 605 y k) 605 (nI (enW y (nI k)))))
        refine PW_if_ne c_M_clear_37 (fun h2 => ?_) (fun h2 => absurd h2 hB)
        refine PW_iinc (i := 2) (v := (nI k) + 1) (L2 := [some (.ref 70), some (.int (clB y k)), some (.int ((nI k) + 1))]) c_M_clear_42 rfl (iinc_v (by decide)) (Nat.le_of_ble_eq_true rfl) rfl rfl ?_
        refine PW_goto c_M_clear_45 ?_
        refine PW.eqL ?_ rfl ?_ (ih (k + 1) (by omega))
        · show ([some (.ref 70), some (.int (clB y k)), some (.int ((nI k) + 1))] : List (Option Value)) = [some (.ref 70), some (.int (clB y (k + 1))), some (.int (nI (k + 1)))]
          rw [nI_1, clB, if_neg (fun q => hB q.2)]
        · rw [clX, if_pos hA]
    · skip
      refine PW_iload_n c_M_clear_11 rfl ?_
      refine PW_iconst (v := 1) c_M_clear_12 (by decide) ?_
      refine PW_aload_n c_M_clear_13 rfl ?_
      refine PW_get (v := .int ((clX y 605 y k).1 561)) c_M_clear_14 fl_M_128 (gf_70_1 _ _) ?_
      refine PW_ishl c_M_clear_17 ?_
      refine PW_icmp_ge c_M_clear_18 (fun h0 => absurd h0 (fun q => absurd ((ge_t2 e (by omega) (by omega)).mp q) (by omega))) (fun h0 => ?_)
      refine PW_iload_n c_M_clear_21 rfl ?_
      refine PW_S0 (d2 := 0) (st := []) [.int (nI k)] c_M_clear_22 lk_M_clear_259 rfl rfl rfl (Nat.le_of_ble_eq_true rfl) (by first | decide | omega) (Nat.le_of_ble_eq_true rfl) ?_
      refine sp_M_bitsOf ⟨k, by omega, rfl⟩ ?_
      show PW _ _ _ 25 [some (.ref 70), some (.int (clB y k)), some (.int (nI k))] [.int (bcJ (nI k))] (E x (clX y 605 y k))
      refine PW_iload_n c_M_clear_25 rfl ?_
      refine PW_S0 (d2 := 0) (st := [.int (bcJ (nI k))]) [.int (clB y k)] c_M_clear_26 lk_M_clear_259 rfl rfl rfl (Nat.le_of_ble_eq_true rfl) (by first | decide | omega) (Nat.le_of_ble_eq_true rfl) ?_
      refine sp_M_bitsOf (S10_clB hW k (by omega)) ?_
      show PW _ _ _ 29 [some (.ref 70), some (.int (clB y k)), some (.int (nI k))] [.int (bcJ (clB y k)), .int (bcJ (nI k))] (E x (clX y 605 y k))
      refine PW_icmp_ge c_M_clear_29 (fun h1 => ?_) (fun h1 => absurd (Int32.not_lt.mp hA) h1)
      refine PW_iinc (i := 2) (v := (nI k) + 1) (L2 := [some (.ref 70), some (.int (clB y k)), some (.int ((nI k) + 1))]) c_M_clear_42 rfl (iinc_v (by decide)) (Nat.le_of_ble_eq_true rfl) rfl rfl ?_
      refine PW_goto c_M_clear_45 ?_
      refine PW.eqL ?_ rfl ?_ (ih (k + 1) (by omega))
      · show ([some (.ref 70), some (.int (clB y k)), some (.int ((nI k) + 1))] : List (Option Value)) = [some (.ref 70), some (.int (clB y (k + 1))), some (.int (nI (k + 1)))]
        rw [nI_1, clB, if_neg (fun q => hA q.1)]
      · rw [clX, if_neg hA]
