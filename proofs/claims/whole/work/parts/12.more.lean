section PM
variable {d mc ms : Nat} {z : ZS} {mi : MI} {post : Option Value → List PE → Prop} {pc nx idx : Nat} {L : List (Option Value)} {st : List Value} {w : List PE}
theorem mm_s1 : Cond.static Lib.Math.min.name ∈ gw_tbl := gw_t 523 (by decide +kernel) rfl
theorem mm_s2 : Cond.static Lib.Math.max.name ∈ gw_tbl := gw_t 572 (by decide +kernel) rfl
theorem mm_i : Cond.initialized "java/lang/Math" ∈ gw_tbl := gw_t 14 (by decide +kernel) rfl
theorem mm_c1 : Cond.code Lib.Math.min.name Lib.Math.min.code 2 (some .int) ∈ gw_tbl := gw_t 524 (by decide +kernel) rfl
theorem mm_c2 : Cond.code Lib.Math.max.name Lib.Math.max.code 2 (some .int) ∈ gw_tbl := gw_t 573 (by decide +kernel) rfl
theorem PW_mmin {x y : Int32} (hd : CD mi pc (.invokestatic idx) 3 nx) (hl : Cond.methodLink mi.1.cls idx Lib.Math.min.name ∈ gw_tbl) (hd1 : 1 ≤ d) (hst : (st.map fun v => v.category).sum ≤ 8) (kk : PW (d, mc, ms, z) mi post nx L (.int (if y < x then y else x) :: st) w) : PW (d, mc, ms, z) mi post pc L (.int y :: .int x :: st) w := by
  obtain ⟨hd, rfl⟩ := hd
  intro g p l e R s m args below meth c H locs cells slots Q ls X hH hS hL h1 h2 hQ
  have hts := X.2.2.2.2.2.2.2.1
  have h12 : 48 * d ≤ R.locals := X.2.2.2.2.2.2.2.2.2.2.2
  have g1 : cells + mc ≤ R.cells := h1
  have g2 : slots + ms ≤ R.slots := h2
  exact va_mmin X.1 X.2.1 (X.2.2.2.1.trans hL.1.symm) X.2.2.2.2.1 (hts _ hl) (hts _ mm_s1) (hts _ mm_i) (hts _ mm_c1) (Nat.le_trans hd1 X.2.2.2.2.2.2.2.2.2.2.1) (by rw [map_cat]; omega) (by omega) (by omega) hd (kk g p l e R s m args below meth c H locs cells slots Q ls X hH hS hL h1 h2 hQ)
theorem PW_mmax {x y : Int32} (hd : CD mi pc (.invokestatic idx) 3 nx) (hl : Cond.methodLink mi.1.cls idx Lib.Math.max.name ∈ gw_tbl) (hd1 : 1 ≤ d) (hst : (st.map fun v => v.category).sum ≤ 8) (kk : PW (d, mc, ms, z) mi post nx L (.int (if x < y then y else x) :: st) w) : PW (d, mc, ms, z) mi post pc L (.int y :: .int x :: st) w := by
  obtain ⟨hd, rfl⟩ := hd
  intro g p l e R s m args below meth c H locs cells slots Q ls X hH hS hL h1 h2 hQ
  have hts := X.2.2.2.2.2.2.2.1
  have h12 : 48 * d ≤ R.locals := X.2.2.2.2.2.2.2.2.2.2.2
  have g1 : cells + mc ≤ R.cells := h1
  have g2 : slots + ms ≤ R.slots := h2
  exact va_mmax X.1 X.2.1 (X.2.2.2.1.trans hL.1.symm) X.2.2.2.2.1 (hts _ hl) (hts _ mm_s2) (hts _ mm_i) (hts _ mm_c2) (Nat.le_trans hd1 X.2.2.2.2.2.2.2.2.2.2.1) (by rw [map_cat]; omega) (by omega) (by omega) hd (kk g p l e R s m args below meth c H locs cells slots Q ls X hH hS hL h1 h2 hQ)
/-- a new array of shelves -/
theorem PW_newq {N a : Nat} {n : Int32} (hd : CD mi pc (.anewarray idx) 3 nx) (hl : Cond.classLink mi.1.cls idx "GoodbyeAll$Shelf" ∈ gw_tbl) (hn : ¬ n < 0) (hN : n.toNatClampNeg = N) (hb : N * 4 ≤ 536870912) (ha : w.length + 5 = a) (kk : PW (d, mc, ms, z) mi post nx L (.ref a :: st) (w ++ [.inl (.object "GoodbyeAll$Shelf", N, .inr (.inr (.inr (.inr (fun _ => none)))))])) : PW (d, 1 + mc, N + ms, z) mi post pc L (.int n :: st) w := by
  obtain ⟨hd, rfl⟩ := hd
  subst ha; subst hN
  intro g p l e R s m args below meth c H locs cells slots Q ls X hH hS hL h1 h2 hQ
  have hts := X.2.2.2.2.2.2.2.1
  have g1 : cells + (1 + mc) ≤ R.cells := h1
  have g2 : slots + (n.toNatClampNeg + ms) ≤ R.slots := h2
  refine W.anew X.1 X.2.1 X.2.2.2.2.1 (hts _ hl) (va_AO.use X.2.2.2.2.2.2.2.2.1.2.1) rfl hd rfl hn hb (by omega) (by omega) fun cA kA comp f1 f2 f3 f4 => ?_
  obtain ⟨kA', comp', k1, k2, k3, k4⟩ := (X.2.2.2.2.2.2.2.2.1.1.2 4 _ (TYS_get (ty := .object "GoodbyeAll$Shelf") rfl)).2
  have hcA : cA = g.2.2.2 (.object "GoodbyeAll$Shelf") := Option.some.inj (f1.symm.trans k4)
  subst hcA
  generalize hH1 : H.push ({ cls := g.2.2.2 (.object "GoodbyeAll$Shelf"), slots := Array.replicate n.toNatClampNeg .null, vm := .none } : Cell) = H1
  have z1 : H1.size = H.size + 1 := by rw [← hH1, Array.size_push]
  have e1 : H1[H.size]? = some (arrV (g.2.2.2 (.object "GoodbyeAll$Shelf")) n.toNatClampNeg (fun _ => .null)) := by rw [← hH1, Array.getElem?_push_size, ← arrV_new]
  have o1 : ∀ q : Nat, q < H.size → H1[q]? = H[q]? := fun q hq => by rw [← hH1, Array.getElem?_push, if_neg (Nat.ne_of_lt hq)]
  have hh : HW g (w ++ [.inl (.object "GoodbyeAll$Shelf", n.toNatClampNeg, .inr (.inr (.inr (.inr (fun _ => none)))))]) H1 := hH.push (by
    show H1[H.size]? = some (vp_cell _ (n.toNatClampNeg, .inr (.inr (.inr (.inr (fun _ => none))))))
    rw [vp_cell_q]
    exact e1) z1 o1
  have hk := kk g p l e R s m args below meth c H1 locs (cells + 1) (slots + n.toNatClampNeg) Q ls X hh (hS.grow z1 o1) hL (by show cells + 1 + mc ≤ _; omega) (by show slots + n.toNatClampNeg + ms ≤ _; omega) (fun r w' H' locs' cells' slots' pc' ls' q1 q2 q3 q4 q5 q6 => hQ r w' H' locs' cells' slots' pc' ls' q1 q2 q3 q4 (by have q5 : cells' ≤ cells + 1 + mc := q5; show cells' ≤ cells + (1 + mc); omega) (by have q6 : slots' ≤ slots + n.toNatClampNeg + ms := q6; show slots' ≤ slots + (n.toNatClampNeg + ms); omega))
  refine W.eq ?_ hk
  show F0 m (pc + 3) ls (.ref H.size :: st.map (tv g)) = F0 m (pc + 3) ls (.ref (ad g (w.length + 5)) :: st.map (tv g))
  rw [hH.1]
  unfold ad
  rw [if_neg (by omega), Nat.add_sub_cancel]
theorem PW_astq {k : KK} {a n j v ci : Nat} {i : Int32} {f : Nat → Option Nat} {vs : List Value} {r : vw_C} {w2 : List PE} {t0 : Nat} (hd : CD mi pc (.aastore) 1 nx) (ha : PG w a = some (.inl (.object r.1, n, .inr (.inr (.inr (.inr f)))))) (ht : tysL[t0]? = some (.object r.1)) (hv : PG w v = some (.inr (ci, vs))) (hc : CL[ci]? = some r) (hi : vp_in i n) (hj : i.toNatClampNeg = j) (hw : w.set (a - 5) (.inl (.object r.1, n, .inr (.inr (.inr (.inr (va_up f j (some v))))))) = w2) (kk : PW k mi post nx L st w2) : PW k mi post pc L (.ref v :: .int i :: .ref a :: st) w := by
  obtain ⟨hd, rfl⟩ := hd
  subst hj; subst hw
  intro g p l e R s m args below meth c H locs cells slots Q ls X hH hS hL h1 h2 hQ
  obtain ⟨h5, h6, h7, h8⟩ := PG_at (g := g) ha
  obtain ⟨-, -, v7, -⟩ := PG_at (g := g) hv
  have hK := X.2.2.2.2.2.2.2.2.1.1
  have hlt : i.toNatClampNeg < n := Nat.not_le.mp fun q => hi (Or.inr q)
  have h0 : ¬ i < 0 := fun q => hi (Or.inl q)
  obtain ⟨r', hr', cellV, g1, g2, g3, -⟩ := hH.2 _ _ v7
  have hcls := (hK.1 ci r hc).2
  obtain ⟨kA, comp, k1, k2, k3, -⟩ := (hK.2 t0 _ (TYS_get ht)).2
  have hcomp : comp = g.2.2.1.1 ci := Option.some.inj (k3.symm.trans hcls.1)
  subst hcomp
  obtain ⟨kC, hkC, -⟩ := hcls.2
  refine W.aast X.1 X.2.1 (hH.2 _ _ h7) (fun q h => by cases h) (fun h => by cases h) k1 k2 rfl hkC ⟨h0, by show _ < (arrV _ _ _).slots.size; rw [arrV_size]; exact hlt⟩ g1 (fun q h => by rw [g3] at h; cases h) (by rw [g2]; exact hkC) (by rw [g2]; exact va_assign hcls) rfl rfl hd fun H1 e1 z1 oq => ?_
  refine kk g p l e R s m args below meth c H1 _ cells slots Q ls X (hH.set ha ?_ z1 oq) (hS.put z1 oq h8) hL h1 h2 hQ
  show H1[_]? = some (vp_cell _ _)
  rw [e1]
  show some ((arrV (g.2.2.2 (.object r.1)) n (fun j => va_rf ((f j).map (ad g)))).setSlot i.toNatClampNeg (.ref (ad g v))) = some (arrV (g.2.2.2 (.object r.1)) n (fun j => va_rf ((va_up f i.toNatClampNeg (some v) j).map (ad g))))
  rw [arrV_store]
  congr 2
  funext q
  by_cases hq : q = i.toNatClampNeg
  · subst hq
    simp [updV, va_up, va_rf]
  · simp [updV, va_up, hq]
theorem sy_n : Cond.native arraycopyName ∈ gw_tbl := gw_t 1074 (by decide +kernel) rfl
theorem sy_s : Cond.static arraycopyName ∈ gw_tbl := gw_t 1073 (by decide +kernel) rfl
theorem sy_i : Cond.initialized "java/lang/System" ∈ gw_tbl := gw_t 16 (by decide +kernel) rfl
/-- System.arraycopy of longs -/
theorem PW_copyl {a0 a n0 n1 : Nat} {f h : Nat → Int64} {sp dp n : Int32} {w2 : List PE} (hd : CD mi pc (.invokestatic idx) 3 nx) (hl : Cond.methodLink mi.1.cls idx arraycopyName ∈ gw_tbl) (ha0 : PG w a0 = some (.inl (.long, n0, .inr (.inl f)))) (ha : PG w a = some (.inl (.long, n1, .inr (.inl h)))) (e1 : ¬ sp < 0) (e2 : ¬ dp < 0) (e3 : ¬ n < 0) (e4 : sp.toNatClampNeg + n.toNatClampNeg ≤ n0) (e5 : dp.toNatClampNeg + n.toNatClampNeg ≤ n1) (hw : w.set (a - 5) (.inl (.long, n1, .inr (.inl (va_cpy f h sp.toNatClampNeg dp.toNatClampNeg n.toNatClampNeg)))) = w2) (hd1 : 1 ≤ d) (hst : (st.map fun v => v.category).sum ≤ 8) (kk : PW (d, mc, ms, z) mi post nx L st w2) : PW (d, mc, ms, z) mi post pc L (.int n :: .int dp :: .ref a :: .int sp :: .ref a0 :: st) w := by
  obtain ⟨hd, rfl⟩ := hd
  subst hw
  intro g p l e R s m args below meth c H locs cells slots Q ls X hH hS hL h1 h2 hQ
  have hts := X.2.2.2.2.2.2.2.1
  have hK := X.2.2.2.2.2.2.2.2.1.1
  have h12 : 48 * d ≤ R.locals := X.2.2.2.2.2.2.2.2.2.2.2
  obtain ⟨p5, p6, p7, p8⟩ := PG_at (g := g) ha0
  obtain ⟨h5, h6, h7, h8⟩ := PG_at (g := g) ha
  have nn : ∀ z : Int32, ¬ z < 0 → z.toInt = (z.toNatClampNeg : Int) := by
    intro z hz
    have hz0 : (0 : Int) ≤ z.toInt := by
      have := Int32.not_lt.mp hz
      simpa using Int32.le_iff_toInt_le.mp this
    show z.toInt = ((z.toInt.toNat : Nat) : Int)
    omega
  intro T hT XT
  generalize hcA : g.2.2.2 .long = cA at *
  have hc0 : H[ad g a0]? = some (vp_cell cA (n0, .inr (.inl f))) := by rw [← hcA]; exact hH.2 _ _ p7
  have hc1 : H[ad g a]? = some (vp_cell cA (n1, .inr (.inl h))) := by rw [← hcA]; exact hH.2 _ _ h7
  have hty := (hK.2 1 _ (TYS_get (ty := .long) rfl)).1
  rw [hcA] at hty
  obtain ⟨-, k0, hk0, cm0, hkk0⟩ := hty n0 (fun j => .long (f j))
  obtain ⟨-, k1, hk1, cm1, hkk1⟩ := hty n1 (fun j => .long (h j))
  obtain ⟨vm', X', step⟩ := XT.arraycopy X.1 X.2.2.2.2.1 (hts _ hl) (hts _ sy_n) (hts _ sy_s) (hts _ sy_i) (src := ad g a0) (dst := ad g a) (cs := vp_cell cA (n0, .inr (.inl f))) (cd := vp_cell cA (n1, .inr (.inl h))) (srcPos := sp) (destPos := dp) (n := n) (by rw [hT]; exact hc0) (by rw [hT]; exact hc1)
    (fun _ h => by cases h) (fun _ h => by cases h) (fun h => by cases h) (fun h => by cases h) hk0 hk1 hkk0 hkk1 (by simp [refKind]) e1 e2 e3
    (by rw [nn sp e1, nn n e3]; show ¬ _ > ((arrV cA n0 (fun j => .long (f j))).slots.size : Int); rw [arrV_size]; omega)
    (by rw [nn dp e2, nn n e3]; show ¬ _ > ((arrV cA n1 (fun j => .long (h j))).slots.size : Int); rw [arrV_size]; omega)
    (fun vm₁ _ i hi => by
      have e : (vp_cell cA (n0, .inr (.inl f))).slots.getD (sp.toNatClampNeg + i) .null = .long (f (sp.toNatClampNeg + i)) := by
        show (arrV cA n0 (fun j => .long (f j))).slots.getD _ _ = _
        rw [Array.getD_eq_getD_getElem?, arrV_read _ _ (by omega)]
        rfl
      refine ⟨?_, ?_⟩
      · rw [e]
        rfl
      · rw [e]
        exact trivial)
    (g := F0 m pc ls (.int n :: .int dp :: .ref (ad g a) :: .int sp :: .ref (ad g a0) :: st.map (tv g))) rfl (X.2.2.2.1.trans hL.1.symm).symm (rest := st.map (tv g)) rfl (by rw [X.2.1]; exact hd) (Nat.le_trans hd1 X.2.2.2.2.2.2.2.2.2.2.1) (by have h3 : nativeFrameWords "java/lang/System" "arraycopy" 5 + 11 ≤ 40 := (by decide); show 2 * 0 + _ + _ ≤ _; rw [map_cat]; omega)
  have e6 : copied (vp_cell cA (n0, .inr (.inl f))) (vp_cell cA (n1, .inr (.inl h))) sp dp n = vp_cell cA (n1, .inr (.inl (va_cpy f h sp.toNatClampNeg dp.toNatClampNeg n.toNatClampNeg))) := va_copied (fun z => .long z) cA cA f h e4
  rw [e6] at X' step
  have hl2 : ad g a < H.size := (Array.getElem?_eq_some_iff.mp hc1).1
  have hheap : ((T.setVm vm').setCell (ad g a) (vp_cell cA (n1, .inr (.inl (va_cpy f h sp.toNatClampNeg dp.toNatClampNeg n.toNatClampNeg))))).heap = H.setIfInBounds (ad g a) (vp_cell cA (n1, .inr (.inl (va_cpy f h sp.toNatClampNeg dp.toNatClampNeg n.toNatClampNeg)))) := by rw [← hT]; rfl
  have oq : ∀ q : Nat, q ≠ ad g a → (H.setIfInBounds (ad g a) (vp_cell cA (n1, .inr (.inl (va_cpy f h sp.toNatClampNeg dp.toNatClampNeg n.toNatClampNeg)))))[q]? = H[q]? := fun q hq => by simp [Array.getElem?_setIfInBounds, Ne.symm hq]
  obtain ⟨t, a1, b1⟩ := kk g p l e R s m args below meth c _ _ cells slots Q ls X (hH.set (e := .inl (.long, n1, .inr (.inl (va_cpy f h sp.toNatClampNeg dp.toNatClampNeg n.toNatClampNeg)))) ha (show (H.setIfInBounds (ad g a) _)[ad g a]? = some (vp_cell (g.2.2.2 .long) _) by rw [hcA]; simp [Array.getElem?_setIfInBounds, hl2]; rfl) (by simp) oq) ⟨by simp; exact hS.1, fun q g1 g2 => by
      rw [oq q (fun e => g2 (by rw [e]; exact h8))]
      exact hS.2.1 q g1 g2, fun q hq => by
      rcases List.mem_append.mp hq with h | h
      · exact hS.2.2 q h
      · obtain ⟨z, -, hz⟩ := List.mem_map.mp h
        rw [← hz]
        exact h8⟩ hL h1 h2 hQ _ hheap X'
  exact ⟨t, step t a1, b1⟩
end PM
