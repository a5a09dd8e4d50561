/-! new int[n][k] -/
section PMA
variable {d mc ms : Nat} {z : ZS} {mi : MI} {post : Option Value → List PE → Prop} {pc nx idx : Nat} {L : List (Option Value)} {st : List Value} {w : List PE}
def mnaE (w : List PE) (N K : Nat) : List PE := w ++ (.inl (.array .int, N, .inr (.inr (.inr (.inr (fun i => if i < N then some (w.length + 6 + i) else none))))) :: List.replicate N (.inl (.int, K, .inl (fun _ => 0))))
theorem vr_outer (c : ClassId) (N h0 : Nat) : ∀ i : Nat, Jvm.Free.Multi.outerC c N h0 i = arrV c N (fun j => va_rf (if j < i then some (h0 + 1 + j) else none))
  | 0 => by
    show ({ cls := c, slots := Array.replicate N .null, vm := .none } : Cell) = _
    rw [arrV_new]
    refine congrArg (arrV c N) (funext fun j => ?_)
    simp [va_rf]
  | i + 1 => by
    show (Jvm.Free.Multi.outerC c N h0 i).setSlot i (.ref (h0 + 1 + i)) = _
    rw [vr_outer c N h0 i, arrV_store]
    refine congrArg (arrV c N) (funext fun j => ?_)
    by_cases e : j = i
    · subst e
      simp [updV, va_rf]
    · by_cases h : j < i
      · simp [updV, e, h, Nat.lt_succ_of_lt h]
      · simp [updV, e, h, show ¬ j < i + 1 by omega]
theorem PW_mna {N K a : Nat} {n k : Int32} (hd : CD mi pc (.multianewarray idx 2) 4 nx) (hl : Cond.classLink mi.1.cls idx ("[" ++ (FieldType.array .int).toString) ∈ gw_tbl) (hn : ¬ n < 0) (hk : ¬ k < 0) (hN : n.toNatClampNeg = N) (hK : k.toNatClampNeg = K) (hb1 : N * 4 ≤ 536870912) (hb2 : K * 4 ≤ 536870912) (ha : w.length + 5 = a) (kk : PW (d, mc, ms, z) mi post nx L (.ref a :: st) (mnaE w N K)) : PW (d, 1 + N + mc, N + N * K + ms, z) mi post pc L (.int k :: .int n :: st) w := by
  obtain ⟨hd, rfl⟩ := hd
  subst ha; subst hN; subst hK
  intro g p l e R s m args below meth c H locs cells slots Q ls X hH hS hL h1 h2 hQ
  have hts := X.2.2.2.2.2.2.2.1
  have hKX := X.2.2.2.2.2.2.2.2.1
  have g1 : cells + (1 + n.toNatClampNeg + mc) ≤ R.cells := h1
  have g2 : slots + (n.toNatClampNeg + n.toNatClampNeg * k.toNatClampNeg + ms) ≤ R.slots := h2
  have hover : (Cond.arrayOver (.array .int)).before args s = true := hKX.2.2.1
  intro T hT Xs
  obtain ⟨vm₁, cA, comp, -, fA, fC, hO, -, X', step⟩ := Xs.multianewarray2F X.1 X.2.2.2.2.1 (hts _ hl) hover (hts _ ac_int) (g := F0 m pc ls (.int k :: .int n :: st.map (tv g))) rfl (by rw [X.2.1]; exact hd) rfl hn hk hb1 hb2 (by omega) rfl rfl (by omega) (by omega)
  have ecA : cA = g.2.2.2 (.array .int) := Option.some.inj (fA.symm.trans (hKX.1.2 5 _ (TYS_get (ty := .array .int) rfl)).2)
  have eco : comp = g.2.2.2 .int := Option.some.inj (fC.symm.trans (hKX.1.2 0 _ (TYS_get (ty := .int) rfl)).2)
  subst ecA; subst eco
  generalize hF : Jvm.Free.Multi.fill (T.setVm vm₁) (g.2.2.2 (.array .int)) (g.2.2.2 .int) n.toNatClampNeg k.toNatClampNeg (defaultValue .int) n.toNatClampNeg = F at X' step
  have hTh : (T.setVm vm₁).heap = H := hT
  obtain ⟨f1, f2, -, -⟩ := Jvm.Free.Multi.fill_facts (T.setVm vm₁) (g.2.2.2 (.array .int)) (g.2.2.2 .int) n.toNatClampNeg k.toNatClampNeg (defaultValue .int) n.toNatClampNeg
  rw [hF, hTh] at f1 f2
  have hold : ∀ x : Nat, x < H.size → F.heap[x]? = H[x]? := fun x hx => by
    have := Jvm.Free.Multi.fill_old (T.setVm vm₁) (g.2.2.2 (.array .int)) (g.2.2.2 .int) n.toNatClampNeg k.toNatClampNeg (defaultValue .int) (a := x) (by rw [hTh]; exact hx) n.toNatClampNeg
    rw [hF, hTh] at this
    exact this
  have hrow : ∀ j : Nat, j < n.toNatClampNeg → F.heap[H.size + 1 + j]? = some (vp_cell (g.2.2.2 .int) (k.toNatClampNeg, .inl (fun _ => 0))) := fun j hj => by
    have := Jvm.Free.Multi.fill_inner (T.setVm vm₁) (g.2.2.2 (.array .int)) (g.2.2.2 .int) n.toNatClampNeg k.toNatClampNeg (defaultValue .int) n.toNatClampNeg j hj
    rw [hF, hTh] at this
    rw [this]
    refine congrArg some ?_
    show ({ cls := _, slots := Array.replicate _ (.int 0), vm := .none } : Cell) = _
    rw [arrV_new]
    rfl
  rw [vr_outer] at f2
  have hw : HW g (mnaE w n.toNatClampNeg k.toNatClampNeg) F.heap := by
    refine ⟨by rw [f1, hH.1]; simp [mnaE]; omega, fun i q hq => ?_⟩
    obtain ⟨e0, he, rfl⟩ := trW_at hq
    unfold mnaE at he
    by_cases hi : i < w.length
    · rw [List.getElem?_append_left hi] at he
      have h9 := hH.2 i _ (trW_get he)
      exact h9.kept (hold _ h9.lt)
    · rw [List.getElem?_append_right (by omega)] at he
      obtain ⟨q, rfl⟩ : ∃ q, i = w.length + q := ⟨i - w.length, by omega⟩
      rw [Nat.add_sub_cancel_left] at he
      cases q with
      | zero =>
        rw [List.getElem?_cons_zero] at he
        cases he
        show F.heap[g.1 + (w.length + 0)]? = some (arrV _ _ (fun j => va_rf (((if j < n.toNatClampNeg then some (w.length + 6 + j) else none) : Option Nat).map (ad g))))
        rw [Nat.add_zero, ← hH.1, f2]
        refine congrArg some (congrArg (arrV _ _) (funext fun j => ?_))
        by_cases hj : j < n.toNatClampNeg
        · rw [if_pos hj, if_pos hj]
          show va_rf (some _) = va_rf (some _)
          refine congrArg (fun v => va_rf (some v)) ?_
          unfold ad
          rw [if_neg (by omega), hH.1]
          omega
        · rw [if_neg hj, if_neg hj]
          rfl
      | succ q =>
        rw [List.getElem?_cons_succ, List.getElem?_replicate] at he
        split at he
        · rename_i hq2
          cases he
          show F.heap[g.1 + (w.length + (q + 1))]? = some (vp_cell _ _)
          rw [show g.1 + (w.length + (q + 1)) = H.size + 1 + q by rw [hH.1]; omega]
          exact hrow q hq2
        · cases he
  have hS2 : va_S (AG g) s.heap F.heap locs := ⟨Nat.le_trans hS.1 (by rw [f1]; omega), fun x q1 q2 => (hold x (Nat.lt_of_lt_of_le q1 hS.1)).trans (hS.2.1 x q1 q2), hS.2.2⟩
  obtain ⟨t, a1, b1⟩ := kk g p l e R s m args below meth c F.heap locs (cells + 1 + n.toNatClampNeg) (slots + n.toNatClampNeg + n.toNatClampNeg * k.toNatClampNeg) Q ls X hw hS2 hL (by show cells + 1 + n.toNatClampNeg + mc ≤ _; omega) (by show slots + n.toNatClampNeg + n.toNatClampNeg * k.toNatClampNeg + ms ≤ _; omega) (fun r w' H' locs' cells' slots' pc' ls' q1 q2 q3 q4 q5 q6 => hQ r w' H' locs' cells' slots' pc' ls' q1 q2 q3 q4 (by have q5 : cells' ≤ cells + 1 + n.toNatClampNeg + mc := q5; show cells' ≤ cells + (1 + n.toNatClampNeg + mc); omega) (by have q6 : slots' ≤ slots + n.toNatClampNeg + n.toNatClampNeg * k.toNatClampNeg + ms := q6; show slots' ≤ slots + (n.toNatClampNeg + n.toNatClampNeg * k.toNatClampNeg + ms); omega)) F rfl X'
  refine ⟨t, step t ?_, b1⟩
  have hTs : T.heap.size = H.size := by rw [hT]
  have e9 : F0 m (pc + 4) ls ((Value.ref (w.length + 5) :: st).map (tv g)) = { F0 m pc ls (.int k :: .int n :: st.map (tv g)) with pc := pc + 4, stack := .ref T.heap.size :: st.map (tv g) } := by
    show F0 m (pc + 4) ls (.ref (ad g (w.length + 5)) :: st.map (tv g)) = F0 m (pc + 4) ls (.ref T.heap.size :: st.map (tv g))
    rw [hTs, hH.1]
    unfold ad
    rw [if_neg (by omega), Nat.add_sub_cancel]
  rw [e9] at a1
  exact a1
end PMA
