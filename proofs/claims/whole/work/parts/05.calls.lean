/-! calls: a contract out of a PW, and the rows of the three invocations -/
theorem KX.own {g : KG} {z : ZS} {s U : State} {H : Heap} {locs : List Loc} (h : KX g z s) (hS : va_S (AG g) s.heap H locs) (hU : U.heap = H) (hvm : s.vm.Alike U.vm) : KX g z U := KX.moved hvm (fun a h1 h2 => by rw [hU]; exact hS.2.1 a h1 h2) h
def wsM (mi : MI) : List Cond := .code mi.1 mi.2.1 mi.2.2.1 mi.2.2.2 :: gw_tbl
def rmM (k : KK) : Room := { frames := k.1, cells := k.2.1, slots := k.2.2.1, locals := 48 * k.1 }
def PcM (g : KG) (z : ZS) (w : List PE) (As : List Value) : Array Value → State → Prop := fun a U => a = (As.map (tv g)).toArray ∧ HW g w U.heap ∧ KX g z U
def QcM (g : KG) (post : Option Value → List PE → Prop) : Array Value → State → Outcome → State → Prop := fun _ st oc t => ∃ (r : Option Value) (w' : List PE), oc = .returned (r.map (tv g)) ∧ post r w' ∧ HW g w' t.heap ∧ va_F (AG g) st t
def flatL : List Value → List (Option Value)
  | [] => []
  | v :: vs => if v.category = 2 then some v :: none :: flatL vs else some v :: flatL vs
def padL (n : Nat) (l : List (Option Value)) : List (Option Value) := l ++ List.replicate (n - l.length) none
theorem flat_args (g : KG) : ∀ (As : List Value) (i0 i : Nat) (v : Value), (flatL As)[i]? = some (some v) → (i0 + i, tv g v) ∈ lv_args i0 (As.map (tv g))
  | [], i0, i, v, h => by simp [flatL] at h
  | a :: t, i0, i, v, h => by
    rw [List.map_cons, lv_args, tv_cat]
    rw [flatL] at h
    by_cases hc : a.category = 2
    · rw [if_pos hc] at h ⊢
      match i, h with
      | 0, h =>
        simp only [List.getElem?_cons_zero, Option.some.injEq] at h
        subst h
        exact List.mem_cons_self
      | 1, h => simp at h
      | i + 2, h =>
        have h2 := flat_args g t (i0 + 2) i v (by simpa using h)
        refine List.mem_cons_of_mem _ ?_
        rw [show i0 + (i + 2) = i0 + 2 + i by omega]
        exact h2
    · rw [if_neg hc] at h ⊢
      match i, h with
      | 0, h =>
        simp only [List.getElem?_cons_zero, Option.some.injEq] at h
        subst h
        exact List.mem_cons_self
      | i + 1, h =>
        have h2 := flat_args g t (i0 + 1) i v (by simpa using h)
        refine List.mem_cons_of_mem _ ?_
        rw [show i0 + (i + 1) = i0 + 1 + i by omega]
        exact h2
theorem flat_len (g : KG) : ∀ As : List Value, (lg_sl (As.map (tv g))).length = (flatL As).length
  | [] => rfl
  | a :: t => by
    have ih := flat_len g t
    unfold lg_sl at ih ⊢
    rw [List.map_cons, List.flatMap_cons, List.length_append, ih, tv_cat, flatL]
    by_cases hc : a.category = 2
    · rw [if_pos hc, if_pos hc]
      simp only [List.length_cons, List.length_nil]
      omega
    · rw [if_neg hc, if_neg hc]
      simp only [List.length_cons, List.length_nil]
      omega
theorem LH_entry (g : KG) {As : List Value} {n : Nat} (h : (flatL As).length ≤ n) : LH g ((lg_sl (As.map (tv g)) ++ List.replicate (n - (lg_sl (As.map (tv g))).length) Slot.unset).toArray) n (padL n (flatL As)) := by
  have h0 := lv_entry (As.map (tv g)) (n := n) (by rw [flat_len]; exact h)
  refine ⟨h0.1, h0.2.1, fun i v hi => ?_⟩
  unfold padL at hi
  by_cases hl : i < (flatL As).length
  · rw [List.getElem?_append_left hl] at hi
    have h1 := flat_args g As 0 i v hi
    rw [Nat.zero_add] at h1
    exact h0.2.2 _ h1
  · rw [List.getElem?_append_right (by omega), List.getElem?_replicate] at hi
    split at hi <;> cases hi
/-- what the tables say of a method -/
def MIok (mi : MI) (n : Nat) : Prop := Cond.code mi.1 mi.2.1 mi.2.2.1 mi.2.2.2 ∈ gw_tbl ∧ plainName mi.1.cls = true ∧ (mi.1.cls ≠ "java/lang/invoke/MethodHandle" ∧ mi.1.cls ≠ "java/lang/invoke/VarHandle") ∧ Cond.initialized mi.1.cls ∈ gw_tbl ∧ (parseMethodDescriptor mi.1.desc).map (fun d => d.parameters.length) = some n ∧ mi.2.2.1 ≤ 29
theorem PcM_blind (g : KG) (z : ZS) (w : List PE) (As : List Value) : FrameBlind (PcM g z w As) := fun a U g' mk q => ⟨q.1, q.2.1, KX.moved (u := U) (U := U.calling g' mk a) (Vm.Alike.refl U.vm) (fun _ _ _ => rfl) q.2.2⟩
theorem Met_of_PW {k : KK} {mi : MI} {n : Nat} {post : Option Value → List PE → Prop} {As : List Value} {w : List PE} {L : List (Option Value)} (l : Launch) (g : KG) (hok : MIok mi n) (hL : padL mi.2.2.1 (flatL As) = L) (hm : (flatL As).length ≤ mi.2.2.1) (hb : PW k mi post 0 L [] w) :
    Met l mi.1 (wsM mi) (rmM k) (PcM g k.2.2.2 w As) (QcM g post) k.2.1 k.2.2.1 (AG g) := by
  subst hL
  refine Met.ofW (cc := mi.2.1) (maxL := mi.2.2.1) (ret := mi.2.2.2) hok.2.1 rfl ?_
  intro p e s m args below meth c s₁ B hml hv
  obtain ⟨rfl, hH, hK⟩ := hv
  have hts := atoms_spec (ws := wsM mi) B.pre
  have hown : s.vm.findClass mi.1.cls = some m.cls := findClass_of_methodNamed B.named
  have hlocks := B.notSynchronized
  rw [lg_entry_eq]
  refine hb g p l e _ s m _ below meth c s.heap [] 0 0 _ _ ⟨B.exec, B.bytes, B.returns, hml, hown, hlocks, (name_of_methodNamed B.named B.method).1, fun w hw => hts w (List.mem_cons_of_mem _ hw), hK, by rw [hH.1]; exact Nat.le_add_right _ _, Nat.le_refl _, Nat.le_refl _⟩ hH va_S.rf (LH_entry g hm) (Nat.le_of_eq (Nat.zero_add _)) (Nat.le_of_eq (Nat.zero_add _)) ?_
  intro r w' H' locs' cells' slots' pc' ls' hp hH' hS' hRA hc hs
  refine W.widen (k := k.2.1) (n := k.2.2.1) (by omega) (by omega) ?_
  have hq : ∀ t : State, t.heap = H' → QcM g post (As.map (tv g)).toArray s (.returned (r.map (tv g))) t := fun t ht => ⟨r, w', rfl, hp, by rw [ht]; exact hH', hS'.F ht⟩
  match r, hRA, hq with
  | none, hRA, hq => exact W.vret B.exec B.bytes (B.returns.trans hRA.2) (fun t ht _ => hq t ht) hS'.2.2 hRA.1
  | some (.int v), hRA, hq =>
    obtain ⟨hd, ty, hr, hn⟩ := hRA
    exact W.zret B.exec B.bytes (B.returns.trans hr) hn (fun t ht _ => hq t ht) hS'.2.2 hd
  | some (.long v), hRA, hq => exact W.lret B.exec B.bytes (B.returns.trans hRA.2) (fun t ht _ => hq t ht) hS'.2.2 hRA.1
  | some .null, hRA, hq =>
    obtain ⟨hd, hv, rt, hr, hrt⟩ := hRA
    exact W.aret B.exec B.bytes (B.returns.trans hr) hrt (Or.inl rfl) (fun t ht _ => hq t ht) hS'.2.2 hd
  | some (.ref a), hRA, hq =>
    obtain ⟨hd, hv, rt, hr, hrt⟩ := hRA
    exact W.aret B.exec B.bytes (B.returns.trans hr) hrt (Or.inr ⟨_, rfl⟩) (fun t ht _ => hq t ht) hS'.2.2 hd
  | some (.float b), hRA, hq =>
    obtain ⟨hd, hv, -⟩ := hRA
    rcases hv with h | ⟨a, h⟩ <;> cases h
  | some (.double b), hRA, hq =>
    obtain ⟨hd, hv, -⟩ := hRA
    rcases hv with h | ⟨a, h⟩ <;> cases h
  | some (.retAddr b), hRA, hq =>
    obtain ⟨hd, hv, -⟩ := hRA
    rcases hv with h | ⟨a, h⟩ <;> cases h
theorem run_W {p : Program} {l : Launch} {e : Env} {R : Room} {s : State} {m : MethodId} {args : Array Value} {below : List Frame} {meth : Method} {c : Code} {H : Heap} {locs : List Loc} {cells slots mc ms : Nat} {Q : State → Prop} {g : KG} {pc : Nat} {ls : Array Slot} {stk rest : List Value} {a : Array Value} {post2 : Option Value → List PE → Prop}
    (hr : va_Run p l e R s m args below meth c H locs cells slots mc ms (F0 m pc ls stk) rest (QcM g post2 a) (AG g)) (hS : va_S (AG g) s.heap H locs)
    (kk : ∀ (r : Option Value) (w' : List PE) (H' : Heap) (locs' : List Loc), post2 r w' → HW g w' H' → va_S (AG g) s.heap H' locs' → W p l e R s m args below meth c H' locs' (cells + mc) (slots + ms) Q (F0 m (pc + 3) ls ((r.map (tv g)).toList ++ rest))) :
    W p l e R s m args below meth c H locs cells slots Q (F0 m pc ls stk) := by
  intro T hT X
  obtain ⟨v, st₀, t, T', L, h0, X', hL, e1, e2, ⟨r, w', hv, hp, hw, hz, hk⟩, st⟩ := hr T hT X
  cases hv
  rw [h0] at hz hk
  rw [← e1] at hw
  obtain ⟨t2, a1, b1⟩ := kk r w' T'.heap (locs ++ L) hp hw ⟨Nat.le_trans hS.1 (by rw [e1]; exact hz), fun q h1 h2 => by rw [e1, hk q (Nat.lt_of_lt_of_le h1 hS.1) h2]; exact hS.2.1 q h1 h2, fun q hq => by
      rcases List.mem_append.mp hq with h | h
      · exact hS.2.2 q h
      · exact hL q h⟩ T' rfl X'
  exact ⟨t2, st t2 a1, b1⟩
/-- a call of ours, by its kind -/
def LKV (mi : MI) (idx : Nat) (mi2 : MI) (ci n : Nat) : Prop := MIok mi2 n ∧ Cond.methodLink mi.1.cls idx mi2.1 ∈ gw_tbl ∧ Cond.instanceMethod mi2.1 ∈ gw_tbl ∧ Cond.selects mi2.1.cls mi2.1 mi2.1 ∈ gw_tbl ∧ ∃ (T : u_T) (N : Nat), CL[ci]? = some (mi2.1.cls, T, N)
def LKS (mi : MI) (idx : Nat) (mi2 : MI) (n : Nat) : Prop := MIok mi2 n ∧ Cond.methodLink mi.1.cls idx mi2.1 ∈ gw_tbl ∧ Cond.static mi2.1 ∈ gw_tbl
def LKI (mi : MI) (idx : Nat) (mi2 : MI) (n : Nat) : Prop := MIok mi2 n ∧ Cond.methodLink mi.1.cls idx mi2.1 ∈ gw_tbl ∧ Cond.instanceMethod mi2.1 ∈ gw_tbl ∧ mi2.1.name = "<init>" ∧ mi2.2.2.2 = none
theorem map_cat (g : KG) (st : List Value) : ((st.map (tv g)).map fun v => v.category).sum = (st.map fun v => v.category).sum := by
  rw [List.map_map]
  exact congrArg List.sum (List.map_congr_left fun v _ => tv_cat g v)
section PC
variable {d mc ms : Nat} {z : ZS} {mi mi2 : MI} {post post2 : Option Value → List PE → Prop} {pc nx : Nat} {L L2 : List (Option Value)} {st stk : List Value} {w : List PE} {d2 mc2 ms2 idx n : Nat}
theorem callB_M {g : KG} {R : Room} {s : State} {args : Array Value} {p : Program} {m : MethodId} {meth : Method} {c : Code} (X : CX g z mi d p R s m args meth c) (hok : MIok mi2 n) (hlk : Cond.methodLink mi.1.cls idx mi2.1 ∈ gw_tbl) (hd2 : d2 + 1 ≤ d) : CallB R s args mi.1.cls idx mi2.1 mi2.2.1 mi2.2.2.1 mi2.2.2.2 (wsM mi2) (rmM (d2, mc2, ms2, z)) mc2 ms2 n := by
  obtain ⟨x1, x2, x3, x4, x5, x6, x7, hts, x9, x10, x11, x12⟩ := X
  obtain ⟨h1, h2, h3, h4, h5, h6⟩ := hok
  have hG : GoodIn gw_tbl (wsM mi2) := fun w hw => by
    rcases List.mem_cons.mp hw with rfl | hw
    · exact gw_in _ h1
    · exact gw_in w hw
  refine ⟨rfl, rfl, Nat.le_trans hd2 x11, ?_, pay_in hts hG, List.mem_cons_self, hts _ h1, hts _ h4, h3, fun sig h => ?_, hts _ hlk⟩
  · show 8 + (mi2.2.2.1 + 11) + 48 * d2 ≤ R.locals
    have : 48 * (d2 + 1) ≤ 48 * d := Nat.mul_le_mul_left 48 hd2
    omega
  · rw [h] at h5
    exact (Option.some.inj h5).symm
theorem PW_callV {ci o : Nat} {fs : List Value} (As : List Value) (hd : CD mi pc (.invokevirtual idx) 3 nx) (hl : LKV mi idx mi2 ci n) (ho : PG w o = some (.inr (ci, fs))) (hn : As.length = n) (hs : As.reverse ++ .ref o :: st = stk) (hL2 : padL mi2.2.2.1 (flatL (.ref o :: As)) = L2) (hm : (flatL (.ref o :: As)).length ≤ mi2.2.2.1) (hd2 : d2 + 1 ≤ d) (hst : (st.map fun v => v.category).sum ≤ 8)
    (hb : PW (d2, mc2, ms2, z) mi2 post2 0 L2 [] w) (kk : ∀ r w', post2 r w' → PW (d, mc, ms, z) mi post nx L (r.toList ++ st) w') : PW (d, mc2 + mc, ms2 + ms, z) mi post pc L stk w := by
  obtain ⟨hd, rfl⟩ := hd
  subst hs
  intro g p l e R s m args below meth c H locs cells slots Q ls X hH hS hL h1 h2 hQ
  obtain ⟨hok, hlk, hins, hsel, T, N, hc⟩ := hl
  have hM := Met_of_PW l g hok hL2 hm hb
  have hts := X.2.2.2.2.2.2.2.1
  have hK := X.2.2.2.2.2.2.2.2.1
  have hcb := callB_M (mc2 := mc2) (ms2 := ms2) X hok hlk hd2
  have ho2 := PG_at (g := g) ho
  have hr := va_runV (meth := meth) (H := H) (locs := locs) (below := below) (e := e) (cells := cells) (slots := slots) (b := ad g o) (As := As.map (tv g)) (rest := st.map (tv g)) (g := F0 m pc ls ((As.reverse ++ .ref o :: st).map (tv g))) (Ts := gw_tbl) (own := mi.1.cls) ⟨X.1, X.2.1, X.2.2.2.1, X.2.2.2.2.1, hts⟩ hM ⟨hcb, hts _ hins, hts _ hsel⟩
    ⟨PcM_blind _ _ _ _, va_recv hK.1 hH.2 hc ho2.2.2.1, fun U hU hW => ⟨rfl, by rw [hU]; exact hH, KX.own hK hS hU hW.alike⟩⟩ rfl (by rw [List.length_map]; exact hn) hL.1 (by simp [tv]) (lv_room (by rw [map_cat]; exact hst)) hd ⟨by show cells + mc2 ≤ _; have h9 : cells + (mc2 + mc) ≤ R.cells := h1; omega, by show slots + ms2 ≤ _; have h9 : slots + (ms2 + ms) ≤ R.slots := h2; omega⟩
  refine run_W hr hS fun r w' H' locs' hp hw hS' => ?_
  have hk := kk r w' hp g p l e R s m args below meth c H' locs' (cells + mc2) (slots + ms2) Q ls X hw hS' hL (by have h9 : cells + (mc2 + mc) ≤ R.cells := h1; show cells + mc2 + mc ≤ _; omega) (by have h9 : slots + (ms2 + ms) ≤ R.slots := h2; show slots + ms2 + ms ≤ _; omega) (fun r2 w2 H2 locs2 cells2 slots2 pc2 ls2 q1 q2 q3 q4 q5 q6 => hQ r2 w2 H2 locs2 cells2 slots2 pc2 ls2 q1 q2 q3 q4 (by have h9 : cells2 ≤ cells + mc2 + mc := q5; show cells2 ≤ cells + (mc2 + mc); omega) (by have h9 : slots2 ≤ slots + ms2 + ms := q6; show slots2 ≤ slots + (ms2 + ms); omega))
  refine W.eq ?_ hk
  cases r <;> rfl
theorem PW_callS (As : List Value) (hd : CD mi pc (.invokestatic idx) 3 nx) (hl : LKS mi idx mi2 n) (hn : As.length = n) (hs : As.reverse ++ st = stk) (hL2 : padL mi2.2.2.1 (flatL As) = L2) (hm : (flatL As).length ≤ mi2.2.2.1) (hd2 : d2 + 1 ≤ d) (hst : (st.map fun v => v.category).sum ≤ 8)
    (hb : PW (d2, mc2, ms2, z) mi2 post2 0 L2 [] w) (kk : ∀ r w', post2 r w' → PW (d, mc, ms, z) mi post nx L (r.toList ++ st) w') : PW (d, mc2 + mc, ms2 + ms, z) mi post pc L stk w := by
  obtain ⟨hd, rfl⟩ := hd
  subst hs
  intro g p l e R s m args below meth c H locs cells slots Q ls X hH hS hL h1 h2 hQ
  obtain ⟨hok, hlk, hstt⟩ := hl
  have hM := Met_of_PW l g hok hL2 hm hb
  have hts := X.2.2.2.2.2.2.2.1
  have hK := X.2.2.2.2.2.2.2.2.1
  have hcb := callB_M (mc2 := mc2) (ms2 := ms2) X hok hlk hd2
  have hr := va_runS (meth := meth) (H := H) (locs := locs) (below := below) (e := e) (cells := cells) (slots := slots) (As := As.map (tv g)) (rest := st.map (tv g)) (g := F0 m pc ls ((As.reverse ++ st).map (tv g))) (Ts := gw_tbl) (own := mi.1.cls) ⟨X.1, X.2.1, X.2.2.2.1, X.2.2.2.2.1, hts⟩ hM ⟨hcb, hts _ hstt⟩
    ⟨PcM_blind _ _ _ _, fun U hU hW => ⟨rfl, by rw [hU]; exact hH, KX.own hK hS hU hW.alike⟩⟩ rfl (by rw [List.length_map]; exact hn) hL.1 (by simp [tv]) (lv_room (by rw [map_cat]; exact hst)) hd ⟨by show cells + mc2 ≤ _; have h9 : cells + (mc2 + mc) ≤ R.cells := h1; omega, by show slots + ms2 ≤ _; have h9 : slots + (ms2 + ms) ≤ R.slots := h2; omega⟩
  refine run_W hr hS fun r w' H' locs' hp hw hS' => ?_
  have hk := kk r w' hp g p l e R s m args below meth c H' locs' (cells + mc2) (slots + ms2) Q ls X hw hS' hL (by have h9 : cells + (mc2 + mc) ≤ R.cells := h1; show cells + mc2 + mc ≤ _; omega) (by have h9 : slots + (ms2 + ms) ≤ R.slots := h2; show slots + ms2 + ms ≤ _; omega) (fun r2 w2 H2 locs2 cells2 slots2 pc2 ls2 q1 q2 q3 q4 q5 q6 => hQ r2 w2 H2 locs2 cells2 slots2 pc2 ls2 q1 q2 q3 q4 (by have h9 : cells2 ≤ cells + mc2 + mc := q5; show cells2 ≤ cells + (mc2 + mc); omega) (by have h9 : slots2 ≤ slots + ms2 + ms := q6; show slots2 ≤ slots + (ms2 + ms); omega))
  refine W.eq ?_ hk
  cases r <;> rfl
theorem PW_callI {o : Nat} (As : List Value) (hd : CD mi pc (.invokespecial idx) 3 nx) (hl : LKI mi idx mi2 n) (hn : As.length = n) (hs : As.reverse ++ .ref o :: st = stk) (hL2 : padL mi2.2.2.1 (flatL (.ref o :: As)) = L2) (hm : (flatL (.ref o :: As)).length ≤ mi2.2.2.1) (hd2 : d2 + 1 ≤ d) (hst : (st.map fun v => v.category).sum ≤ 8)
    (hb : PW (d2, mc2, ms2, z) mi2 post2 0 L2 [] w) (kk : ∀ r w', post2 r w' → PW (d, mc, ms, z) mi post nx L (r.toList ++ st) w') : PW (d, mc2 + mc, ms2 + ms, z) mi post pc L stk w := by
  obtain ⟨hd, rfl⟩ := hd
  subst hs
  intro g p l e R s m args below meth c H locs cells slots Q ls X hH hS hL h1 h2 hQ
  obtain ⟨hok, hlk, hins, hini, hret⟩ := hl
  have hM := Met_of_PW l g hok hL2 hm hb
  have hts := X.2.2.2.2.2.2.2.1
  have hK := X.2.2.2.2.2.2.2.2.1
  have hcb := callB_M (mc2 := mc2) (ms2 := ms2) X hok hlk hd2
  rw [hret] at hcb
  have hr := va_runI (meth := meth) (H := H) (locs := locs) (below := below) (e := e) (cells := cells) (slots := slots) (b := ad g o) (As := As.map (tv g)) (rest := st.map (tv g)) (g := F0 m pc ls ((As.reverse ++ .ref o :: st).map (tv g))) (Ts := gw_tbl) (own := mi.1.cls) ⟨X.1, X.2.1, X.2.2.2.1, X.2.2.2.2.1, hts⟩ hM ⟨hcb, hini, hts _ hins⟩
    ⟨PcM_blind _ _ _ _, fun U hU hW => ⟨rfl, by rw [hU]; exact hH, KX.own hK hS hU hW.alike⟩⟩ rfl (by rw [List.length_map]; exact hn) hL.1 (by simp [tv]) (lv_room (by rw [map_cat]; exact hst)) hd ⟨by show cells + mc2 ≤ _; have h9 : cells + (mc2 + mc) ≤ R.cells := h1; omega, by show slots + ms2 ≤ _; have h9 : slots + (ms2 + ms) ≤ R.slots := h2; omega⟩
  refine run_W hr hS fun r w' H' locs' hp hw hS' => ?_
  have hk := kk r w' hp g p l e R s m args below meth c H' locs' (cells + mc2) (slots + ms2) Q ls X hw hS' hL (by have h9 : cells + (mc2 + mc) ≤ R.cells := h1; show cells + mc2 + mc ≤ _; omega) (by have h9 : slots + (ms2 + ms) ≤ R.slots := h2; show slots + ms2 + ms ≤ _; omega) (fun r2 w2 H2 locs2 cells2 slots2 pc2 ls2 q1 q2 q3 q4 q5 q6 => hQ r2 w2 H2 locs2 cells2 slots2 pc2 ls2 q1 q2 q3 q4 (by have h9 : cells2 ≤ cells + mc2 + mc := q5; show cells2 ≤ cells + (mc2 + mc); omega) (by have h9 : slots2 ≤ slots + ms2 + ms := q6; show slots2 ≤ slots + (ms2 + ms); omega))
  refine W.eq ?_ hk
  cases r <;> rfl
/-- Object's constructor, which does nothing -/
theorem PW_objInit {o : Nat} (hd : CD mi pc (.invokespecial idx) 3 nx) (hlk : Cond.methodLink mi.1.cls idx Lib.objectInit ∈ gw_tbl) (hins : Cond.instanceMethod Lib.objectInit ∈ gw_tbl) (hcode : Cond.code Lib.objectInit ⟨#[0xb1]⟩ 1 none ∈ gw_tbl) (hd1 : 1 ≤ d) (hst : (st.map fun v => v.category).sum ≤ 8) (kk : PW (d, mc, ms, z) mi post nx L st w) : PW (d, mc, ms, z) mi post pc L (.ref o :: st) w := by
  obtain ⟨hd, rfl⟩ := hd
  intro g p l e R s m args below meth c H locs cells slots Q ls X hH hS hL h1 h2 hQ
  have hts := X.2.2.2.2.2.2.2.1
  refine W.objInit (own := mi.1.cls) X.1 X.2.1 X.2.2.2.2.1 (hts _ hlk) (hts _ hins) (hts _ hcode) rfl (by rw [X.2.2.2.1]; exact hL.1) rfl hd (Nat.le_trans hd1 X.2.2.2.2.2.2.2.2.2.2.1) ?_ ?_
  · show 2 * 0 + ((st.map (tv g)).map fun v => v.category).sum + 12 ≤ R.locals
    rw [map_cat]
    have h12 : 48 * d ≤ R.locals := X.2.2.2.2.2.2.2.2.2.2.2
    omega
  · exact kk g p l e R s m args below meth c H locs cells slots Q ls X hH hS hL h1 h2 hQ
end PC
