/-! the claim's start, out of a PW of the law -/
theorem arrOf_of {U : State} {c comp : ClassId} {k : Class} {ty : FieldType} (h1 : U.vm.classes[c]? = some k) (h2 : k.kind = .array comp ty) : ArrOfT U c ty := fun n z => ⟨fun k h => (by cases h), k, h1, comp, h2⟩
theorem prim_K {args : Array Value} {U : State} {ty : FieldType} (h : (Cond.arrayClass ty).before args U = true) : ∃ c : ClassId, ArrOfT U c ty ∧ U.vm.findClass ("[" ++ ty.toString) = some c := by
  obtain ⟨c, k, comp, h1, h2, h3⟩ := Cond.arrayClass_spec h
  exact ⟨c, arrOf_of h2 h3, h1⟩
def R_law : String := "GoodbyeAllLaw"
def lw_P (b : Addr) (xs : List Int32) (args : Array Value) (s : State) : Prop := args = #[.ref b] ∧ s.IntsAt b xs ∧ xs.length ≤ 3072 ∧ (Jvm.Cond.and given_1 narrow_1).before args s = true
def lw_Q (_ : Array Value) (s : State) (o : Outcome) (t : State) : Prop := o = .returned (some (.int 1)) ∧ Framed s o t [] 600000 7302250
def lw_Z (below : List Frame) (a : Array Value) (s : State) : State → Prop := fun t => ∃ o, t.status = .running ∧ Ended t below o ∧ lw_Q a s o t
/-- the law's own end, with 1 on the stack, nothing written that was there before, its room as the claim has it -/
theorem lw_ret {p : Program} {l : Launch} {e : Env} {s : State} {m : MethodId} {below : List Frame} {meth : Method} {c : Code} {b : Nat} (hx : p.tables.exec = Jvm.exec) (hb : c.code = code) (hr : meth.sig.returnType = ret) (hlocks : meth.locks = false) {pc : Nat} {H : Heap} {ls : Array Slot} (hdg : decode code pc = .ok (.ireturn, 1)) : W p l e room_1 s m #[Value.ref b] below meth c H [] 600000 7302250 (lw_Z below #[Value.ref b] s) (F0 m pc ls [.int 1]) := by
  intro T hT X
  obtain ⟨fs, hret, hrun, hended, hW, hframe⟩ := X.leave (v := some (.int 1)) (hlocks := hlocks) (fun h => by rw [hr] at h; cases h)
  have hmeth' : T.vm.method? m = some meth := X.method'
  refine ⟨T.setFrames fs, ?_, .returned (some (.int 1)), hrun, hended, rfl, ⟨_, rfl⟩, hW, hframe⟩
  jvm_step X.here [X.here.top, hx, hb, hdg, hmeth', hr, ret, narrow_b1]
  (try refine ⟨rfl, ?_⟩); (try refine ⟨rfl, ?_⟩)
  first | (intro acts; rw [hret _ acts rfl rfl rfl]) | rw [hret _ _ rfl rfl rfl]
  exact Steps.refl _
/-- what holds at the law's entry: the machine, the code, the tables' words (any of lw_tbl by 'hts w (by decide +kernel)'), the script of L ints xs at the cell b, what the Statement gives of the start (any of its parts by flat_of_before) -/
def lw_At (p : Program) (s : State) (m : MethodId) (meth : Method) (c : Code) (b L : Nat) (xs : Nat → Int32) : Prop :=
  p.tables.exec = Jvm.exec ∧ c.code = code ∧ meth.sig.returnType = ret ∧ c.maxLocals = 4 ∧ s.vm.findClass R_law = some m.cls ∧ (∀ w ∈ lw_tbl, w.before #[Value.ref b] s = true) ∧ va_X b L xs s s.heap ∧ b < s.heap.size ∧ meth.locks = false ∧ (Jvm.Cond.and given_1 narrow_1).before #[Value.ref b] s = true
/-- a table of the class at the start -/
theorem ro_at {args : Array Value} {s : State} (hts : ∀ w ∈ lw_tbl, w.before args s = true) (hgv : (Jvm.Cond.and given_1 narrow_1).before args s = true) {A : Nat → Prop} (hA : ∀ a : Nat, a < s.heap.size → ¬ A a) (j N : Nat) (hN : (roT j).2.2.length = N) (hlay : Cond.laysStatic (roT j).1 (roT j).2.1 "[I" ∈ lw_tbl) (hini : Cond.initialized (roT j).1 ∈ lw_tbl) (hN2 : N < 2 ^ 31)
    (h1 : Cond.arrayOf (.static (roT j).1 (roT j).2.1 "[I") .int ∈ flatC (Jvm.Cond.and given_1 narrow_1)) (h2 : Cond.eq (.length (.static (roT j).1 (roT j).2.1 "[I")) (.int (Int32.ofNat N)) ∈ flatC (Jvm.Cond.and given_1 narrow_1))
    (h3 : ∀ i : Nat, i < N → Cond.eq (.elem (.static (roT j).1 (roT j).2.1 "[I") (.int (Int32.ofNat i))) (.int ((roT j).2.2.getD i 0)) ∈ flatC (Jvm.Cond.and given_1 narrow_1)) :
    ∃ t : Nat, va_Z (roT j).1 (roT j).2.1 "[I" (.ref t) A s s.heap ∧ va_T .int t (roT j).2.2.length (fun i => .int ((roT j).2.2.getD i 0)) A s s.heap := by
  subst hN
  have hf := flat_of_before _ hgv
  obtain ⟨t, e1, e2⟩ := va_Tof (A := A) hN2 (hf _ h1) (va_eqt (hf _ h2)) (f := fun i => .int ((roT j).2.2.getD i 0)) (fun i hi => va_eqt (hf _ (h3 i hi))) hA
  exact ⟨t, va_Zref (hts _ hlay) (hts _ hini) e1 hA, e2⟩
set_option maxHeartbeats 4000000 in
theorem start_of (hlaw : ∀ z : ZS, z.1 ≤ 3072 → PW (100, 200, 20000, z) m_W_law (fun r _ => r = some (.int 1)) 0 [some (.ref 4), none, none, none] [] []) {p : Program} {e : Env} {s : State} {m : MethodId} {below : List Frame} {meth : Method} {c : Code} (l : Launch) {b L : Nat} {xs : Nat → Int32} (hL : L ≤ 3072) (hname : meth.name = "law") (C0 : lw_At p s m meth c b L xs) : W p l e room_1 s m #[Value.ref b] below meth c s.heap [] 0 0 (lw_Z below #[Value.ref b] s) (entryFrame m ([Value.ref b] : List Value).toArray 4) := by
  obtain ⟨hx, hb, hr, hml, hown, hts, hX, hbl, hlocks, hgv⟩ := C0
  have hAl : ∀ a : Nat, a < s.heap.size → ¬ (fun q : Nat => s.heap.size ≤ q) a := fun a h q => absurd h (Nat.not_lt.mpr q)
  obtain ⟨c0, iS0, hKn0⟩ := u_known (C := R_GoodbyeAll) (T := F_GoodbyeAll) (N := 11) (n := 11) hts i_GoodbyeAll (hts (.instantiable R_GoodbyeAll 11) (tw 18 (by decide +kernel)))
  obtain ⟨c1, iS1, hKn1⟩ := u_known (C := R_House) (T := F_House) (N := 6) (n := 6) hts i_House (hts (.instantiable R_House 6) (tw 26 (by decide +kernel)))
  obtain ⟨c2, iS2, hKn2⟩ := u_known (C := R_Law) (T := F_Law) (N := 6) (n := 6) hts i_Law (hts (.instantiable R_Law 6) (tw 54 (by decide +kernel)))
  obtain ⟨c3, iS3, hKn3⟩ := u_known (C := R_Tape) (T := F_Tape) (N := 6) (n := 6) hts i_Tape (hts (.instantiable R_Tape 6) (tw 79 (by decide +kernel)))
  obtain ⟨c4, iS4, hKn4⟩ := u_known (C := R_Leaver) (T := F_Leaver) (N := 5) (n := 5) hts i_Leaver (hts (.instantiable R_Leaver 5) (tw 104 (by decide +kernel)))
  obtain ⟨c5, iS5, hKn5⟩ := u_known (C := R_Search) (T := F_Search) (N := 7) (n := 7) hts i_Search (hts (.instantiable R_Search 7) (tw 126 (by decide +kernel)))
  obtain ⟨c6, iS6, hKn6⟩ := u_known (C := R_Pair) (T := F_Pair) (N := 7) (n := 7) hts i_Pair (hts (.instantiable R_Pair 7) (tw 154 (by decide +kernel)))
  obtain ⟨c7, iS7, hKn7⟩ := u_known (C := R_Party) (T := F_Party) (N := 3) (n := 3) hts i_Party (hts (.instantiable R_Party 3) (tw 185 (by decide +kernel)))
  obtain ⟨c8, iS8, hKn8⟩ := u_known (C := R_Evening) (T := F_Evening) (N := 7) (n := 7) hts i_Evening (hts (.instantiable R_Evening 7) (tw 201 (by decide +kernel)))
  obtain ⟨c9, iS9, hKn9⟩ := u_known (C := R_Changes) (T := F_Changes) (N := 7) (n := 7) hts i_Changes (hts (.instantiable R_Changes 7) (tw 231 (by decide +kernel)))
  obtain ⟨c10, iS10, hKn10⟩ := u_known (C := R_Bodies) (T := F_Bodies) (N := 4) (n := 4) hts i_Bodies (hts (.instantiable R_Bodies 4) (tw 259 (by decide +kernel)))
  obtain ⟨c11, iS11, hKn11⟩ := u_known (C := R_Shelf) (T := F_Shelf) (N := 5) (n := 5) hts i_Shelf (hts (.instantiable R_Shelf 5) (tw 279 (by decide +kernel)))
  obtain ⟨c12, iS12, hKn12⟩ := u_known (C := R_Model) (T := F_Model) (N := 57) (n := 57) hts i_Model (hts (.instantiable R_Model 57) (tw 1105 (by decide +kernel)))
  obtain ⟨dC, dI, hKc⟩ : ∃ (dC : Nat → ClassId) (dI : Nat → Nat → Nat), ∀ (k : Nat) (q : vw_C), CL[k]? = some q → u_Kn s q.1 q.2.1 q.2.2 (dC k) (dI k) := by
    refine ⟨fun k => if k = 0 then c0 else if k = 1 then c1 else if k = 2 then c2 else if k = 3 then c3 else if k = 4 then c4 else if k = 5 then c5 else if k = 6 then c6 else if k = 7 then c7 else if k = 8 then c8 else if k = 9 then c9 else if k = 10 then c10 else if k = 11 then c11 else c12, fun k => if k = 0 then iS0 else if k = 1 then iS1 else if k = 2 then iS2 else if k = 3 then iS3 else if k = 4 then iS4 else if k = 5 then iS5 else if k = 6 then iS6 else if k = 7 then iS7 else if k = 8 then iS8 else if k = 9 then iS9 else if k = 10 then iS10 else if k = 11 then iS11 else iS12, ?_⟩
    intro k q hq
    match k, hq with
    | 0, hq => cases hq; exact hKn0
    | 1, hq => cases hq; exact hKn1
    | 2, hq => cases hq; exact hKn2
    | 3, hq => cases hq; exact hKn3
    | 4, hq => cases hq; exact hKn4
    | 5, hq => cases hq; exact hKn5
    | 6, hq => cases hq; exact hKn6
    | 7, hq => cases hq; exact hKn7
    | 8, hq => cases hq; exact hKn8
    | 9, hq => cases hq; exact hKn9
    | 10, hq => cases hq; exact hKn10
    | 11, hq => cases hq; exact hKn11
    | 12, hq => cases hq; exact hKn12
    | k + 13, hq => simp [CL] at hq
  obtain ⟨tI, aI, rI⟩ := prim_K (hts (.arrayClass .int) (tw 52 (by decide +kernel)))
  obtain ⟨tL, aL, rL⟩ := prim_K (hts (.arrayClass .long) (tw 300 (by decide +kernel)))
  obtain ⟨tB, aB, rB⟩ := prim_K (hts (.arrayClass .byte) (tw 1281 (by decide +kernel)))
  obtain ⟨tS, aS, rS⟩ := prim_K (hts (.arrayClass .short) (tw 1282 (by decide +kernel)))
  have hAO : va_AO "GoodbyeAll$Shelf" s := va_AO.of (hts (.arrayOver (.object "GoodbyeAll$Shelf")) (tw 278 (by decide +kernel)))
  have hAOA : AOA s := hts (.arrayOver (.array .int)) (tw 32 (by decide +kernel))
  obtain ⟨cq, tQ, kq, q1, -, q3, q4, q5⟩ := Cond.arrayOver_spec hAO
  obtain ⟨ca, tA, ka, a1, -, a3, a4, a5⟩ := AOA_spec hAOA
  obtain ⟨t0, z0, v0⟩ := ro_at hts hgv hAl 0 8 rfl (tw 349 (by decide +kernel)) (tw 2 (by decide +kernel)) (by decide) (by decide +kernel) (by decide +kernel) (by decide +kernel)
  obtain ⟨t1, z1, v1⟩ := ro_at hts hgv hAl 1 8 rfl (tw 351 (by decide +kernel)) (tw 2 (by decide +kernel)) (by decide) (by decide +kernel) (by decide +kernel) (by decide +kernel)
  obtain ⟨t2, z2, v2⟩ := ro_at hts hgv hAl 2 8 rfl (tw 983 (by decide +kernel)) (tw 11 (by decide +kernel)) (by decide) (by decide +kernel) (by decide +kernel) (by decide +kernel)
  obtain ⟨t3, z3, v3⟩ := ro_at hts hgv hAl 3 32 rfl (tw 978 (by decide +kernel)) (tw 11 (by decide +kernel)) (by decide) (by decide +kernel) (by decide +kernel) (by decide +kernel)
  have hv4 : va_T .int b L (fun i => .int (xs i)) (fun q : Nat => s.heap.size ≤ q) s s.heap := by
    obtain ⟨scr, x1, x2, x3, x4, x5⟩ := hX
    exact ⟨scr, x1, x2, x3, Nat.le_of_eq x4.symm, by rw [x4] <;> rfl, x5, hAl b hbl⟩
  let g : KG := (s.heap.size, fun j => match j with | 0 => t0 | 1 => t1 | 2 => t2 | 3 => t3 | _ => b, (dC, dI), fun ty => match ty with | .int => tI | .long => tL | .byte => tB | .short => tS | .object _ => tQ | _ => tA)
  have hKX : KX g (L, xs) s := by
    refine ⟨⟨hKc, fun k q hk => ?_⟩, hAO, hAOA, fun j hj => ?_, hv4⟩
    · match k, hk with
      | 0, hk => cases hk; exact ⟨aI, rI⟩
      | 1, hk => cases hk; exact ⟨aL, rL⟩
      | 2, hk => cases hk; exact ⟨aB, rB⟩
      | 3, hk => cases hk; exact ⟨aS, rS⟩
      | 4, hk => cases hk; exact ⟨arrOf_of q3 q4, kq, cq, q3, q4, q1, q5⟩
      | 5, hk => cases hk; exact ⟨arrOf_of a3 a4, a5⟩
      | k + 6, hk => simp [TYS, tysL] at hk
    · match j, hj with
      | 0, _ => exact ⟨z0, v0⟩
      | 1, _ => exact ⟨z1, v1⟩
      | 2, _ => exact ⟨z2, v2⟩
      | 3, _ => exact ⟨z3, v3⟩
      | j + 4, hj => omega
  have hl0 : LH g ((lg_sl ([Value.ref b]) ++ List.replicate (4 - (lg_sl ([Value.ref b])).length) Slot.unset).toArray) 4 [some (.ref 4), none, none, none] := LH_entry g (As := [.ref 4]) (n := 4) (by decide)
  rw [lg_entry_eq]
  refine hlaw (L, xs) hL g p l e room_1 s m _ below meth c s.heap [] 0 0 _ _ ⟨hx, hb, hr, hml, hown, hlocks, hname, gw_hts hts, hKX, Nat.le_refl _, Nat.le_of_ble_eq_true rfl, Nat.le_of_ble_eq_true rfl⟩ ⟨rfl, fun k q hk => by simp [trW] at hk⟩ va_S.rf hl0 (Nat.le_of_ble_eq_true rfl) (Nat.le_of_ble_eq_true rfl) ?_
  intro r w' H' locs' cells' slots' pc' ls' hp hH' hS' hRA hc hs
  subst hp
  refine va_forget (fun q hq => hS'.2.2 q hq) ?_
  refine W.widen (k := 600000) (n := 7302250) (Nat.le_trans hc (Nat.le_of_ble_eq_true rfl)) (Nat.le_trans hs (Nat.le_of_ble_eq_true rfl)) ?_
  exact lw_ret hx hb hr hlocks hRA.1
