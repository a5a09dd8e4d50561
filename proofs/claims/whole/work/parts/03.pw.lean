/-! THE PURE LAYER. A world is a list of cells; a reference a is the cell a - 5 of it (0 .. 4: arrays that nobody writes). PW says: from here, in this method's frame, over any real heap that holds the world, the machine comes to the method's end with 'post'. -/
abbrev PE : Type := (FieldType × vp_A) ⊕ (Nat × List Value)
abbrev MI : Type := MethodName × ByteArray × Nat × Option FieldType
abbrev KG : Type := Nat × (Nat → Nat) × va_G × (FieldType → ClassId)
abbrev ZS : Type := Nat × (Nat → Int32)
abbrev KK : Type := Nat × Nat × Nat × ZS
def ad (g : KG) (a : Nat) : Nat := if a < 5 then g.2.1 a else g.1 + (a - 5)
def tv (g : KG) : Value → Value
  | .ref a => .ref (ad g a)
  | v => v
def trA (g : KG) : vp_A → vp_A
  | (n, .inr (.inr (.inr (.inr f)))) => (n, .inr (.inr (.inr (.inr (fun j => (f j).map (ad g))))))
  | x => x
def trE (g : KG) : PE → va_E
  | .inl (ty, a) => .inl (g.2.2.2 ty, trA g a)
  | .inr (c, fs) => .inr (c, fs.map (tv g))
def trW (g : KG) (w : List PE) : va_W := w.mapIdx fun j e => (g.1 + j, trE g e)
/-- the cell of a reference -/
def PG (w : List PE) (a : Nat) : Option PE := if a < 5 then none else w[a - 5]?
def AG (g : KG) : Nat → Prop := fun q => g.1 ≤ q
def HW (g : KG) (w : List PE) (H : Heap) : Prop := H.size = g.1 + w.length ∧ va_P g.2.2.1 CL (trW g w) H
theorem trW_get {g : KG} {w : List PE} {k : Nat} {e : PE} (h : w[k]? = some e) : (trW g w)[k]? = some (g.1 + k, trE g e) := by
  unfold trW
  rw [List.getElem?_mapIdx, h]
  rfl
theorem trW_at {g : KG} {w : List PE} {k : Nat} {q : Nat × va_E} (h : (trW g w)[k]? = some q) : ∃ e, w[k]? = some e ∧ q = (g.1 + k, trE g e) := by
  unfold trW at h
  rw [List.getElem?_mapIdx] at h
  cases hw : w[k]? with
  | none => rw [hw] at h; cases h
  | some e => rw [hw] at h; exact ⟨e, rfl, (Option.some.inj h).symm⟩
theorem trW_set (g : KG) (w : List PE) (k : Nat) (e : PE) : (trW g w).set k (g.1 + k, trE g e) = trW g (w.set k e) := by
  apply List.ext_getElem?
  intro i
  unfold trW
  rw [List.getElem?_set, List.getElem?_mapIdx, List.getElem?_mapIdx, List.getElem?_set, List.length_mapIdx]
  by_cases hk : k = i
  · subst hk
    by_cases hl : k < w.length
    · simp [hl]
    · simp [hl]
  · simp [hk]
theorem trW_push (g : KG) (w : List PE) (e : PE) : trW g w ++ [(g.1 + w.length, trE g e)] = trW g (w ++ [e]) := by
  unfold trW
  rw [List.mapIdx_append]
  simp
theorem trW_D (g : KG) (w : List PE) : va_D (AG g) (trW g w) := by
  refine ⟨fun i j p q hi hj hpq => ?_, fun k q hk => ?_⟩
  · obtain ⟨e1, -, rfl⟩ := trW_at hi
    obtain ⟨e2, -, rfl⟩ := trW_at hj
    exact Nat.add_left_cancel hpq
  · obtain ⟨e, -, rfl⟩ := trW_at hk
    exact Nat.le_add_right _ _
theorem PG_at {g : KG} {w : List PE} {a : Nat} {e : PE} (h : PG w a = some e) : 5 ≤ a ∧ w[a - 5]? = some e ∧ (trW g w)[a - 5]? = some (ad g a, trE g e) ∧ AG g (ad g a) := by
  unfold PG at h
  by_cases h5 : a < 5
  · rw [if_pos h5] at h; cases h
  · rw [if_neg h5] at h
    refine ⟨Nat.not_lt.mp h5, h, ?_, ?_⟩
    · rw [trW_get h]
      unfold ad
      rw [if_neg h5]
    · unfold AG ad
      rw [if_neg h5]
      exact Nat.le_add_right _ _
/-- the arrays that nobody writes: the class's four tables; then the script -/
def roT : Nat → String × String × List Int32 := fun j => match j with
  | 0 => ("GoodbyeAll$House", "LEAST", [0, 0, 0, 0, 0, 0, 1, 1])
  | 1 => ("GoodbyeAll$House", "GREATEST", [4, 4, 99, 9, 1, 1, 11, 9])
  | 2 => ("GoodbyeAll$Bodies", "ABOVE", [-1, 0, 0, 2, 1, 3, 0, 6])
  | _ => ("GoodbyeAll$Bodies", "OWN", [1, 10, 11, 2, 20, 0, 0, 0, 0, 30, 0, 0, 0, 41, 40, 0, 0, 0, 0, 50, 0, 0, 60, 61, 70, 0, 0, 0, 81, 80, 0, 0])
def tysL : List FieldType := [.int, .long, .byte, .short, .object "GoodbyeAll$Shelf", .array .int]
def TYS (g : KG) : List (ClassId × FieldType) := tysL.map fun t => (g.2.2.2 t, t)
theorem TYS_get {g : KG} {t0 : Nat} {ty : FieldType} (h : tysL[t0]? = some ty) : (TYS g)[t0]? = some (g.2.2.2 ty, ty) := by
  unfold TYS
  rw [List.getElem?_map, h]
  rfl
def AOA (U : State) : Prop := (Cond.arrayOver (.array .int)).before #[] U = true
def KX (g : KG) (z : ZS) (U : State) : Prop :=
  va_K g.2.2.1 CL (TYS g) U ∧ va_AO "GoodbyeAll$Shelf" U ∧ AOA U ∧
  (∀ j, j < 4 → va_Z (roT j).1 (roT j).2.1 "[I" (.ref (g.2.1 j)) (AG g) U U.heap ∧ va_T .int (g.2.1 j) (roT j).2.2.length (fun i => .int ((roT j).2.2.getD i 0)) (AG g) U U.heap) ∧
  va_T .int (g.2.1 4) z.1 (fun i => .int (z.2 i)) (AG g) U U.heap
theorem AOA_spec {U : State} (h : AOA U) : ∃ (comp c : ClassId) (k : Class), U.vm.findClass (FieldType.array .int).toString = some comp ∧ (U.vm.classes.findIdx? fun (x : Class) => match x.kind with | .array component _ => component == comp | _ => false) = some c ∧ U.vm.classes[c]? = some k ∧ k.kind = .array comp (.array .int) ∧ U.vm.findClass ("[" ++ (FieldType.array .int).toString) = some c := by
  unfold AOA Cond.before Cond.holds at h
  simp only [Cond.value, beq_iff_eq] at h
  cases hc : U.vm.findClass (FieldType.array .int).toString with
  | none => simp [hc] at h
  | some comp =>
    simp only [hc, Option.bind_some, Option.bind_eq_some_iff, Option.map_eq_some_iff] at h
    obtain ⟨c, hi, k, hk, hb⟩ := h
    obtain ⟨hlt, hp, -⟩ := Array.findIdx?_eq_some_iff_getElem.mp hi
    have hkk : U.vm.classes[c] = k := (Array.getElem?_eq_some_iff.mp hk).2
    rw [hkk] at hp
    cases hkind : k.kind with
    | array component ty =>
      rw [hkind] at hb hp
      simp at hb hp
      exact ⟨comp, c, k, rfl, hi, hk, by rw [hkind, hp, hb.1], hb.2⟩
    | _ => rw [hkind] at hb; simp at hb
theorem AOA.moved {u U : State} (hvm : u.vm.Alike U.vm) (h : AOA u) : AOA U := by
  obtain ⟨comp, c, k, h1, h2, h3, h4, h5⟩ := AOA_spec h
  obtain ⟨k', hk', he⟩ := hvm.2.2 _ _ h3
  have hi : (U.vm.classes.findIdx? fun (x : Class) => match x.kind with | .array component _ => component == comp | _ => false) = some c := by
    have e1 := va_idx_bare u.vm comp
    have e2 := va_idx_bare U.vm comp
    first | rw [hvm.bare_eq] at e1 | rw [← hvm.bare_eq] at e1
    exact (e2.symm.trans e1).trans h2
  have hkind : k'.kind = .array comp (.array .int) := by rw [he]; exact h4
  have f1 : U.vm.findClass (FieldType.array .int).toString = some comp := by rw [hvm.findClass]; exact h1
  have f2 : U.vm.findClass ("[" ++ (FieldType.array .int).toString) = some c := by rw [hvm.findClass]; exact h5
  unfold AOA Cond.before Cond.holds
  simp only [Cond.value]
  rw [f1, Option.bind_some]
  refine (congrArg (fun o : Option Nat => (o.bind (fun c => (U.vm.classes[c]?).map fun (k : Class) => match k.kind with | .array _ ty => decide (ty = FieldType.array .int) && decide (U.vm.findClass ("[" ++ (FieldType.array .int).toString) = some c) | _ => false) == some true)) hi).trans ?_
  simp [hk', hkind, f2]
theorem KX.moved {g : KG} {z : ZS} {u U : State} (hvm : u.vm.Alike U.vm) (hh : ∀ a : Nat, a < u.heap.size → ¬ AG g a → U.heap[a]? = u.heap[a]?) (h : KX g z u) : KX g z U := by
  obtain ⟨h1, h2, h3, h4, h5⟩ := h
  refine ⟨va_K.moved hvm h1, va_AO.moved hvm h2, AOA.moved hvm h3, fun j hj => ⟨?_, ?_⟩, ?_⟩
  · exact (va_Z.moved hvm (h4 j hj).1).kept hh
  · exact (va_T.moved hvm (h4 j hj).2).kept hh
  · exact (va_T.moved hvm h5).kept hh
/-- what stands fast in a method's frame -/
def CX (g : KG) (z : ZS) (mi : MI) (d : Nat) (p : Program) (R : Room) (s : State) (m : MethodId) (args : Array Value) (meth : Method) (c : Code) : Prop :=
  p.tables.exec = Jvm.exec ∧ c.code = mi.2.1 ∧ meth.sig.returnType = mi.2.2.2 ∧ c.maxLocals = mi.2.2.1 ∧ s.vm.findClass mi.1.cls = some m.cls ∧ meth.locks = false ∧ meth.name = mi.1.name ∧ (∀ w ∈ gw_tbl, w.before args s = true) ∧ KX g z s ∧ g.1 ≤ s.heap.size ∧ d ≤ R.frames ∧ 48 * d ≤ R.locals
/-- the places of the frame -/
def LH (g : KG) (ls : Array Slot) (n : Nat) (L : List (Option Value)) : Prop := ls.size = n ∧ lv_wf ls ∧ ∀ (i : Nat) (v : Value), L[i]? = some (some v) → ls[i]? = some (.val (tv g v))
/-- a method's end -/
def RA (mi : MI) (pc : Nat) : Option Value → Prop
  | none => decode mi.2.1 pc = .ok (.return_, 1) ∧ mi.2.2.2 = none
  | some (.int v) => decode mi.2.1 pc = .ok (.ireturn, 1) ∧ ∃ ty, mi.2.2.2 = some ty ∧ narrow ty (.int v) = .int v
  | some (.long _) => decode mi.2.1 pc = .ok (.lreturn, 1) ∧ mi.2.2.2 = some .long
  | some v => decode mi.2.1 pc = .ok (.areturn, 1) ∧ (v = .null ∨ ∃ a, v = .ref a) ∧ ∃ rt, mi.2.2.2 = some rt ∧ ((∃ n, rt = .object n) ∨ ∃ t, rt = .array t)
def PW (k : KK) (mi : MI) (post : Option Value → List PE → Prop) (pc : Nat) (L : List (Option Value)) (st : List Value) (w : List PE) : Prop :=
  ∀ (g : KG) (p : Program) (l : Launch) (e : Env) (R : Room) (s : State) (m : MethodId) (args : Array Value) (below : List Frame) (meth : Method) (c : Code) (H : Heap) (locs : List Loc) (cells slots : Nat) (Q : State → Prop) (ls : Array Slot),
    CX g k.2.2.2 mi k.1 p R s m args meth c → HW g w H → va_S (AG g) s.heap H locs → LH g ls mi.2.2.1 L → cells + k.2.1 ≤ R.cells → slots + k.2.2.1 ≤ R.slots →
    (∀ (r : Option Value) (w' : List PE) (H' : Heap) (locs' : List Loc) (cells' slots' pc' : Nat) (ls' : Array Slot), post r w' → HW g w' H' → va_S (AG g) s.heap H' locs' → RA mi pc' r → cells' ≤ cells + k.2.1 → slots' ≤ slots + k.2.2.1 → W p l e R s m args below meth c H' locs' cells' slots' Q (F0 m pc' ls' (r.map (tv g)).toList)) →
    W p l e R s m args below meth c H locs cells slots Q (F0 m pc ls (st.map (tv g)))
abbrev CD (mi : MI) (pc : Nat) (ins : Instr) (len nx : Nat) : Prop := decode mi.2.1 pc = .ok (ins, len) ∧ pc + len = nx
abbrev CJ (mi : MI) (pc : Nat) (ins : Instr) (len nx : Nat) (off : Int) (tgt : Nat) : Prop := decode mi.2.1 pc = .ok (ins, len) ∧ pc + len = nx ∧ (pc : Int) + off = (tgt : Int)
