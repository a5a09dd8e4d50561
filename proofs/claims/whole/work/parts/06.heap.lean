theorem HW.set {g : KG} {w : List PE} {H H1 : Heap} {a : Nat} {e0 e : PE} (h : HW g w H) (ha : PG w a = some e0) (he : va_at g.2.2.1 CL (ad g a, trE g e) H1) (z : H1.size = H.size) (oq : ∀ q : Nat, q ≠ ad g a → H1[q]? = H[q]?) : HW g (w.set (a - 5) e) H1 := by
  obtain ⟨h5, h6, h7, -⟩ := PG_at (g := g) ha
  refine ⟨by rw [z, List.length_set]; exact h.1, ?_⟩
  have hp := h.2.set (trW_D g w) h7 he oq
  have ea : ad g a = g.1 + (a - 5) := by
    unfold ad
    rw [if_neg (Nat.not_lt.mpr h5)]
  rw [ea, trW_set] at hp
  exact hp
theorem HW.push {g : KG} {w : List PE} {H H1 : Heap} {e : PE} (h : HW g w H) (he : va_at g.2.2.1 CL (H.size, trE g e) H1) (z : H1.size = H.size + 1) (oq : ∀ q : Nat, q < H.size → H1[q]? = H[q]?) : HW g (w ++ [e]) H1 := by
  refine ⟨by rw [z, h.1, List.length_append]; rfl, ?_⟩
  rw [← trW_push, ← h.1]
  refine va_P.app (h.2.kept fun k q hk => oq q.1 ((h.2 k q hk).lt)) (fun k q hk => ?_)
  have hz : k < 1 := (List.getElem?_eq_some_iff.mp hk).1
  rw [show k = 0 by omega] at hk
  cases hk
  exact he
theorem va_S.grow {A : Nat → Prop} {H0 H H1 : Heap} {locs : List Loc} (h : va_S A H0 H locs) (z : H1.size = H.size + 1) (oq : ∀ q : Nat, q < H.size → H1[q]? = H[q]?) : va_S A H0 H1 locs := ⟨Nat.le_trans h.1 (by omega), fun x h1 h2 => (oq x (Nat.lt_of_lt_of_le h1 h.1)).trans (h.2.1 x h1 h2), h.2.2⟩
/-- an object's field, as the frame's class links it -/
def FL (own : String) (idx ci fk : Nat) : Prop := ∃ (C : String) (T : u_T) (N : Nat), CL[ci]? = some (C, T, N) ∧ fk < N ∧ Cond.fieldLink own idx (T fk).1 (T fk).2.1 (T fk).2.2.1 ∈ gw_tbl
def GF (w : List PE) (o ci fk : Nat) (v : Value) : Prop := ∃ fs, PG w o = some (.inr (ci, fs)) ∧ fs[fk]? = some v
def VOK (ty : FieldType) (v : Value) : Bool := match ty, v with
  | .int, .int _ => true
  | .boolean, .int x => x == 0 || x == 1
  | .long, .long _ => true
  | .object _, .ref _ => true
  | .object _, .null => true
  | .array _, .ref _ => true
  | .array _, .null => true
  | _, _ => false
theorem VOK.ok {g : KG} {ty : FieldType} {v : Value} (h : VOK ty v = true) : narrow ty (tv g v) = tv g v ∧ fits ty (tv g v) = true := by
  cases ty <;> cases v <;> first | (simp [VOK] at h; done) | exact ⟨rfl, rfl⟩ | skip
  all_goals
    simp only [VOK, Bool.or_eq_true, beq_iff_eq] at h
    rcases h with rfl | rfl
    · exact ⟨(by decide +kernel : narrow .boolean (.int 0) = .int 0), (by decide +kernel : fits .boolean (.int 0) = true)⟩
    · exact ⟨(by decide +kernel : narrow .boolean (.int 1) = .int 1), (by decide +kernel : fits .boolean (.int 1) = true)⟩
/-- a field that a method may write -/
def FP (mi : MI) (idx ci fk : Nat) (ty : FieldType) : Prop := ∃ (C : String) (T : u_T) (N : Nat), CL[ci]? = some (C, T, N) ∧ fk < N ∧ Cond.fieldLink mi.1.cls idx (T fk).1 (T fk).2.1 (T fk).2.2.1 ∈ gw_tbl ∧ tyOf ci fk = ty ∧ ((T fk).2.2.2 = false ∨ ((T fk).2.2.2 = true ∧ mi.1.name = "<init>" ∧ (T fk).1 = mi.1.cls))
def PF (w : List PE) (o ci fk : Nat) (v : Value) (w2 : List PE) : Prop := ∃ fs, PG w o = some (.inr (ci, fs)) ∧ fk < fs.length ∧ w.set (o - 5) (.inr (ci, fs.set fk v)) = w2
theorem trE_set (g : KG) (ci : Nat) (fs : List Value) (fk : Nat) (v : Value) : trE g (.inr (ci, fs.set fk v)) = .inr (ci, (fs.map (tv g)).set fk (tv g v)) := by
  show Sum.inr (ci, (fs.set fk v).map (tv g)) = _
  rw [List.map_set]
section PH
variable {k : KK} {mi : MI} {post : Option Value → List PE → Prop} {pc nx : Nat} {L : List (Option Value)} {st : List Value} {w : List PE}
theorem PW_get {idx ci fk o : Nat} {v : Value} (hd : CD mi pc (.getfield idx) 3 nx) (hf : FL mi.1.cls idx ci fk) (hg : GF w o ci fk v) (kk : PW k mi post nx L (v :: st) w) : PW k mi post pc L (.ref o :: st) w := by
  obtain ⟨hd, rfl⟩ := hd
  obtain ⟨C, T, N, hc, hk, hw⟩ := hf
  obtain ⟨fs, ho, hv⟩ := hg
  intro g p l e R s m args below meth c H locs cells slots Q ls X hH hS hL h1 h2 hQ
  obtain ⟨h5, h6, h7, h8⟩ := PG_at (g := g) ho
  have hts := X.2.2.2.2.2.2.2.1
  exact va_get (D := g.2.2.1) X.1 X.2.1 hts (CL_ok ci C T N hc).2.2 X.2.2.2.2.1 X.2.2.2.2.2.2.2.2.1.1 hH.2 (o - 5) h7 hc fk hk (hts _ hw) (fun _ h => h) (v := tv g v) (by rw [List.getElem?_map, hv]; rfl) hd (kk g p l e R s m args below meth c H locs cells slots Q ls X hH hS hL h1 h2 hQ)
theorem PW_put {idx ci fk o : Nat} {v : Value} {ty : FieldType} {w2 : List PE} (hd : CD mi pc (.putfield idx) 3 nx) (hf : FP mi idx ci fk ty) (hv : VOK ty v = true) (hg : PF w o ci fk v w2) (kk : PW k mi post nx L st w2) : PW k mi post pc L (v :: .ref o :: st) w := by
  obtain ⟨hd, rfl⟩ := hd
  obtain ⟨C, T, N, hc, hk, hw, hty, hfin⟩ := hf
  obtain ⟨fs, ho, hl, rfl⟩ := hg
  intro g p l e R s m args below meth c H locs cells slots Q ls X hH hS hL h1 h2 hQ
  obtain ⟨hhn, hht, hhi⟩ := CL_ok ci C T N hc
  obtain ⟨h5, h6, h7, h8⟩ := PG_at (g := g) ho
  have hts := X.2.2.2.2.2.2.2.1
  have hKa := X.2.2.2.2.2.2.2.2.1.1
  have hown := X.2.2.2.2.1
  obtain ⟨hvn, hvf⟩ := VOK.ok (g := g) hv
  have hdd : parseFieldDescriptor (T fk).2.2.1 = some ty := by rw [← hty]; exact hht fk hk
  have hap := va_apart (own := mi.1.cls) hts hhi (tyOf ci) hht hhn hKa hc
  obtain ⟨r, hr1, cell, q1, q2, q3, q4⟩ := hH.2 _ _ h7
  have hr : r = (C, T, N) := Option.some.inj (hr1.symm.trans hc)
  subst hr
  obtain ⟨hSl, hfc, kC, hkC, hkind⟩ := hKa.1 ci _ hc
  obtain ⟨cf, kf, fi, f, hi, hsl⟩ := hSl fk hk
  have hlay := hts _ (hhi _ (u_in_lay hk))
  have hst := (u_facts hfc hkC (u_lays hts hhi hk) hi).1
  have fin : ∀ (H' : Heap) (hh : HW g (w.set (o - 5) (.inr (ci, fs.set fk v))) H') (hs : va_S (AG g) s.heap H' (locs ++ [⟨ad g o, f.slot⟩])), W p l e R s m args below meth c H' (locs ++ [⟨ad g o, f.slot⟩]) cells slots Q (F0 m (pc + 3) ls (st.map (tv g))) := fun H' hh hs => kk g p l e R s m args below meth c H' (locs ++ [⟨ad g o, f.slot⟩]) cells slots Q ls X hh hs hL h1 h2 hQ
  have put : ∀ (H' : Heap), H'[ad g o]? = some (cell.setSlot (g.2.2.1.2 ci fk) (tv g v)) → H'.size = H.size → (∀ q : Nat, q ≠ ad g o → H'[q]? = H[q]?) → HW g (w.set (o - 5) (.inr (ci, fs.set fk v))) H' := fun H' e1 e2 e3 => hH.set ho (by
    rw [trE_set]
    exact ⟨_, hc, t_OB.to (V := updV (vp_V (fs.map (tv g))) fk (tv g v)) ⟨_, e1, q2, q3, t_set q4 hap hk (tv g v)⟩ (fun j _ => vp_updV_set (by rw [List.length_map]; exact hl) (tv g v) j)⟩) e2 e3
  rcases hfin with hfin | ⟨hfin, hin, hdecl⟩
  · unfold u_lay at hlay
    rw [if_neg (by rw [hfin]; decide)] at hlay
    have h6 := u_store hfc hkC hkind hlay hi hdd hvn hvf
    refine W.putK X.1 X.2.1 (f := f) ⟨hown, hts _ hw, ⟨_, _, _, hi⟩, hst⟩ (by rw [q2]; exact h6) q1 q3 (by rw [hsl]; exact k2_hasslot (q4 fk hk)) rfl rfl hd fun H' e1 e2 e3 => ?_
    exact fin H' (put H' (by rw [← hsl]; exact e1) e2 e3) (hS.put e2 e3 h8)
  · unfold u_lay at hlay
    rw [if_pos hfin] at hlay
    have hcf : m.cls = cf := by
      obtain ⟨_, _, c', _, _, _, -, -, hf', -, -, -, hown2, -⟩ := Cond.laysFinal_spec hlay
      have e1 : c' = cf := by have := hi.symm.trans hf'; simp at this; exact this.1.symm
      rw [hdecl] at hown2
      rw [← e1]; exact Option.some.inj (hown.symm.trans hown2)
    have h6 := u_fits hfc hkC hkind (Or.inr hlay) hi hdd hvn hvf
    refine W.putFinK X.1 X.2.1 hown (hts _ hw) hi hst hcf (X.2.2.2.2.2.2.1.trans hin) (by rw [q2]; exact h6) q1 q3 (by rw [hsl]; exact k2_hasslot (q4 fk hk)) rfl rfl hd fun H' e1 e2 e3 => ?_
    exact fin H' (put H' (by rw [← hsl]; exact e1) e2 e3) (hS.put e2 e3 h8)
theorem PW_iald {a n j : Nat} {i : Int32} {f : Nat → Int32} (hd : CD mi pc (.iaload) 1 nx) (ha : PG w a = some (.inl (.int, n, .inl f))) (hi : vp_in i n) (hj : i.toNatClampNeg = j) (kk : PW k mi post nx L (.int (f j) :: st) w) : PW k mi post pc L (.int i :: .ref a :: st) w := by
  obtain ⟨hd, rfl⟩ := hd
  subst hj
  intro g p l e R s m args below meth c H locs cells slots Q ls X hH hS hL h1 h2 hQ
  obtain ⟨h5, h6, h7, h8⟩ := PG_at (g := g) ha
  exact va_iald (D := g.2.2.1) X.1 X.2.1 X.2.2.2.2.2.2.2.2.1.1 hH.2 (a - 5) 0 h7 (TYS_get (ty := .int) rfl) hi hd (kk g p l e R s m args below meth c H locs cells slots Q ls X hH hS hL h1 h2 hQ)
theorem PW_bald {a n j : Nat} {i : Int32} {f : Nat → Int32} (hd : CD mi pc (.baload) 1 nx) (ha : PG w a = some (.inl (.byte, n, .inl f))) (hi : vp_in i n) (hj : i.toNatClampNeg = j) (kk : PW k mi post nx L (.int (f j) :: st) w) : PW k mi post pc L (.int i :: .ref a :: st) w := by
  obtain ⟨hd, rfl⟩ := hd
  subst hj
  intro g p l e R s m args below meth c H locs cells slots Q ls X hH hS hL h1 h2 hQ
  obtain ⟨h5, h6, h7, h8⟩ := PG_at (g := g) ha
  exact va_bald (D := g.2.2.1) X.1 X.2.1 X.2.2.2.2.2.2.2.2.1.1 hH.2 (a - 5) 2 h7 (TYS_get (ty := .byte) rfl) hi hd (kk g p l e R s m args below meth c H locs cells slots Q ls X hH hS hL h1 h2 hQ)
theorem PW_sald {a n j : Nat} {i : Int32} {f : Nat → Int32} (hd : CD mi pc (.saload) 1 nx) (ha : PG w a = some (.inl (.short, n, .inl f))) (hi : vp_in i n) (hj : i.toNatClampNeg = j) (kk : PW k mi post nx L (.int (f j) :: st) w) : PW k mi post pc L (.int i :: .ref a :: st) w := by
  obtain ⟨hd, rfl⟩ := hd
  subst hj
  intro g p l e R s m args below meth c H locs cells slots Q ls X hH hS hL h1 h2 hQ
  obtain ⟨h5, h6, h7, h8⟩ := PG_at (g := g) ha
  exact va_sald (D := g.2.2.1) X.1 X.2.1 X.2.2.2.2.2.2.2.2.1.1 hH.2 (a - 5) 3 h7 (TYS_get (ty := .short) rfl) hi hd (kk g p l e R s m args below meth c H locs cells slots Q ls X hH hS hL h1 h2 hQ)
theorem PW_lald {a n j : Nat} {i : Int32} {f : Nat → Int64} (hd : CD mi pc (.laload) 1 nx) (ha : PG w a = some (.inl (.long, n, .inr (.inl f)))) (hi : vp_in i n) (hj : i.toNatClampNeg = j) (kk : PW k mi post nx L (.long (f j) :: st) w) : PW k mi post pc L (.int i :: .ref a :: st) w := by
  obtain ⟨hd, rfl⟩ := hd
  subst hj
  intro g p l e R s m args below meth c H locs cells slots Q ls X hH hS hL h1 h2 hQ
  obtain ⟨h5, h6, h7, h8⟩ := PG_at (g := g) ha
  exact va_lald (D := g.2.2.1) X.1 X.2.1 X.2.2.2.2.2.2.2.2.1.1 hH.2 (a - 5) 1 h7 (TYS_get (ty := .long) rfl) hi hd (kk g p l e R s m args below meth c H locs cells slots Q ls X hH hS hL h1 h2 hQ)
theorem PW_aald {a n j : Nat} {i : Int32} {f : Nat → Option Nat} {ty : FieldType} {t0 : Nat} (hd : CD mi pc (.aaload) 1 nx) (ha : PG w a = some (.inl (ty, n, .inr (.inr (.inr (.inr f)))))) (ht : tysL[t0]? = some ty) (hty : ty.isReference = true) (hi : vp_in i n) (hj : i.toNatClampNeg = j) (kk : PW k mi post nx L (va_rf (f j) :: st) w) : PW k mi post pc L (.int i :: .ref a :: st) w := by
  obtain ⟨hd, rfl⟩ := hd
  subst hj
  intro g p l e R s m args below meth c H locs cells slots Q ls X hH hS hL h1 h2 hQ
  obtain ⟨h5, h6, h7, h8⟩ := PG_at (g := g) ha
  have hlt : i.toNatClampNeg < n := Nat.not_le.mp fun q => hi (Or.inr q)
  have hkk := kk g p l e R s m args below meth c H locs cells slots Q ls X hH hS hL h1 h2 hQ
  refine W.aald (v := tv g (va_rf (f i.toNatClampNeg))) (ty := ty) X.1 X.2.1 (hH.2 _ _ h7) ((X.2.2.2.2.2.2.2.2.1.1.2 t0 _ (TYS_get ht)).1 n (fun j => va_rf ((f j).map (ad g)))) hty (fun q => by cases q) (by show ¬ (i < 0 ∨ (arrV _ _ _).slots.size ≤ _); rw [arrV_size]; exact hi) ?_ rfl rfl hd hkk
  show (arrV (g.2.2.2 ty) n (fun j => va_rf ((f j).map (ad g)))).slots[i.toNatClampNeg]? = _
  rw [arrV_read _ _ hlt]
  cases f i.toNatClampNeg <;> rfl
theorem PW_iast {a n j : Nat} {i : Int32} {x : Int32} {f : Nat → Int32} {w2 : List PE} (hd : CD mi pc (.iastore) 1 nx) (ha : PG w a = some (.inl (.int, n, .inl f))) (hi : vp_in i n) (hj : i.toNatClampNeg = j) (hw : w.set (a - 5) (.inl (.int, n, .inl (upd f j x))) = w2) (kk : PW k mi post nx L st w2) : PW k mi post pc L (.int x :: .int i :: .ref a :: st) w := by
  obtain ⟨hd, rfl⟩ := hd
  subst hj; subst hw
  intro g p l e R s m args below meth c H locs cells slots Q ls X hH hS hL h1 h2 hQ
  obtain ⟨h5, h6, h7, h8⟩ := PG_at (g := g) ha
  refine W.iast X.1 X.2.1 (hH.2 _ _ h7) ((X.2.2.2.2.2.2.2.2.1.1.2 0 _ (TYS_get (ty := .int) rfl)).1 n (fun j => .int (f j))) (fun q => by cases q) (by show ¬ (i < 0 ∨ (arrV _ _ _).slots.size ≤ _); rw [arrV_size]; exact hi) rfl rfl hd fun H1 e1 z oq => ?_
  refine kk g p l e R s m args below meth c H1 _ cells slots Q ls X (hH.set ha ?_ z oq) (hS.put z oq h8) hL h1 h2 hQ
  show H1[_]? = some (vp_cell _ _)
  rw [e1]
  show some ((vp_cell (g.2.2.2 .int) (n, .inl f)).setSlot i.toNatClampNeg _) = some (vp_cell (g.2.2.2 .int) (n, .inl (upd f i.toNatClampNeg x)))
  rw [vp_cell_i, vp_cell_i, arrV_store]
  congr 2
  funext q
  by_cases hq : q = i.toNatClampNeg
  · subst hq
    simp [updV, upd, vp_nar]
    try rfl
  · simp [updV, upd, hq]
theorem PW_bast {a n j : Nat} {i : Int32} {x : Int32} {f : Nat → Int32} {w2 : List PE} (hd : CD mi pc (.bastore) 1 nx) (ha : PG w a = some (.inl (.byte, n, .inl f))) (hi : vp_in i n) (hj : i.toNatClampNeg = j) (hw : w.set (a - 5) (.inl (.byte, n, .inl (upd f j (vp_nar .byte x)))) = w2) (kk : PW k mi post nx L st w2) : PW k mi post pc L (.int x :: .int i :: .ref a :: st) w := by
  obtain ⟨hd, rfl⟩ := hd
  subst hj; subst hw
  intro g p l e R s m args below meth c H locs cells slots Q ls X hH hS hL h1 h2 hQ
  obtain ⟨h5, h6, h7, h8⟩ := PG_at (g := g) ha
  refine W.bast X.1 X.2.1 (hH.2 _ _ h7) ((X.2.2.2.2.2.2.2.2.1.1.2 2 _ (TYS_get (ty := .byte) rfl)).1 n (fun j => .int (f j))) (fun q => by cases q) (by show ¬ (i < 0 ∨ (arrV _ _ _).slots.size ≤ _); rw [arrV_size]; exact hi) rfl rfl hd fun H1 e1 z oq => ?_
  refine kk g p l e R s m args below meth c H1 _ cells slots Q ls X (hH.set ha ?_ z oq) (hS.put z oq h8) hL h1 h2 hQ
  show H1[_]? = some (vp_cell _ _)
  rw [e1]
  show some ((vp_cell (g.2.2.2 .byte) (n, .inl f)).setSlot i.toNatClampNeg _) = some (vp_cell (g.2.2.2 .byte) (n, .inl (upd f i.toNatClampNeg (vp_nar .byte x))))
  rw [vp_cell_i, vp_cell_i, arrV_store]
  congr 2
  funext q
  by_cases hq : q = i.toNatClampNeg
  · subst hq
    simp [updV, upd, vp_nar]
    try rfl
  · simp [updV, upd, hq]
theorem PW_sast {a n j : Nat} {i : Int32} {x : Int32} {f : Nat → Int32} {w2 : List PE} (hd : CD mi pc (.sastore) 1 nx) (ha : PG w a = some (.inl (.short, n, .inl f))) (hi : vp_in i n) (hj : i.toNatClampNeg = j) (hw : w.set (a - 5) (.inl (.short, n, .inl (upd f j (vp_nar .short x)))) = w2) (kk : PW k mi post nx L st w2) : PW k mi post pc L (.int x :: .int i :: .ref a :: st) w := by
  obtain ⟨hd, rfl⟩ := hd
  subst hj; subst hw
  intro g p l e R s m args below meth c H locs cells slots Q ls X hH hS hL h1 h2 hQ
  obtain ⟨h5, h6, h7, h8⟩ := PG_at (g := g) ha
  refine W.sast X.1 X.2.1 (hH.2 _ _ h7) ((X.2.2.2.2.2.2.2.2.1.1.2 3 _ (TYS_get (ty := .short) rfl)).1 n (fun j => .int (f j))) (fun q => by cases q) (by show ¬ (i < 0 ∨ (arrV _ _ _).slots.size ≤ _); rw [arrV_size]; exact hi) rfl rfl hd fun H1 e1 z oq => ?_
  refine kk g p l e R s m args below meth c H1 _ cells slots Q ls X (hH.set ha ?_ z oq) (hS.put z oq h8) hL h1 h2 hQ
  show H1[_]? = some (vp_cell _ _)
  rw [e1]
  show some ((vp_cell (g.2.2.2 .short) (n, .inl f)).setSlot i.toNatClampNeg _) = some (vp_cell (g.2.2.2 .short) (n, .inl (upd f i.toNatClampNeg (vp_nar .short x))))
  rw [vp_cell_i, vp_cell_i, arrV_store]
  congr 2
  funext q
  by_cases hq : q = i.toNatClampNeg
  · subst hq
    simp [updV, upd, vp_nar]
    try rfl
  · simp [updV, upd, hq]
theorem PW_last {a n j : Nat} {i : Int32} {x : Int64} {f : Nat → Int64} {w2 : List PE} (hd : CD mi pc (.lastore) 1 nx) (ha : PG w a = some (.inl (.long, n, .inr (.inl f)))) (hi : vp_in i n) (hj : i.toNatClampNeg = j) (hw : w.set (a - 5) (.inl (.long, n, .inr (.inl (vp_updL f j x)))) = w2) (kk : PW k mi post nx L st w2) : PW k mi post pc L (.long x :: .int i :: .ref a :: st) w := by
  obtain ⟨hd, rfl⟩ := hd
  subst hj; subst hw
  intro g p l e R s m args below meth c H locs cells slots Q ls X hH hS hL h1 h2 hQ
  obtain ⟨h5, h6, h7, h8⟩ := PG_at (g := g) ha
  refine W.last X.1 X.2.1 (hH.2 _ _ h7) ((X.2.2.2.2.2.2.2.2.1.1.2 1 _ (TYS_get (ty := .long) rfl)).1 n (fun j => .long (f j))) (fun q => by cases q) (by show ¬ (i < 0 ∨ (arrV _ _ _).slots.size ≤ _); rw [arrV_size]; exact hi) rfl rfl hd fun H1 e1 z oq => ?_
  refine kk g p l e R s m args below meth c H1 _ cells slots Q ls X (hH.set ha ?_ z oq) (hS.put z oq h8) hL h1 h2 hQ
  show H1[_]? = some (vp_cell _ _)
  rw [e1]
  show some ((vp_cell (g.2.2.2 .long) (n, .inr (.inl f))).setSlot i.toNatClampNeg _) = some (vp_cell (g.2.2.2 .long) (n, .inr (.inl (vp_updL f i.toNatClampNeg x))))
  rw [vp_cell_l, vp_cell_l, arrV_store]
  congr 2
  funext q
  by_cases hq : q = i.toNatClampNeg
  · subst hq
    simp [updV, vp_updL, vp_nar]
    try rfl
  · simp [updV, vp_updL, hq]
theorem PW_alen {a n : Nat} {ty : FieldType} {t0 : Nat} {x : (Nat → Int32) ⊕ (Nat → Int64) ⊕ (Nat → UInt32) ⊕ (Nat → UInt64) ⊕ (Nat → Option Nat)} {v : Int32} (hd : CD mi pc (.arraylength) 1 nx) (ha : PG w a = some (.inl (ty, n, x))) (ht : tysL[t0]? = some ty) (hv : Int32.ofNat n = v) (kk : PW k mi post nx L (.int v :: st) w) : PW k mi post pc L (.ref a :: st) w := by
  obtain ⟨hd, rfl⟩ := hd
  intro g p l e R s m args below meth c H locs cells slots Q ls X hH hS hL h1 h2 hQ
  obtain ⟨h5, h6, h7, h8⟩ := PG_at (g := g) ha
  refine va_alen (D := g.2.2.1) X.1 X.2.1 X.2.2.2.2.2.2.2.2.1.1 hH.2 (a - 5) t0 (x := trA g (n, x)) h7 (TYS_get ht) ?_ hd (kk g p l e R s m args below meth c H locs cells slots Q ls X hH hS hL h1 h2 hQ)
  rcases x with f | f | f | f | f <;> exact hv
theorem PW_gets {idx j : Nat} (hd : CD mi pc (.getstatic idx) 3 nx) (hj : j < 4) (hl : Cond.fieldLink mi.1.cls idx (roT j).1 (roT j).2.1 "[I" ∈ gw_tbl) (kk : PW k mi post nx L (.ref j :: st) w) : PW k mi post pc L st w := by
  obtain ⟨hd, rfl⟩ := hd
  intro g p l e R s m args below meth c H locs cells slots Q ls X hH hS hL h1 h2 hQ
  have hkk := kk g p l e R s m args below meth c H locs cells slots Q ls X hH hS hL h1 h2 hQ
  have hts := X.2.2.2.2.2.2.2.1
  refine va_gets X.1 X.2.1 (X.2.2.2.2.2.2.2.2.1.2.2.2.1 j hj).1 hS X.2.2.2.2.1 (hts _ hl) (fun _ h => h) hd (W.eq ?_ hkk)
  show F0 m (pc + 3) ls (.ref (g.2.1 j) :: st.map (tv g)) = F0 m (pc + 3) ls (.ref (ad g j) :: st.map (tv g))
  unfold ad
  rw [if_pos (Nat.lt_of_lt_of_le hj (by decide))]
theorem PW_roald {j q : Nat} {i : Int32} {v : Int32} (hd : CD mi pc (.iaload) 1 nx) (hj : j < 4) (hi : vp_in i (roT j).2.2.length) (hq : i.toNatClampNeg = q) (hv : (roT j).2.2.getD q 0 = v) (kk : PW k mi post nx L (.int v :: st) w) : PW k mi post pc L (.int i :: .ref j :: st) w := by
  obtain ⟨hd, rfl⟩ := hd
  subst hq; subst hv
  intro g p l e R s m args below meth c H locs cells slots Q ls X hH hS hL h1 h2 hQ
  have hkk := kk g p l e R s m args below meth c H locs cells slots Q ls X hH hS hL h1 h2 hQ
  refine W.eq ?_ (va_ti X.1 X.2.1 (X.2.2.2.2.2.2.2.2.1.2.2.2.1 j hj).2 hS hi rfl hd hkk)
  show F0 m pc ls (.int i :: .ref (ad g j) :: st.map (tv g)) = F0 m pc ls (.int i :: .ref (g.2.1 j) :: st.map (tv g))
  unfold ad
  rw [if_pos (Nat.lt_of_lt_of_le hj (by decide))]
theorem PW_rolen {j : Nat} {v : Int32} (hd : CD mi pc (.arraylength) 1 nx) (hj : j < 4) (hv : Int32.ofNat (roT j).2.2.length = v) (kk : PW k mi post nx L (.int v :: st) w) : PW k mi post pc L (.ref j :: st) w := by
  obtain ⟨hd, rfl⟩ := hd
  subst hv
  intro g p l e R s m args below meth c H locs cells slots Q ls X hH hS hL h1 h2 hQ
  have hkk := kk g p l e R s m args below meth c H locs cells slots Q ls X hH hS hL h1 h2 hQ
  refine W.eq ?_ (va_tlen X.1 X.2.1 (X.2.2.2.2.2.2.2.2.1.2.2.2.1 j hj).2 hS rfl hd hkk)
  show F0 m pc ls (.ref (ad g j) :: st.map (tv g)) = F0 m pc ls (.ref (g.2.1 j) :: st.map (tv g))
  unfold ad
  rw [if_pos (Nat.lt_of_lt_of_le hj (by decide))]
/-- the script -/
theorem PW_scald {q : Nat} {i : Int32} (hd : CD mi pc (.iaload) 1 nx) (hi : vp_in i k.2.2.2.1) (hq : i.toNatClampNeg = q) (kk : PW k mi post nx L (.int (k.2.2.2.2 q) :: st) w) : PW k mi post pc L (.int i :: .ref 4 :: st) w := by
  obtain ⟨hd, rfl⟩ := hd
  subst hq
  intro g p l e R s m args below meth c H locs cells slots Q ls X hH hS hL h1 h2 hQ
  have hkk := kk g p l e R s m args below meth c H locs cells slots Q ls X hH hS hL h1 h2 hQ
  exact va_ti X.1 X.2.1 X.2.2.2.2.2.2.2.2.1.2.2.2.2 hS hi rfl hd hkk
theorem PW_sclen {v : Int32} (hd : CD mi pc (.arraylength) 1 nx) (hv : Int32.ofNat k.2.2.2.1 = v) (kk : PW k mi post nx L (.int v :: st) w) : PW k mi post pc L (.ref 4 :: st) w := by
  obtain ⟨hd, rfl⟩ := hd
  subst hv
  intro g p l e R s m args below meth c H locs cells slots Q ls X hH hS hL h1 h2 hQ
  have hkk := kk g p l e R s m args below meth c H locs cells slots Q ls X hH hS hL h1 h2 hQ
  exact va_tlen X.1 X.2.1 X.2.2.2.2.2.2.2.2.1.2.2.2.2 hS rfl hd hkk
end PH
section PN
variable {d mc ms : Nat} {z : ZS} {mi : MI} {post : Option Value → List PE → Prop} {pc nx : Nat} {L : List (Option Value)} {st : List Value} {w : List PE}
/-- a class that may be made by a frame's class -/
def NL (own : String) (idx ci : Nat) (C : String) (N : Nat) : Prop := ∃ (T : u_T), CL[ci]? = some (C, T, N) ∧ Cond.classLink own idx C ∈ gw_tbl ∧ Cond.instantiable C N ∈ gw_tbl ∧ Cond.initialized C ∈ gw_tbl
theorem tv_df (g : KG) (ty : FieldType) : tv g (defaultValue ty) = defaultValue ty := by cases ty <;> rfl
theorem PW_new {idx ci N a : Nat} {C : String} {fs : List Value} (hd : CD mi pc (.new idx) 3 nx) (hl : NL mi.1.cls idx ci C N) (hfs : (List.range N).map (fun j => defaultValue (tyOf ci j)) = fs) (ha : w.length + 5 = a) (kk : PW (d, mc, ms, z) mi post nx L (.ref a :: st) (w ++ [.inr (ci, fs)])) : PW (d, 1 + mc, N + ms, z) mi post pc L st w := by
  obtain ⟨hd, rfl⟩ := hd
  subst ha; subst hfs
  obtain ⟨T, hc, hw1, hw2, hw3⟩ := hl
  intro g p l e R s m args below meth c H locs cells slots Q ls X hH hS hL h1 h2 hQ
  obtain ⟨hhn, hht, hhi⟩ := CL_ok ci C T N hc
  have hts := X.2.2.2.2.2.2.2.1
  have hKn := X.2.2.2.2.2.2.2.2.1.1.1 ci _ hc
  have g1 : cells + (1 + mc) ≤ R.cells := h1
  have g2 : slots + (N + ms) ≤ R.slots := h2
  refine W.newcK X.1 X.2.1 X.2.2.2.2.1 (hts _ hw1) (hts _ hw2) (hts _ hw3) rfl hd (by omega) (by omega) hKn.2.1 rfl fun H1 kC hkC e1 z1 o1 => ?_
  have hh : HW g (w ++ [.inr (ci, (List.range N).map (fun j => defaultValue (tyOf ci j)))]) H1 := hH.push ⟨_, hc, (u_born (tyOf ci) hts hhi hKn hkC e1 hht).to (fun j hj => by
    simp only [vp_V, List.map_map, List.getD_eq_getElem?_getD, List.getElem?_map, List.getElem?_range hj]
    exact (tv_df g _).symm)⟩ z1 o1
  have hk := kk g p l e R s m args below meth c H1 locs (cells + 1) (slots + N) Q ls X hh (hS.grow z1 o1) hL (by show cells + 1 + mc ≤ _; omega) (by show slots + N + ms ≤ _; omega) (fun r w' H' locs' cells' slots' pc' ls' q1 q2 q3 q4 q5 q6 => hQ r w' H' locs' cells' slots' pc' ls' q1 q2 q3 q4 (by have q5 : cells' ≤ cells + 1 + mc := q5; show cells' ≤ cells + (1 + mc); omega) (by have q6 : slots' ≤ slots + N + ms := q6; show slots' ≤ slots + (N + ms); omega))
  refine W.eq ?_ hk
  show F0 m (pc + 3) ls (.ref H.size :: st.map (tv g)) = F0 m (pc + 3) ls (.ref (ad g (w.length + 5)) :: st.map (tv g))
  rw [hH.1]
  unfold ad
  rw [if_neg (by omega), Nat.add_sub_cancel]
/-- a new array of numbers -/
theorem PW_newa {at0 : ArrayType} {ty : FieldType} {t0 N a : Nat} {n : Int32} {x : (Nat → Int32) ⊕ (Nat → Int64) ⊕ (Nat → UInt32) ⊕ (Nat → UInt64) ⊕ (Nat → Option Nat)} (hd : CD mi pc (.newarray at0) 2 nx) (hty : newarray.typeOf at0 = ty) (hw : Cond.arrayClass ty ∈ gw_tbl) (ht : tysL[t0]? = some ty) (hx : ∀ (g : KG) (cA : ClassId), vp_cell cA (trA g (N, x)) = arrV cA N (fun _ => defaultValue ty)) (hn : ¬ n < 0) (hN : n.toNatClampNeg = N) (hb : N * componentBytes ty ≤ 536870912) (ha : w.length + 5 = a) (kk : PW (d, mc, ms, z) mi post nx L (.ref a :: st) (w ++ [.inl (ty, N, x)])) : PW (d, 1 + mc, N + ms, z) mi post pc L (.int n :: st) w := by
  obtain ⟨hd, rfl⟩ := hd
  subst ha; subst hty
  intro g p l e R s m args below meth c H locs cells slots Q ls X hH hS hL h1 h2 hQ
  have hts := X.2.2.2.2.2.2.2.1
  have g1 : cells + (1 + mc) ≤ R.cells := h1
  have g2 : slots + (N + ms) ≤ R.slots := h2
  refine va_newaK X.1 X.2.1 (hts _ hw) rfl hd rfl hn hN hb (by omega) (by omega) rfl fun H1 cA e1 z1 o1 hAr hNm => ?_
  have hcA : cA = g.2.2.2 (newarray.typeOf at0) := by
    have hra := (X.2.2.2.2.2.2.2.2.1.1.2 t0 _ (TYS_get ht)).2
    have h9 : s.vm.findClass ("[" ++ (newarray.typeOf at0).toString) = some (g.2.2.2 (newarray.typeOf at0)) := by cases at0 <;> exact hra
    exact Option.some.inj (hNm.symm.trans h9)
  subst hcA
  have hh : HW g (w ++ [.inl (newarray.typeOf at0, N, x)]) H1 := hH.push (by
    show H1[H.size]? = some (vp_cell _ (trA g (N, x)))
    rw [hx]
    exact e1) z1 o1
  have hk := kk g p l e R s m args below meth c H1 locs (cells + 1) (slots + N) Q ls X hh (hS.grow z1 o1) hL (by show cells + 1 + mc ≤ _; omega) (by show slots + N + ms ≤ _; omega) (fun r w' H' locs' cells' slots' pc' ls' q1 q2 q3 q4 q5 q6 => hQ r w' H' locs' cells' slots' pc' ls' q1 q2 q3 q4 (by have q5 : cells' ≤ cells + 1 + mc := q5; show cells' ≤ cells + (1 + mc); omega) (by have q6 : slots' ≤ slots + N + ms := q6; show slots' ≤ slots + (N + ms); omega))
  refine W.eq ?_ hk
  show F0 m (pc + 2) ls (.ref H.size :: st.map (tv g)) = F0 m (pc + 2) ls (.ref (ad g (w.length + 5)) :: st.map (tv g))
  rw [hH.1]
  unfold ad
  rw [if_neg (by omega), Nat.add_sub_cancel]
end PN
