section PR
variable {k : KK} {mi : MI} {post : Option Value → List PE → Prop} {pc nx : Nat} {L : List (Option Value)} {st : List Value} {w : List PE}
theorem PW_iadd {x y : Int32} (hd : CD mi pc (.iadd) 1 nx)  (kk : PW k mi post nx L (.int (x + y) :: st) w) : PW k mi post pc L (.int y :: .int x :: st) w := by
  obtain ⟨hd, rfl⟩ := hd
  intro g p l e R s m args below meth c H locs cells slots Q ls X hH hS hL h1 h2 hQ
  exact lv_iadd X.1 X.2.1 hd (kk g p l e R s m args below meth c H locs cells slots Q ls X hH hS hL h1 h2 hQ)
theorem PW_isub {x y : Int32} (hd : CD mi pc (.isub) 1 nx)  (kk : PW k mi post nx L (.int (x - y) :: st) w) : PW k mi post pc L (.int y :: .int x :: st) w := by
  obtain ⟨hd, rfl⟩ := hd
  intro g p l e R s m args below meth c H locs cells slots Q ls X hH hS hL h1 h2 hQ
  exact lv_isub X.1 X.2.1 hd (kk g p l e R s m args below meth c H locs cells slots Q ls X hH hS hL h1 h2 hQ)
theorem PW_imul {x y : Int32} (hd : CD mi pc (.imul) 1 nx)  (kk : PW k mi post nx L (.int (x * y) :: st) w) : PW k mi post pc L (.int y :: .int x :: st) w := by
  obtain ⟨hd, rfl⟩ := hd
  intro g p l e R s m args below meth c H locs cells slots Q ls X hH hS hL h1 h2 hQ
  exact lv_imul X.1 X.2.1 hd (kk g p l e R s m args below meth c H locs cells slots Q ls X hH hS hL h1 h2 hQ)
theorem PW_iand {x y : Int32} (hd : CD mi pc (.iand) 1 nx)  (kk : PW k mi post nx L (.int (x &&& y) :: st) w) : PW k mi post pc L (.int y :: .int x :: st) w := by
  obtain ⟨hd, rfl⟩ := hd
  intro g p l e R s m args below meth c H locs cells slots Q ls X hH hS hL h1 h2 hQ
  exact lv_iand X.1 X.2.1 hd (kk g p l e R s m args below meth c H locs cells slots Q ls X hH hS hL h1 h2 hQ)
theorem PW_ior {x y : Int32} (hd : CD mi pc (.ior) 1 nx)  (kk : PW k mi post nx L (.int (x ||| y) :: st) w) : PW k mi post pc L (.int y :: .int x :: st) w := by
  obtain ⟨hd, rfl⟩ := hd
  intro g p l e R s m args below meth c H locs cells slots Q ls X hH hS hL h1 h2 hQ
  exact lv_ior X.1 X.2.1 hd (kk g p l e R s m args below meth c H locs cells slots Q ls X hH hS hL h1 h2 hQ)
theorem PW_ixor {x y : Int32} (hd : CD mi pc (.ixor) 1 nx)  (kk : PW k mi post nx L (.int (x ^^^ y) :: st) w) : PW k mi post pc L (.int y :: .int x :: st) w := by
  obtain ⟨hd, rfl⟩ := hd
  intro g p l e R s m args below meth c H locs cells slots Q ls X hH hS hL h1 h2 hQ
  exact lv_ixor X.1 X.2.1 hd (kk g p l e R s m args below meth c H locs cells slots Q ls X hH hS hL h1 h2 hQ)
theorem PW_ishl {x y : Int32} (hd : CD mi pc (.ishl) 1 nx)  (kk : PW k mi post nx L (.int (x <<< (y &&& 31)) :: st) w) : PW k mi post pc L (.int y :: .int x :: st) w := by
  obtain ⟨hd, rfl⟩ := hd
  intro g p l e R s m args below meth c H locs cells slots Q ls X hH hS hL h1 h2 hQ
  exact lv_ishl X.1 X.2.1 hd (kk g p l e R s m args below meth c H locs cells slots Q ls X hH hS hL h1 h2 hQ)
theorem PW_ishr {x y : Int32} (hd : CD mi pc (.ishr) 1 nx)  (kk : PW k mi post nx L (.int (x >>> (y &&& 31)) :: st) w) : PW k mi post pc L (.int y :: .int x :: st) w := by
  obtain ⟨hd, rfl⟩ := hd
  intro g p l e R s m args below meth c H locs cells slots Q ls X hH hS hL h1 h2 hQ
  exact lv_ishr X.1 X.2.1 hd (kk g p l e R s m args below meth c H locs cells slots Q ls X hH hS hL h1 h2 hQ)
theorem PW_idiv {x y : Int32} (hd : CD mi pc (.idiv) 1 nx) (hne : ¬ y = 0) (kk : PW k mi post nx L (.int (x / y) :: st) w) : PW k mi post pc L (.int y :: .int x :: st) w := by
  obtain ⟨hd, rfl⟩ := hd
  intro g p l e R s m args below meth c H locs cells slots Q ls X hH hS hL h1 h2 hQ
  exact lv_idiv X.1 X.2.1 hd hne (kk g p l e R s m args below meth c H locs cells slots Q ls X hH hS hL h1 h2 hQ)
theorem PW_irem {x y : Int32} (hd : CD mi pc (.irem) 1 nx) (hne : ¬ y = 0) (kk : PW k mi post nx L (.int (x - x / y * y) :: st) w) : PW k mi post pc L (.int y :: .int x :: st) w := by
  obtain ⟨hd, rfl⟩ := hd
  intro g p l e R s m args below meth c H locs cells slots Q ls X hH hS hL h1 h2 hQ
  exact lv_irem X.1 X.2.1 hd hne (kk g p l e R s m args below meth c H locs cells slots Q ls X hH hS hL h1 h2 hQ)
theorem PW_ineg {x : Int32} (hd : CD mi pc (.ineg) 1 nx)  (kk : PW k mi post nx L (.int (-x) :: st) w) : PW k mi post pc L (.int x :: st) w := by
  obtain ⟨hd, rfl⟩ := hd
  intro g p l e R s m args below meth c H locs cells slots Q ls X hH hS hL h1 h2 hQ
  exact lv_ineg X.1 X.2.1 hd (kk g p l e R s m args below meth c H locs cells slots Q ls X hH hS hL h1 h2 hQ)
theorem PW_iushr {x y : Int32} (hd : CD mi pc (.iushr) 1 nx)  (kk : PW k mi post nx L (.int ((x.toUInt32 >>> (y.toUInt32 &&& Int32.toUInt32 31)).toInt32) :: st) w) : PW k mi post pc L (.int y :: .int x :: st) w := by
  obtain ⟨hd, rfl⟩ := hd
  intro g p l e R s m args below meth c H locs cells slots Q ls X hH hS hL h1 h2 hQ
  exact lv_iushr X.1 X.2.1 hd rfl (kk g p l e R s m args below meth c H locs cells slots Q ls X hH hS hL h1 h2 hQ)
theorem PW_ladd {x y : Int64} (hd : CD mi pc (.ladd) 1 nx)  (kk : PW k mi post nx L (.long (x + y) :: st) w) : PW k mi post pc L (.long y :: .long x :: st) w := by
  obtain ⟨hd, rfl⟩ := hd
  intro g p l e R s m args below meth c H locs cells slots Q ls X hH hS hL h1 h2 hQ
  exact lv_ladd X.1 X.2.1 hd (kk g p l e R s m args below meth c H locs cells slots Q ls X hH hS hL h1 h2 hQ)
theorem PW_lsub {x y : Int64} (hd : CD mi pc (.lsub) 1 nx)  (kk : PW k mi post nx L (.long (x - y) :: st) w) : PW k mi post pc L (.long y :: .long x :: st) w := by
  obtain ⟨hd, rfl⟩ := hd
  intro g p l e R s m args below meth c H locs cells slots Q ls X hH hS hL h1 h2 hQ
  exact lv_lsub X.1 X.2.1 hd (kk g p l e R s m args below meth c H locs cells slots Q ls X hH hS hL h1 h2 hQ)
theorem PW_lmul {x y : Int64} (hd : CD mi pc (.lmul) 1 nx)  (kk : PW k mi post nx L (.long (x * y) :: st) w) : PW k mi post pc L (.long y :: .long x :: st) w := by
  obtain ⟨hd, rfl⟩ := hd
  intro g p l e R s m args below meth c H locs cells slots Q ls X hH hS hL h1 h2 hQ
  exact lv_lmul X.1 X.2.1 hd (kk g p l e R s m args below meth c H locs cells slots Q ls X hH hS hL h1 h2 hQ)
theorem PW_land {x y : Int64} (hd : CD mi pc (.land) 1 nx)  (kk : PW k mi post nx L (.long (x &&& y) :: st) w) : PW k mi post pc L (.long y :: .long x :: st) w := by
  obtain ⟨hd, rfl⟩ := hd
  intro g p l e R s m args below meth c H locs cells slots Q ls X hH hS hL h1 h2 hQ
  exact lv_land X.1 X.2.1 hd (kk g p l e R s m args below meth c H locs cells slots Q ls X hH hS hL h1 h2 hQ)
theorem PW_lor {x y : Int64} (hd : CD mi pc (.lor) 1 nx)  (kk : PW k mi post nx L (.long (x ||| y) :: st) w) : PW k mi post pc L (.long y :: .long x :: st) w := by
  obtain ⟨hd, rfl⟩ := hd
  intro g p l e R s m args below meth c H locs cells slots Q ls X hH hS hL h1 h2 hQ
  exact lv_lor X.1 X.2.1 hd (kk g p l e R s m args below meth c H locs cells slots Q ls X hH hS hL h1 h2 hQ)
theorem PW_lushr {x : Int64} {y : Int32} (hd : CD mi pc (.lushr) 1 nx)  (kk : PW k mi post nx L (.long ((x.toUInt64 >>> (y.toInt64.toUInt64 &&& Int64.toUInt64 63)).toInt64) :: st) w) : PW k mi post pc L (.int y :: .long x :: st) w := by
  obtain ⟨hd, rfl⟩ := hd
  intro g p l e R s m args below meth c H locs cells slots Q ls X hH hS hL h1 h2 hQ
  exact lv_lushr X.1 X.2.1 hd rfl (kk g p l e R s m args below meth c H locs cells slots Q ls X hH hS hL h1 h2 hQ)
theorem PW_lshl {x : Int64} {y : Int32} (hd : CD mi pc (.lshl) 1 nx)  (kk : PW k mi post nx L (.long (x <<< (y.toInt64 &&& 63)) :: st) w) : PW k mi post pc L (.int y :: .long x :: st) w := by
  obtain ⟨hd, rfl⟩ := hd
  intro g p l e R s m args below meth c H locs cells slots Q ls X hH hS hL h1 h2 hQ
  exact lv_lshl X.1 X.2.1 hd rfl (kk g p l e R s m args below meth c H locs cells slots Q ls X hH hS hL h1 h2 hQ)
theorem PW_lcmp {x y : Int64} (hd : CD mi pc (.lcmp) 1 nx)  (kk : PW k mi post nx L (.int (lg_cmp x y) :: st) w) : PW k mi post pc L (.long y :: .long x :: st) w := by
  obtain ⟨hd, rfl⟩ := hd
  intro g p l e R s m args below meth c H locs cells slots Q ls X hH hS hL h1 h2 hQ
  exact W.lcmp X.1 X.2.1 hd (kk g p l e R s m args below meth c H locs cells slots Q ls X hH hS hL h1 h2 hQ)
theorem PW_i2l {x : Int32} (hd : CD mi pc (.i2l) 1 nx)  (kk : PW k mi post nx L (.long x.toInt64 :: st) w) : PW k mi post pc L (.int x :: st) w := by
  obtain ⟨hd, rfl⟩ := hd
  intro g p l e R s m args below meth c H locs cells slots Q ls X hH hS hL h1 h2 hQ
  exact lv_i2l X.1 X.2.1 hd rfl (kk g p l e R s m args below meth c H locs cells slots Q ls X hH hS hL h1 h2 hQ)
theorem PW_l2i {x : Int64} (hd : CD mi pc (.l2i) 1 nx)  (kk : PW k mi post nx L (.int x.toInt32 :: st) w) : PW k mi post pc L (.long x :: st) w := by
  obtain ⟨hd, rfl⟩ := hd
  intro g p l e R s m args below meth c H locs cells slots Q ls X hH hS hL h1 h2 hQ
  exact lv_l2i X.1 X.2.1 hd rfl (kk g p l e R s m args below meth c H locs cells slots Q ls X hH hS hL h1 h2 hQ)
theorem PW_i2b {x : Int32} (hd : CD mi pc (.i2b) 1 nx)  (kk : PW k mi post nx L (.int x.toInt8.toInt32 :: st) w) : PW k mi post pc L (.int x :: st) w := by
  obtain ⟨hd, rfl⟩ := hd
  intro g p l e R s m args below meth c H locs cells slots Q ls X hH hS hL h1 h2 hQ
  exact lv_i2b X.1 X.2.1 hd rfl (kk g p l e R s m args below meth c H locs cells slots Q ls X hH hS hL h1 h2 hQ)
theorem PW_i2s {x : Int32} (hd : CD mi pc (.i2s) 1 nx)  (kk : PW k mi post nx L (.int x.toInt16.toInt32 :: st) w) : PW k mi post pc L (.int x :: st) w := by
  obtain ⟨hd, rfl⟩ := hd
  intro g p l e R s m args below meth c H locs cells slots Q ls X hH hS hL h1 h2 hQ
  exact lv_i2s X.1 X.2.1 hd rfl (kk g p l e R s m args below meth c H locs cells slots Q ls X hH hS hL h1 h2 hQ)
theorem PW_iconst {n : Int} {v : Int32} (hd : CD mi pc (.iconst n) 1 nx) (hv : Int32.ofInt n = v) (kk : PW k mi post nx L (.int v :: st) w) : PW k mi post pc L (st) w := by
  obtain ⟨hd, rfl⟩ := hd
  intro g p l e R s m args below meth c H locs cells slots Q ls X hH hS hL h1 h2 hQ
  exact lv_iconst X.1 X.2.1 hd hv (kk g p l e R s m args below meth c H locs cells slots Q ls X hH hS hL h1 h2 hQ)
theorem PW_bipush {n : Int} {v : Int32} (hd : CD mi pc (.bipush n) 2 nx) (hv : (Int8.ofInt n).toInt32 = v) (kk : PW k mi post nx L (.int v :: st) w) : PW k mi post pc L (st) w := by
  obtain ⟨hd, rfl⟩ := hd
  intro g p l e R s m args below meth c H locs cells slots Q ls X hH hS hL h1 h2 hQ
  exact lv_bipush X.1 X.2.1 hd hv (kk g p l e R s m args below meth c H locs cells slots Q ls X hH hS hL h1 h2 hQ)
theorem PW_sipush {n : Int} {v : Int32} (hd : CD mi pc (.sipush n) 3 nx) (hv : (Int16.ofInt n).toInt32 = v) (kk : PW k mi post nx L (.int v :: st) w) : PW k mi post pc L (st) w := by
  obtain ⟨hd, rfl⟩ := hd
  intro g p l e R s m args below meth c H locs cells slots Q ls X hH hS hL h1 h2 hQ
  exact lv_sipush X.1 X.2.1 hd hv (kk g p l e R s m args below meth c H locs cells slots Q ls X hH hS hL h1 h2 hQ)
theorem PW_lconst {n : Fin 2} {v : Int64} (hd : CD mi pc (.lconst n) 1 nx) (hv : Int64.ofNat (n : Nat) = v) (kk : PW k mi post nx L (.long v :: st) w) : PW k mi post pc L (st) w := by
  obtain ⟨hd, rfl⟩ := hd
  intro g p l e R s m args below meth c H locs cells slots Q ls X hH hS hL h1 h2 hQ
  exact lv_lconst X.1 X.2.1 hd hv (kk g p l e R s m args below meth c H locs cells slots Q ls X hH hS hL h1 h2 hQ)
theorem PW_null  (hd : CD mi pc (.aconst_null) 1 nx)  (kk : PW k mi post nx L (.null :: st) w) : PW k mi post pc L (st) w := by
  obtain ⟨hd, rfl⟩ := hd
  intro g p l e R s m args below meth c H locs cells slots Q ls X hH hS hL h1 h2 hQ
  exact lv_null X.1 X.2.1 hd (kk g p l e R s m args below meth c H locs cells slots Q ls X hH hS hL h1 h2 hQ)
theorem PW_iload_n {kn : Fin 4} {x : Int32} (hd : CD mi pc (.iload_n kn) 1 nx) (hl : L[(kn : Nat)]? = some (some (.int x))) (kk : PW k mi post nx L (.int x :: st) w) : PW k mi post pc L st w := by
  obtain ⟨hd, rfl⟩ := hd
  intro g p l e R s m args below meth c H locs cells slots Q ls X hH hS hL h1 h2 hQ
  exact lv_iload_n X.1 X.2.1 hd rfl (hL.2.2 _ _ hl) (kk g p l e R s m args below meth c H locs cells slots Q ls X hH hS hL h1 h2 hQ)
theorem PW_iload {i : Nat} {x : Int32} (hd : CD mi pc (.iload i) 2 nx) (hl : L[i]? = some (some (.int x))) (kk : PW k mi post nx L (.int x :: st) w) : PW k mi post pc L st w := by
  obtain ⟨hd, rfl⟩ := hd
  intro g p l e R s m args below meth c H locs cells slots Q ls X hH hS hL h1 h2 hQ
  exact lv_iload X.1 X.2.1 hd (hL.2.2 _ _ hl) (kk g p l e R s m args below meth c H locs cells slots Q ls X hH hS hL h1 h2 hQ)
theorem PW_lload_n {kn : Fin 4} {x : Int64} (hd : CD mi pc (.lload_n kn) 1 nx) (hl : L[(kn : Nat)]? = some (some (.long x))) (kk : PW k mi post nx L (.long x :: st) w) : PW k mi post pc L st w := by
  obtain ⟨hd, rfl⟩ := hd
  intro g p l e R s m args below meth c H locs cells slots Q ls X hH hS hL h1 h2 hQ
  exact lv_lload_n X.1 X.2.1 hd rfl (hL.2.2 _ _ hl) (kk g p l e R s m args below meth c H locs cells slots Q ls X hH hS hL h1 h2 hQ)
theorem PW_lload {i : Nat} {x : Int64} (hd : CD mi pc (.lload i) 2 nx) (hl : L[i]? = some (some (.long x))) (kk : PW k mi post nx L (.long x :: st) w) : PW k mi post pc L st w := by
  obtain ⟨hd, rfl⟩ := hd
  intro g p l e R s m args below meth c H locs cells slots Q ls X hH hS hL h1 h2 hQ
  exact lv_lload X.1 X.2.1 hd (hL.2.2 _ _ hl) (kk g p l e R s m args below meth c H locs cells slots Q ls X hH hS hL h1 h2 hQ)
theorem PW_aload_n {kn : Fin 4} {x : Nat} (hd : CD mi pc (.aload_n kn) 1 nx) (hl : L[(kn : Nat)]? = some (some (.ref x))) (kk : PW k mi post nx L (.ref x :: st) w) : PW k mi post pc L st w := by
  obtain ⟨hd, rfl⟩ := hd
  intro g p l e R s m args below meth c H locs cells slots Q ls X hH hS hL h1 h2 hQ
  exact lv_aload_n X.1 X.2.1 hd rfl (hL.2.2 _ _ hl) (kk g p l e R s m args below meth c H locs cells slots Q ls X hH hS hL h1 h2 hQ)
theorem PW_aload {i : Nat} {x : Nat} (hd : CD mi pc (.aload i) 2 nx) (hl : L[i]? = some (some (.ref x))) (kk : PW k mi post nx L (.ref x :: st) w) : PW k mi post pc L st w := by
  obtain ⟨hd, rfl⟩ := hd
  intro g p l e R s m args below meth c H locs cells slots Q ls X hH hS hL h1 h2 hQ
  exact lv_aload X.1 X.2.1 hd (hL.2.2 _ _ hl) (kk g p l e R s m args below meth c H locs cells slots Q ls X hH hS hL h1 h2 hQ)
theorem PW_aload_nN {kn : Fin 4}  (hd : CD mi pc (.aload_n kn) 1 nx) (hl : L[(kn : Nat)]? = some (some (.null))) (kk : PW k mi post nx L (.null :: st) w) : PW k mi post pc L st w := by
  obtain ⟨hd, rfl⟩ := hd
  intro g p l e R s m args below meth c H locs cells slots Q ls X hH hS hL h1 h2 hQ
  exact lv_aload_nN X.1 X.2.1 hd rfl (hL.2.2 _ _ hl) (kk g p l e R s m args below meth c H locs cells slots Q ls X hH hS hL h1 h2 hQ)
theorem PW_aloadN {i : Nat}  (hd : CD mi pc (.aload i) 2 nx) (hl : L[i]? = some (some (.null))) (kk : PW k mi post nx L (.null :: st) w) : PW k mi post pc L st w := by
  obtain ⟨hd, rfl⟩ := hd
  intro g p l e R s m args below meth c H locs cells slots Q ls X hH hS hL h1 h2 hQ
  exact lv_aloadN X.1 X.2.1 hd (hL.2.2 _ _ hl) (kk g p l e R s m args below meth c H locs cells slots Q ls X hH hS hL h1 h2 hQ)
theorem tv_cat (g : KG) (v : Value) : (tv g v).category = v.category := by cases v <;> rfl
theorem PW_dup {a : Value} (hd : CD mi pc (.dup) 1 nx) (ha : a.category = 1) (kk : PW k mi post nx L (a :: a :: st) w) : PW k mi post pc L (a :: st) w := by
  obtain ⟨hd, rfl⟩ := hd
  intro g p l e R s m args below meth c H locs cells slots Q ls X hH hS hL h1 h2 hQ
  exact lv_dup X.1 X.2.1 hd ((tv_cat g a).trans ha) (kk g p l e R s m args below meth c H locs cells slots Q ls X hH hS hL h1 h2 hQ)
theorem PW_pop {a : Value} (hd : CD mi pc (.pop) 1 nx) (ha : a.category = 1) (kk : PW k mi post nx L (st) w) : PW k mi post pc L (a :: st) w := by
  obtain ⟨hd, rfl⟩ := hd
  intro g p l e R s m args below meth c H locs cells slots Q ls X hH hS hL h1 h2 hQ
  exact lv_pop X.1 X.2.1 hd ((tv_cat g a).trans ha) (kk g p l e R s m args below meth c H locs cells slots Q ls X hH hS hL h1 h2 hQ)
theorem PW_dup2 {a b : Value} (hd : CD mi pc (.dup2) 1 nx) (ha : a.category = 1) (hb : b.category = 1) (kk : PW k mi post nx L (a :: b :: a :: b :: st) w) : PW k mi post pc L (a :: b :: st) w := by
  obtain ⟨hd, rfl⟩ := hd
  intro g p l e R s m args below meth c H locs cells slots Q ls X hH hS hL h1 h2 hQ
  exact lv_dup2_11 X.1 X.2.1 hd ((tv_cat g a).trans ha) ((tv_cat g b).trans hb) (kk g p l e R s m args below meth c H locs cells slots Q ls X hH hS hL h1 h2 hQ)
/-- the places as the kit's rows have them -/
def asc (g : KG) : Nat → List (Option Value) → List (Nat × Value)
  | _, [] => []
  | i, some v :: t => (i, tv g v) :: asc g (i + 1) t
  | i, none :: t => asc g (i + 1) t
theorem asc_mem {g : KG} : ∀ (L : List (Option Value)) (i : Nat) (q : Nat × Value), q ∈ asc g i L ↔ ∃ j v, L[j]? = some (some v) ∧ q = (i + j, tv g v)
  | [], i, q => by simp [asc]
  | some v :: t, i, q => by
    rw [asc, List.mem_cons, asc_mem t (i + 1) q]
    constructor
    · rintro (rfl | ⟨j, u, h, rfl⟩)
      · exact ⟨0, v, rfl, rfl⟩
      · exact ⟨j + 1, u, h, by rw [Nat.add_assoc, Nat.add_comm 1 j]⟩
    · rintro ⟨j, u, h, rfl⟩
      cases j with
      | zero =>
        simp only [List.getElem?_cons_zero, Option.some.injEq] at h
        subst h
        exact Or.inl rfl
      | succ j => exact Or.inr ⟨j, u, h, by rw [Nat.add_assoc, Nat.add_comm 1 j]⟩
  | none :: t, i, q => by
    rw [asc, asc_mem t (i + 1) q]
    constructor
    · rintro ⟨j, u, h, rfl⟩
      exact ⟨j + 1, u, h, by rw [Nat.add_assoc, Nat.add_comm 1 j]⟩
    · rintro ⟨j, u, h, rfl⟩
      cases j with
      | zero => simp at h
      | succ j => exact ⟨j, u, h, by rw [Nat.add_assoc, Nat.add_comm 1 j]⟩
theorem LH.has {g : KG} {ls : Array Slot} {n : Nat} {L : List (Option Value)} (h : LH g ls n L) : lv_has ls n (asc g 0 L) := by
  refine ⟨h.1, h.2.1, fun q hq => ?_⟩
  obtain ⟨j, v, hj, rfl⟩ := (asc_mem L 0 q).mp hq
  rw [Nat.zero_add]
  exact h.2.2 j v hj
/-- the place ahead is no long -/
def sOK (L : List (Option Value)) : Nat → Bool
  | 0 => true
  | i + 1 => match L[i]? with
    | some (some v) => v.category == 1
    | _ => true
theorem LH.put1 {g : KG} {ls : Array Slot} {n i : Nat} {L : List (Option Value)} {x : Value} (hs : sOK L i = true) (h : lv_has ls n ((i, tv g x) :: (asc g 0 L).filter (fun q => !(q.1 == i) && !(q.1 + 1 == i && q.2.category == 2)))) : LH g ls n (L.set i (some x)) := by
  refine ⟨h.1, h.2.1, fun j v hj => ?_⟩
  rw [List.getElem?_set] at hj
  by_cases hij : i = j
  · subst hij
    rw [if_pos rfl] at hj
    by_cases hl : i < L.length
    · rw [if_pos hl] at hj
      cases hj
      exact h.2.2 (i, tv g x) List.mem_cons_self
    · rw [if_neg hl] at hj
      cases hj
  · rw [if_neg hij] at hj
    refine h.2.2 (j, tv g v) (List.mem_cons_of_mem _ (List.mem_filter.mpr ⟨(asc_mem L 0 _).mpr ⟨j, v, hj, by rw [Nat.zero_add]⟩, ?_⟩))
    have e1 : (j == i) = false := by simpa using fun q => hij q.symm
    rw [e1, Bool.not_false, Bool.true_and, Bool.not_eq_true', Bool.and_eq_false_iff]
    by_cases hji : j + 1 = i
    · right
      subst hji
      simp only [sOK, hj] at hs
      rw [tv_cat]
      simp only [beq_iff_eq] at hs
      rw [hs]
      rfl
    · left
      simpa using hji
theorem LH.put2 {g : KG} {ls : Array Slot} {n i : Nat} {L : List (Option Value)} {x : Value} (hs : sOK L i = true) (h : lv_has ls n ((i, tv g x) :: (asc g 0 L).filter (fun q => !(q.1 == i) && (!(q.1 == i + 1) && !(q.1 + 1 == i && q.2.category == 2))))) : LH g ls n ((L.set i (some x)).set (i + 1) none) := by
  refine ⟨h.1, h.2.1, fun j v hj => ?_⟩
  rw [List.getElem?_set] at hj
  by_cases hi1 : i + 1 = j
  · rw [if_pos hi1] at hj
    by_cases hl : j < (L.set i (some x)).length
    · simp [hl, hi1] at hj
    · simp [hl, hi1] at hj
  rw [if_neg hi1, List.getElem?_set] at hj
  by_cases hij : i = j
  · subst hij
    rw [if_pos rfl] at hj
    by_cases hl : i < L.length
    · rw [if_pos hl] at hj
      cases hj
      exact h.2.2 (i, tv g x) List.mem_cons_self
    · rw [if_neg hl] at hj
      cases hj
  · rw [if_neg hij] at hj
    refine h.2.2 (j, tv g v) (List.mem_cons_of_mem _ (List.mem_filter.mpr ⟨(asc_mem L 0 _).mpr ⟨j, v, hj, by rw [Nat.zero_add]⟩, ?_⟩))
    have e1 : (j == i) = false := by simpa using fun q => hij q.symm
    have e2 : (j == i + 1) = false := by simpa using fun q => hi1 q.symm
    rw [e1, e2, Bool.not_false, Bool.true_and, Bool.true_and, Bool.not_eq_true', Bool.and_eq_false_iff]
    by_cases hji : j + 1 = i
    · right
      subst hji
      simp only [sOK, hj] at hs
      rw [tv_cat]
      simp only [beq_iff_eq] at hs
      rw [hs]
      rfl
    · left
      simpa using hji
theorem PW_istore_n {kn : Fin 4} {i : Nat} {x : Int32} {L2 : List (Option Value)} (hd : CD mi pc (.istore_n kn) 1 nx) (hi : (kn : Nat) = i) (hn : i < mi.2.2.1) (hs : sOK L i = true) (hl : L.set i (some (.int x)) = L2) (kk : PW k mi post nx L2 st w) : PW k mi post pc L (.int x :: st) w := by
  obtain ⟨hd, rfl⟩ := hd
  subst hl
  subst hi
  intro g p l e R s m args below meth c H locs cells slots Q ls X hH hS hL h1 h2 hQ
  exact lv_istore_n X.1 X.2.1 hd rfl hL.has hn rfl (fun ls2 hl2 => kk g p l e R s m args below meth c H locs cells slots Q ls2 X hH hS (LH.put1 (x := .int x) hs hl2) h1 h2 hQ)
theorem PW_istore {i : Nat} {x : Int32} {L2 : List (Option Value)} (hd : CD mi pc (.istore i) 2 nx) (hn : i < mi.2.2.1) (hs : sOK L i = true) (hl : L.set i (some (.int x)) = L2) (kk : PW k mi post nx L2 st w) : PW k mi post pc L (.int x :: st) w := by
  obtain ⟨hd, rfl⟩ := hd
  subst hl
  intro g p l e R s m args below meth c H locs cells slots Q ls X hH hS hL h1 h2 hQ
  exact lv_istore X.1 X.2.1 hd hL.has hn rfl (fun ls2 hl2 => kk g p l e R s m args below meth c H locs cells slots Q ls2 X hH hS (LH.put1 (x := .int x) hs hl2) h1 h2 hQ)
theorem PW_lstore_n {kn : Fin 4} {i : Nat} {x : Int64} {L2 : List (Option Value)} (hd : CD mi pc (.lstore_n kn) 1 nx) (hi : (kn : Nat) = i) (hn : i + 1 < mi.2.2.1) (hs : sOK L i = true) (hl : (L.set i (some (.long x))).set (i + 1) none = L2) (kk : PW k mi post nx L2 st w) : PW k mi post pc L (.long x :: st) w := by
  obtain ⟨hd, rfl⟩ := hd
  subst hl
  subst hi
  intro g p l e R s m args below meth c H locs cells slots Q ls X hH hS hL h1 h2 hQ
  exact lv_lstore_n X.1 X.2.1 hd rfl hL.has hn rfl (fun ls2 hl2 => kk g p l e R s m args below meth c H locs cells slots Q ls2 X hH hS (LH.put2 (x := .long x) hs hl2) h1 h2 hQ)
theorem PW_lstore {i : Nat} {x : Int64} {L2 : List (Option Value)} (hd : CD mi pc (.lstore i) 2 nx) (hn : i + 1 < mi.2.2.1) (hs : sOK L i = true) (hl : (L.set i (some (.long x))).set (i + 1) none = L2) (kk : PW k mi post nx L2 st w) : PW k mi post pc L (.long x :: st) w := by
  obtain ⟨hd, rfl⟩ := hd
  subst hl
  intro g p l e R s m args below meth c H locs cells slots Q ls X hH hS hL h1 h2 hQ
  exact lv_lstore X.1 X.2.1 hd hL.has hn rfl (fun ls2 hl2 => kk g p l e R s m args below meth c H locs cells slots Q ls2 X hH hS (LH.put2 (x := .long x) hs hl2) h1 h2 hQ)
theorem PW_astore_n {kn : Fin 4} {i : Nat} {x : Nat} {L2 : List (Option Value)} (hd : CD mi pc (.astore_n kn) 1 nx) (hi : (kn : Nat) = i) (hn : i < mi.2.2.1) (hs : sOK L i = true) (hl : L.set i (some (.ref x)) = L2) (kk : PW k mi post nx L2 st w) : PW k mi post pc L (.ref x :: st) w := by
  obtain ⟨hd, rfl⟩ := hd
  subst hl
  subst hi
  intro g p l e R s m args below meth c H locs cells slots Q ls X hH hS hL h1 h2 hQ
  exact lv_astore_n X.1 X.2.1 hd rfl hL.has hn rfl (fun ls2 hl2 => kk g p l e R s m args below meth c H locs cells slots Q ls2 X hH hS (LH.put1 (x := .ref x) hs hl2) h1 h2 hQ)
theorem PW_astore {i : Nat} {x : Nat} {L2 : List (Option Value)} (hd : CD mi pc (.astore i) 2 nx) (hn : i < mi.2.2.1) (hs : sOK L i = true) (hl : L.set i (some (.ref x)) = L2) (kk : PW k mi post nx L2 st w) : PW k mi post pc L (.ref x :: st) w := by
  obtain ⟨hd, rfl⟩ := hd
  subst hl
  intro g p l e R s m args below meth c H locs cells slots Q ls X hH hS hL h1 h2 hQ
  exact lv_astore X.1 X.2.1 hd hL.has hn rfl (fun ls2 hl2 => kk g p l e R s m args below meth c H locs cells slots Q ls2 X hH hS (LH.put1 (x := .ref x) hs hl2) h1 h2 hQ)
theorem PW_astore_nN {kn : Fin 4} {i : Nat} {L2 : List (Option Value)} (hd : CD mi pc (.astore_n kn) 1 nx) (hi : (kn : Nat) = i) (hn : i < mi.2.2.1) (hs : sOK L i = true) (hl : L.set i (some (.null)) = L2) (kk : PW k mi post nx L2 st w) : PW k mi post pc L (.null :: st) w := by
  obtain ⟨hd, rfl⟩ := hd
  subst hl
  subst hi
  intro g p l e R s m args below meth c H locs cells slots Q ls X hH hS hL h1 h2 hQ
  exact lv_astore_nN X.1 X.2.1 hd rfl hL.has hn rfl (fun ls2 hl2 => kk g p l e R s m args below meth c H locs cells slots Q ls2 X hH hS (LH.put1 (x := .null) hs hl2) h1 h2 hQ)
theorem PW_astoreN {i : Nat} {L2 : List (Option Value)} (hd : CD mi pc (.astore i) 2 nx) (hn : i < mi.2.2.1) (hs : sOK L i = true) (hl : L.set i (some (.null)) = L2) (kk : PW k mi post nx L2 st w) : PW k mi post pc L (.null :: st) w := by
  obtain ⟨hd, rfl⟩ := hd
  subst hl
  intro g p l e R s m args below meth c H locs cells slots Q ls X hH hS hL h1 h2 hQ
  exact lv_astoreN X.1 X.2.1 hd hL.has hn rfl (fun ls2 hl2 => kk g p l e R s m args below meth c H locs cells slots Q ls2 X hH hS (LH.put1 (x := .null) hs hl2) h1 h2 hQ)
theorem PW_iinc {i : Nat} {n : Int} {x v : Int32} {L2 : List (Option Value)} (hd : CD mi pc (.iinc i n) 3 nx) (hx : L[i]? = some (some (.int x))) (hv : x + Int32.ofInt n = v) (hn : i < mi.2.2.1) (hs : sOK L i = true) (hl : L.set i (some (.int v)) = L2) (kk : PW k mi post nx L2 st w) : PW k mi post pc L st w := by
  obtain ⟨hd, rfl⟩ := hd
  subst hl
  intro g p l e R s m args below meth c H locs cells slots Q ls X hH hS hL h1 h2 hQ
  have hm : (i, Value.int x) ∈ asc g 0 L := (asc_mem L 0 _).mpr ⟨i, .int x, hx, by rw [Nat.zero_add]; rfl⟩
  obtain ⟨j, hj⟩ := List.getElem?_of_mem hm
  exact lv_iinc X.1 X.2.1 hd hL.has (k := j) hj hv hn rfl (fun ls2 hl2 => kk g p l e R s m args below meth c H locs cells slots Q ls2 X hH hS (LH.put1 (x := .int v) hs hl2) h1 h2 hQ)
theorem PW_if_eq {x : Int32} {off : Int} {tgt : Nat} (hd : CJ mi pc (.ifCond .eq off) 3 nx off tgt) (kt : (x = 0) → PW k mi post tgt L st w) (kf : ¬ (x = 0) → PW k mi post nx L st w) : PW k mi post pc L (.int x :: st) w := by
  obtain ⟨hd, rfl, ht⟩ := hd
  intro g p l e R s m args below meth c H locs cells slots Q ls X hH hS hL h1 h2 hQ
  exact lv_if_eq X.1 X.2.1 hd ht (fun q => kt q g p l e R s m args below meth c H locs cells slots Q ls X hH hS hL h1 h2 hQ) (fun q => kf q g p l e R s m args below meth c H locs cells slots Q ls X hH hS hL h1 h2 hQ)
theorem PW_icmp_eq {x y : Int32} {off : Int} {tgt : Nat} (hd : CJ mi pc (.if_icmp .eq off) 3 nx off tgt) (kt : (x = y) → PW k mi post tgt L st w) (kf : ¬ (x = y) → PW k mi post nx L st w) : PW k mi post pc L (.int y :: .int x :: st) w := by
  obtain ⟨hd, rfl, ht⟩ := hd
  intro g p l e R s m args below meth c H locs cells slots Q ls X hH hS hL h1 h2 hQ
  exact lv_icmp_eq X.1 X.2.1 hd ht (fun q => kt q g p l e R s m args below meth c H locs cells slots Q ls X hH hS hL h1 h2 hQ) (fun q => kf q g p l e R s m args below meth c H locs cells slots Q ls X hH hS hL h1 h2 hQ)
theorem PW_if_ne {x : Int32} {off : Int} {tgt : Nat} (hd : CJ mi pc (.ifCond .ne off) 3 nx off tgt) (kt : ¬ (x = 0) → PW k mi post tgt L st w) (kf : (x = 0) → PW k mi post nx L st w) : PW k mi post pc L (.int x :: st) w := by
  obtain ⟨hd, rfl, ht⟩ := hd
  intro g p l e R s m args below meth c H locs cells slots Q ls X hH hS hL h1 h2 hQ
  exact lv_if_ne X.1 X.2.1 hd ht (fun q => kt q g p l e R s m args below meth c H locs cells slots Q ls X hH hS hL h1 h2 hQ) (fun q => kf q g p l e R s m args below meth c H locs cells slots Q ls X hH hS hL h1 h2 hQ)
theorem PW_icmp_ne {x y : Int32} {off : Int} {tgt : Nat} (hd : CJ mi pc (.if_icmp .ne off) 3 nx off tgt) (kt : ¬ (x = y) → PW k mi post tgt L st w) (kf : (x = y) → PW k mi post nx L st w) : PW k mi post pc L (.int y :: .int x :: st) w := by
  obtain ⟨hd, rfl, ht⟩ := hd
  intro g p l e R s m args below meth c H locs cells slots Q ls X hH hS hL h1 h2 hQ
  exact lv_icmp_ne X.1 X.2.1 hd ht (fun q => kt q g p l e R s m args below meth c H locs cells slots Q ls X hH hS hL h1 h2 hQ) (fun q => kf q g p l e R s m args below meth c H locs cells slots Q ls X hH hS hL h1 h2 hQ)
theorem PW_if_lt {x : Int32} {off : Int} {tgt : Nat} (hd : CJ mi pc (.ifCond .lt off) 3 nx off tgt) (kt : (x < 0) → PW k mi post tgt L st w) (kf : ¬ (x < 0) → PW k mi post nx L st w) : PW k mi post pc L (.int x :: st) w := by
  obtain ⟨hd, rfl, ht⟩ := hd
  intro g p l e R s m args below meth c H locs cells slots Q ls X hH hS hL h1 h2 hQ
  exact lv_if_lt X.1 X.2.1 hd ht (fun q => kt q g p l e R s m args below meth c H locs cells slots Q ls X hH hS hL h1 h2 hQ) (fun q => kf q g p l e R s m args below meth c H locs cells slots Q ls X hH hS hL h1 h2 hQ)
theorem PW_icmp_lt {x y : Int32} {off : Int} {tgt : Nat} (hd : CJ mi pc (.if_icmp .lt off) 3 nx off tgt) (kt : (x < y) → PW k mi post tgt L st w) (kf : ¬ (x < y) → PW k mi post nx L st w) : PW k mi post pc L (.int y :: .int x :: st) w := by
  obtain ⟨hd, rfl, ht⟩ := hd
  intro g p l e R s m args below meth c H locs cells slots Q ls X hH hS hL h1 h2 hQ
  exact lv_icmp_lt X.1 X.2.1 hd ht (fun q => kt q g p l e R s m args below meth c H locs cells slots Q ls X hH hS hL h1 h2 hQ) (fun q => kf q g p l e R s m args below meth c H locs cells slots Q ls X hH hS hL h1 h2 hQ)
theorem PW_if_ge {x : Int32} {off : Int} {tgt : Nat} (hd : CJ mi pc (.ifCond .ge off) 3 nx off tgt) (kt : (0 ≤ x) → PW k mi post tgt L st w) (kf : ¬ (0 ≤ x) → PW k mi post nx L st w) : PW k mi post pc L (.int x :: st) w := by
  obtain ⟨hd, rfl, ht⟩ := hd
  intro g p l e R s m args below meth c H locs cells slots Q ls X hH hS hL h1 h2 hQ
  exact lv_if_ge X.1 X.2.1 hd ht (fun q => kt q g p l e R s m args below meth c H locs cells slots Q ls X hH hS hL h1 h2 hQ) (fun q => kf q g p l e R s m args below meth c H locs cells slots Q ls X hH hS hL h1 h2 hQ)
theorem PW_icmp_ge {x y : Int32} {off : Int} {tgt : Nat} (hd : CJ mi pc (.if_icmp .ge off) 3 nx off tgt) (kt : (y ≤ x) → PW k mi post tgt L st w) (kf : ¬ (y ≤ x) → PW k mi post nx L st w) : PW k mi post pc L (.int y :: .int x :: st) w := by
  obtain ⟨hd, rfl, ht⟩ := hd
  intro g p l e R s m args below meth c H locs cells slots Q ls X hH hS hL h1 h2 hQ
  exact lv_icmp_ge X.1 X.2.1 hd ht (fun q => kt q g p l e R s m args below meth c H locs cells slots Q ls X hH hS hL h1 h2 hQ) (fun q => kf q g p l e R s m args below meth c H locs cells slots Q ls X hH hS hL h1 h2 hQ)
theorem PW_if_gt {x : Int32} {off : Int} {tgt : Nat} (hd : CJ mi pc (.ifCond .gt off) 3 nx off tgt) (kt : (0 < x) → PW k mi post tgt L st w) (kf : ¬ (0 < x) → PW k mi post nx L st w) : PW k mi post pc L (.int x :: st) w := by
  obtain ⟨hd, rfl, ht⟩ := hd
  intro g p l e R s m args below meth c H locs cells slots Q ls X hH hS hL h1 h2 hQ
  exact lv_if_gt X.1 X.2.1 hd ht (fun q => kt q g p l e R s m args below meth c H locs cells slots Q ls X hH hS hL h1 h2 hQ) (fun q => kf q g p l e R s m args below meth c H locs cells slots Q ls X hH hS hL h1 h2 hQ)
theorem PW_icmp_gt {x y : Int32} {off : Int} {tgt : Nat} (hd : CJ mi pc (.if_icmp .gt off) 3 nx off tgt) (kt : (y < x) → PW k mi post tgt L st w) (kf : ¬ (y < x) → PW k mi post nx L st w) : PW k mi post pc L (.int y :: .int x :: st) w := by
  obtain ⟨hd, rfl, ht⟩ := hd
  intro g p l e R s m args below meth c H locs cells slots Q ls X hH hS hL h1 h2 hQ
  exact lv_icmp_gt X.1 X.2.1 hd ht (fun q => kt q g p l e R s m args below meth c H locs cells slots Q ls X hH hS hL h1 h2 hQ) (fun q => kf q g p l e R s m args below meth c H locs cells slots Q ls X hH hS hL h1 h2 hQ)
theorem PW_if_le {x : Int32} {off : Int} {tgt : Nat} (hd : CJ mi pc (.ifCond .le off) 3 nx off tgt) (kt : (x ≤ 0) → PW k mi post tgt L st w) (kf : ¬ (x ≤ 0) → PW k mi post nx L st w) : PW k mi post pc L (.int x :: st) w := by
  obtain ⟨hd, rfl, ht⟩ := hd
  intro g p l e R s m args below meth c H locs cells slots Q ls X hH hS hL h1 h2 hQ
  exact lv_if_le X.1 X.2.1 hd ht (fun q => kt q g p l e R s m args below meth c H locs cells slots Q ls X hH hS hL h1 h2 hQ) (fun q => kf q g p l e R s m args below meth c H locs cells slots Q ls X hH hS hL h1 h2 hQ)
theorem PW_icmp_le {x y : Int32} {off : Int} {tgt : Nat} (hd : CJ mi pc (.if_icmp .le off) 3 nx off tgt) (kt : (x ≤ y) → PW k mi post tgt L st w) (kf : ¬ (x ≤ y) → PW k mi post nx L st w) : PW k mi post pc L (.int y :: .int x :: st) w := by
  obtain ⟨hd, rfl, ht⟩ := hd
  intro g p l e R s m args below meth c H locs cells slots Q ls X hH hS hL h1 h2 hQ
  exact lv_icmp_le X.1 X.2.1 hd ht (fun q => kt q g p l e R s m args below meth c H locs cells slots Q ls X hH hS hL h1 h2 hQ) (fun q => kf q g p l e R s m args below meth c H locs cells slots Q ls X hH hS hL h1 h2 hQ)
theorem PW_goto {off : Int} {tgt : Nat} (hd : CJ mi pc (.goto off) 3 nx off tgt) (kk : PW k mi post tgt L st w) : PW k mi post pc L st w := by
  obtain ⟨hd, rfl, ht⟩ := hd
  intro g p l e R s m args below meth c H locs cells slots Q ls X hH hS hL h1 h2 hQ
  exact lv_goto X.1 X.2.1 hd ht (kk g p l e R s m args below meth c H locs cells slots Q ls X hH hS hL h1 h2 hQ)
theorem PW_ifnull {x : Nat} {off : Int} {tgt : Nat} (hd : CJ mi pc (.ifnull off) 3 nx off tgt) (kk : PW k mi post nx L st w) : PW k mi post pc L (.ref x :: st) w := by
  obtain ⟨hd, rfl, ht⟩ := hd
  intro g p l e R s m args below meth c H locs cells slots Q ls X hH hS hL h1 h2 hQ
  exact lv_ifnull X.1 X.2.1 hd (kk g p l e R s m args below meth c H locs cells slots Q ls X hH hS hL h1 h2 hQ)
theorem PW_ifnullN {off : Int} {tgt : Nat} (hd : CJ mi pc (.ifnull off) 3 nx off tgt) (kk : PW k mi post tgt L st w) : PW k mi post pc L (.null :: st) w := by
  obtain ⟨hd, rfl, ht⟩ := hd
  intro g p l e R s m args below meth c H locs cells slots Q ls X hH hS hL h1 h2 hQ
  exact lv_ifnullN X.1 X.2.1 hd ht (kk g p l e R s m args below meth c H locs cells slots Q ls X hH hS hL h1 h2 hQ)
theorem PW_ifnonnull {x : Nat} {off : Int} {tgt : Nat} (hd : CJ mi pc (.ifnonnull off) 3 nx off tgt) (kk : PW k mi post tgt L st w) : PW k mi post pc L (.ref x :: st) w := by
  obtain ⟨hd, rfl, ht⟩ := hd
  intro g p l e R s m args below meth c H locs cells slots Q ls X hH hS hL h1 h2 hQ
  exact lv_ifnonnull X.1 X.2.1 hd ht (kk g p l e R s m args below meth c H locs cells slots Q ls X hH hS hL h1 h2 hQ)
theorem PW_ifnonnullN {off : Int} {tgt : Nat} (hd : CJ mi pc (.ifnonnull off) 3 nx off tgt) (kk : PW k mi post nx L st w) : PW k mi post pc L (.null :: st) w := by
  obtain ⟨hd, rfl, ht⟩ := hd
  intro g p l e R s m args below meth c H locs cells slots Q ls X hH hS hL h1 h2 hQ
  exact lv_ifnonnullN X.1 X.2.1 hd (kk g p l e R s m args below meth c H locs cells slots Q ls X hH hS hL h1 h2 hQ)
theorem PW_lookup {dflt off : Int} {ps : Array (Int × Int)} {len : Nat} {x : Int32} {tgt : Nat} (hd : CD mi pc (.lookupswitch dflt ps) len nx) (hp : (ps.toList.zip (ps.toList.drop 1)).all (fun (a, next) => a.1 < next.1) = true) (ho : Op.lookupswitch.offset ps.toList dflt x.toInt = off) (ht : (pc : Int) + off = (tgt : Int)) (kk : PW k mi post tgt L st w) : PW k mi post pc L (.int x :: st) w := by
  obtain ⟨hd, rfl⟩ := hd
  intro g p l e R s m args below meth c H locs cells slots Q ls X hH hS hL h1 h2 hQ
  exact lv_lookup X.1 X.2.1 hd hp ho ht (kk g p l e R s m args below meth c H locs cells slots Q ls X hH hS hL h1 h2 hQ)
theorem PW_tableOut {dflt lo hi : Int} {offs : Array Int} {len : Nat} {x : Int32} {tgt : Nat} (hd : CD mi pc (.tableswitch dflt lo hi offs) len nx) (h : x.toInt < lo ∨ hi < x.toInt) (ht : (pc : Int) + dflt = (tgt : Int)) (kk : PW k mi post tgt L st w) : PW k mi post pc L (.int x :: st) w := by
  obtain ⟨hd, rfl⟩ := hd
  intro g p l e R s m args below meth c H locs cells slots Q ls X hH hS hL h1 h2 hQ
  exact lv_tableOut X.1 X.2.1 hd h ht (kk g p l e R s m args below meth c H locs cells slots Q ls X hH hS hL h1 h2 hQ)
theorem PW_tableIn {dflt lo hi off : Int} {offs : Array Int} {len : Nat} {x : Int32} {tgt : Nat} (hd : CD mi pc (.tableswitch dflt lo hi offs) len nx) (h3 : ¬ x.toInt < lo) (h4 : ¬ hi < x.toInt) (ho : offs[(x.toInt - lo).toNat]? = some off) (ht : (pc : Int) + off = (tgt : Int)) (kk : PW k mi post tgt L st w) : PW k mi post pc L (.int x :: st) w := by
  obtain ⟨hd, rfl⟩ := hd
  intro g p l e R s m args below meth c H locs cells slots Q ls X hH hS hL h1 h2 hQ
  exact lv_tableIn X.1 X.2.1 hd h3 h4 ho ht (kk g p l e R s m args below meth c H locs cells slots Q ls X hH hS hL h1 h2 hQ)
theorem PW_ldcw {index : Nat} {v : Int32} (hd : CD mi pc (.ldc_w index) 3 nx) (hc : Cond.constant mi.1.cls index v ∈ gw_tbl) (kk : PW k mi post nx L (.int v :: st) w) : PW k mi post pc L st w := by
  obtain ⟨hd, rfl⟩ := hd
  intro g p l e R s m args below meth c H locs cells slots Q ls X hH hS hL h1 h2 hQ
  exact lv_ldcw X.1 X.2.1 X.2.2.2.2.1 (X.2.2.2.2.2.2.2.1 _ hc) hd (kk g p l e R s m args below meth c H locs cells slots Q ls X hH hS hL h1 h2 hQ)
theorem PW_ldc {index : Nat} {v : Int32} (hd : CD mi pc (.ldc index) 2 nx) (hc : Cond.constant mi.1.cls index v ∈ gw_tbl) (kk : PW k mi post nx L (.int v :: st) w) : PW k mi post pc L st w := by
  obtain ⟨hd, rfl⟩ := hd
  intro g p l e R s m args below meth c H locs cells slots Q ls X hH hS hL h1 h2 hQ
  exact W.ldc X.1 X.2.1 X.2.2.2.2.1 (X.2.2.2.2.2.2.2.1 _ hc) rfl hd (kk g p l e R s m args below meth c H locs cells slots Q ls X hH hS hL h1 h2 hQ)
theorem PW_ldc2 {index : Nat} {v : Int64} (hd : CD mi pc (.ldc2_w index) 3 nx) (hc : Cond.constantLong mi.1.cls index v ∈ gw_tbl) (kk : PW k mi post nx L (.long v :: st) w) : PW k mi post pc L st w := by
  obtain ⟨hd, rfl⟩ := hd
  intro g p l e R s m args below meth c H locs cells slots Q ls X hH hS hL h1 h2 hQ
  exact W.ldc2 X.1 X.2.1 X.2.2.2.2.1 (X.2.2.2.2.2.2.2.1 _ hc) rfl hd (kk g p l e R s m args below meth c H locs cells slots Q ls X hH hS hL h1 h2 hQ)
theorem PW_ireturn {v : Int32} {ty : FieldType} (hd : CD mi pc .ireturn 1 nx) (hr : mi.2.2.2 = some ty) (hn : narrow ty (.int v) = .int v) (h : post (some (.int v)) w) : PW k mi post pc L [.int v] w := by
  intro g p l e R s m args below meth c H locs cells slots Q ls X hH hS hL h1 h2 hQ
  exact hQ _ _ _ _ _ _ _ _ h hH hS ⟨hd.1, ty, hr, hn⟩ (Nat.le_add_right _ _) (Nat.le_add_right _ _)
theorem PW_lreturn {v : Int64} (hd : CD mi pc .lreturn 1 nx) (hr : mi.2.2.2 = some .long) (h : post (some (.long v)) w) : PW k mi post pc L [.long v] w := by
  intro g p l e R s m args below meth c H locs cells slots Q ls X hH hS hL h1 h2 hQ
  exact hQ _ _ _ _ _ _ _ _ h hH hS ⟨hd.1, hr⟩ (Nat.le_add_right _ _) (Nat.le_add_right _ _)
theorem PW_vreturn (hd : CD mi pc .return_ 1 nx) (hr : mi.2.2.2 = none) (h : post none w) : PW k mi post pc L [] w := by
  intro g p l e R s m args below meth c H locs cells slots Q ls X hH hS hL h1 h2 hQ
  exact hQ none _ _ _ _ _ _ _ h hH hS ⟨hd.1, hr⟩ (Nat.le_add_right _ _) (Nat.le_add_right _ _)
theorem PW_areturn {a : Nat} {C : String} (hd : CD mi pc .areturn 1 nx) (hr : mi.2.2.2 = some (.object C)) (h : post (some (.ref a)) w) : PW k mi post pc L [.ref a] w := by
  intro g p l e R s m args below meth c H locs cells slots Q ls X hH hS hL h1 h2 hQ
  exact hQ _ _ _ _ _ _ _ _ h hH hS ⟨hd.1, Or.inr ⟨_, rfl⟩, _, hr, Or.inl ⟨_, rfl⟩⟩ (Nat.le_add_right _ _) (Nat.le_add_right _ _)
theorem PW_areturnN {C : String} (hd : CD mi pc .areturn 1 nx) (hr : mi.2.2.2 = some (.object C)) (h : post (some .null) w) : PW k mi post pc L [.null] w := by
  intro g p l e R s m args below meth c H locs cells slots Q ls X hH hS hL h1 h2 hQ
  exact hQ _ _ _ _ _ _ _ _ h hH hS ⟨hd.1, Or.inl rfl, _, hr, Or.inl ⟨_, rfl⟩⟩ (Nat.le_add_right _ _) (Nat.le_add_right _ _)
theorem PW.mono {post2 : Option Value → List PE → Prop} (h : ∀ r w', post r w' → post2 r w') (kk : PW k mi post pc L st w) : PW k mi post2 pc L st w := by
  intro g p l e R s m args below meth c H locs cells slots Q ls X hH hS hL h1 h2 hQ
  exact kk g p l e R s m args below meth c H locs cells slots Q ls X hH hS hL h1 h2 (fun r w' H' locs' cells' slots' pc' ls' q => hQ r w' H' locs' cells' slots' pc' ls' (h r w' q))
theorem PW.eqL {L2 : List (Option Value)} {st2 : List Value} {w2 : List PE} (h3 : L = L2) (h4 : st = st2) (h5 : w = w2) (kk : PW k mi post pc L2 st2 w2) : PW k mi post pc L st w := by
  subst h3; subst h4; subst h5; exact kk
theorem PW.deeper {d2 mc2 ms2 : Nat} (h3 : k.1 ≤ d2) (h4 : k.2.1 ≤ mc2) (h5 : k.2.2.1 ≤ ms2) (kk : PW k mi post pc L st w) : PW (d2, mc2, ms2, k.2.2.2) mi post pc L st w := by
  intro g p l e R s m args below meth c H locs cells slots Q ls X hH hS hL h1 h2 hQ
  obtain ⟨x1, x2, x3, x4, x5, x6, x7, x8, x9, x10, x11, x12⟩ := X
  refine kk g p l e R s m args below meth c H locs cells slots Q ls ⟨x1, x2, x3, x4, x5, x6, x7, x8, x9, x10, Nat.le_trans h3 x11, Nat.le_trans (Nat.mul_le_mul_left 48 h3) x12⟩ hH hS hL (Nat.le_trans (Nat.add_le_add_left h4 _) h1) (Nat.le_trans (Nat.add_le_add_left h5 _) h2) (fun r w' H' locs' cells' slots' pc' ls' q q2 q3 q4 q5 q6 => hQ r w' H' locs' cells' slots' pc' ls' q q2 q3 q4 (Nat.le_trans q5 (Nat.add_le_add_left h4 _)) (Nat.le_trans q6 (Nat.add_le_add_left h5 _)))
end PR
