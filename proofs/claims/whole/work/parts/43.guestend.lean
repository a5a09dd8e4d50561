theorem sp_wfE {z : ZS} {post : Option Value → List PE → Prop} {x y : XS} {v : Int32} {sj : Nat} (hsj : sj < 6) (hb : ¬ (x.1 ((58 + 2 * sj) * 8 + 1) = 2 ∧ x.1 ((58 + 2 * sj) * 8 + 3) = 0)) (h : post (some (.int 0)) (E x y)) : PW (5, 0, 0, z) m_G_welcomeFrom post 0 [some (.ref 5), some (.ref (58 + 2 * sj)), some (.int v), none, none, none] [] (E x y) := by
  refine PW_aload_n c_G_welcomeFrom_0 rfl ?_
  refine PW_iload_n c_G_welcomeFrom_1 rfl ?_
  refine PW_iconst (v := 3) c_G_welcomeFrom_2 (by decide) ?_
  refine PW_V0 (d2 := 1) (st := []) [.int v, .int 3] c_G_welcomeFrom_3 lk_G_welcomeFrom_114 (sh_po _ _ hsj) rfl rfl rfl (Nat.le_of_ble_eq_true rfl) (by first | decide | omega) (Nat.le_of_ble_eq_true rfl) ?_
  show PW _ _ _ 0 [some (.ref (58 + 2 * sj)), some (.int v), some (.int 3)] [] (E x y)
  refine PW_aload_n c_F_hasBytes_0 rfl ?_
  refine PW_V0 (d2 := 0) (st := []) [] c_F_hasBytes_1 lk_F_hasBytes_41 (sh_po _ _ hsj) rfl rfl rfl (Nat.le_of_ble_eq_true rfl) (by first | decide | omega) (Nat.le_of_ble_eq_true rfl) ?_
  refine sp_F_holdsBytes hsj  ?_
  show PW _ _ _ 4 [some (.ref (58 + 2 * sj)), some (.int v), some (.int 3)] [.int (b2i (x.1 ((58 + 2 * sj) * 8 + 1) = 2 ∧ x.1 ((58 + 2 * sj) * 8 + 3) = 0))] (E x y)
  refine PW_if_eq c_F_hasBytes_4 (fun _ => ?_) (fun h0 => absurd (b2i_n0.mp h0) hb)
  refine PW_iconst (v := 0) c_F_hasBytes_20 (by decide) ?_
  refine PW_ireturn (ty := .boolean) c_F_hasBytes_21 rfl (by decide +kernel) ?_
  show PW _ _ _ 6 [some (.ref 5), some (.ref (58 + 2 * sj)), some (.int v), none, none, none] [.int 0] (E x y)
  refine PW_if_ne c_G_welcomeFrom_6 (fun h1 => absurd (by decide) h1) (fun _ => ?_)
  refine PW_iconst (v := 0) c_G_welcomeFrom_9 (by decide) ?_
  refine PW_ireturn (ty := .boolean) c_G_welcomeFrom_10 rfl (by decide +kernel) ?_
  exact h
