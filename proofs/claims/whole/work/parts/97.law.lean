theorem sc_in {z : ZS} {q : Nat} (hz : z.1 ≤ 3072) (h : q < z.1) : vp_in (nI q) z.1 := vp_in_nI h (by omega)
theorem law_out {a b : Nat} (ha : a ≤ 3072) (hb : b ≤ 3078) (h : a < b + 6) : nI a - 6 < nI b := by
  rw [Int32.lt_iff_toInt_lt, nI_toInt (by omega), show (6 : Int32) = nI 6 from rfl, pk_sub_toInt (by omega) (by omega)]
  omega
theorem law_in {a b : Nat} (ha : a ≤ 3072) (h : b + 6 ≤ a) : ¬ (nI a - 6 < nI b) := by
  rw [Int32.lt_iff_toInt_lt, nI_toInt (by omega), show (6 : Int32) = nI 6 from rfl, pk_sub_toInt (by omega) (by omega)]
  omega
theorem lg_self (r : Int64) : lg_cmp r r = 0 := by
  unfold lg_cmp
  simp
set_option maxHeartbeats 4000000 in
theorem law_loop {z : ZS} (hz : z.1 ≤ 3072) : ∀ (n t : Nat), z.1 < 6 * t + 6 * n + 6 → 6 * t ≤ z.1 → ∀ {x y : XS}, INV t x y → PW (100, 0, 0, z) m_W_law (fun r _ => r = some (.int 1)) 18 [some (.ref 4), some (.ref 5), some (.ref 70), some (.int (nI (6 * t)))] [] (E x y) := by
  intro n
  induction n with
  | zero =>
    intro t h1 h2 x y hI
    refine PW_iload_n c_W_law_18 rfl ?_
    refine PW_aload_n c_W_law_19 rfl ?_
    refine PW_sclen (v := nI z.1) c_W_law_20 rfl ?_
    refine PW_bipush (v := 6) c_W_law_21 (by decide) ?_
    refine PW_isub c_W_law_23 ?_
    refine PW_icmp_gt c_W_law_24 (fun h0 => ?_) (fun h0 => absurd (law_out (by omega) (by omega) (by omega)) h0)
    refine PW_iconst (v := 1) c_W_law_1425 (by decide) ?_
    refine PW_ireturn (ty := .boolean) c_W_law_1426 rfl (by decide +kernel) ?_
    exact rfl
  | succ n ih =>
    intro t h1 h2 x y hI
    by_cases h3 : z.1 < 6 * t + 6
    · refine PW_iload_n c_W_law_18 rfl ?_
      refine PW_aload_n c_W_law_19 rfl ?_
      refine PW_sclen (v := nI z.1) c_W_law_20 rfl ?_
      refine PW_bipush (v := 6) c_W_law_21 (by decide) ?_
      refine PW_isub c_W_law_23 ?_
      refine PW_icmp_gt c_W_law_24 (fun h0 => ?_) (fun h0 => absurd (law_out (by omega) (by omega) (by omega)) h0)
      refine PW_iconst (v := 1) c_W_law_1425 (by decide) ?_
      refine PW_ireturn (ty := .boolean) c_W_law_1426 rfl (by decide +kernel) ?_
      exact rfl
    replace ih := fun (t' : Nat) (q : t' = t + 1) {x y : XS} (hI : INV t' x y) => ih t' (by omega) (by omega) hI
    refine PW_iload_n c_W_law_18 rfl ?_
    refine PW_aload_n c_W_law_19 rfl ?_
    refine PW_sclen (v := nI z.1) c_W_law_20 rfl ?_
    refine PW_bipush (v := 6) c_W_law_21 (by decide) ?_
    refine PW_isub c_W_law_23 ?_
    refine PW_icmp_gt c_W_law_24 (fun h0 => absurd h0 (law_in (by omega) (by omega))) (fun h0 => ?_)
    refine PW_aload_n c_W_law_27 rfl ?_
    refine PW_iload_n c_W_law_28 rfl ?_
    refine PW_scald (q := 6 * t) c_W_law_29 (sc_in (z := z) hz (by omega)) (nI_clamp (by omega)) ?_
    show PW _ _ _ 30 [some (.ref 4), some (.ref 5), some (.ref 70), some (.int (nI (6 * t)))] [.int (z.2 (6 * t))] (E x y)
    refine PW_bipush (v := 63) c_W_law_30 (by decide) ?_
    refine PW_iand c_W_law_32 ?_
    by_cases h1 : (z.2 (6 * t)) &&& 63 = 0
    · refine PW_tableIn (tgt := 208) (off := 175) c_W_law_33 (by rw [h1]; decide) (by rw [h1]; decide) (by rw [h1]; rfl) rfl ?_
      refine PW_aload_n c_W_law_208 rfl ?_
      refine PW_aload_n c_W_law_209 rfl ?_
      refine PW_iload_n c_W_law_210 rfl ?_
      refine PW_iconst (v := 1) c_W_law_211 (by decide) ?_
      refine PW_iadd c_W_law_212 ?_
      refine PW_scald (q := 6 * t + 1) c_W_law_213 (by rw [(show nI (6 * t) + 1 = nI (6 * t + 1) from nI_add (6 * t) 1)]; exact sc_in (z := z) hz (by omega)) (by rw [(show nI (6 * t) + 1 = nI (6 * t + 1) from nI_add (6 * t) 1)]; exact nI_clamp (by omega)) ?_
      show PW _ _ _ 214 [some (.ref 4), some (.ref 5), some (.ref 70), some (.int (nI (6 * t)))] [.int (z.2 (6 * t + 1)), .ref 5] (E x y)
      refine PW_aload_n c_W_law_214 rfl ?_
      refine PW_iload_n c_W_law_215 rfl ?_
      refine PW_iconst (v := 2) c_W_law_216 (by decide) ?_
      refine PW_iadd c_W_law_217 ?_
      refine PW_scald (q := 6 * t + 2) c_W_law_218 (by rw [(show nI (6 * t) + 2 = nI (6 * t + 2) from nI_add (6 * t) 2)]; exact sc_in (z := z) hz (by omega)) (by rw [(show nI (6 * t) + 2 = nI (6 * t + 2) from nI_add (6 * t) 2)]; exact nI_clamp (by omega)) ?_
      show PW _ _ _ 219 [some (.ref 4), some (.ref 5), some (.ref 70), some (.int (nI (6 * t)))] [.int (z.2 (6 * t + 2)), .int (z.2 (6 * t + 1)), .ref 5] (E x y)
      obtain ⟨r, x1, y1, hI1, hX, hM⟩ := op_guest (a1 := z.2 (6 * t + 1)) (a2 := z.2 (6 * t + 2)) hI (by omega)
      refine PW_V0 (d2 := 90) (st := []) [.int (z.2 (6 * t + 1)), .int (z.2 (6 * t + 2))] c_W_law_219 lk_W_law_13 (po_5 _ _) rfl rfl rfl (Nat.le_of_ble_eq_true rfl) (by first | decide | omega) (Nat.le_of_ble_eq_true rfl) ?_
      refine hX ?_
      show PW _ _ _ 222 [some (.ref 4), some (.ref 5), some (.ref 70), some (.int (nI (6 * t)))] [.int r] (E x1 y)
      refine PW_aload_n c_W_law_222 rfl ?_
      refine PW_aload_n c_W_law_223 rfl ?_
      refine PW_iload_n c_W_law_224 rfl ?_
      refine PW_iconst (v := 1) c_W_law_225 (by decide) ?_
      refine PW_iadd c_W_law_226 ?_
      refine PW_scald (q := 6 * t + 1) c_W_law_227 (by rw [(show nI (6 * t) + 1 = nI (6 * t + 1) from nI_add (6 * t) 1)]; exact sc_in (z := z) hz (by omega)) (by rw [(show nI (6 * t) + 1 = nI (6 * t + 1) from nI_add (6 * t) 1)]; exact nI_clamp (by omega)) ?_
      show PW _ _ _ 228 [some (.ref 4), some (.ref 5), some (.ref 70), some (.int (nI (6 * t)))] [.int (z.2 (6 * t + 1)), .ref 70, .int r] (E x1 y)
      refine PW_aload_n c_W_law_228 rfl ?_
      refine PW_iload_n c_W_law_229 rfl ?_
      refine PW_iconst (v := 2) c_W_law_230 (by decide) ?_
      refine PW_iadd c_W_law_231 ?_
      refine PW_scald (q := 6 * t + 2) c_W_law_232 (by rw [(show nI (6 * t) + 2 = nI (6 * t + 2) from nI_add (6 * t) 2)]; exact sc_in (z := z) hz (by omega)) (by rw [(show nI (6 * t) + 2 = nI (6 * t + 2) from nI_add (6 * t) 2)]; exact nI_clamp (by omega)) ?_
      show PW _ _ _ 233 [some (.ref 4), some (.ref 5), some (.ref 70), some (.int (nI (6 * t)))] [.int (z.2 (6 * t + 2)), .int (z.2 (6 * t + 1)), .ref 70, .int r] (E x1 y)
      refine PW_V0 (d2 := 90) (st := [.int r]) [.int (z.2 (6 * t + 1)), .int (z.2 (6 * t + 2))] c_W_law_233 lk_W_law_17 (po_70 _ _) rfl rfl rfl (Nat.le_of_ble_eq_true rfl) (by first | decide | omega) (Nat.le_of_ble_eq_true rfl) ?_
      refine hM ?_
      show PW _ _ _ 236 [some (.ref 4), some (.ref 5), some (.ref 70), some (.int (nI (6 * t)))] [.int r, .int r] (E x1 y1)
      refine PW_icmp_eq c_W_law_236 (fun _ => ?_) (fun h2 => absurd rfl h2)
      refine PW_iinc (i := 3) (v := (nI (6 * t)) + 6) (L2 := [some (.ref 4), some (.ref 5), some (.ref 70), some (.int ((nI (6 * t)) + 6))]) c_W_law_1419 rfl (iinc_v (by decide)) (Nat.le_of_ble_eq_true rfl) rfl rfl ?_
      refine PW_goto c_W_law_1422 ?_
      refine PW.eqL ?_ rfl rfl (ih (t + 1) (by omega) hI1)
      show ([some (.ref 4), some (.ref 5), some (.ref 70), some (.int ((nI (6 * t)) + 6))] : List (Option Value)) = [some (.ref 4), some (.ref 5), some (.ref 70), some (.int (nI (6 * (t + 1))))]
      rw [show nI (6 * t) + 6 = nI (6 * (t + 1)) from nI_add (6 * t) 6]
    by_cases h3 : (z.2 (6 * t)) &&& 63 = 1
    · refine PW_tableIn (tgt := 241) (off := 208) c_W_law_33 (by rw [h3]; decide) (by rw [h3]; decide) (by rw [h3]; rfl) rfl ?_
      refine PW_aload_n c_W_law_241 rfl ?_
      refine PW_aload_n c_W_law_242 rfl ?_
      refine PW_iload_n c_W_law_243 rfl ?_
      refine PW_iconst (v := 1) c_W_law_244 (by decide) ?_
      refine PW_iadd c_W_law_245 ?_
      refine PW_scald (q := 6 * t + 1) c_W_law_246 (by rw [(show nI (6 * t) + 1 = nI (6 * t + 1) from nI_add (6 * t) 1)]; exact sc_in (z := z) hz (by omega)) (by rw [(show nI (6 * t) + 1 = nI (6 * t + 1) from nI_add (6 * t) 1)]; exact nI_clamp (by omega)) ?_
      show PW _ _ _ 247 [some (.ref 4), some (.ref 5), some (.ref 70), some (.int (nI (6 * t)))] [.int (z.2 (6 * t + 1)), .ref 5] (E x y)
      refine PW_aload_n c_W_law_247 rfl ?_
      refine PW_iload_n c_W_law_248 rfl ?_
      refine PW_iconst (v := 2) c_W_law_249 (by decide) ?_
      refine PW_iadd c_W_law_250 ?_
      refine PW_scald (q := 6 * t + 2) c_W_law_251 (by rw [(show nI (6 * t) + 2 = nI (6 * t + 2) from nI_add (6 * t) 2)]; exact sc_in (z := z) hz (by omega)) (by rw [(show nI (6 * t) + 2 = nI (6 * t + 2) from nI_add (6 * t) 2)]; exact nI_clamp (by omega)) ?_
      show PW _ _ _ 252 [some (.ref 4), some (.ref 5), some (.ref 70), some (.int (nI (6 * t)))] [.int (z.2 (6 * t + 2)), .int (z.2 (6 * t + 1)), .ref 5] (E x y)
      refine PW_aload_n c_W_law_252 rfl ?_
      refine PW_iload_n c_W_law_253 rfl ?_
      refine PW_iconst (v := 3) c_W_law_254 (by decide) ?_
      refine PW_iadd c_W_law_255 ?_
      refine PW_scald (q := 6 * t + 3) c_W_law_256 (by rw [(show nI (6 * t) + 3 = nI (6 * t + 3) from nI_add (6 * t) 3)]; exact sc_in (z := z) hz (by omega)) (by rw [(show nI (6 * t) + 3 = nI (6 * t + 3) from nI_add (6 * t) 3)]; exact nI_clamp (by omega)) ?_
      show PW _ _ _ 257 [some (.ref 4), some (.ref 5), some (.ref 70), some (.int (nI (6 * t)))] [.int (z.2 (6 * t + 3)), .int (z.2 (6 * t + 2)), .int (z.2 (6 * t + 1)), .ref 5] (E x y)
      obtain ⟨r, x1, y1, hI1, hX, hM⟩ := op_guests (a1 := z.2 (6 * t + 1)) (a2 := z.2 (6 * t + 2)) (a3 := z.2 (6 * t + 3)) hI (by omega)
      refine PW_V0 (d2 := 90) (st := []) [.int (z.2 (6 * t + 1)), .int (z.2 (6 * t + 2)), .int (z.2 (6 * t + 3))] c_W_law_257 lk_W_law_18 (po_5 _ _) rfl rfl rfl (Nat.le_of_ble_eq_true rfl) (by first | decide | omega) (Nat.le_of_ble_eq_true rfl) ?_
      refine hX ?_
      show PW _ _ _ 260 [some (.ref 4), some (.ref 5), some (.ref 70), some (.int (nI (6 * t)))] [.int r] (E x1 y)
      refine PW_aload_n c_W_law_260 rfl ?_
      refine PW_aload_n c_W_law_261 rfl ?_
      refine PW_iload_n c_W_law_262 rfl ?_
      refine PW_iconst (v := 1) c_W_law_263 (by decide) ?_
      refine PW_iadd c_W_law_264 ?_
      refine PW_scald (q := 6 * t + 1) c_W_law_265 (by rw [(show nI (6 * t) + 1 = nI (6 * t + 1) from nI_add (6 * t) 1)]; exact sc_in (z := z) hz (by omega)) (by rw [(show nI (6 * t) + 1 = nI (6 * t + 1) from nI_add (6 * t) 1)]; exact nI_clamp (by omega)) ?_
      show PW _ _ _ 266 [some (.ref 4), some (.ref 5), some (.ref 70), some (.int (nI (6 * t)))] [.int (z.2 (6 * t + 1)), .ref 70, .int r] (E x1 y)
      refine PW_aload_n c_W_law_266 rfl ?_
      refine PW_iload_n c_W_law_267 rfl ?_
      refine PW_iconst (v := 2) c_W_law_268 (by decide) ?_
      refine PW_iadd c_W_law_269 ?_
      refine PW_scald (q := 6 * t + 2) c_W_law_270 (by rw [(show nI (6 * t) + 2 = nI (6 * t + 2) from nI_add (6 * t) 2)]; exact sc_in (z := z) hz (by omega)) (by rw [(show nI (6 * t) + 2 = nI (6 * t + 2) from nI_add (6 * t) 2)]; exact nI_clamp (by omega)) ?_
      show PW _ _ _ 271 [some (.ref 4), some (.ref 5), some (.ref 70), some (.int (nI (6 * t)))] [.int (z.2 (6 * t + 2)), .int (z.2 (6 * t + 1)), .ref 70, .int r] (E x1 y)
      refine PW_aload_n c_W_law_271 rfl ?_
      refine PW_iload_n c_W_law_272 rfl ?_
      refine PW_iconst (v := 3) c_W_law_273 (by decide) ?_
      refine PW_iadd c_W_law_274 ?_
      refine PW_scald (q := 6 * t + 3) c_W_law_275 (by rw [(show nI (6 * t) + 3 = nI (6 * t + 3) from nI_add (6 * t) 3)]; exact sc_in (z := z) hz (by omega)) (by rw [(show nI (6 * t) + 3 = nI (6 * t + 3) from nI_add (6 * t) 3)]; exact nI_clamp (by omega)) ?_
      show PW _ _ _ 276 [some (.ref 4), some (.ref 5), some (.ref 70), some (.int (nI (6 * t)))] [.int (z.2 (6 * t + 3)), .int (z.2 (6 * t + 2)), .int (z.2 (6 * t + 1)), .ref 70, .int r] (E x1 y)
      refine PW_V0 (d2 := 90) (st := [.int r]) [.int (z.2 (6 * t + 1)), .int (z.2 (6 * t + 2)), .int (z.2 (6 * t + 3))] c_W_law_276 lk_W_law_22 (po_70 _ _) rfl rfl rfl (Nat.le_of_ble_eq_true rfl) (by first | decide | omega) (Nat.le_of_ble_eq_true rfl) ?_
      refine hM ?_
      show PW _ _ _ 279 [some (.ref 4), some (.ref 5), some (.ref 70), some (.int (nI (6 * t)))] [.int r, .int r] (E x1 y1)
      refine PW_icmp_eq c_W_law_279 (fun _ => ?_) (fun h4 => absurd rfl h4)
      refine PW_iinc (i := 3) (v := (nI (6 * t)) + 6) (L2 := [some (.ref 4), some (.ref 5), some (.ref 70), some (.int ((nI (6 * t)) + 6))]) c_W_law_1419 rfl (iinc_v (by decide)) (Nat.le_of_ble_eq_true rfl) rfl rfl ?_
      refine PW_goto c_W_law_1422 ?_
      refine PW.eqL ?_ rfl rfl (ih (t + 1) (by omega) hI1)
      show ([some (.ref 4), some (.ref 5), some (.ref 70), some (.int ((nI (6 * t)) + 6))] : List (Option Value)) = [some (.ref 4), some (.ref 5), some (.ref 70), some (.int (nI (6 * (t + 1))))]
      rw [show nI (6 * t) + 6 = nI (6 * (t + 1)) from nI_add (6 * t) 6]
    by_cases h5 : (z.2 (6 * t)) &&& 63 = 2
    · refine PW_tableIn (tgt := 284) (off := 251) c_W_law_33 (by rw [h5]; decide) (by rw [h5]; decide) (by rw [h5]; rfl) rfl ?_
      refine PW_aload_n c_W_law_284 rfl ?_
      refine PW_aload_n c_W_law_285 rfl ?_
      refine PW_iload_n c_W_law_286 rfl ?_
      refine PW_iconst (v := 1) c_W_law_287 (by decide) ?_
      refine PW_iadd c_W_law_288 ?_
      refine PW_scald (q := 6 * t + 1) c_W_law_289 (by rw [(show nI (6 * t) + 1 = nI (6 * t + 1) from nI_add (6 * t) 1)]; exact sc_in (z := z) hz (by omega)) (by rw [(show nI (6 * t) + 1 = nI (6 * t + 1) from nI_add (6 * t) 1)]; exact nI_clamp (by omega)) ?_
      show PW _ _ _ 290 [some (.ref 4), some (.ref 5), some (.ref 70), some (.int (nI (6 * t)))] [.int (z.2 (6 * t + 1)), .ref 5] (E x y)
      refine PW_aload_n c_W_law_290 rfl ?_
      refine PW_iload_n c_W_law_291 rfl ?_
      refine PW_iconst (v := 2) c_W_law_292 (by decide) ?_
      refine PW_iadd c_W_law_293 ?_
      refine PW_scald (q := 6 * t + 2) c_W_law_294 (by rw [(show nI (6 * t) + 2 = nI (6 * t + 2) from nI_add (6 * t) 2)]; exact sc_in (z := z) hz (by omega)) (by rw [(show nI (6 * t) + 2 = nI (6 * t + 2) from nI_add (6 * t) 2)]; exact nI_clamp (by omega)) ?_
      show PW _ _ _ 295 [some (.ref 4), some (.ref 5), some (.ref 70), some (.int (nI (6 * t)))] [.int (z.2 (6 * t + 2)), .int (z.2 (6 * t + 1)), .ref 5] (E x y)
      refine PW_aload_n c_W_law_295 rfl ?_
      refine PW_iload_n c_W_law_296 rfl ?_
      refine PW_iconst (v := 3) c_W_law_297 (by decide) ?_
      refine PW_iadd c_W_law_298 ?_
      refine PW_scald (q := 6 * t + 3) c_W_law_299 (by rw [(show nI (6 * t) + 3 = nI (6 * t + 3) from nI_add (6 * t) 3)]; exact sc_in (z := z) hz (by omega)) (by rw [(show nI (6 * t) + 3 = nI (6 * t + 3) from nI_add (6 * t) 3)]; exact nI_clamp (by omega)) ?_
      show PW _ _ _ 300 [some (.ref 4), some (.ref 5), some (.ref 70), some (.int (nI (6 * t)))] [.int (z.2 (6 * t + 3)), .int (z.2 (6 * t + 2)), .int (z.2 (6 * t + 1)), .ref 5] (E x y)
      obtain ⟨r, x1, y1, hI1, hX, hM⟩ := op_mend (a1 := z.2 (6 * t + 1)) (a2 := z.2 (6 * t + 2)) (a3 := z.2 (6 * t + 3)) hI (by omega)
      refine PW_V0 (d2 := 90) (st := []) [.int (z.2 (6 * t + 1)), .int (z.2 (6 * t + 2)), .int (z.2 (6 * t + 3))] c_W_law_300 lk_W_law_23 (po_5 _ _) rfl rfl rfl (Nat.le_of_ble_eq_true rfl) (by first | decide | omega) (Nat.le_of_ble_eq_true rfl) ?_
      refine hX ?_
      show PW _ _ _ 303 [some (.ref 4), some (.ref 5), some (.ref 70), some (.int (nI (6 * t)))] [.int r] (E x1 y)
      refine PW_aload_n c_W_law_303 rfl ?_
      refine PW_aload_n c_W_law_304 rfl ?_
      refine PW_iload_n c_W_law_305 rfl ?_
      refine PW_iconst (v := 1) c_W_law_306 (by decide) ?_
      refine PW_iadd c_W_law_307 ?_
      refine PW_scald (q := 6 * t + 1) c_W_law_308 (by rw [(show nI (6 * t) + 1 = nI (6 * t + 1) from nI_add (6 * t) 1)]; exact sc_in (z := z) hz (by omega)) (by rw [(show nI (6 * t) + 1 = nI (6 * t + 1) from nI_add (6 * t) 1)]; exact nI_clamp (by omega)) ?_
      show PW _ _ _ 309 [some (.ref 4), some (.ref 5), some (.ref 70), some (.int (nI (6 * t)))] [.int (z.2 (6 * t + 1)), .ref 70, .int r] (E x1 y)
      refine PW_aload_n c_W_law_309 rfl ?_
      refine PW_iload_n c_W_law_310 rfl ?_
      refine PW_iconst (v := 2) c_W_law_311 (by decide) ?_
      refine PW_iadd c_W_law_312 ?_
      refine PW_scald (q := 6 * t + 2) c_W_law_313 (by rw [(show nI (6 * t) + 2 = nI (6 * t + 2) from nI_add (6 * t) 2)]; exact sc_in (z := z) hz (by omega)) (by rw [(show nI (6 * t) + 2 = nI (6 * t + 2) from nI_add (6 * t) 2)]; exact nI_clamp (by omega)) ?_
      show PW _ _ _ 314 [some (.ref 4), some (.ref 5), some (.ref 70), some (.int (nI (6 * t)))] [.int (z.2 (6 * t + 2)), .int (z.2 (6 * t + 1)), .ref 70, .int r] (E x1 y)
      refine PW_aload_n c_W_law_314 rfl ?_
      refine PW_iload_n c_W_law_315 rfl ?_
      refine PW_iconst (v := 3) c_W_law_316 (by decide) ?_
      refine PW_iadd c_W_law_317 ?_
      refine PW_scald (q := 6 * t + 3) c_W_law_318 (by rw [(show nI (6 * t) + 3 = nI (6 * t + 3) from nI_add (6 * t) 3)]; exact sc_in (z := z) hz (by omega)) (by rw [(show nI (6 * t) + 3 = nI (6 * t + 3) from nI_add (6 * t) 3)]; exact nI_clamp (by omega)) ?_
      show PW _ _ _ 319 [some (.ref 4), some (.ref 5), some (.ref 70), some (.int (nI (6 * t)))] [.int (z.2 (6 * t + 3)), .int (z.2 (6 * t + 2)), .int (z.2 (6 * t + 1)), .ref 70, .int r] (E x1 y)
      refine PW_V0 (d2 := 90) (st := [.int r]) [.int (z.2 (6 * t + 1)), .int (z.2 (6 * t + 2)), .int (z.2 (6 * t + 3))] c_W_law_319 lk_W_law_26 (po_70 _ _) rfl rfl rfl (Nat.le_of_ble_eq_true rfl) (by first | decide | omega) (Nat.le_of_ble_eq_true rfl) ?_
      refine hM ?_
      show PW _ _ _ 322 [some (.ref 4), some (.ref 5), some (.ref 70), some (.int (nI (6 * t)))] [.int r, .int r] (E x1 y1)
      refine PW_icmp_eq c_W_law_322 (fun _ => ?_) (fun h6 => absurd rfl h6)
      refine PW_iinc (i := 3) (v := (nI (6 * t)) + 6) (L2 := [some (.ref 4), some (.ref 5), some (.ref 70), some (.int ((nI (6 * t)) + 6))]) c_W_law_1419 rfl (iinc_v (by decide)) (Nat.le_of_ble_eq_true rfl) rfl rfl ?_
      refine PW_goto c_W_law_1422 ?_
      refine PW.eqL ?_ rfl rfl (ih (t + 1) (by omega) hI1)
      show ([some (.ref 4), some (.ref 5), some (.ref 70), some (.int ((nI (6 * t)) + 6))] : List (Option Value)) = [some (.ref 4), some (.ref 5), some (.ref 70), some (.int (nI (6 * (t + 1))))]
      rw [show nI (6 * t) + 6 = nI (6 * (t + 1)) from nI_add (6 * t) 6]
    by_cases h7 : (z.2 (6 * t)) &&& 63 = 3
    · refine PW_tableIn (tgt := 327) (off := 294) c_W_law_33 (by rw [h7]; decide) (by rw [h7]; decide) (by rw [h7]; rfl) rfl ?_
      refine PW_aload_n c_W_law_327 rfl ?_
      refine PW_aload_n c_W_law_328 rfl ?_
      refine PW_iload_n c_W_law_329 rfl ?_
      refine PW_iconst (v := 1) c_W_law_330 (by decide) ?_
      refine PW_iadd c_W_law_331 ?_
      refine PW_scald (q := 6 * t + 1) c_W_law_332 (by rw [(show nI (6 * t) + 1 = nI (6 * t + 1) from nI_add (6 * t) 1)]; exact sc_in (z := z) hz (by omega)) (by rw [(show nI (6 * t) + 1 = nI (6 * t + 1) from nI_add (6 * t) 1)]; exact nI_clamp (by omega)) ?_
      show PW _ _ _ 333 [some (.ref 4), some (.ref 5), some (.ref 70), some (.int (nI (6 * t)))] [.int (z.2 (6 * t + 1)), .ref 5] (E x y)
      refine PW_aload_n c_W_law_333 rfl ?_
      refine PW_iload_n c_W_law_334 rfl ?_
      refine PW_iconst (v := 2) c_W_law_335 (by decide) ?_
      refine PW_iadd c_W_law_336 ?_
      refine PW_scald (q := 6 * t + 2) c_W_law_337 (by rw [(show nI (6 * t) + 2 = nI (6 * t + 2) from nI_add (6 * t) 2)]; exact sc_in (z := z) hz (by omega)) (by rw [(show nI (6 * t) + 2 = nI (6 * t + 2) from nI_add (6 * t) 2)]; exact nI_clamp (by omega)) ?_
      show PW _ _ _ 338 [some (.ref 4), some (.ref 5), some (.ref 70), some (.int (nI (6 * t)))] [.int (z.2 (6 * t + 2)), .int (z.2 (6 * t + 1)), .ref 5] (E x y)
      obtain ⟨r, x1, y1, hI1, hX, hM⟩ := op_of (a1 := z.2 (6 * t + 1)) (a2 := z.2 (6 * t + 2)) hI (by omega)
      refine PW_V0 (d2 := 90) (st := []) [.int (z.2 (6 * t + 1)), .int (z.2 (6 * t + 2))] c_W_law_338 lk_W_law_27 (po_5 _ _) rfl rfl rfl (Nat.le_of_ble_eq_true rfl) (by first | decide | omega) (Nat.le_of_ble_eq_true rfl) ?_
      refine hX ?_
      show PW _ _ _ 341 [some (.ref 4), some (.ref 5), some (.ref 70), some (.int (nI (6 * t)))] [.int r] (E x1 y)
      refine PW_aload_n c_W_law_341 rfl ?_
      refine PW_aload_n c_W_law_342 rfl ?_
      refine PW_iload_n c_W_law_343 rfl ?_
      refine PW_iconst (v := 1) c_W_law_344 (by decide) ?_
      refine PW_iadd c_W_law_345 ?_
      refine PW_scald (q := 6 * t + 1) c_W_law_346 (by rw [(show nI (6 * t) + 1 = nI (6 * t + 1) from nI_add (6 * t) 1)]; exact sc_in (z := z) hz (by omega)) (by rw [(show nI (6 * t) + 1 = nI (6 * t + 1) from nI_add (6 * t) 1)]; exact nI_clamp (by omega)) ?_
      show PW _ _ _ 347 [some (.ref 4), some (.ref 5), some (.ref 70), some (.int (nI (6 * t)))] [.int (z.2 (6 * t + 1)), .ref 70, .int r] (E x1 y)
      refine PW_aload_n c_W_law_347 rfl ?_
      refine PW_iload_n c_W_law_348 rfl ?_
      refine PW_iconst (v := 2) c_W_law_349 (by decide) ?_
      refine PW_iadd c_W_law_350 ?_
      refine PW_scald (q := 6 * t + 2) c_W_law_351 (by rw [(show nI (6 * t) + 2 = nI (6 * t + 2) from nI_add (6 * t) 2)]; exact sc_in (z := z) hz (by omega)) (by rw [(show nI (6 * t) + 2 = nI (6 * t + 2) from nI_add (6 * t) 2)]; exact nI_clamp (by omega)) ?_
      show PW _ _ _ 352 [some (.ref 4), some (.ref 5), some (.ref 70), some (.int (nI (6 * t)))] [.int (z.2 (6 * t + 2)), .int (z.2 (6 * t + 1)), .ref 70, .int r] (E x1 y)
      refine PW_V0 (d2 := 90) (st := [.int r]) [.int (z.2 (6 * t + 1)), .int (z.2 (6 * t + 2))] c_W_law_352 lk_W_law_30 (po_70 _ _) rfl rfl rfl (Nat.le_of_ble_eq_true rfl) (by first | decide | omega) (Nat.le_of_ble_eq_true rfl) ?_
      refine hM ?_
      show PW _ _ _ 355 [some (.ref 4), some (.ref 5), some (.ref 70), some (.int (nI (6 * t)))] [.int r, .int r] (E x1 y1)
      refine PW_icmp_eq c_W_law_355 (fun _ => ?_) (fun h8 => absurd rfl h8)
      refine PW_iinc (i := 3) (v := (nI (6 * t)) + 6) (L2 := [some (.ref 4), some (.ref 5), some (.ref 70), some (.int ((nI (6 * t)) + 6))]) c_W_law_1419 rfl (iinc_v (by decide)) (Nat.le_of_ble_eq_true rfl) rfl rfl ?_
      refine PW_goto c_W_law_1422 ?_
      refine PW.eqL ?_ rfl rfl (ih (t + 1) (by omega) hI1)
      show ([some (.ref 4), some (.ref 5), some (.ref 70), some (.int ((nI (6 * t)) + 6))] : List (Option Value)) = [some (.ref 4), some (.ref 5), some (.ref 70), some (.int (nI (6 * (t + 1))))]
      rw [show nI (6 * t) + 6 = nI (6 * (t + 1)) from nI_add (6 * t) 6]
    by_cases h9 : (z.2 (6 * t)) &&& 63 = 4
    · refine PW_tableIn (tgt := 360) (off := 327) c_W_law_33 (by rw [h9]; decide) (by rw [h9]; decide) (by rw [h9]; rfl) rfl ?_
      refine PW_aload_n c_W_law_360 rfl ?_
      refine PW_aload_n c_W_law_361 rfl ?_
      refine PW_iload_n c_W_law_362 rfl ?_
      refine PW_iconst (v := 1) c_W_law_363 (by decide) ?_
      refine PW_iadd c_W_law_364 ?_
      refine PW_scald (q := 6 * t + 1) c_W_law_365 (by rw [(show nI (6 * t) + 1 = nI (6 * t + 1) from nI_add (6 * t) 1)]; exact sc_in (z := z) hz (by omega)) (by rw [(show nI (6 * t) + 1 = nI (6 * t + 1) from nI_add (6 * t) 1)]; exact nI_clamp (by omega)) ?_
      show PW _ _ _ 366 [some (.ref 4), some (.ref 5), some (.ref 70), some (.int (nI (6 * t)))] [.int (z.2 (6 * t + 1)), .ref 5] (E x y)
      refine PW_aload_n c_W_law_366 rfl ?_
      refine PW_iload_n c_W_law_367 rfl ?_
      refine PW_iconst (v := 2) c_W_law_368 (by decide) ?_
      refine PW_iadd c_W_law_369 ?_
      refine PW_scald (q := 6 * t + 2) c_W_law_370 (by rw [(show nI (6 * t) + 2 = nI (6 * t + 2) from nI_add (6 * t) 2)]; exact sc_in (z := z) hz (by omega)) (by rw [(show nI (6 * t) + 2 = nI (6 * t + 2) from nI_add (6 * t) 2)]; exact nI_clamp (by omega)) ?_
      show PW _ _ _ 371 [some (.ref 4), some (.ref 5), some (.ref 70), some (.int (nI (6 * t)))] [.int (z.2 (6 * t + 2)), .int (z.2 (6 * t + 1)), .ref 5] (E x y)
      obtain ⟨r, x1, y1, hI1, hX, hM⟩ := op_at (a1 := z.2 (6 * t + 1)) (a2 := z.2 (6 * t + 2)) hI (by omega)
      refine PW_V0 (d2 := 90) (st := []) [.int (z.2 (6 * t + 1)), .int (z.2 (6 * t + 2))] c_W_law_371 lk_W_law_31 (po_5 _ _) rfl rfl rfl (Nat.le_of_ble_eq_true rfl) (by first | decide | omega) (Nat.le_of_ble_eq_true rfl) ?_
      refine hX ?_
      show PW _ _ _ 374 [some (.ref 4), some (.ref 5), some (.ref 70), some (.int (nI (6 * t)))] [.int r] (E x1 y)
      refine PW_aload_n c_W_law_374 rfl ?_
      refine PW_aload_n c_W_law_375 rfl ?_
      refine PW_iload_n c_W_law_376 rfl ?_
      refine PW_iconst (v := 1) c_W_law_377 (by decide) ?_
      refine PW_iadd c_W_law_378 ?_
      refine PW_scald (q := 6 * t + 1) c_W_law_379 (by rw [(show nI (6 * t) + 1 = nI (6 * t + 1) from nI_add (6 * t) 1)]; exact sc_in (z := z) hz (by omega)) (by rw [(show nI (6 * t) + 1 = nI (6 * t + 1) from nI_add (6 * t) 1)]; exact nI_clamp (by omega)) ?_
      show PW _ _ _ 380 [some (.ref 4), some (.ref 5), some (.ref 70), some (.int (nI (6 * t)))] [.int (z.2 (6 * t + 1)), .ref 70, .int r] (E x1 y)
      refine PW_aload_n c_W_law_380 rfl ?_
      refine PW_iload_n c_W_law_381 rfl ?_
      refine PW_iconst (v := 2) c_W_law_382 (by decide) ?_
      refine PW_iadd c_W_law_383 ?_
      refine PW_scald (q := 6 * t + 2) c_W_law_384 (by rw [(show nI (6 * t) + 2 = nI (6 * t + 2) from nI_add (6 * t) 2)]; exact sc_in (z := z) hz (by omega)) (by rw [(show nI (6 * t) + 2 = nI (6 * t + 2) from nI_add (6 * t) 2)]; exact nI_clamp (by omega)) ?_
      show PW _ _ _ 385 [some (.ref 4), some (.ref 5), some (.ref 70), some (.int (nI (6 * t)))] [.int (z.2 (6 * t + 2)), .int (z.2 (6 * t + 1)), .ref 70, .int r] (E x1 y)
      refine PW_V0 (d2 := 90) (st := [.int r]) [.int (z.2 (6 * t + 1)), .int (z.2 (6 * t + 2))] c_W_law_385 lk_W_law_34 (po_70 _ _) rfl rfl rfl (Nat.le_of_ble_eq_true rfl) (by first | decide | omega) (Nat.le_of_ble_eq_true rfl) ?_
      refine hM ?_
      show PW _ _ _ 388 [some (.ref 4), some (.ref 5), some (.ref 70), some (.int (nI (6 * t)))] [.int r, .int r] (E x1 y1)
      refine PW_icmp_eq c_W_law_388 (fun _ => ?_) (fun h10 => absurd rfl h10)
      refine PW_iinc (i := 3) (v := (nI (6 * t)) + 6) (L2 := [some (.ref 4), some (.ref 5), some (.ref 70), some (.int ((nI (6 * t)) + 6))]) c_W_law_1419 rfl (iinc_v (by decide)) (Nat.le_of_ble_eq_true rfl) rfl rfl ?_
      refine PW_goto c_W_law_1422 ?_
      refine PW.eqL ?_ rfl rfl (ih (t + 1) (by omega) hI1)
      show ([some (.ref 4), some (.ref 5), some (.ref 70), some (.int ((nI (6 * t)) + 6))] : List (Option Value)) = [some (.ref 4), some (.ref 5), some (.ref 70), some (.int (nI (6 * (t + 1))))]
      rw [show nI (6 * t) + 6 = nI (6 * (t + 1)) from nI_add (6 * t) 6]
    by_cases h11 : (z.2 (6 * t)) &&& 63 = 5
    · refine PW_tableIn (tgt := 393) (off := 360) c_W_law_33 (by rw [h11]; decide) (by rw [h11]; decide) (by rw [h11]; rfl) rfl ?_
      refine PW_aload_n c_W_law_393 rfl ?_
      refine PW_aload_n c_W_law_394 rfl ?_
      refine PW_iload_n c_W_law_395 rfl ?_
      refine PW_iconst (v := 1) c_W_law_396 (by decide) ?_
      refine PW_iadd c_W_law_397 ?_
      refine PW_scald (q := 6 * t + 1) c_W_law_398 (by rw [(show nI (6 * t) + 1 = nI (6 * t + 1) from nI_add (6 * t) 1)]; exact sc_in (z := z) hz (by omega)) (by rw [(show nI (6 * t) + 1 = nI (6 * t + 1) from nI_add (6 * t) 1)]; exact nI_clamp (by omega)) ?_
      show PW _ _ _ 399 [some (.ref 4), some (.ref 5), some (.ref 70), some (.int (nI (6 * t)))] [.int (z.2 (6 * t + 1)), .ref 5] (E x y)
      refine PW_aload_n c_W_law_399 rfl ?_
      refine PW_iload_n c_W_law_400 rfl ?_
      refine PW_iconst (v := 2) c_W_law_401 (by decide) ?_
      refine PW_iadd c_W_law_402 ?_
      refine PW_scald (q := 6 * t + 2) c_W_law_403 (by rw [(show nI (6 * t) + 2 = nI (6 * t + 2) from nI_add (6 * t) 2)]; exact sc_in (z := z) hz (by omega)) (by rw [(show nI (6 * t) + 2 = nI (6 * t + 2) from nI_add (6 * t) 2)]; exact nI_clamp (by omega)) ?_
      show PW _ _ _ 404 [some (.ref 4), some (.ref 5), some (.ref 70), some (.int (nI (6 * t)))] [.int (z.2 (6 * t + 2)), .int (z.2 (6 * t + 1)), .ref 5] (E x y)
      obtain ⟨r, x1, y1, hI1, hX, hM⟩ := op_in (a1 := z.2 (6 * t + 1)) (a2 := z.2 (6 * t + 2)) hI (by omega)
      refine PW_V0 (d2 := 90) (st := []) [.int (z.2 (6 * t + 1)), .int (z.2 (6 * t + 2))] c_W_law_404 lk_W_law_35 (po_5 _ _) rfl rfl rfl (Nat.le_of_ble_eq_true rfl) (by first | decide | omega) (Nat.le_of_ble_eq_true rfl) ?_
      refine hX ?_
      show PW _ _ _ 407 [some (.ref 4), some (.ref 5), some (.ref 70), some (.int (nI (6 * t)))] [.int r] (E x1 y)
      refine PW_aload_n c_W_law_407 rfl ?_
      refine PW_aload_n c_W_law_408 rfl ?_
      refine PW_iload_n c_W_law_409 rfl ?_
      refine PW_iconst (v := 1) c_W_law_410 (by decide) ?_
      refine PW_iadd c_W_law_411 ?_
      refine PW_scald (q := 6 * t + 1) c_W_law_412 (by rw [(show nI (6 * t) + 1 = nI (6 * t + 1) from nI_add (6 * t) 1)]; exact sc_in (z := z) hz (by omega)) (by rw [(show nI (6 * t) + 1 = nI (6 * t + 1) from nI_add (6 * t) 1)]; exact nI_clamp (by omega)) ?_
      show PW _ _ _ 413 [some (.ref 4), some (.ref 5), some (.ref 70), some (.int (nI (6 * t)))] [.int (z.2 (6 * t + 1)), .ref 70, .int r] (E x1 y)
      refine PW_aload_n c_W_law_413 rfl ?_
      refine PW_iload_n c_W_law_414 rfl ?_
      refine PW_iconst (v := 2) c_W_law_415 (by decide) ?_
      refine PW_iadd c_W_law_416 ?_
      refine PW_scald (q := 6 * t + 2) c_W_law_417 (by rw [(show nI (6 * t) + 2 = nI (6 * t + 2) from nI_add (6 * t) 2)]; exact sc_in (z := z) hz (by omega)) (by rw [(show nI (6 * t) + 2 = nI (6 * t + 2) from nI_add (6 * t) 2)]; exact nI_clamp (by omega)) ?_
      show PW _ _ _ 418 [some (.ref 4), some (.ref 5), some (.ref 70), some (.int (nI (6 * t)))] [.int (z.2 (6 * t + 2)), .int (z.2 (6 * t + 1)), .ref 70, .int r] (E x1 y)
      refine PW_V0 (d2 := 90) (st := [.int r]) [.int (z.2 (6 * t + 1)), .int (z.2 (6 * t + 2))] c_W_law_418 lk_W_law_38 (po_70 _ _) rfl rfl rfl (Nat.le_of_ble_eq_true rfl) (by first | decide | omega) (Nat.le_of_ble_eq_true rfl) ?_
      refine hM ?_
      show PW _ _ _ 421 [some (.ref 4), some (.ref 5), some (.ref 70), some (.int (nI (6 * t)))] [.int r, .int r] (E x1 y1)
      refine PW_icmp_eq c_W_law_421 (fun _ => ?_) (fun h12 => absurd rfl h12)
      refine PW_iinc (i := 3) (v := (nI (6 * t)) + 6) (L2 := [some (.ref 4), some (.ref 5), some (.ref 70), some (.int ((nI (6 * t)) + 6))]) c_W_law_1419 rfl (iinc_v (by decide)) (Nat.le_of_ble_eq_true rfl) rfl rfl ?_
      refine PW_goto c_W_law_1422 ?_
      refine PW.eqL ?_ rfl rfl (ih (t + 1) (by omega) hI1)
      show ([some (.ref 4), some (.ref 5), some (.ref 70), some (.int ((nI (6 * t)) + 6))] : List (Option Value)) = [some (.ref 4), some (.ref 5), some (.ref 70), some (.int (nI (6 * (t + 1))))]
      rw [show nI (6 * t) + 6 = nI (6 * (t + 1)) from nI_add (6 * t) 6]
    by_cases h13 : (z.2 (6 * t)) &&& 63 = 6
    · refine PW_tableIn (tgt := 426) (off := 393) c_W_law_33 (by rw [h13]; decide) (by rw [h13]; decide) (by rw [h13]; rfl) rfl ?_
      refine PW_aload_n c_W_law_426 rfl ?_
      refine PW_aload_n c_W_law_427 rfl ?_
      refine PW_iload_n c_W_law_428 rfl ?_
      refine PW_iconst (v := 1) c_W_law_429 (by decide) ?_
      refine PW_iadd c_W_law_430 ?_
      refine PW_scald (q := 6 * t + 1) c_W_law_431 (by rw [(show nI (6 * t) + 1 = nI (6 * t + 1) from nI_add (6 * t) 1)]; exact sc_in (z := z) hz (by omega)) (by rw [(show nI (6 * t) + 1 = nI (6 * t + 1) from nI_add (6 * t) 1)]; exact nI_clamp (by omega)) ?_
      show PW _ _ _ 432 [some (.ref 4), some (.ref 5), some (.ref 70), some (.int (nI (6 * t)))] [.int (z.2 (6 * t + 1)), .ref 5] (E x y)
      obtain ⟨r, x1, y1, hI1, hX, hM⟩ := op_feed (a1 := z.2 (6 * t + 1)) hI (by omega)
      refine PW_V0 (d2 := 90) (st := []) [.int (z.2 (6 * t + 1))] c_W_law_432 lk_W_law_39 (po_5 _ _) rfl rfl rfl (Nat.le_of_ble_eq_true rfl) (by first | decide | omega) (Nat.le_of_ble_eq_true rfl) ?_
      refine hX ?_
      show PW _ _ _ 435 [some (.ref 4), some (.ref 5), some (.ref 70), some (.int (nI (6 * t)))] [.int r] (E x1 y)
      refine PW_aload_n c_W_law_435 rfl ?_
      refine PW_aload_n c_W_law_436 rfl ?_
      refine PW_iload_n c_W_law_437 rfl ?_
      refine PW_iconst (v := 1) c_W_law_438 (by decide) ?_
      refine PW_iadd c_W_law_439 ?_
      refine PW_scald (q := 6 * t + 1) c_W_law_440 (by rw [(show nI (6 * t) + 1 = nI (6 * t + 1) from nI_add (6 * t) 1)]; exact sc_in (z := z) hz (by omega)) (by rw [(show nI (6 * t) + 1 = nI (6 * t + 1) from nI_add (6 * t) 1)]; exact nI_clamp (by omega)) ?_
      show PW _ _ _ 441 [some (.ref 4), some (.ref 5), some (.ref 70), some (.int (nI (6 * t)))] [.int (z.2 (6 * t + 1)), .ref 70, .int r] (E x1 y)
      refine PW_V0 (d2 := 90) (st := [.int r]) [.int (z.2 (6 * t + 1))] c_W_law_441 lk_W_law_43 (po_70 _ _) rfl rfl rfl (Nat.le_of_ble_eq_true rfl) (by first | decide | omega) (Nat.le_of_ble_eq_true rfl) ?_
      refine hM ?_
      show PW _ _ _ 444 [some (.ref 4), some (.ref 5), some (.ref 70), some (.int (nI (6 * t)))] [.int r, .int r] (E x1 y1)
      refine PW_icmp_eq c_W_law_444 (fun _ => ?_) (fun h14 => absurd rfl h14)
      refine PW_iinc (i := 3) (v := (nI (6 * t)) + 6) (L2 := [some (.ref 4), some (.ref 5), some (.ref 70), some (.int ((nI (6 * t)) + 6))]) c_W_law_1419 rfl (iinc_v (by decide)) (Nat.le_of_ble_eq_true rfl) rfl rfl ?_
      refine PW_goto c_W_law_1422 ?_
      refine PW.eqL ?_ rfl rfl (ih (t + 1) (by omega) hI1)
      show ([some (.ref 4), some (.ref 5), some (.ref 70), some (.int ((nI (6 * t)) + 6))] : List (Option Value)) = [some (.ref 4), some (.ref 5), some (.ref 70), some (.int (nI (6 * (t + 1))))]
      rw [show nI (6 * t) + 6 = nI (6 * (t + 1)) from nI_add (6 * t) 6]
    by_cases h15 : (z.2 (6 * t)) &&& 63 = 7
    · refine PW_tableIn (tgt := 449) (off := 416) c_W_law_33 (by rw [h15]; decide) (by rw [h15]; decide) (by rw [h15]; rfl) rfl ?_
      refine PW_aload_n c_W_law_449 rfl ?_
      obtain ⟨r, x1, y1, hI1, hX, hM⟩ := op_law  hI (by omega)
      refine PW_V0 (d2 := 90) (st := []) [] c_W_law_450 lk_W_law_44 (po_5 _ _) rfl rfl rfl (Nat.le_of_ble_eq_true rfl) (by first | decide | omega) (Nat.le_of_ble_eq_true rfl) ?_
      refine hX ?_
      show PW _ _ _ 453 [some (.ref 4), some (.ref 5), some (.ref 70), some (.int (nI (6 * t)))] [.int r] (E x1 y)
      refine PW_aload_n c_W_law_453 rfl ?_
      refine PW_V0 (d2 := 90) (st := [.int r]) [] c_W_law_454 lk_W_law_48 (po_70 _ _) rfl rfl rfl (Nat.le_of_ble_eq_true rfl) (by first | decide | omega) (Nat.le_of_ble_eq_true rfl) ?_
      refine hM ?_
      show PW _ _ _ 457 [some (.ref 4), some (.ref 5), some (.ref 70), some (.int (nI (6 * t)))] [.int r, .int r] (E x1 y1)
      refine PW_icmp_eq c_W_law_457 (fun _ => ?_) (fun h16 => absurd rfl h16)
      refine PW_iinc (i := 3) (v := (nI (6 * t)) + 6) (L2 := [some (.ref 4), some (.ref 5), some (.ref 70), some (.int ((nI (6 * t)) + 6))]) c_W_law_1419 rfl (iinc_v (by decide)) (Nat.le_of_ble_eq_true rfl) rfl rfl ?_
      refine PW_goto c_W_law_1422 ?_
      refine PW.eqL ?_ rfl rfl (ih (t + 1) (by omega) hI1)
      show ([some (.ref 4), some (.ref 5), some (.ref 70), some (.int ((nI (6 * t)) + 6))] : List (Option Value)) = [some (.ref 4), some (.ref 5), some (.ref 70), some (.int (nI (6 * (t + 1))))]
      rw [show nI (6 * t) + 6 = nI (6 * (t + 1)) from nI_add (6 * t) 6]
    by_cases h17 : (z.2 (6 * t)) &&& 63 = 8
    · refine PW_tableIn (tgt := 462) (off := 429) c_W_law_33 (by rw [h17]; decide) (by rw [h17]; decide) (by rw [h17]; rfl) rfl ?_
      refine PW_aload_n c_W_law_462 rfl ?_
      refine PW_aload_n c_W_law_463 rfl ?_
      refine PW_iload_n c_W_law_464 rfl ?_
      refine PW_iconst (v := 1) c_W_law_465 (by decide) ?_
      refine PW_iadd c_W_law_466 ?_
      refine PW_scald (q := 6 * t + 1) c_W_law_467 (by rw [(show nI (6 * t) + 1 = nI (6 * t + 1) from nI_add (6 * t) 1)]; exact sc_in (z := z) hz (by omega)) (by rw [(show nI (6 * t) + 1 = nI (6 * t + 1) from nI_add (6 * t) 1)]; exact nI_clamp (by omega)) ?_
      show PW _ _ _ 468 [some (.ref 4), some (.ref 5), some (.ref 70), some (.int (nI (6 * t)))] [.int (z.2 (6 * t + 1)), .ref 5] (E x y)
      refine PW_aload_n c_W_law_468 rfl ?_
      refine PW_iload_n c_W_law_469 rfl ?_
      refine PW_iconst (v := 2) c_W_law_470 (by decide) ?_
      refine PW_iadd c_W_law_471 ?_
      refine PW_scald (q := 6 * t + 2) c_W_law_472 (by rw [(show nI (6 * t) + 2 = nI (6 * t + 2) from nI_add (6 * t) 2)]; exact sc_in (z := z) hz (by omega)) (by rw [(show nI (6 * t) + 2 = nI (6 * t + 2) from nI_add (6 * t) 2)]; exact nI_clamp (by omega)) ?_
      show PW _ _ _ 473 [some (.ref 4), some (.ref 5), some (.ref 70), some (.int (nI (6 * t)))] [.int (z.2 (6 * t + 2)), .int (z.2 (6 * t + 1)), .ref 5] (E x y)
      refine PW_aload_n c_W_law_473 rfl ?_
      refine PW_iload_n c_W_law_474 rfl ?_
      refine PW_iconst (v := 3) c_W_law_475 (by decide) ?_
      refine PW_iadd c_W_law_476 ?_
      refine PW_scald (q := 6 * t + 3) c_W_law_477 (by rw [(show nI (6 * t) + 3 = nI (6 * t + 3) from nI_add (6 * t) 3)]; exact sc_in (z := z) hz (by omega)) (by rw [(show nI (6 * t) + 3 = nI (6 * t + 3) from nI_add (6 * t) 3)]; exact nI_clamp (by omega)) ?_
      show PW _ _ _ 478 [some (.ref 4), some (.ref 5), some (.ref 70), some (.int (nI (6 * t)))] [.int (z.2 (6 * t + 3)), .int (z.2 (6 * t + 2)), .int (z.2 (6 * t + 1)), .ref 5] (E x y)
      obtain ⟨r, x1, y1, hI1, hX, hM⟩ := op_round (a1 := z.2 (6 * t + 1)) (a2 := z.2 (6 * t + 2)) (a3 := z.2 (6 * t + 3)) hI (by omega)
      refine PW_V0 (d2 := 90) (st := []) [.int (z.2 (6 * t + 1)), .int (z.2 (6 * t + 2)), .int (z.2 (6 * t + 3))] c_W_law_478 lk_W_law_49 (po_5 _ _) rfl rfl rfl (Nat.le_of_ble_eq_true rfl) (by first | decide | omega) (Nat.le_of_ble_eq_true rfl) ?_
      refine hX ?_
      show PW _ _ _ 481 [some (.ref 4), some (.ref 5), some (.ref 70), some (.int (nI (6 * t)))] [.int r] (E x1 y)
      refine PW_aload_n c_W_law_481 rfl ?_
      refine PW_aload_n c_W_law_482 rfl ?_
      refine PW_iload_n c_W_law_483 rfl ?_
      refine PW_iconst (v := 1) c_W_law_484 (by decide) ?_
      refine PW_iadd c_W_law_485 ?_
      refine PW_scald (q := 6 * t + 1) c_W_law_486 (by rw [(show nI (6 * t) + 1 = nI (6 * t + 1) from nI_add (6 * t) 1)]; exact sc_in (z := z) hz (by omega)) (by rw [(show nI (6 * t) + 1 = nI (6 * t + 1) from nI_add (6 * t) 1)]; exact nI_clamp (by omega)) ?_
      show PW _ _ _ 487 [some (.ref 4), some (.ref 5), some (.ref 70), some (.int (nI (6 * t)))] [.int (z.2 (6 * t + 1)), .ref 70, .int r] (E x1 y)
      refine PW_aload_n c_W_law_487 rfl ?_
      refine PW_iload_n c_W_law_488 rfl ?_
      refine PW_iconst (v := 2) c_W_law_489 (by decide) ?_
      refine PW_iadd c_W_law_490 ?_
      refine PW_scald (q := 6 * t + 2) c_W_law_491 (by rw [(show nI (6 * t) + 2 = nI (6 * t + 2) from nI_add (6 * t) 2)]; exact sc_in (z := z) hz (by omega)) (by rw [(show nI (6 * t) + 2 = nI (6 * t + 2) from nI_add (6 * t) 2)]; exact nI_clamp (by omega)) ?_
      show PW _ _ _ 492 [some (.ref 4), some (.ref 5), some (.ref 70), some (.int (nI (6 * t)))] [.int (z.2 (6 * t + 2)), .int (z.2 (6 * t + 1)), .ref 70, .int r] (E x1 y)
      refine PW_aload_n c_W_law_492 rfl ?_
      refine PW_iload_n c_W_law_493 rfl ?_
      refine PW_iconst (v := 3) c_W_law_494 (by decide) ?_
      refine PW_iadd c_W_law_495 ?_
      refine PW_scald (q := 6 * t + 3) c_W_law_496 (by rw [(show nI (6 * t) + 3 = nI (6 * t + 3) from nI_add (6 * t) 3)]; exact sc_in (z := z) hz (by omega)) (by rw [(show nI (6 * t) + 3 = nI (6 * t + 3) from nI_add (6 * t) 3)]; exact nI_clamp (by omega)) ?_
      show PW _ _ _ 497 [some (.ref 4), some (.ref 5), some (.ref 70), some (.int (nI (6 * t)))] [.int (z.2 (6 * t + 3)), .int (z.2 (6 * t + 2)), .int (z.2 (6 * t + 1)), .ref 70, .int r] (E x1 y)
      refine PW_V0 (d2 := 90) (st := [.int r]) [.int (z.2 (6 * t + 1)), .int (z.2 (6 * t + 2)), .int (z.2 (6 * t + 3))] c_W_law_497 lk_W_law_52 (po_70 _ _) rfl rfl rfl (Nat.le_of_ble_eq_true rfl) (by first | decide | omega) (Nat.le_of_ble_eq_true rfl) ?_
      refine hM ?_
      show PW _ _ _ 500 [some (.ref 4), some (.ref 5), some (.ref 70), some (.int (nI (6 * t)))] [.int r, .int r] (E x1 y1)
      refine PW_icmp_eq c_W_law_500 (fun _ => ?_) (fun h18 => absurd rfl h18)
      refine PW_iinc (i := 3) (v := (nI (6 * t)) + 6) (L2 := [some (.ref 4), some (.ref 5), some (.ref 70), some (.int ((nI (6 * t)) + 6))]) c_W_law_1419 rfl (iinc_v (by decide)) (Nat.le_of_ble_eq_true rfl) rfl rfl ?_
      refine PW_goto c_W_law_1422 ?_
      refine PW.eqL ?_ rfl rfl (ih (t + 1) (by omega) hI1)
      show ([some (.ref 4), some (.ref 5), some (.ref 70), some (.int ((nI (6 * t)) + 6))] : List (Option Value)) = [some (.ref 4), some (.ref 5), some (.ref 70), some (.int (nI (6 * (t + 1))))]
      rw [show nI (6 * t) + 6 = nI (6 * (t + 1)) from nI_add (6 * t) 6]
    by_cases h19 : (z.2 (6 * t)) &&& 63 = 9
    · refine PW_tableIn (tgt := 505) (off := 472) c_W_law_33 (by rw [h19]; decide) (by rw [h19]; decide) (by rw [h19]; rfl) rfl ?_
      refine PW_aload_n c_W_law_505 rfl ?_
      refine PW_aload_n c_W_law_506 rfl ?_
      refine PW_iload_n c_W_law_507 rfl ?_
      refine PW_iconst (v := 1) c_W_law_508 (by decide) ?_
      refine PW_iadd c_W_law_509 ?_
      refine PW_scald (q := 6 * t + 1) c_W_law_510 (by rw [(show nI (6 * t) + 1 = nI (6 * t + 1) from nI_add (6 * t) 1)]; exact sc_in (z := z) hz (by omega)) (by rw [(show nI (6 * t) + 1 = nI (6 * t + 1) from nI_add (6 * t) 1)]; exact nI_clamp (by omega)) ?_
      show PW _ _ _ 511 [some (.ref 4), some (.ref 5), some (.ref 70), some (.int (nI (6 * t)))] [.int (z.2 (6 * t + 1)), .ref 5] (E x y)
      refine PW_aload_n c_W_law_511 rfl ?_
      refine PW_iload_n c_W_law_512 rfl ?_
      refine PW_iconst (v := 2) c_W_law_513 (by decide) ?_
      refine PW_iadd c_W_law_514 ?_
      refine PW_scald (q := 6 * t + 2) c_W_law_515 (by rw [(show nI (6 * t) + 2 = nI (6 * t + 2) from nI_add (6 * t) 2)]; exact sc_in (z := z) hz (by omega)) (by rw [(show nI (6 * t) + 2 = nI (6 * t + 2) from nI_add (6 * t) 2)]; exact nI_clamp (by omega)) ?_
      show PW _ _ _ 516 [some (.ref 4), some (.ref 5), some (.ref 70), some (.int (nI (6 * t)))] [.int (z.2 (6 * t + 2)), .int (z.2 (6 * t + 1)), .ref 5] (E x y)
      obtain ⟨r, x1, y1, hI1, hX, hM⟩ := op_soonest (a1 := z.2 (6 * t + 1)) (a2 := z.2 (6 * t + 2)) hI (by omega)
      refine PW_V0 (d2 := 90) (st := []) [.int (z.2 (6 * t + 1)), .int (z.2 (6 * t + 2))] c_W_law_516 lk_W_law_53 (po_5 _ _) rfl rfl rfl (Nat.le_of_ble_eq_true rfl) (by first | decide | omega) (Nat.le_of_ble_eq_true rfl) ?_
      refine hX ?_
      show PW _ _ _ 519 [some (.ref 4), some (.ref 5), some (.ref 70), some (.int (nI (6 * t)))] [.int r] (E x1 y)
      refine PW_aload_n c_W_law_519 rfl ?_
      refine PW_aload_n c_W_law_520 rfl ?_
      refine PW_iload_n c_W_law_521 rfl ?_
      refine PW_iconst (v := 1) c_W_law_522 (by decide) ?_
      refine PW_iadd c_W_law_523 ?_
      refine PW_scald (q := 6 * t + 1) c_W_law_524 (by rw [(show nI (6 * t) + 1 = nI (6 * t + 1) from nI_add (6 * t) 1)]; exact sc_in (z := z) hz (by omega)) (by rw [(show nI (6 * t) + 1 = nI (6 * t + 1) from nI_add (6 * t) 1)]; exact nI_clamp (by omega)) ?_
      show PW _ _ _ 525 [some (.ref 4), some (.ref 5), some (.ref 70), some (.int (nI (6 * t)))] [.int (z.2 (6 * t + 1)), .ref 70, .int r] (E x1 y)
      refine PW_aload_n c_W_law_525 rfl ?_
      refine PW_iload_n c_W_law_526 rfl ?_
      refine PW_iconst (v := 2) c_W_law_527 (by decide) ?_
      refine PW_iadd c_W_law_528 ?_
      refine PW_scald (q := 6 * t + 2) c_W_law_529 (by rw [(show nI (6 * t) + 2 = nI (6 * t + 2) from nI_add (6 * t) 2)]; exact sc_in (z := z) hz (by omega)) (by rw [(show nI (6 * t) + 2 = nI (6 * t + 2) from nI_add (6 * t) 2)]; exact nI_clamp (by omega)) ?_
      show PW _ _ _ 530 [some (.ref 4), some (.ref 5), some (.ref 70), some (.int (nI (6 * t)))] [.int (z.2 (6 * t + 2)), .int (z.2 (6 * t + 1)), .ref 70, .int r] (E x1 y)
      refine PW_V0 (d2 := 90) (st := [.int r]) [.int (z.2 (6 * t + 1)), .int (z.2 (6 * t + 2))] c_W_law_530 lk_W_law_56 (po_70 _ _) rfl rfl rfl (Nat.le_of_ble_eq_true rfl) (by first | decide | omega) (Nat.le_of_ble_eq_true rfl) ?_
      refine hM ?_
      show PW _ _ _ 533 [some (.ref 4), some (.ref 5), some (.ref 70), some (.int (nI (6 * t)))] [.int r, .int r] (E x1 y1)
      refine PW_icmp_eq c_W_law_533 (fun _ => ?_) (fun h20 => absurd rfl h20)
      refine PW_iinc (i := 3) (v := (nI (6 * t)) + 6) (L2 := [some (.ref 4), some (.ref 5), some (.ref 70), some (.int ((nI (6 * t)) + 6))]) c_W_law_1419 rfl (iinc_v (by decide)) (Nat.le_of_ble_eq_true rfl) rfl rfl ?_
      refine PW_goto c_W_law_1422 ?_
      refine PW.eqL ?_ rfl rfl (ih (t + 1) (by omega) hI1)
      show ([some (.ref 4), some (.ref 5), some (.ref 70), some (.int ((nI (6 * t)) + 6))] : List (Option Value)) = [some (.ref 4), some (.ref 5), some (.ref 70), some (.int (nI (6 * (t + 1))))]
      rw [show nI (6 * t) + 6 = nI (6 * (t + 1)) from nI_add (6 * t) 6]
    by_cases h21 : (z.2 (6 * t)) &&& 63 = 10
    · refine PW_tableIn (tgt := 538) (off := 505) c_W_law_33 (by rw [h21]; decide) (by rw [h21]; decide) (by rw [h21]; rfl) rfl ?_
      refine PW_aload_n c_W_law_538 rfl ?_
      refine PW_aload_n c_W_law_539 rfl ?_
      refine PW_iload_n c_W_law_540 rfl ?_
      refine PW_iconst (v := 1) c_W_law_541 (by decide) ?_
      refine PW_iadd c_W_law_542 ?_
      refine PW_scald (q := 6 * t + 1) c_W_law_543 (by rw [(show nI (6 * t) + 1 = nI (6 * t + 1) from nI_add (6 * t) 1)]; exact sc_in (z := z) hz (by omega)) (by rw [(show nI (6 * t) + 1 = nI (6 * t + 1) from nI_add (6 * t) 1)]; exact nI_clamp (by omega)) ?_
      show PW _ _ _ 544 [some (.ref 4), some (.ref 5), some (.ref 70), some (.int (nI (6 * t)))] [.int (z.2 (6 * t + 1)), .ref 5] (E x y)
      refine PW_aload_n c_W_law_544 rfl ?_
      refine PW_iload_n c_W_law_545 rfl ?_
      refine PW_iconst (v := 2) c_W_law_546 (by decide) ?_
      refine PW_iadd c_W_law_547 ?_
      refine PW_scald (q := 6 * t + 2) c_W_law_548 (by rw [(show nI (6 * t) + 2 = nI (6 * t + 2) from nI_add (6 * t) 2)]; exact sc_in (z := z) hz (by omega)) (by rw [(show nI (6 * t) + 2 = nI (6 * t + 2) from nI_add (6 * t) 2)]; exact nI_clamp (by omega)) ?_
      show PW _ _ _ 549 [some (.ref 4), some (.ref 5), some (.ref 70), some (.int (nI (6 * t)))] [.int (z.2 (6 * t + 2)), .int (z.2 (6 * t + 1)), .ref 5] (E x y)
      obtain ⟨r, x1, y1, hI1, hX, hM⟩ := op_beginBy (a1 := z.2 (6 * t + 1)) (a2 := z.2 (6 * t + 2)) hI (by omega)
      refine PW_V0 (d2 := 90) (st := []) [.int (z.2 (6 * t + 1)), .int (z.2 (6 * t + 2))] c_W_law_549 lk_W_law_57 (po_5 _ _) rfl rfl rfl (Nat.le_of_ble_eq_true rfl) (by first | decide | omega) (Nat.le_of_ble_eq_true rfl) ?_
      refine hX ?_
      show PW _ _ _ 552 [some (.ref 4), some (.ref 5), some (.ref 70), some (.int (nI (6 * t)))] [.int r] (E x1 y)
      refine PW_aload_n c_W_law_552 rfl ?_
      refine PW_aload_n c_W_law_553 rfl ?_
      refine PW_iload_n c_W_law_554 rfl ?_
      refine PW_iconst (v := 1) c_W_law_555 (by decide) ?_
      refine PW_iadd c_W_law_556 ?_
      refine PW_scald (q := 6 * t + 1) c_W_law_557 (by rw [(show nI (6 * t) + 1 = nI (6 * t + 1) from nI_add (6 * t) 1)]; exact sc_in (z := z) hz (by omega)) (by rw [(show nI (6 * t) + 1 = nI (6 * t + 1) from nI_add (6 * t) 1)]; exact nI_clamp (by omega)) ?_
      show PW _ _ _ 558 [some (.ref 4), some (.ref 5), some (.ref 70), some (.int (nI (6 * t)))] [.int (z.2 (6 * t + 1)), .ref 70, .int r] (E x1 y)
      refine PW_aload_n c_W_law_558 rfl ?_
      refine PW_iload_n c_W_law_559 rfl ?_
      refine PW_iconst (v := 2) c_W_law_560 (by decide) ?_
      refine PW_iadd c_W_law_561 ?_
      refine PW_scald (q := 6 * t + 2) c_W_law_562 (by rw [(show nI (6 * t) + 2 = nI (6 * t + 2) from nI_add (6 * t) 2)]; exact sc_in (z := z) hz (by omega)) (by rw [(show nI (6 * t) + 2 = nI (6 * t + 2) from nI_add (6 * t) 2)]; exact nI_clamp (by omega)) ?_
      show PW _ _ _ 563 [some (.ref 4), some (.ref 5), some (.ref 70), some (.int (nI (6 * t)))] [.int (z.2 (6 * t + 2)), .int (z.2 (6 * t + 1)), .ref 70, .int r] (E x1 y)
      refine PW_V0 (d2 := 90) (st := [.int r]) [.int (z.2 (6 * t + 1)), .int (z.2 (6 * t + 2))] c_W_law_563 lk_W_law_60 (po_70 _ _) rfl rfl rfl (Nat.le_of_ble_eq_true rfl) (by first | decide | omega) (Nat.le_of_ble_eq_true rfl) ?_
      refine hM ?_
      show PW _ _ _ 566 [some (.ref 4), some (.ref 5), some (.ref 70), some (.int (nI (6 * t)))] [.int r, .int r] (E x1 y1)
      refine PW_icmp_eq c_W_law_566 (fun _ => ?_) (fun h22 => absurd rfl h22)
      refine PW_iinc (i := 3) (v := (nI (6 * t)) + 6) (L2 := [some (.ref 4), some (.ref 5), some (.ref 70), some (.int ((nI (6 * t)) + 6))]) c_W_law_1419 rfl (iinc_v (by decide)) (Nat.le_of_ble_eq_true rfl) rfl rfl ?_
      refine PW_goto c_W_law_1422 ?_
      refine PW.eqL ?_ rfl rfl (ih (t + 1) (by omega) hI1)
      show ([some (.ref 4), some (.ref 5), some (.ref 70), some (.int ((nI (6 * t)) + 6))] : List (Option Value)) = [some (.ref 4), some (.ref 5), some (.ref 70), some (.int (nI (6 * (t + 1))))]
      rw [show nI (6 * t) + 6 = nI (6 * (t + 1)) from nI_add (6 * t) 6]
    by_cases h23 : (z.2 (6 * t)) &&& 63 = 11
    · refine PW_tableIn (tgt := 571) (off := 538) c_W_law_33 (by rw [h23]; decide) (by rw [h23]; decide) (by rw [h23]; rfl) rfl ?_
      refine PW_aload_n c_W_law_571 rfl ?_
      refine PW_aload_n c_W_law_572 rfl ?_
      refine PW_iload_n c_W_law_573 rfl ?_
      refine PW_iconst (v := 1) c_W_law_574 (by decide) ?_
      refine PW_iadd c_W_law_575 ?_
      refine PW_scald (q := 6 * t + 1) c_W_law_576 (by rw [(show nI (6 * t) + 1 = nI (6 * t + 1) from nI_add (6 * t) 1)]; exact sc_in (z := z) hz (by omega)) (by rw [(show nI (6 * t) + 1 = nI (6 * t + 1) from nI_add (6 * t) 1)]; exact nI_clamp (by omega)) ?_
      show PW _ _ _ 577 [some (.ref 4), some (.ref 5), some (.ref 70), some (.int (nI (6 * t)))] [.int (z.2 (6 * t + 1)), .ref 5] (E x y)
      refine PW_aload_n c_W_law_577 rfl ?_
      refine PW_iload_n c_W_law_578 rfl ?_
      refine PW_iconst (v := 2) c_W_law_579 (by decide) ?_
      refine PW_iadd c_W_law_580 ?_
      refine PW_scald (q := 6 * t + 2) c_W_law_581 (by rw [(show nI (6 * t) + 2 = nI (6 * t + 2) from nI_add (6 * t) 2)]; exact sc_in (z := z) hz (by omega)) (by rw [(show nI (6 * t) + 2 = nI (6 * t + 2) from nI_add (6 * t) 2)]; exact nI_clamp (by omega)) ?_
      show PW _ _ _ 582 [some (.ref 4), some (.ref 5), some (.ref 70), some (.int (nI (6 * t)))] [.int (z.2 (6 * t + 2)), .int (z.2 (6 * t + 1)), .ref 5] (E x y)
      obtain ⟨r, x1, y1, hI1, hX, hM⟩ := op_slip (a1 := z.2 (6 * t + 1)) (a2 := z.2 (6 * t + 2)) hI (by omega)
      refine PW_V0 (d2 := 90) (st := []) [.int (z.2 (6 * t + 1)), .int (z.2 (6 * t + 2))] c_W_law_582 lk_W_law_61 (po_5 _ _) rfl rfl rfl (Nat.le_of_ble_eq_true rfl) (by first | decide | omega) (Nat.le_of_ble_eq_true rfl) ?_
      refine hX ?_
      show PW _ _ _ 585 [some (.ref 4), some (.ref 5), some (.ref 70), some (.int (nI (6 * t)))] [.int r] (E x1 y)
      refine PW_aload_n c_W_law_585 rfl ?_
      refine PW_aload_n c_W_law_586 rfl ?_
      refine PW_iload_n c_W_law_587 rfl ?_
      refine PW_iconst (v := 1) c_W_law_588 (by decide) ?_
      refine PW_iadd c_W_law_589 ?_
      refine PW_scald (q := 6 * t + 1) c_W_law_590 (by rw [(show nI (6 * t) + 1 = nI (6 * t + 1) from nI_add (6 * t) 1)]; exact sc_in (z := z) hz (by omega)) (by rw [(show nI (6 * t) + 1 = nI (6 * t + 1) from nI_add (6 * t) 1)]; exact nI_clamp (by omega)) ?_
      show PW _ _ _ 591 [some (.ref 4), some (.ref 5), some (.ref 70), some (.int (nI (6 * t)))] [.int (z.2 (6 * t + 1)), .ref 70, .int r] (E x1 y)
      refine PW_aload_n c_W_law_591 rfl ?_
      refine PW_iload_n c_W_law_592 rfl ?_
      refine PW_iconst (v := 2) c_W_law_593 (by decide) ?_
      refine PW_iadd c_W_law_594 ?_
      refine PW_scald (q := 6 * t + 2) c_W_law_595 (by rw [(show nI (6 * t) + 2 = nI (6 * t + 2) from nI_add (6 * t) 2)]; exact sc_in (z := z) hz (by omega)) (by rw [(show nI (6 * t) + 2 = nI (6 * t + 2) from nI_add (6 * t) 2)]; exact nI_clamp (by omega)) ?_
      show PW _ _ _ 596 [some (.ref 4), some (.ref 5), some (.ref 70), some (.int (nI (6 * t)))] [.int (z.2 (6 * t + 2)), .int (z.2 (6 * t + 1)), .ref 70, .int r] (E x1 y)
      refine PW_V0 (d2 := 90) (st := [.int r]) [.int (z.2 (6 * t + 1)), .int (z.2 (6 * t + 2))] c_W_law_596 lk_W_law_64 (po_70 _ _) rfl rfl rfl (Nat.le_of_ble_eq_true rfl) (by first | decide | omega) (Nat.le_of_ble_eq_true rfl) ?_
      refine hM ?_
      show PW _ _ _ 599 [some (.ref 4), some (.ref 5), some (.ref 70), some (.int (nI (6 * t)))] [.int r, .int r] (E x1 y1)
      refine PW_icmp_eq c_W_law_599 (fun _ => ?_) (fun h24 => absurd rfl h24)
      refine PW_iinc (i := 3) (v := (nI (6 * t)) + 6) (L2 := [some (.ref 4), some (.ref 5), some (.ref 70), some (.int ((nI (6 * t)) + 6))]) c_W_law_1419 rfl (iinc_v (by decide)) (Nat.le_of_ble_eq_true rfl) rfl rfl ?_
      refine PW_goto c_W_law_1422 ?_
      refine PW.eqL ?_ rfl rfl (ih (t + 1) (by omega) hI1)
      show ([some (.ref 4), some (.ref 5), some (.ref 70), some (.int ((nI (6 * t)) + 6))] : List (Option Value)) = [some (.ref 4), some (.ref 5), some (.ref 70), some (.int (nI (6 * (t + 1))))]
      rw [show nI (6 * t) + 6 = nI (6 * (t + 1)) from nI_add (6 * t) 6]
    by_cases h25 : (z.2 (6 * t)) &&& 63 = 12
    · refine PW_tableIn (tgt := 604) (off := 571) c_W_law_33 (by rw [h25]; decide) (by rw [h25]; decide) (by rw [h25]; rfl) rfl ?_
      refine PW_aload_n c_W_law_604 rfl ?_
      refine PW_aload_n c_W_law_605 rfl ?_
      refine PW_iload_n c_W_law_606 rfl ?_
      refine PW_iconst (v := 1) c_W_law_607 (by decide) ?_
      refine PW_iadd c_W_law_608 ?_
      refine PW_scald (q := 6 * t + 1) c_W_law_609 (by rw [(show nI (6 * t) + 1 = nI (6 * t + 1) from nI_add (6 * t) 1)]; exact sc_in (z := z) hz (by omega)) (by rw [(show nI (6 * t) + 1 = nI (6 * t + 1) from nI_add (6 * t) 1)]; exact nI_clamp (by omega)) ?_
      show PW _ _ _ 610 [some (.ref 4), some (.ref 5), some (.ref 70), some (.int (nI (6 * t)))] [.int (z.2 (6 * t + 1)), .ref 5] (E x y)
      refine PW_aload_n c_W_law_610 rfl ?_
      refine PW_iload_n c_W_law_611 rfl ?_
      refine PW_iconst (v := 2) c_W_law_612 (by decide) ?_
      refine PW_iadd c_W_law_613 ?_
      refine PW_scald (q := 6 * t + 2) c_W_law_614 (by rw [(show nI (6 * t) + 2 = nI (6 * t + 2) from nI_add (6 * t) 2)]; exact sc_in (z := z) hz (by omega)) (by rw [(show nI (6 * t) + 2 = nI (6 * t + 2) from nI_add (6 * t) 2)]; exact nI_clamp (by omega)) ?_
      show PW _ _ _ 615 [some (.ref 4), some (.ref 5), some (.ref 70), some (.int (nI (6 * t)))] [.int (z.2 (6 * t + 2)), .int (z.2 (6 * t + 1)), .ref 5] (E x y)
      refine PW_aload_n c_W_law_615 rfl ?_
      refine PW_iload_n c_W_law_616 rfl ?_
      refine PW_iconst (v := 3) c_W_law_617 (by decide) ?_
      refine PW_iadd c_W_law_618 ?_
      refine PW_scald (q := 6 * t + 3) c_W_law_619 (by rw [(show nI (6 * t) + 3 = nI (6 * t + 3) from nI_add (6 * t) 3)]; exact sc_in (z := z) hz (by omega)) (by rw [(show nI (6 * t) + 3 = nI (6 * t + 3) from nI_add (6 * t) 3)]; exact nI_clamp (by omega)) ?_
      show PW _ _ _ 620 [some (.ref 4), some (.ref 5), some (.ref 70), some (.int (nI (6 * t)))] [.int (z.2 (6 * t + 3)), .int (z.2 (6 * t + 2)), .int (z.2 (6 * t + 1)), .ref 5] (E x y)
      refine PW_aload_n c_W_law_620 rfl ?_
      refine PW_iload_n c_W_law_621 rfl ?_
      refine PW_iconst (v := 4) c_W_law_622 (by decide) ?_
      refine PW_iadd c_W_law_623 ?_
      refine PW_scald (q := 6 * t + 4) c_W_law_624 (by rw [(show nI (6 * t) + 4 = nI (6 * t + 4) from nI_add (6 * t) 4)]; exact sc_in (z := z) hz (by omega)) (by rw [(show nI (6 * t) + 4 = nI (6 * t + 4) from nI_add (6 * t) 4)]; exact nI_clamp (by omega)) ?_
      show PW _ _ _ 625 [some (.ref 4), some (.ref 5), some (.ref 70), some (.int (nI (6 * t)))] [.int (z.2 (6 * t + 4)), .int (z.2 (6 * t + 3)), .int (z.2 (6 * t + 2)), .int (z.2 (6 * t + 1)), .ref 5] (E x y)
      obtain ⟨r, x1, y1, hI1, hX, hM⟩ := op_pair (a1 := z.2 (6 * t + 1)) (a2 := z.2 (6 * t + 2)) (a3 := z.2 (6 * t + 3)) (a4 := z.2 (6 * t + 4)) hI (by omega)
      refine PW_V0 (d2 := 90) (st := []) [.int (z.2 (6 * t + 1)), .int (z.2 (6 * t + 2)), .int (z.2 (6 * t + 3)), .int (z.2 (6 * t + 4))] c_W_law_625 lk_W_law_65 (po_5 _ _) rfl rfl rfl (Nat.le_of_ble_eq_true rfl) (by first | decide | omega) (Nat.le_of_ble_eq_true rfl) ?_
      refine hX ?_
      show PW _ _ _ 628 [some (.ref 4), some (.ref 5), some (.ref 70), some (.int (nI (6 * t)))] [.int r] (E x1 y)
      refine PW_aload_n c_W_law_628 rfl ?_
      refine PW_aload_n c_W_law_629 rfl ?_
      refine PW_iload_n c_W_law_630 rfl ?_
      refine PW_iconst (v := 1) c_W_law_631 (by decide) ?_
      refine PW_iadd c_W_law_632 ?_
      refine PW_scald (q := 6 * t + 1) c_W_law_633 (by rw [(show nI (6 * t) + 1 = nI (6 * t + 1) from nI_add (6 * t) 1)]; exact sc_in (z := z) hz (by omega)) (by rw [(show nI (6 * t) + 1 = nI (6 * t + 1) from nI_add (6 * t) 1)]; exact nI_clamp (by omega)) ?_
      show PW _ _ _ 634 [some (.ref 4), some (.ref 5), some (.ref 70), some (.int (nI (6 * t)))] [.int (z.2 (6 * t + 1)), .ref 70, .int r] (E x1 y)
      refine PW_aload_n c_W_law_634 rfl ?_
      refine PW_iload_n c_W_law_635 rfl ?_
      refine PW_iconst (v := 2) c_W_law_636 (by decide) ?_
      refine PW_iadd c_W_law_637 ?_
      refine PW_scald (q := 6 * t + 2) c_W_law_638 (by rw [(show nI (6 * t) + 2 = nI (6 * t + 2) from nI_add (6 * t) 2)]; exact sc_in (z := z) hz (by omega)) (by rw [(show nI (6 * t) + 2 = nI (6 * t + 2) from nI_add (6 * t) 2)]; exact nI_clamp (by omega)) ?_
      show PW _ _ _ 639 [some (.ref 4), some (.ref 5), some (.ref 70), some (.int (nI (6 * t)))] [.int (z.2 (6 * t + 2)), .int (z.2 (6 * t + 1)), .ref 70, .int r] (E x1 y)
      refine PW_aload_n c_W_law_639 rfl ?_
      refine PW_iload_n c_W_law_640 rfl ?_
      refine PW_iconst (v := 3) c_W_law_641 (by decide) ?_
      refine PW_iadd c_W_law_642 ?_
      refine PW_scald (q := 6 * t + 3) c_W_law_643 (by rw [(show nI (6 * t) + 3 = nI (6 * t + 3) from nI_add (6 * t) 3)]; exact sc_in (z := z) hz (by omega)) (by rw [(show nI (6 * t) + 3 = nI (6 * t + 3) from nI_add (6 * t) 3)]; exact nI_clamp (by omega)) ?_
      show PW _ _ _ 644 [some (.ref 4), some (.ref 5), some (.ref 70), some (.int (nI (6 * t)))] [.int (z.2 (6 * t + 3)), .int (z.2 (6 * t + 2)), .int (z.2 (6 * t + 1)), .ref 70, .int r] (E x1 y)
      refine PW_aload_n c_W_law_644 rfl ?_
      refine PW_iload_n c_W_law_645 rfl ?_
      refine PW_iconst (v := 4) c_W_law_646 (by decide) ?_
      refine PW_iadd c_W_law_647 ?_
      refine PW_scald (q := 6 * t + 4) c_W_law_648 (by rw [(show nI (6 * t) + 4 = nI (6 * t + 4) from nI_add (6 * t) 4)]; exact sc_in (z := z) hz (by omega)) (by rw [(show nI (6 * t) + 4 = nI (6 * t + 4) from nI_add (6 * t) 4)]; exact nI_clamp (by omega)) ?_
      show PW _ _ _ 649 [some (.ref 4), some (.ref 5), some (.ref 70), some (.int (nI (6 * t)))] [.int (z.2 (6 * t + 4)), .int (z.2 (6 * t + 3)), .int (z.2 (6 * t + 2)), .int (z.2 (6 * t + 1)), .ref 70, .int r] (E x1 y)
      refine PW_V0 (d2 := 90) (st := [.int r]) [.int (z.2 (6 * t + 1)), .int (z.2 (6 * t + 2)), .int (z.2 (6 * t + 3)), .int (z.2 (6 * t + 4))] c_W_law_649 lk_W_law_69 (po_70 _ _) rfl rfl rfl (Nat.le_of_ble_eq_true rfl) (by first | decide | omega) (Nat.le_of_ble_eq_true rfl) ?_
      refine hM ?_
      show PW _ _ _ 652 [some (.ref 4), some (.ref 5), some (.ref 70), some (.int (nI (6 * t)))] [.int r, .int r] (E x1 y1)
      refine PW_icmp_eq c_W_law_652 (fun _ => ?_) (fun h26 => absurd rfl h26)
      refine PW_iinc (i := 3) (v := (nI (6 * t)) + 6) (L2 := [some (.ref 4), some (.ref 5), some (.ref 70), some (.int ((nI (6 * t)) + 6))]) c_W_law_1419 rfl (iinc_v (by decide)) (Nat.le_of_ble_eq_true rfl) rfl rfl ?_
      refine PW_goto c_W_law_1422 ?_
      refine PW.eqL ?_ rfl rfl (ih (t + 1) (by omega) hI1)
      show ([some (.ref 4), some (.ref 5), some (.ref 70), some (.int ((nI (6 * t)) + 6))] : List (Option Value)) = [some (.ref 4), some (.ref 5), some (.ref 70), some (.int (nI (6 * (t + 1))))]
      rw [show nI (6 * t) + 6 = nI (6 * (t + 1)) from nI_add (6 * t) 6]
    by_cases h27 : (z.2 (6 * t)) &&& 63 = 13
    · refine PW_tableIn (tgt := 657) (off := 624) c_W_law_33 (by rw [h27]; decide) (by rw [h27]; decide) (by rw [h27]; rfl) rfl ?_
      refine PW_aload_n c_W_law_657 rfl ?_
      refine PW_aload_n c_W_law_658 rfl ?_
      refine PW_iload_n c_W_law_659 rfl ?_
      refine PW_iconst (v := 1) c_W_law_660 (by decide) ?_
      refine PW_iadd c_W_law_661 ?_
      refine PW_scald (q := 6 * t + 1) c_W_law_662 (by rw [(show nI (6 * t) + 1 = nI (6 * t + 1) from nI_add (6 * t) 1)]; exact sc_in (z := z) hz (by omega)) (by rw [(show nI (6 * t) + 1 = nI (6 * t + 1) from nI_add (6 * t) 1)]; exact nI_clamp (by omega)) ?_
      show PW _ _ _ 663 [some (.ref 4), some (.ref 5), some (.ref 70), some (.int (nI (6 * t)))] [.int (z.2 (6 * t + 1)), .ref 5] (E x y)
      refine PW_aload_n c_W_law_663 rfl ?_
      refine PW_iload_n c_W_law_664 rfl ?_
      refine PW_iconst (v := 2) c_W_law_665 (by decide) ?_
      refine PW_iadd c_W_law_666 ?_
      refine PW_scald (q := 6 * t + 2) c_W_law_667 (by rw [(show nI (6 * t) + 2 = nI (6 * t + 2) from nI_add (6 * t) 2)]; exact sc_in (z := z) hz (by omega)) (by rw [(show nI (6 * t) + 2 = nI (6 * t + 2) from nI_add (6 * t) 2)]; exact nI_clamp (by omega)) ?_
      show PW _ _ _ 668 [some (.ref 4), some (.ref 5), some (.ref 70), some (.int (nI (6 * t)))] [.int (z.2 (6 * t + 2)), .int (z.2 (6 * t + 1)), .ref 5] (E x y)
      obtain ⟨r, x1, y1, hI1, hX, hM⟩ := op_coats (a1 := z.2 (6 * t + 1)) (a2 := z.2 (6 * t + 2)) hI (by omega)
      refine PW_V0 (d2 := 90) (st := []) [.int (z.2 (6 * t + 1)), .int (z.2 (6 * t + 2))] c_W_law_668 lk_W_law_70 (po_5 _ _) rfl rfl rfl (Nat.le_of_ble_eq_true rfl) (by first | decide | omega) (Nat.le_of_ble_eq_true rfl) ?_
      refine hX ?_
      show PW _ _ _ 671 [some (.ref 4), some (.ref 5), some (.ref 70), some (.int (nI (6 * t)))] [.int r] (E x1 y)
      refine PW_aload_n c_W_law_671 rfl ?_
      refine PW_aload_n c_W_law_672 rfl ?_
      refine PW_iload_n c_W_law_673 rfl ?_
      refine PW_iconst (v := 1) c_W_law_674 (by decide) ?_
      refine PW_iadd c_W_law_675 ?_
      refine PW_scald (q := 6 * t + 1) c_W_law_676 (by rw [(show nI (6 * t) + 1 = nI (6 * t + 1) from nI_add (6 * t) 1)]; exact sc_in (z := z) hz (by omega)) (by rw [(show nI (6 * t) + 1 = nI (6 * t + 1) from nI_add (6 * t) 1)]; exact nI_clamp (by omega)) ?_
      show PW _ _ _ 677 [some (.ref 4), some (.ref 5), some (.ref 70), some (.int (nI (6 * t)))] [.int (z.2 (6 * t + 1)), .ref 70, .int r] (E x1 y)
      refine PW_aload_n c_W_law_677 rfl ?_
      refine PW_iload_n c_W_law_678 rfl ?_
      refine PW_iconst (v := 2) c_W_law_679 (by decide) ?_
      refine PW_iadd c_W_law_680 ?_
      refine PW_scald (q := 6 * t + 2) c_W_law_681 (by rw [(show nI (6 * t) + 2 = nI (6 * t + 2) from nI_add (6 * t) 2)]; exact sc_in (z := z) hz (by omega)) (by rw [(show nI (6 * t) + 2 = nI (6 * t + 2) from nI_add (6 * t) 2)]; exact nI_clamp (by omega)) ?_
      show PW _ _ _ 682 [some (.ref 4), some (.ref 5), some (.ref 70), some (.int (nI (6 * t)))] [.int (z.2 (6 * t + 2)), .int (z.2 (6 * t + 1)), .ref 70, .int r] (E x1 y)
      refine PW_V0 (d2 := 90) (st := [.int r]) [.int (z.2 (6 * t + 1)), .int (z.2 (6 * t + 2))] c_W_law_682 lk_W_law_73 (po_70 _ _) rfl rfl rfl (Nat.le_of_ble_eq_true rfl) (by first | decide | omega) (Nat.le_of_ble_eq_true rfl) ?_
      refine hM ?_
      show PW _ _ _ 685 [some (.ref 4), some (.ref 5), some (.ref 70), some (.int (nI (6 * t)))] [.int r, .int r] (E x1 y1)
      refine PW_icmp_eq c_W_law_685 (fun _ => ?_) (fun h28 => absurd rfl h28)
      refine PW_iinc (i := 3) (v := (nI (6 * t)) + 6) (L2 := [some (.ref 4), some (.ref 5), some (.ref 70), some (.int ((nI (6 * t)) + 6))]) c_W_law_1419 rfl (iinc_v (by decide)) (Nat.le_of_ble_eq_true rfl) rfl rfl ?_
      refine PW_goto c_W_law_1422 ?_
      refine PW.eqL ?_ rfl rfl (ih (t + 1) (by omega) hI1)
      show ([some (.ref 4), some (.ref 5), some (.ref 70), some (.int ((nI (6 * t)) + 6))] : List (Option Value)) = [some (.ref 4), some (.ref 5), some (.ref 70), some (.int (nI (6 * (t + 1))))]
      rw [show nI (6 * t) + 6 = nI (6 * (t + 1)) from nI_add (6 * t) 6]
    by_cases h29 : (z.2 (6 * t)) &&& 63 = 14
    · refine PW_tableIn (tgt := 690) (off := 657) c_W_law_33 (by rw [h29]; decide) (by rw [h29]; decide) (by rw [h29]; rfl) rfl ?_
      refine PW_aload_n c_W_law_690 rfl ?_
      refine PW_aload_n c_W_law_691 rfl ?_
      refine PW_iload_n c_W_law_692 rfl ?_
      refine PW_iconst (v := 1) c_W_law_693 (by decide) ?_
      refine PW_iadd c_W_law_694 ?_
      refine PW_scald (q := 6 * t + 1) c_W_law_695 (by rw [(show nI (6 * t) + 1 = nI (6 * t + 1) from nI_add (6 * t) 1)]; exact sc_in (z := z) hz (by omega)) (by rw [(show nI (6 * t) + 1 = nI (6 * t + 1) from nI_add (6 * t) 1)]; exact nI_clamp (by omega)) ?_
      show PW _ _ _ 696 [some (.ref 4), some (.ref 5), some (.ref 70), some (.int (nI (6 * t)))] [.int (z.2 (6 * t + 1)), .ref 5] (E x y)
      obtain ⟨r, x1, y1, hI1, hX, hM⟩ := op_order (a1 := z.2 (6 * t + 1)) hI (by omega)
      refine PW_V0 (d2 := 90) (st := []) [.int (z.2 (6 * t + 1))] c_W_law_696 lk_W_law_74 (po_5 _ _) rfl rfl rfl (Nat.le_of_ble_eq_true rfl) (by first | decide | omega) (Nat.le_of_ble_eq_true rfl) ?_
      refine hX ?_
      show PW _ _ _ 699 [some (.ref 4), some (.ref 5), some (.ref 70), some (.int (nI (6 * t)))] [.int r] (E x1 y)
      refine PW_aload_n c_W_law_699 rfl ?_
      refine PW_aload_n c_W_law_700 rfl ?_
      refine PW_iload_n c_W_law_701 rfl ?_
      refine PW_iconst (v := 1) c_W_law_702 (by decide) ?_
      refine PW_iadd c_W_law_703 ?_
      refine PW_scald (q := 6 * t + 1) c_W_law_704 (by rw [(show nI (6 * t) + 1 = nI (6 * t + 1) from nI_add (6 * t) 1)]; exact sc_in (z := z) hz (by omega)) (by rw [(show nI (6 * t) + 1 = nI (6 * t + 1) from nI_add (6 * t) 1)]; exact nI_clamp (by omega)) ?_
      show PW _ _ _ 705 [some (.ref 4), some (.ref 5), some (.ref 70), some (.int (nI (6 * t)))] [.int (z.2 (6 * t + 1)), .ref 70, .int r] (E x1 y)
      refine PW_V0 (d2 := 90) (st := [.int r]) [.int (z.2 (6 * t + 1))] c_W_law_705 lk_W_law_77 (po_70 _ _) rfl rfl rfl (Nat.le_of_ble_eq_true rfl) (by first | decide | omega) (Nat.le_of_ble_eq_true rfl) ?_
      refine hM ?_
      show PW _ _ _ 708 [some (.ref 4), some (.ref 5), some (.ref 70), some (.int (nI (6 * t)))] [.int r, .int r] (E x1 y1)
      refine PW_icmp_eq c_W_law_708 (fun _ => ?_) (fun h30 => absurd rfl h30)
      refine PW_iinc (i := 3) (v := (nI (6 * t)) + 6) (L2 := [some (.ref 4), some (.ref 5), some (.ref 70), some (.int ((nI (6 * t)) + 6))]) c_W_law_1419 rfl (iinc_v (by decide)) (Nat.le_of_ble_eq_true rfl) rfl rfl ?_
      refine PW_goto c_W_law_1422 ?_
      refine PW.eqL ?_ rfl rfl (ih (t + 1) (by omega) hI1)
      show ([some (.ref 4), some (.ref 5), some (.ref 70), some (.int ((nI (6 * t)) + 6))] : List (Option Value)) = [some (.ref 4), some (.ref 5), some (.ref 70), some (.int (nI (6 * (t + 1))))]
      rw [show nI (6 * t) + 6 = nI (6 * (t + 1)) from nI_add (6 * t) 6]
    by_cases h31 : (z.2 (6 * t)) &&& 63 = 15
    · refine PW_tableIn (tgt := 713) (off := 680) c_W_law_33 (by rw [h31]; decide) (by rw [h31]; decide) (by rw [h31]; rfl) rfl ?_
      refine PW_aload_n c_W_law_713 rfl ?_
      refine PW_aload_n c_W_law_714 rfl ?_
      refine PW_iload_n c_W_law_715 rfl ?_
      refine PW_iconst (v := 1) c_W_law_716 (by decide) ?_
      refine PW_iadd c_W_law_717 ?_
      refine PW_scald (q := 6 * t + 1) c_W_law_718 (by rw [(show nI (6 * t) + 1 = nI (6 * t + 1) from nI_add (6 * t) 1)]; exact sc_in (z := z) hz (by omega)) (by rw [(show nI (6 * t) + 1 = nI (6 * t + 1) from nI_add (6 * t) 1)]; exact nI_clamp (by omega)) ?_
      show PW _ _ _ 719 [some (.ref 4), some (.ref 5), some (.ref 70), some (.int (nI (6 * t)))] [.int (z.2 (6 * t + 1)), .ref 5] (E x y)
      refine PW_aload_n c_W_law_719 rfl ?_
      refine PW_iload_n c_W_law_720 rfl ?_
      refine PW_iconst (v := 2) c_W_law_721 (by decide) ?_
      refine PW_iadd c_W_law_722 ?_
      refine PW_scald (q := 6 * t + 2) c_W_law_723 (by rw [(show nI (6 * t) + 2 = nI (6 * t + 2) from nI_add (6 * t) 2)]; exact sc_in (z := z) hz (by omega)) (by rw [(show nI (6 * t) + 2 = nI (6 * t + 2) from nI_add (6 * t) 2)]; exact nI_clamp (by omega)) ?_
      show PW _ _ _ 724 [some (.ref 4), some (.ref 5), some (.ref 70), some (.int (nI (6 * t)))] [.int (z.2 (6 * t + 2)), .int (z.2 (6 * t + 1)), .ref 5] (E x y)
      obtain ⟨r, x1, y1, hI1, hX, hM⟩ := op_end (a1 := z.2 (6 * t + 1)) (a2 := z.2 (6 * t + 2)) hI (by omega)
      refine PW_V0 (d2 := 90) (st := []) [.int (z.2 (6 * t + 1)), .int (z.2 (6 * t + 2))] c_W_law_724 lk_W_law_78 (po_5 _ _) rfl rfl rfl (Nat.le_of_ble_eq_true rfl) (by first | decide | omega) (Nat.le_of_ble_eq_true rfl) ?_
      refine hX ?_
      show PW _ _ _ 727 [some (.ref 4), some (.ref 5), some (.ref 70), some (.int (nI (6 * t)))] [.int r] (E x1 y)
      refine PW_aload_n c_W_law_727 rfl ?_
      refine PW_aload_n c_W_law_728 rfl ?_
      refine PW_iload_n c_W_law_729 rfl ?_
      refine PW_iconst (v := 1) c_W_law_730 (by decide) ?_
      refine PW_iadd c_W_law_731 ?_
      refine PW_scald (q := 6 * t + 1) c_W_law_732 (by rw [(show nI (6 * t) + 1 = nI (6 * t + 1) from nI_add (6 * t) 1)]; exact sc_in (z := z) hz (by omega)) (by rw [(show nI (6 * t) + 1 = nI (6 * t + 1) from nI_add (6 * t) 1)]; exact nI_clamp (by omega)) ?_
      show PW _ _ _ 733 [some (.ref 4), some (.ref 5), some (.ref 70), some (.int (nI (6 * t)))] [.int (z.2 (6 * t + 1)), .ref 70, .int r] (E x1 y)
      refine PW_aload_n c_W_law_733 rfl ?_
      refine PW_iload_n c_W_law_734 rfl ?_
      refine PW_iconst (v := 2) c_W_law_735 (by decide) ?_
      refine PW_iadd c_W_law_736 ?_
      refine PW_scald (q := 6 * t + 2) c_W_law_737 (by rw [(show nI (6 * t) + 2 = nI (6 * t + 2) from nI_add (6 * t) 2)]; exact sc_in (z := z) hz (by omega)) (by rw [(show nI (6 * t) + 2 = nI (6 * t + 2) from nI_add (6 * t) 2)]; exact nI_clamp (by omega)) ?_
      show PW _ _ _ 738 [some (.ref 4), some (.ref 5), some (.ref 70), some (.int (nI (6 * t)))] [.int (z.2 (6 * t + 2)), .int (z.2 (6 * t + 1)), .ref 70, .int r] (E x1 y)
      refine PW_V0 (d2 := 90) (st := [.int r]) [.int (z.2 (6 * t + 1)), .int (z.2 (6 * t + 2))] c_W_law_738 lk_W_law_81 (po_70 _ _) rfl rfl rfl (Nat.le_of_ble_eq_true rfl) (by first | decide | omega) (Nat.le_of_ble_eq_true rfl) ?_
      refine hM ?_
      show PW _ _ _ 741 [some (.ref 4), some (.ref 5), some (.ref 70), some (.int (nI (6 * t)))] [.int r, .int r] (E x1 y1)
      refine PW_icmp_eq c_W_law_741 (fun _ => ?_) (fun h32 => absurd rfl h32)
      refine PW_iinc (i := 3) (v := (nI (6 * t)) + 6) (L2 := [some (.ref 4), some (.ref 5), some (.ref 70), some (.int ((nI (6 * t)) + 6))]) c_W_law_1419 rfl (iinc_v (by decide)) (Nat.le_of_ble_eq_true rfl) rfl rfl ?_
      refine PW_goto c_W_law_1422 ?_
      refine PW.eqL ?_ rfl rfl (ih (t + 1) (by omega) hI1)
      show ([some (.ref 4), some (.ref 5), some (.ref 70), some (.int ((nI (6 * t)) + 6))] : List (Option Value)) = [some (.ref 4), some (.ref 5), some (.ref 70), some (.int (nI (6 * (t + 1))))]
      rw [show nI (6 * t) + 6 = nI (6 * (t + 1)) from nI_add (6 * t) 6]
    by_cases h33 : (z.2 (6 * t)) &&& 63 = 16
    · refine PW_tableIn (tgt := 746) (off := 713) c_W_law_33 (by rw [h33]; decide) (by rw [h33]; decide) (by rw [h33]; rfl) rfl ?_
      refine PW_aload_n c_W_law_746 rfl ?_
      obtain ⟨r, x1, y1, hI1, hX, hM⟩ := op_yawn  hI (by omega)
      refine PW_V0 (d2 := 90) (st := []) [] c_W_law_747 lk_W_law_82 (po_5 _ _) rfl rfl rfl (Nat.le_of_ble_eq_true rfl) (by first | decide | omega) (Nat.le_of_ble_eq_true rfl) ?_
      refine hX ?_
      show PW _ _ _ 750 [some (.ref 4), some (.ref 5), some (.ref 70), some (.int (nI (6 * t)))] [.int r] (E x1 y)
      refine PW_aload_n c_W_law_750 rfl ?_
      refine PW_V0 (d2 := 90) (st := [.int r]) [] c_W_law_751 lk_W_law_85 (po_70 _ _) rfl rfl rfl (Nat.le_of_ble_eq_true rfl) (by first | decide | omega) (Nat.le_of_ble_eq_true rfl) ?_
      refine hM ?_
      show PW _ _ _ 754 [some (.ref 4), some (.ref 5), some (.ref 70), some (.int (nI (6 * t)))] [.int r, .int r] (E x1 y1)
      refine PW_icmp_eq c_W_law_754 (fun _ => ?_) (fun h34 => absurd rfl h34)
      refine PW_iinc (i := 3) (v := (nI (6 * t)) + 6) (L2 := [some (.ref 4), some (.ref 5), some (.ref 70), some (.int ((nI (6 * t)) + 6))]) c_W_law_1419 rfl (iinc_v (by decide)) (Nat.le_of_ble_eq_true rfl) rfl rfl ?_
      refine PW_goto c_W_law_1422 ?_
      refine PW.eqL ?_ rfl rfl (ih (t + 1) (by omega) hI1)
      show ([some (.ref 4), some (.ref 5), some (.ref 70), some (.int ((nI (6 * t)) + 6))] : List (Option Value)) = [some (.ref 4), some (.ref 5), some (.ref 70), some (.int (nI (6 * (t + 1))))]
      rw [show nI (6 * t) + 6 = nI (6 * (t + 1)) from nI_add (6 * t) 6]
    by_cases h35 : (z.2 (6 * t)) &&& 63 = 17
    · refine PW_tableIn (tgt := 759) (off := 726) c_W_law_33 (by rw [h35]; decide) (by rw [h35]; decide) (by rw [h35]; rfl) rfl ?_
      refine PW_aload_n c_W_law_759 rfl ?_
      obtain ⟨r, x1, y1, hI1, hX, hM⟩ := op_clear  hI (by omega)
      refine PW_V0 (d2 := 90) (st := []) [] c_W_law_760 lk_W_law_86 (po_5 _ _) rfl rfl rfl (Nat.le_of_ble_eq_true rfl) (by first | decide | omega) (Nat.le_of_ble_eq_true rfl) ?_
      refine hX ?_
      show PW _ _ _ 763 [some (.ref 4), some (.ref 5), some (.ref 70), some (.int (nI (6 * t)))] [.int r] (E x1 y)
      refine PW_aload_n c_W_law_763 rfl ?_
      refine PW_V0 (d2 := 90) (st := [.int r]) [] c_W_law_764 lk_W_law_89 (po_70 _ _) rfl rfl rfl (Nat.le_of_ble_eq_true rfl) (by first | decide | omega) (Nat.le_of_ble_eq_true rfl) ?_
      refine hM ?_
      show PW _ _ _ 767 [some (.ref 4), some (.ref 5), some (.ref 70), some (.int (nI (6 * t)))] [.int r, .int r] (E x1 y1)
      refine PW_icmp_eq c_W_law_767 (fun _ => ?_) (fun h36 => absurd rfl h36)
      refine PW_iinc (i := 3) (v := (nI (6 * t)) + 6) (L2 := [some (.ref 4), some (.ref 5), some (.ref 70), some (.int ((nI (6 * t)) + 6))]) c_W_law_1419 rfl (iinc_v (by decide)) (Nat.le_of_ble_eq_true rfl) rfl rfl ?_
      refine PW_goto c_W_law_1422 ?_
      refine PW.eqL ?_ rfl rfl (ih (t + 1) (by omega) hI1)
      show ([some (.ref 4), some (.ref 5), some (.ref 70), some (.int ((nI (6 * t)) + 6))] : List (Option Value)) = [some (.ref 4), some (.ref 5), some (.ref 70), some (.int (nI (6 * (t + 1))))]
      rw [show nI (6 * t) + 6 = nI (6 * (t + 1)) from nI_add (6 * t) 6]
    by_cases h37 : (z.2 (6 * t)) &&& 63 = 18
    · refine PW_tableIn (tgt := 772) (off := 739) c_W_law_33 (by rw [h37]; decide) (by rw [h37]; decide) (by rw [h37]; rfl) rfl ?_
      refine PW_aload_n c_W_law_772 rfl ?_
      refine PW_aload_n c_W_law_773 rfl ?_
      refine PW_iload_n c_W_law_774 rfl ?_
      refine PW_iconst (v := 1) c_W_law_775 (by decide) ?_
      refine PW_iadd c_W_law_776 ?_
      refine PW_scald (q := 6 * t + 1) c_W_law_777 (by rw [(show nI (6 * t) + 1 = nI (6 * t + 1) from nI_add (6 * t) 1)]; exact sc_in (z := z) hz (by omega)) (by rw [(show nI (6 * t) + 1 = nI (6 * t + 1) from nI_add (6 * t) 1)]; exact nI_clamp (by omega)) ?_
      show PW _ _ _ 778 [some (.ref 4), some (.ref 5), some (.ref 70), some (.int (nI (6 * t)))] [.int (z.2 (6 * t + 1)), .ref 5] (E x y)
      refine PW_aload_n c_W_law_778 rfl ?_
      refine PW_iload_n c_W_law_779 rfl ?_
      refine PW_iconst (v := 2) c_W_law_780 (by decide) ?_
      refine PW_iadd c_W_law_781 ?_
      refine PW_scald (q := 6 * t + 2) c_W_law_782 (by rw [(show nI (6 * t) + 2 = nI (6 * t + 2) from nI_add (6 * t) 2)]; exact sc_in (z := z) hz (by omega)) (by rw [(show nI (6 * t) + 2 = nI (6 * t + 2) from nI_add (6 * t) 2)]; exact nI_clamp (by omega)) ?_
      show PW _ _ _ 783 [some (.ref 4), some (.ref 5), some (.ref 70), some (.int (nI (6 * t)))] [.int (z.2 (6 * t + 2)), .int (z.2 (6 * t + 1)), .ref 5] (E x y)
      obtain ⟨r, x1, y1, hI1, hX, hM⟩ := op_knows (a1 := z.2 (6 * t + 1)) (a2 := z.2 (6 * t + 2)) hI (by omega)
      refine PW_V0 (d2 := 90) (st := []) [.int (z.2 (6 * t + 1)), .int (z.2 (6 * t + 2))] c_W_law_783 lk_W_law_90 (po_5 _ _) rfl rfl rfl (Nat.le_of_ble_eq_true rfl) (by first | decide | omega) (Nat.le_of_ble_eq_true rfl) ?_
      refine hX ?_
      show PW _ _ _ 786 [some (.ref 4), some (.ref 5), some (.ref 70), some (.int (nI (6 * t)))] [.int r] (E x1 y)
      refine PW_aload_n c_W_law_786 rfl ?_
      refine PW_aload_n c_W_law_787 rfl ?_
      refine PW_iload_n c_W_law_788 rfl ?_
      refine PW_iconst (v := 1) c_W_law_789 (by decide) ?_
      refine PW_iadd c_W_law_790 ?_
      refine PW_scald (q := 6 * t + 1) c_W_law_791 (by rw [(show nI (6 * t) + 1 = nI (6 * t + 1) from nI_add (6 * t) 1)]; exact sc_in (z := z) hz (by omega)) (by rw [(show nI (6 * t) + 1 = nI (6 * t + 1) from nI_add (6 * t) 1)]; exact nI_clamp (by omega)) ?_
      show PW _ _ _ 792 [some (.ref 4), some (.ref 5), some (.ref 70), some (.int (nI (6 * t)))] [.int (z.2 (6 * t + 1)), .ref 70, .int r] (E x1 y)
      refine PW_aload_n c_W_law_792 rfl ?_
      refine PW_iload_n c_W_law_793 rfl ?_
      refine PW_iconst (v := 2) c_W_law_794 (by decide) ?_
      refine PW_iadd c_W_law_795 ?_
      refine PW_scald (q := 6 * t + 2) c_W_law_796 (by rw [(show nI (6 * t) + 2 = nI (6 * t + 2) from nI_add (6 * t) 2)]; exact sc_in (z := z) hz (by omega)) (by rw [(show nI (6 * t) + 2 = nI (6 * t + 2) from nI_add (6 * t) 2)]; exact nI_clamp (by omega)) ?_
      show PW _ _ _ 797 [some (.ref 4), some (.ref 5), some (.ref 70), some (.int (nI (6 * t)))] [.int (z.2 (6 * t + 2)), .int (z.2 (6 * t + 1)), .ref 70, .int r] (E x1 y)
      refine PW_V0 (d2 := 90) (st := [.int r]) [.int (z.2 (6 * t + 1)), .int (z.2 (6 * t + 2))] c_W_law_797 lk_W_law_93 (po_70 _ _) rfl rfl rfl (Nat.le_of_ble_eq_true rfl) (by first | decide | omega) (Nat.le_of_ble_eq_true rfl) ?_
      refine hM ?_
      show PW _ _ _ 800 [some (.ref 4), some (.ref 5), some (.ref 70), some (.int (nI (6 * t)))] [.int r, .int r] (E x1 y1)
      refine PW_icmp_eq c_W_law_800 (fun _ => ?_) (fun h38 => absurd rfl h38)
      refine PW_iinc (i := 3) (v := (nI (6 * t)) + 6) (L2 := [some (.ref 4), some (.ref 5), some (.ref 70), some (.int ((nI (6 * t)) + 6))]) c_W_law_1419 rfl (iinc_v (by decide)) (Nat.le_of_ble_eq_true rfl) rfl rfl ?_
      refine PW_goto c_W_law_1422 ?_
      refine PW.eqL ?_ rfl rfl (ih (t + 1) (by omega) hI1)
      show ([some (.ref 4), some (.ref 5), some (.ref 70), some (.int ((nI (6 * t)) + 6))] : List (Option Value)) = [some (.ref 4), some (.ref 5), some (.ref 70), some (.int (nI (6 * (t + 1))))]
      rw [show nI (6 * t) + 6 = nI (6 * (t + 1)) from nI_add (6 * t) 6]
    by_cases h39 : (z.2 (6 * t)) &&& 63 = 19
    · refine PW_tableIn (tgt := 805) (off := 772) c_W_law_33 (by rw [h39]; decide) (by rw [h39]; decide) (by rw [h39]; rfl) rfl ?_
      refine PW_aload_n c_W_law_805 rfl ?_
      refine PW_aload_n c_W_law_806 rfl ?_
      refine PW_iload_n c_W_law_807 rfl ?_
      refine PW_iconst (v := 1) c_W_law_808 (by decide) ?_
      refine PW_iadd c_W_law_809 ?_
      refine PW_scald (q := 6 * t + 1) c_W_law_810 (by rw [(show nI (6 * t) + 1 = nI (6 * t + 1) from nI_add (6 * t) 1)]; exact sc_in (z := z) hz (by omega)) (by rw [(show nI (6 * t) + 1 = nI (6 * t + 1) from nI_add (6 * t) 1)]; exact nI_clamp (by omega)) ?_
      show PW _ _ _ 811 [some (.ref 4), some (.ref 5), some (.ref 70), some (.int (nI (6 * t)))] [.int (z.2 (6 * t + 1)), .ref 5] (E x y)
      refine PW_aload_n c_W_law_811 rfl ?_
      refine PW_iload_n c_W_law_812 rfl ?_
      refine PW_iconst (v := 2) c_W_law_813 (by decide) ?_
      refine PW_iadd c_W_law_814 ?_
      refine PW_scald (q := 6 * t + 2) c_W_law_815 (by rw [(show nI (6 * t) + 2 = nI (6 * t + 2) from nI_add (6 * t) 2)]; exact sc_in (z := z) hz (by omega)) (by rw [(show nI (6 * t) + 2 = nI (6 * t + 2) from nI_add (6 * t) 2)]; exact nI_clamp (by omega)) ?_
      show PW _ _ _ 816 [some (.ref 4), some (.ref 5), some (.ref 70), some (.int (nI (6 * t)))] [.int (z.2 (6 * t + 2)), .int (z.2 (6 * t + 1)), .ref 5] (E x y)
      refine PW_aload_n c_W_law_816 rfl ?_
      refine PW_iload_n c_W_law_817 rfl ?_
      refine PW_iconst (v := 3) c_W_law_818 (by decide) ?_
      refine PW_iadd c_W_law_819 ?_
      refine PW_scald (q := 6 * t + 3) c_W_law_820 (by rw [(show nI (6 * t) + 3 = nI (6 * t + 3) from nI_add (6 * t) 3)]; exact sc_in (z := z) hz (by omega)) (by rw [(show nI (6 * t) + 3 = nI (6 * t + 3) from nI_add (6 * t) 3)]; exact nI_clamp (by omega)) ?_
      show PW _ _ _ 821 [some (.ref 4), some (.ref 5), some (.ref 70), some (.int (nI (6 * t)))] [.int (z.2 (6 * t + 3)), .int (z.2 (6 * t + 2)), .int (z.2 (6 * t + 1)), .ref 5] (E x y)
      obtain ⟨r, x1, y1, hI1, hX, hM⟩ := op_drawn (a1 := z.2 (6 * t + 1)) (a2 := z.2 (6 * t + 2)) (a3 := z.2 (6 * t + 3)) hI (by omega)
      refine PW_V0 (d2 := 90) (st := []) [.int (z.2 (6 * t + 1)), .int (z.2 (6 * t + 2)), .int (z.2 (6 * t + 3))] c_W_law_821 lk_W_law_94 (po_5 _ _) rfl rfl rfl (Nat.le_of_ble_eq_true rfl) (by first | decide | omega) (Nat.le_of_ble_eq_true rfl) ?_
      refine hX ?_
      show PW _ _ _ 824 [some (.ref 4), some (.ref 5), some (.ref 70), some (.int (nI (6 * t)))] [.int r] (E x1 y)
      refine PW_aload_n c_W_law_824 rfl ?_
      refine PW_aload_n c_W_law_825 rfl ?_
      refine PW_iload_n c_W_law_826 rfl ?_
      refine PW_iconst (v := 1) c_W_law_827 (by decide) ?_
      refine PW_iadd c_W_law_828 ?_
      refine PW_scald (q := 6 * t + 1) c_W_law_829 (by rw [(show nI (6 * t) + 1 = nI (6 * t + 1) from nI_add (6 * t) 1)]; exact sc_in (z := z) hz (by omega)) (by rw [(show nI (6 * t) + 1 = nI (6 * t + 1) from nI_add (6 * t) 1)]; exact nI_clamp (by omega)) ?_
      show PW _ _ _ 830 [some (.ref 4), some (.ref 5), some (.ref 70), some (.int (nI (6 * t)))] [.int (z.2 (6 * t + 1)), .ref 70, .int r] (E x1 y)
      refine PW_aload_n c_W_law_830 rfl ?_
      refine PW_iload_n c_W_law_831 rfl ?_
      refine PW_iconst (v := 2) c_W_law_832 (by decide) ?_
      refine PW_iadd c_W_law_833 ?_
      refine PW_scald (q := 6 * t + 2) c_W_law_834 (by rw [(show nI (6 * t) + 2 = nI (6 * t + 2) from nI_add (6 * t) 2)]; exact sc_in (z := z) hz (by omega)) (by rw [(show nI (6 * t) + 2 = nI (6 * t + 2) from nI_add (6 * t) 2)]; exact nI_clamp (by omega)) ?_
      show PW _ _ _ 835 [some (.ref 4), some (.ref 5), some (.ref 70), some (.int (nI (6 * t)))] [.int (z.2 (6 * t + 2)), .int (z.2 (6 * t + 1)), .ref 70, .int r] (E x1 y)
      refine PW_aload_n c_W_law_835 rfl ?_
      refine PW_iload_n c_W_law_836 rfl ?_
      refine PW_iconst (v := 3) c_W_law_837 (by decide) ?_
      refine PW_iadd c_W_law_838 ?_
      refine PW_scald (q := 6 * t + 3) c_W_law_839 (by rw [(show nI (6 * t) + 3 = nI (6 * t + 3) from nI_add (6 * t) 3)]; exact sc_in (z := z) hz (by omega)) (by rw [(show nI (6 * t) + 3 = nI (6 * t + 3) from nI_add (6 * t) 3)]; exact nI_clamp (by omega)) ?_
      show PW _ _ _ 840 [some (.ref 4), some (.ref 5), some (.ref 70), some (.int (nI (6 * t)))] [.int (z.2 (6 * t + 3)), .int (z.2 (6 * t + 2)), .int (z.2 (6 * t + 1)), .ref 70, .int r] (E x1 y)
      refine PW_V0 (d2 := 90) (st := [.int r]) [.int (z.2 (6 * t + 1)), .int (z.2 (6 * t + 2)), .int (z.2 (6 * t + 3))] c_W_law_840 lk_W_law_97 (po_70 _ _) rfl rfl rfl (Nat.le_of_ble_eq_true rfl) (by first | decide | omega) (Nat.le_of_ble_eq_true rfl) ?_
      refine hM ?_
      show PW _ _ _ 843 [some (.ref 4), some (.ref 5), some (.ref 70), some (.int (nI (6 * t)))] [.int r, .int r] (E x1 y1)
      refine PW_icmp_eq c_W_law_843 (fun _ => ?_) (fun h40 => absurd rfl h40)
      refine PW_iinc (i := 3) (v := (nI (6 * t)) + 6) (L2 := [some (.ref 4), some (.ref 5), some (.ref 70), some (.int ((nI (6 * t)) + 6))]) c_W_law_1419 rfl (iinc_v (by decide)) (Nat.le_of_ble_eq_true rfl) rfl rfl ?_
      refine PW_goto c_W_law_1422 ?_
      refine PW.eqL ?_ rfl rfl (ih (t + 1) (by omega) hI1)
      show ([some (.ref 4), some (.ref 5), some (.ref 70), some (.int ((nI (6 * t)) + 6))] : List (Option Value)) = [some (.ref 4), some (.ref 5), some (.ref 70), some (.int (nI (6 * (t + 1))))]
      rw [show nI (6 * t) + 6 = nI (6 * (t + 1)) from nI_add (6 * t) 6]
    by_cases h41 : (z.2 (6 * t)) &&& 63 = 20
    · refine PW_tableIn (tgt := 848) (off := 815) c_W_law_33 (by rw [h41]; decide) (by rw [h41]; decide) (by rw [h41]; rfl) rfl ?_
      refine PW_aload_n c_W_law_848 rfl ?_
      refine PW_aload_n c_W_law_849 rfl ?_
      refine PW_iload_n c_W_law_850 rfl ?_
      refine PW_iconst (v := 1) c_W_law_851 (by decide) ?_
      refine PW_iadd c_W_law_852 ?_
      refine PW_scald (q := 6 * t + 1) c_W_law_853 (by rw [(show nI (6 * t) + 1 = nI (6 * t + 1) from nI_add (6 * t) 1)]; exact sc_in (z := z) hz (by omega)) (by rw [(show nI (6 * t) + 1 = nI (6 * t + 1) from nI_add (6 * t) 1)]; exact nI_clamp (by omega)) ?_
      show PW _ _ _ 854 [some (.ref 4), some (.ref 5), some (.ref 70), some (.int (nI (6 * t)))] [.int (z.2 (6 * t + 1)), .ref 5] (E x y)
      refine PW_aload_n c_W_law_854 rfl ?_
      refine PW_iload_n c_W_law_855 rfl ?_
      refine PW_iconst (v := 2) c_W_law_856 (by decide) ?_
      refine PW_iadd c_W_law_857 ?_
      refine PW_scald (q := 6 * t + 2) c_W_law_858 (by rw [(show nI (6 * t) + 2 = nI (6 * t + 2) from nI_add (6 * t) 2)]; exact sc_in (z := z) hz (by omega)) (by rw [(show nI (6 * t) + 2 = nI (6 * t + 2) from nI_add (6 * t) 2)]; exact nI_clamp (by omega)) ?_
      show PW _ _ _ 859 [some (.ref 4), some (.ref 5), some (.ref 70), some (.int (nI (6 * t)))] [.int (z.2 (6 * t + 2)), .int (z.2 (6 * t + 1)), .ref 5] (E x y)
      obtain ⟨r, x1, y1, hI1, hX, hM⟩ := op_judge (a1 := z.2 (6 * t + 1)) (a2 := z.2 (6 * t + 2)) hI (by omega)
      refine PW_V0 (d2 := 90) (st := []) [.int (z.2 (6 * t + 1)), .int (z.2 (6 * t + 2))] c_W_law_859 lk_W_law_98 (po_5 _ _) rfl rfl rfl (Nat.le_of_ble_eq_true rfl) (by first | decide | omega) (Nat.le_of_ble_eq_true rfl) ?_
      refine hX ?_
      show PW _ _ _ 862 [some (.ref 4), some (.ref 5), some (.ref 70), some (.int (nI (6 * t)))] [.int r] (E x1 y)
      refine PW_aload_n c_W_law_862 rfl ?_
      refine PW_aload_n c_W_law_863 rfl ?_
      refine PW_iload_n c_W_law_864 rfl ?_
      refine PW_iconst (v := 1) c_W_law_865 (by decide) ?_
      refine PW_iadd c_W_law_866 ?_
      refine PW_scald (q := 6 * t + 1) c_W_law_867 (by rw [(show nI (6 * t) + 1 = nI (6 * t + 1) from nI_add (6 * t) 1)]; exact sc_in (z := z) hz (by omega)) (by rw [(show nI (6 * t) + 1 = nI (6 * t + 1) from nI_add (6 * t) 1)]; exact nI_clamp (by omega)) ?_
      show PW _ _ _ 868 [some (.ref 4), some (.ref 5), some (.ref 70), some (.int (nI (6 * t)))] [.int (z.2 (6 * t + 1)), .ref 70, .int r] (E x1 y)
      refine PW_aload_n c_W_law_868 rfl ?_
      refine PW_iload_n c_W_law_869 rfl ?_
      refine PW_iconst (v := 2) c_W_law_870 (by decide) ?_
      refine PW_iadd c_W_law_871 ?_
      refine PW_scald (q := 6 * t + 2) c_W_law_872 (by rw [(show nI (6 * t) + 2 = nI (6 * t + 2) from nI_add (6 * t) 2)]; exact sc_in (z := z) hz (by omega)) (by rw [(show nI (6 * t) + 2 = nI (6 * t + 2) from nI_add (6 * t) 2)]; exact nI_clamp (by omega)) ?_
      show PW _ _ _ 873 [some (.ref 4), some (.ref 5), some (.ref 70), some (.int (nI (6 * t)))] [.int (z.2 (6 * t + 2)), .int (z.2 (6 * t + 1)), .ref 70, .int r] (E x1 y)
      refine PW_V0 (d2 := 90) (st := [.int r]) [.int (z.2 (6 * t + 1)), .int (z.2 (6 * t + 2))] c_W_law_873 lk_W_law_101 (po_70 _ _) rfl rfl rfl (Nat.le_of_ble_eq_true rfl) (by first | decide | omega) (Nat.le_of_ble_eq_true rfl) ?_
      refine hM ?_
      show PW _ _ _ 876 [some (.ref 4), some (.ref 5), some (.ref 70), some (.int (nI (6 * t)))] [.int r, .int r] (E x1 y1)
      refine PW_icmp_eq c_W_law_876 (fun _ => ?_) (fun h42 => absurd rfl h42)
      refine PW_iinc (i := 3) (v := (nI (6 * t)) + 6) (L2 := [some (.ref 4), some (.ref 5), some (.ref 70), some (.int ((nI (6 * t)) + 6))]) c_W_law_1419 rfl (iinc_v (by decide)) (Nat.le_of_ble_eq_true rfl) rfl rfl ?_
      refine PW_goto c_W_law_1422 ?_
      refine PW.eqL ?_ rfl rfl (ih (t + 1) (by omega) hI1)
      show ([some (.ref 4), some (.ref 5), some (.ref 70), some (.int ((nI (6 * t)) + 6))] : List (Option Value)) = [some (.ref 4), some (.ref 5), some (.ref 70), some (.int (nI (6 * (t + 1))))]
      rw [show nI (6 * t) + 6 = nI (6 * (t + 1)) from nI_add (6 * t) 6]
    by_cases h43 : (z.2 (6 * t)) &&& 63 = 21
    · refine PW_tableIn (tgt := 881) (off := 848) c_W_law_33 (by rw [h43]; decide) (by rw [h43]; decide) (by rw [h43]; rfl) rfl ?_
      refine PW_aload_n c_W_law_881 rfl ?_
      refine PW_aload_n c_W_law_882 rfl ?_
      refine PW_iload_n c_W_law_883 rfl ?_
      refine PW_iconst (v := 1) c_W_law_884 (by decide) ?_
      refine PW_iadd c_W_law_885 ?_
      refine PW_scald (q := 6 * t + 1) c_W_law_886 (by rw [(show nI (6 * t) + 1 = nI (6 * t + 1) from nI_add (6 * t) 1)]; exact sc_in (z := z) hz (by omega)) (by rw [(show nI (6 * t) + 1 = nI (6 * t + 1) from nI_add (6 * t) 1)]; exact nI_clamp (by omega)) ?_
      show PW _ _ _ 887 [some (.ref 4), some (.ref 5), some (.ref 70), some (.int (nI (6 * t)))] [.int (z.2 (6 * t + 1)), .ref 5] (E x y)
      obtain ⟨r, x1, y1, hI1, hX, hM⟩ := op_go (a1 := z.2 (6 * t + 1)) hI (by omega)
      refine PW_V0 (d2 := 90) (st := []) [.int (z.2 (6 * t + 1))] c_W_law_887 lk_W_law_102 (po_5 _ _) rfl rfl rfl (Nat.le_of_ble_eq_true rfl) (by first | decide | omega) (Nat.le_of_ble_eq_true rfl) ?_
      refine hX ?_
      show PW _ _ _ 890 [some (.ref 4), some (.ref 5), some (.ref 70), some (.int (nI (6 * t)))] [.int r] (E x1 y)
      refine PW_aload_n c_W_law_890 rfl ?_
      refine PW_aload_n c_W_law_891 rfl ?_
      refine PW_iload_n c_W_law_892 rfl ?_
      refine PW_iconst (v := 1) c_W_law_893 (by decide) ?_
      refine PW_iadd c_W_law_894 ?_
      refine PW_scald (q := 6 * t + 1) c_W_law_895 (by rw [(show nI (6 * t) + 1 = nI (6 * t + 1) from nI_add (6 * t) 1)]; exact sc_in (z := z) hz (by omega)) (by rw [(show nI (6 * t) + 1 = nI (6 * t + 1) from nI_add (6 * t) 1)]; exact nI_clamp (by omega)) ?_
      show PW _ _ _ 896 [some (.ref 4), some (.ref 5), some (.ref 70), some (.int (nI (6 * t)))] [.int (z.2 (6 * t + 1)), .ref 70, .int r] (E x1 y)
      refine PW_V0 (d2 := 90) (st := [.int r]) [.int (z.2 (6 * t + 1))] c_W_law_896 lk_W_law_105 (po_70 _ _) rfl rfl rfl (Nat.le_of_ble_eq_true rfl) (by first | decide | omega) (Nat.le_of_ble_eq_true rfl) ?_
      refine hM ?_
      show PW _ _ _ 899 [some (.ref 4), some (.ref 5), some (.ref 70), some (.int (nI (6 * t)))] [.int r, .int r] (E x1 y1)
      refine PW_icmp_eq c_W_law_899 (fun _ => ?_) (fun h44 => absurd rfl h44)
      refine PW_iinc (i := 3) (v := (nI (6 * t)) + 6) (L2 := [some (.ref 4), some (.ref 5), some (.ref 70), some (.int ((nI (6 * t)) + 6))]) c_W_law_1419 rfl (iinc_v (by decide)) (Nat.le_of_ble_eq_true rfl) rfl rfl ?_
      refine PW_goto c_W_law_1422 ?_
      refine PW.eqL ?_ rfl rfl (ih (t + 1) (by omega) hI1)
      show ([some (.ref 4), some (.ref 5), some (.ref 70), some (.int ((nI (6 * t)) + 6))] : List (Option Value)) = [some (.ref 4), some (.ref 5), some (.ref 70), some (.int (nI (6 * (t + 1))))]
      rw [show nI (6 * t) + 6 = nI (6 * (t + 1)) from nI_add (6 * t) 6]
    by_cases h45 : (z.2 (6 * t)) &&& 63 = 22
    · refine PW_tableIn (tgt := 904) (off := 871) c_W_law_33 (by rw [h45]; decide) (by rw [h45]; decide) (by rw [h45]; rfl) rfl ?_
      refine PW_aload_n c_W_law_904 rfl ?_
      obtain ⟨r, x1, y1, hI1, hX, hM⟩ := op_goodbye  hI (by omega)
      refine PW_V0 (d2 := 90) (st := []) [] c_W_law_905 lk_W_law_106 (po_5 _ _) rfl rfl rfl (Nat.le_of_ble_eq_true rfl) (by first | decide | omega) (Nat.le_of_ble_eq_true rfl) ?_
      refine hX ?_
      show PW _ _ _ 908 [some (.ref 4), some (.ref 5), some (.ref 70), some (.int (nI (6 * t)))] [.int r] (E x1 y)
      refine PW_aload_n c_W_law_908 rfl ?_
      refine PW_V0 (d2 := 90) (st := [.int r]) [] c_W_law_909 lk_W_law_109 (po_70 _ _) rfl rfl rfl (Nat.le_of_ble_eq_true rfl) (by first | decide | omega) (Nat.le_of_ble_eq_true rfl) ?_
      refine hM ?_
      show PW _ _ _ 912 [some (.ref 4), some (.ref 5), some (.ref 70), some (.int (nI (6 * t)))] [.int r, .int r] (E x1 y1)
      refine PW_icmp_eq c_W_law_912 (fun _ => ?_) (fun h46 => absurd rfl h46)
      refine PW_iinc (i := 3) (v := (nI (6 * t)) + 6) (L2 := [some (.ref 4), some (.ref 5), some (.ref 70), some (.int ((nI (6 * t)) + 6))]) c_W_law_1419 rfl (iinc_v (by decide)) (Nat.le_of_ble_eq_true rfl) rfl rfl ?_
      refine PW_goto c_W_law_1422 ?_
      refine PW.eqL ?_ rfl rfl (ih (t + 1) (by omega) hI1)
      show ([some (.ref 4), some (.ref 5), some (.ref 70), some (.int ((nI (6 * t)) + 6))] : List (Option Value)) = [some (.ref 4), some (.ref 5), some (.ref 70), some (.int (nI (6 * (t + 1))))]
      rw [show nI (6 * t) + 6 = nI (6 * (t + 1)) from nI_add (6 * t) 6]
    by_cases h47 : (z.2 (6 * t)) &&& 63 = 23
    · refine PW_tableIn (tgt := 917) (off := 884) c_W_law_33 (by rw [h47]; decide) (by rw [h47]; decide) (by rw [h47]; rfl) rfl ?_
      refine PW_aload_n c_W_law_917 rfl ?_
      refine PW_aload_n c_W_law_918 rfl ?_
      refine PW_iload_n c_W_law_919 rfl ?_
      refine PW_iconst (v := 1) c_W_law_920 (by decide) ?_
      refine PW_iadd c_W_law_921 ?_
      refine PW_scald (q := 6 * t + 1) c_W_law_922 (by rw [(show nI (6 * t) + 1 = nI (6 * t + 1) from nI_add (6 * t) 1)]; exact sc_in (z := z) hz (by omega)) (by rw [(show nI (6 * t) + 1 = nI (6 * t + 1) from nI_add (6 * t) 1)]; exact nI_clamp (by omega)) ?_
      show PW _ _ _ 923 [some (.ref 4), some (.ref 5), some (.ref 70), some (.int (nI (6 * t)))] [.int (z.2 (6 * t + 1)), .ref 5] (E x y)
      obtain ⟨r, x1, y1, hI1, hX, hM⟩ := op_stay (a1 := z.2 (6 * t + 1)) hI (by omega)
      refine PW_V0 (d2 := 90) (st := []) [.int (z.2 (6 * t + 1))] c_W_law_923 lk_W_law_110 (po_5 _ _) rfl rfl rfl (Nat.le_of_ble_eq_true rfl) (by first | decide | omega) (Nat.le_of_ble_eq_true rfl) ?_
      refine hX ?_
      show PW _ _ _ 926 [some (.ref 4), some (.ref 5), some (.ref 70), some (.int (nI (6 * t)))] [.int r] (E x1 y)
      refine PW_aload_n c_W_law_926 rfl ?_
      refine PW_aload_n c_W_law_927 rfl ?_
      refine PW_iload_n c_W_law_928 rfl ?_
      refine PW_iconst (v := 1) c_W_law_929 (by decide) ?_
      refine PW_iadd c_W_law_930 ?_
      refine PW_scald (q := 6 * t + 1) c_W_law_931 (by rw [(show nI (6 * t) + 1 = nI (6 * t + 1) from nI_add (6 * t) 1)]; exact sc_in (z := z) hz (by omega)) (by rw [(show nI (6 * t) + 1 = nI (6 * t + 1) from nI_add (6 * t) 1)]; exact nI_clamp (by omega)) ?_
      show PW _ _ _ 932 [some (.ref 4), some (.ref 5), some (.ref 70), some (.int (nI (6 * t)))] [.int (z.2 (6 * t + 1)), .ref 70, .int r] (E x1 y)
      refine PW_V0 (d2 := 90) (st := [.int r]) [.int (z.2 (6 * t + 1))] c_W_law_932 lk_W_law_113 (po_70 _ _) rfl rfl rfl (Nat.le_of_ble_eq_true rfl) (by first | decide | omega) (Nat.le_of_ble_eq_true rfl) ?_
      refine hM ?_
      show PW _ _ _ 935 [some (.ref 4), some (.ref 5), some (.ref 70), some (.int (nI (6 * t)))] [.int r, .int r] (E x1 y1)
      refine PW_icmp_eq c_W_law_935 (fun _ => ?_) (fun h48 => absurd rfl h48)
      refine PW_iinc (i := 3) (v := (nI (6 * t)) + 6) (L2 := [some (.ref 4), some (.ref 5), some (.ref 70), some (.int ((nI (6 * t)) + 6))]) c_W_law_1419 rfl (iinc_v (by decide)) (Nat.le_of_ble_eq_true rfl) rfl rfl ?_
      refine PW_goto c_W_law_1422 ?_
      refine PW.eqL ?_ rfl rfl (ih (t + 1) (by omega) hI1)
      show ([some (.ref 4), some (.ref 5), some (.ref 70), some (.int ((nI (6 * t)) + 6))] : List (Option Value)) = [some (.ref 4), some (.ref 5), some (.ref 70), some (.int (nI (6 * (t + 1))))]
      rw [show nI (6 * t) + 6 = nI (6 * (t + 1)) from nI_add (6 * t) 6]
    by_cases h49 : (z.2 (6 * t)) &&& 63 = 24
    · refine PW_tableIn (tgt := 940) (off := 907) c_W_law_33 (by rw [h49]; decide) (by rw [h49]; decide) (by rw [h49]; rfl) rfl ?_
      refine PW_aload_n c_W_law_940 rfl ?_
      obtain ⟨r, x1, y1, hI1, hX, hM⟩ := op_leave  hI (by omega)
      refine PW_V0 (d2 := 90) (st := []) [] c_W_law_941 lk_W_law_114 (po_5 _ _) rfl rfl rfl (Nat.le_of_ble_eq_true rfl) (by first | decide | omega) (Nat.le_of_ble_eq_true rfl) ?_
      refine hX ?_
      show PW _ _ _ 944 [some (.ref 4), some (.ref 5), some (.ref 70), some (.int (nI (6 * t)))] [.int r] (E x1 y)
      refine PW_aload_n c_W_law_944 rfl ?_
      refine PW_V0 (d2 := 90) (st := [.int r]) [] c_W_law_945 lk_W_law_117 (po_70 _ _) rfl rfl rfl (Nat.le_of_ble_eq_true rfl) (by first | decide | omega) (Nat.le_of_ble_eq_true rfl) ?_
      refine hM ?_
      show PW _ _ _ 948 [some (.ref 4), some (.ref 5), some (.ref 70), some (.int (nI (6 * t)))] [.int r, .int r] (E x1 y1)
      refine PW_icmp_eq c_W_law_948 (fun _ => ?_) (fun h50 => absurd rfl h50)
      refine PW_iinc (i := 3) (v := (nI (6 * t)) + 6) (L2 := [some (.ref 4), some (.ref 5), some (.ref 70), some (.int ((nI (6 * t)) + 6))]) c_W_law_1419 rfl (iinc_v (by decide)) (Nat.le_of_ble_eq_true rfl) rfl rfl ?_
      refine PW_goto c_W_law_1422 ?_
      refine PW.eqL ?_ rfl rfl (ih (t + 1) (by omega) hI1)
      show ([some (.ref 4), some (.ref 5), some (.ref 70), some (.int ((nI (6 * t)) + 6))] : List (Option Value)) = [some (.ref 4), some (.ref 5), some (.ref 70), some (.int (nI (6 * (t + 1))))]
      rw [show nI (6 * t) + 6 = nI (6 * (t + 1)) from nI_add (6 * t) 6]
    by_cases h51 : (z.2 (6 * t)) &&& 63 = 25
    · refine PW_tableIn (tgt := 953) (off := 920) c_W_law_33 (by rw [h51]; decide) (by rw [h51]; decide) (by rw [h51]; rfl) rfl ?_
      refine PW_aload_n c_W_law_953 rfl ?_
      refine PW_aload_n c_W_law_954 rfl ?_
      refine PW_iload_n c_W_law_955 rfl ?_
      refine PW_iconst (v := 1) c_W_law_956 (by decide) ?_
      refine PW_iadd c_W_law_957 ?_
      refine PW_scald (q := 6 * t + 1) c_W_law_958 (by rw [(show nI (6 * t) + 1 = nI (6 * t + 1) from nI_add (6 * t) 1)]; exact sc_in (z := z) hz (by omega)) (by rw [(show nI (6 * t) + 1 = nI (6 * t + 1) from nI_add (6 * t) 1)]; exact nI_clamp (by omega)) ?_
      show PW _ _ _ 959 [some (.ref 4), some (.ref 5), some (.ref 70), some (.int (nI (6 * t)))] [.int (z.2 (6 * t + 1)), .ref 5] (E x y)
      obtain ⟨r, x1, y1, hI1, hX, hM⟩ := op_led (a1 := z.2 (6 * t + 1)) hI (by omega)
      refine PW_V0 (d2 := 90) (st := []) [.int (z.2 (6 * t + 1))] c_W_law_959 lk_W_law_118 (po_5 _ _) rfl rfl rfl (Nat.le_of_ble_eq_true rfl) (by first | decide | omega) (Nat.le_of_ble_eq_true rfl) ?_
      refine hX ?_
      show PW _ _ _ 962 [some (.ref 4), some (.ref 5), some (.ref 70), some (.int (nI (6 * t)))] [.int r] (E x1 y)
      refine PW_aload_n c_W_law_962 rfl ?_
      refine PW_aload_n c_W_law_963 rfl ?_
      refine PW_iload_n c_W_law_964 rfl ?_
      refine PW_iconst (v := 1) c_W_law_965 (by decide) ?_
      refine PW_iadd c_W_law_966 ?_
      refine PW_scald (q := 6 * t + 1) c_W_law_967 (by rw [(show nI (6 * t) + 1 = nI (6 * t + 1) from nI_add (6 * t) 1)]; exact sc_in (z := z) hz (by omega)) (by rw [(show nI (6 * t) + 1 = nI (6 * t + 1) from nI_add (6 * t) 1)]; exact nI_clamp (by omega)) ?_
      show PW _ _ _ 968 [some (.ref 4), some (.ref 5), some (.ref 70), some (.int (nI (6 * t)))] [.int (z.2 (6 * t + 1)), .ref 70, .int r] (E x1 y)
      refine PW_V0 (d2 := 90) (st := [.int r]) [.int (z.2 (6 * t + 1))] c_W_law_968 lk_W_law_121 (po_70 _ _) rfl rfl rfl (Nat.le_of_ble_eq_true rfl) (by first | decide | omega) (Nat.le_of_ble_eq_true rfl) ?_
      refine hM ?_
      show PW _ _ _ 971 [some (.ref 4), some (.ref 5), some (.ref 70), some (.int (nI (6 * t)))] [.int r, .int r] (E x1 y1)
      refine PW_icmp_eq c_W_law_971 (fun _ => ?_) (fun h52 => absurd rfl h52)
      refine PW_iinc (i := 3) (v := (nI (6 * t)) + 6) (L2 := [some (.ref 4), some (.ref 5), some (.ref 70), some (.int ((nI (6 * t)) + 6))]) c_W_law_1419 rfl (iinc_v (by decide)) (Nat.le_of_ble_eq_true rfl) rfl rfl ?_
      refine PW_goto c_W_law_1422 ?_
      refine PW.eqL ?_ rfl rfl (ih (t + 1) (by omega) hI1)
      show ([some (.ref 4), some (.ref 5), some (.ref 70), some (.int ((nI (6 * t)) + 6))] : List (Option Value)) = [some (.ref 4), some (.ref 5), some (.ref 70), some (.int (nI (6 * (t + 1))))]
      rw [show nI (6 * t) + 6 = nI (6 * (t + 1)) from nI_add (6 * t) 6]
    by_cases h53 : (z.2 (6 * t)) &&& 63 = 26
    · refine PW_tableIn (tgt := 976) (off := 943) c_W_law_33 (by rw [h53]; decide) (by rw [h53]; decide) (by rw [h53]; rfl) rfl ?_
      refine PW_aload_n c_W_law_976 rfl ?_
      obtain ⟨r, x1, y1, hI1, hX, hM⟩ := op_image  hI (by omega)
      refine PW_V0 (d2 := 90) (st := []) [] c_W_law_977 lk_W_law_122 (po_5 _ _) rfl rfl rfl (Nat.le_of_ble_eq_true rfl) (by first | decide | omega) (Nat.le_of_ble_eq_true rfl) ?_
      refine hX ?_
      show PW _ _ _ 980 [some (.ref 4), some (.ref 5), some (.ref 70), some (.int (nI (6 * t)))] [.int r] (E x1 y)
      refine PW_aload_n c_W_law_980 rfl ?_
      refine PW_V0 (d2 := 90) (st := [.int r]) [] c_W_law_981 lk_W_law_125 (po_70 _ _) rfl rfl rfl (Nat.le_of_ble_eq_true rfl) (by first | decide | omega) (Nat.le_of_ble_eq_true rfl) ?_
      refine hM ?_
      show PW _ _ _ 984 [some (.ref 4), some (.ref 5), some (.ref 70), some (.int (nI (6 * t)))] [.int r, .int r] (E x1 y1)
      refine PW_icmp_eq c_W_law_984 (fun _ => ?_) (fun h54 => absurd rfl h54)
      refine PW_iinc (i := 3) (v := (nI (6 * t)) + 6) (L2 := [some (.ref 4), some (.ref 5), some (.ref 70), some (.int ((nI (6 * t)) + 6))]) c_W_law_1419 rfl (iinc_v (by decide)) (Nat.le_of_ble_eq_true rfl) rfl rfl ?_
      refine PW_goto c_W_law_1422 ?_
      refine PW.eqL ?_ rfl rfl (ih (t + 1) (by omega) hI1)
      show ([some (.ref 4), some (.ref 5), some (.ref 70), some (.int ((nI (6 * t)) + 6))] : List (Option Value)) = [some (.ref 4), some (.ref 5), some (.ref 70), some (.int (nI (6 * (t + 1))))]
      rw [show nI (6 * t) + 6 = nI (6 * (t + 1)) from nI_add (6 * t) 6]
    by_cases h55 : (z.2 (6 * t)) &&& 63 = 27
    · refine PW_tableIn (tgt := 989) (off := 956) c_W_law_33 (by rw [h55]; decide) (by rw [h55]; decide) (by rw [h55]; rfl) rfl ?_
      refine PW_aload_n c_W_law_989 rfl ?_
      obtain ⟨r, x1, y1, hI1, hX, hM⟩ := op_back  hI (by omega)
      refine PW_V0 (d2 := 90) (st := []) [] c_W_law_990 lk_W_law_126 (po_5 _ _) rfl rfl rfl (Nat.le_of_ble_eq_true rfl) (by first | decide | omega) (Nat.le_of_ble_eq_true rfl) ?_
      refine hX ?_
      show PW _ _ _ 993 [some (.ref 4), some (.ref 5), some (.ref 70), some (.int (nI (6 * t)))] [.int r] (E x1 y)
      refine PW_aload_n c_W_law_993 rfl ?_
      refine PW_V0 (d2 := 90) (st := [.int r]) [] c_W_law_994 lk_W_law_129 (po_70 _ _) rfl rfl rfl (Nat.le_of_ble_eq_true rfl) (by first | decide | omega) (Nat.le_of_ble_eq_true rfl) ?_
      refine hM ?_
      show PW _ _ _ 997 [some (.ref 4), some (.ref 5), some (.ref 70), some (.int (nI (6 * t)))] [.int r, .int r] (E x1 y1)
      refine PW_icmp_eq c_W_law_997 (fun _ => ?_) (fun h56 => absurd rfl h56)
      refine PW_iinc (i := 3) (v := (nI (6 * t)) + 6) (L2 := [some (.ref 4), some (.ref 5), some (.ref 70), some (.int ((nI (6 * t)) + 6))]) c_W_law_1419 rfl (iinc_v (by decide)) (Nat.le_of_ble_eq_true rfl) rfl rfl ?_
      refine PW_goto c_W_law_1422 ?_
      refine PW.eqL ?_ rfl rfl (ih (t + 1) (by omega) hI1)
      show ([some (.ref 4), some (.ref 5), some (.ref 70), some (.int ((nI (6 * t)) + 6))] : List (Option Value)) = [some (.ref 4), some (.ref 5), some (.ref 70), some (.int (nI (6 * (t + 1))))]
      rw [show nI (6 * t) + 6 = nI (6 * (t + 1)) from nI_add (6 * t) 6]
    by_cases h57 : (z.2 (6 * t)) &&& 63 = 28
    · refine PW_tableIn (tgt := 1002) (off := 969) c_W_law_33 (by rw [h57]; decide) (by rw [h57]; decide) (by rw [h57]; rfl) rfl ?_
      refine PW_aload_n c_W_law_1002 rfl ?_
      obtain ⟨r, x1, y1, hI1, hX, hM⟩ := op_undo  hI (by omega)
      refine PW_V0 (d2 := 90) (st := []) [] c_W_law_1003 lk_W_law_130 (po_5 _ _) rfl rfl rfl (Nat.le_of_ble_eq_true rfl) (by first | decide | omega) (Nat.le_of_ble_eq_true rfl) ?_
      refine hX ?_
      show PW _ _ _ 1006 [some (.ref 4), some (.ref 5), some (.ref 70), some (.int (nI (6 * t)))] [.int r] (E x1 y)
      refine PW_aload_n c_W_law_1006 rfl ?_
      refine PW_V0 (d2 := 90) (st := [.int r]) [] c_W_law_1007 lk_W_law_133 (po_70 _ _) rfl rfl rfl (Nat.le_of_ble_eq_true rfl) (by first | decide | omega) (Nat.le_of_ble_eq_true rfl) ?_
      refine hM ?_
      show PW _ _ _ 1010 [some (.ref 4), some (.ref 5), some (.ref 70), some (.int (nI (6 * t)))] [.int r, .int r] (E x1 y1)
      refine PW_icmp_eq c_W_law_1010 (fun _ => ?_) (fun h58 => absurd rfl h58)
      refine PW_iinc (i := 3) (v := (nI (6 * t)) + 6) (L2 := [some (.ref 4), some (.ref 5), some (.ref 70), some (.int ((nI (6 * t)) + 6))]) c_W_law_1419 rfl (iinc_v (by decide)) (Nat.le_of_ble_eq_true rfl) rfl rfl ?_
      refine PW_goto c_W_law_1422 ?_
      refine PW.eqL ?_ rfl rfl (ih (t + 1) (by omega) hI1)
      show ([some (.ref 4), some (.ref 5), some (.ref 70), some (.int ((nI (6 * t)) + 6))] : List (Option Value)) = [some (.ref 4), some (.ref 5), some (.ref 70), some (.int (nI (6 * (t + 1))))]
      rw [show nI (6 * t) + 6 = nI (6 * (t + 1)) from nI_add (6 * t) 6]
    by_cases h59 : (z.2 (6 * t)) &&& 63 = 29
    · refine PW_tableIn (tgt := 1015) (off := 982) c_W_law_33 (by rw [h59]; decide) (by rw [h59]; decide) (by rw [h59]; rfl) rfl ?_
      refine PW_aload_n c_W_law_1015 rfl ?_
      obtain ⟨r, x1, y1, hI1, hX, hM⟩ := op_redo  hI (by omega)
      refine PW_V0 (d2 := 90) (st := []) [] c_W_law_1016 lk_W_law_134 (po_5 _ _) rfl rfl rfl (Nat.le_of_ble_eq_true rfl) (by first | decide | omega) (Nat.le_of_ble_eq_true rfl) ?_
      refine hX ?_
      show PW _ _ _ 1019 [some (.ref 4), some (.ref 5), some (.ref 70), some (.int (nI (6 * t)))] [.int r] (E x1 y)
      refine PW_aload_n c_W_law_1019 rfl ?_
      refine PW_V0 (d2 := 90) (st := [.int r]) [] c_W_law_1020 lk_W_law_137 (po_70 _ _) rfl rfl rfl (Nat.le_of_ble_eq_true rfl) (by first | decide | omega) (Nat.le_of_ble_eq_true rfl) ?_
      refine hM ?_
      show PW _ _ _ 1023 [some (.ref 4), some (.ref 5), some (.ref 70), some (.int (nI (6 * t)))] [.int r, .int r] (E x1 y1)
      refine PW_icmp_eq c_W_law_1023 (fun _ => ?_) (fun h60 => absurd rfl h60)
      refine PW_iinc (i := 3) (v := (nI (6 * t)) + 6) (L2 := [some (.ref 4), some (.ref 5), some (.ref 70), some (.int ((nI (6 * t)) + 6))]) c_W_law_1419 rfl (iinc_v (by decide)) (Nat.le_of_ble_eq_true rfl) rfl rfl ?_
      refine PW_goto c_W_law_1422 ?_
      refine PW.eqL ?_ rfl rfl (ih (t + 1) (by omega) hI1)
      show ([some (.ref 4), some (.ref 5), some (.ref 70), some (.int ((nI (6 * t)) + 6))] : List (Option Value)) = [some (.ref 4), some (.ref 5), some (.ref 70), some (.int (nI (6 * (t + 1))))]
      rw [show nI (6 * t) + 6 = nI (6 * (t + 1)) from nI_add (6 * t) 6]
    by_cases h61 : (z.2 (6 * t)) &&& 63 = 30
    · refine PW_tableIn (tgt := 1028) (off := 995) c_W_law_33 (by rw [h61]; decide) (by rw [h61]; decide) (by rw [h61]; rfl) rfl ?_
      refine PW_aload_n c_W_law_1028 rfl ?_
      refine PW_aload_n c_W_law_1029 rfl ?_
      refine PW_iload_n c_W_law_1030 rfl ?_
      refine PW_iconst (v := 1) c_W_law_1031 (by decide) ?_
      refine PW_iadd c_W_law_1032 ?_
      refine PW_scald (q := 6 * t + 1) c_W_law_1033 (by rw [(show nI (6 * t) + 1 = nI (6 * t + 1) from nI_add (6 * t) 1)]; exact sc_in (z := z) hz (by omega)) (by rw [(show nI (6 * t) + 1 = nI (6 * t + 1) from nI_add (6 * t) 1)]; exact nI_clamp (by omega)) ?_
      show PW _ _ _ 1034 [some (.ref 4), some (.ref 5), some (.ref 70), some (.int (nI (6 * t)))] [.int (z.2 (6 * t + 1)), .ref 5] (E x y)
      obtain ⟨r, x1, y1, hI1, hX, hM⟩ := op_body (a1 := z.2 (6 * t + 1)) hI (by omega)
      refine PW_V0 (d2 := 90) (st := []) [.int (z.2 (6 * t + 1))] c_W_law_1034 lk_W_law_138 (po_5 _ _) rfl rfl rfl (Nat.le_of_ble_eq_true rfl) (by first | decide | omega) (Nat.le_of_ble_eq_true rfl) ?_
      refine hX ?_
      show PW _ _ _ 1037 [some (.ref 4), some (.ref 5), some (.ref 70), some (.int (nI (6 * t)))] [.int r] (E x1 y)
      refine PW_aload_n c_W_law_1037 rfl ?_
      refine PW_aload_n c_W_law_1038 rfl ?_
      refine PW_iload_n c_W_law_1039 rfl ?_
      refine PW_iconst (v := 1) c_W_law_1040 (by decide) ?_
      refine PW_iadd c_W_law_1041 ?_
      refine PW_scald (q := 6 * t + 1) c_W_law_1042 (by rw [(show nI (6 * t) + 1 = nI (6 * t + 1) from nI_add (6 * t) 1)]; exact sc_in (z := z) hz (by omega)) (by rw [(show nI (6 * t) + 1 = nI (6 * t + 1) from nI_add (6 * t) 1)]; exact nI_clamp (by omega)) ?_
      show PW _ _ _ 1043 [some (.ref 4), some (.ref 5), some (.ref 70), some (.int (nI (6 * t)))] [.int (z.2 (6 * t + 1)), .ref 70, .int r] (E x1 y)
      refine PW_V0 (d2 := 90) (st := [.int r]) [.int (z.2 (6 * t + 1))] c_W_law_1043 lk_W_law_141 (po_70 _ _) rfl rfl rfl (Nat.le_of_ble_eq_true rfl) (by first | decide | omega) (Nat.le_of_ble_eq_true rfl) ?_
      refine hM ?_
      show PW _ _ _ 1046 [some (.ref 4), some (.ref 5), some (.ref 70), some (.int (nI (6 * t)))] [.int r, .int r] (E x1 y1)
      refine PW_icmp_eq c_W_law_1046 (fun _ => ?_) (fun h62 => absurd rfl h62)
      refine PW_iinc (i := 3) (v := (nI (6 * t)) + 6) (L2 := [some (.ref 4), some (.ref 5), some (.ref 70), some (.int ((nI (6 * t)) + 6))]) c_W_law_1419 rfl (iinc_v (by decide)) (Nat.le_of_ble_eq_true rfl) rfl rfl ?_
      refine PW_goto c_W_law_1422 ?_
      refine PW.eqL ?_ rfl rfl (ih (t + 1) (by omega) hI1)
      show ([some (.ref 4), some (.ref 5), some (.ref 70), some (.int ((nI (6 * t)) + 6))] : List (Option Value)) = [some (.ref 4), some (.ref 5), some (.ref 70), some (.int (nI (6 * (t + 1))))]
      rw [show nI (6 * t) + 6 = nI (6 * (t + 1)) from nI_add (6 * t) 6]
    by_cases h63 : (z.2 (6 * t)) &&& 63 = 31
    · refine PW_tableIn (tgt := 1051) (off := 1018) c_W_law_33 (by rw [h63]; decide) (by rw [h63]; decide) (by rw [h63]; rfl) rfl ?_
      refine PW_aload_n c_W_law_1051 rfl ?_
      refine PW_aload_n c_W_law_1052 rfl ?_
      refine PW_iload_n c_W_law_1053 rfl ?_
      refine PW_iconst (v := 1) c_W_law_1054 (by decide) ?_
      refine PW_iadd c_W_law_1055 ?_
      refine PW_scald (q := 6 * t + 1) c_W_law_1056 (by rw [(show nI (6 * t) + 1 = nI (6 * t + 1) from nI_add (6 * t) 1)]; exact sc_in (z := z) hz (by omega)) (by rw [(show nI (6 * t) + 1 = nI (6 * t + 1) from nI_add (6 * t) 1)]; exact nI_clamp (by omega)) ?_
      show PW _ _ _ 1057 [some (.ref 4), some (.ref 5), some (.ref 70), some (.int (nI (6 * t)))] [.int (z.2 (6 * t + 1)), .ref 5] (E x y)
      refine PW_aload_n c_W_law_1057 rfl ?_
      refine PW_iload_n c_W_law_1058 rfl ?_
      refine PW_iconst (v := 2) c_W_law_1059 (by decide) ?_
      refine PW_iadd c_W_law_1060 ?_
      refine PW_scald (q := 6 * t + 2) c_W_law_1061 (by rw [(show nI (6 * t) + 2 = nI (6 * t + 2) from nI_add (6 * t) 2)]; exact sc_in (z := z) hz (by omega)) (by rw [(show nI (6 * t) + 2 = nI (6 * t + 2) from nI_add (6 * t) 2)]; exact nI_clamp (by omega)) ?_
      show PW _ _ _ 1062 [some (.ref 4), some (.ref 5), some (.ref 70), some (.int (nI (6 * t)))] [.int (z.2 (6 * t + 2)), .int (z.2 (6 * t + 1)), .ref 5] (E x y)
      refine PW_aload_n c_W_law_1062 rfl ?_
      refine PW_iload_n c_W_law_1063 rfl ?_
      refine PW_iconst (v := 3) c_W_law_1064 (by decide) ?_
      refine PW_iadd c_W_law_1065 ?_
      refine PW_scald (q := 6 * t + 3) c_W_law_1066 (by rw [(show nI (6 * t) + 3 = nI (6 * t + 3) from nI_add (6 * t) 3)]; exact sc_in (z := z) hz (by omega)) (by rw [(show nI (6 * t) + 3 = nI (6 * t + 3) from nI_add (6 * t) 3)]; exact nI_clamp (by omega)) ?_
      show PW _ _ _ 1067 [some (.ref 4), some (.ref 5), some (.ref 70), some (.int (nI (6 * t)))] [.int (z.2 (6 * t + 3)), .int (z.2 (6 * t + 2)), .int (z.2 (6 * t + 1)), .ref 5] (E x y)
      obtain ⟨r, x1, y1, hI1, hX, hM⟩ := op_act (a1 := z.2 (6 * t + 1)) (a2 := z.2 (6 * t + 2)) (a3 := z.2 (6 * t + 3)) hI (by omega)
      refine PW_V0 (d2 := 90) (st := []) [.int (z.2 (6 * t + 1)), .int (z.2 (6 * t + 2)), .int (z.2 (6 * t + 3))] c_W_law_1067 lk_W_law_142 (po_5 _ _) rfl rfl rfl (Nat.le_of_ble_eq_true rfl) (by first | decide | omega) (Nat.le_of_ble_eq_true rfl) ?_
      refine hX ?_
      show PW _ _ _ 1070 [some (.ref 4), some (.ref 5), some (.ref 70), some (.int (nI (6 * t)))] [.int r] (E x1 y)
      refine PW_aload_n c_W_law_1070 rfl ?_
      refine PW_aload_n c_W_law_1071 rfl ?_
      refine PW_iload_n c_W_law_1072 rfl ?_
      refine PW_iconst (v := 1) c_W_law_1073 (by decide) ?_
      refine PW_iadd c_W_law_1074 ?_
      refine PW_scald (q := 6 * t + 1) c_W_law_1075 (by rw [(show nI (6 * t) + 1 = nI (6 * t + 1) from nI_add (6 * t) 1)]; exact sc_in (z := z) hz (by omega)) (by rw [(show nI (6 * t) + 1 = nI (6 * t + 1) from nI_add (6 * t) 1)]; exact nI_clamp (by omega)) ?_
      show PW _ _ _ 1076 [some (.ref 4), some (.ref 5), some (.ref 70), some (.int (nI (6 * t)))] [.int (z.2 (6 * t + 1)), .ref 70, .int r] (E x1 y)
      refine PW_aload_n c_W_law_1076 rfl ?_
      refine PW_iload_n c_W_law_1077 rfl ?_
      refine PW_iconst (v := 2) c_W_law_1078 (by decide) ?_
      refine PW_iadd c_W_law_1079 ?_
      refine PW_scald (q := 6 * t + 2) c_W_law_1080 (by rw [(show nI (6 * t) + 2 = nI (6 * t + 2) from nI_add (6 * t) 2)]; exact sc_in (z := z) hz (by omega)) (by rw [(show nI (6 * t) + 2 = nI (6 * t + 2) from nI_add (6 * t) 2)]; exact nI_clamp (by omega)) ?_
      show PW _ _ _ 1081 [some (.ref 4), some (.ref 5), some (.ref 70), some (.int (nI (6 * t)))] [.int (z.2 (6 * t + 2)), .int (z.2 (6 * t + 1)), .ref 70, .int r] (E x1 y)
      refine PW_aload_n c_W_law_1081 rfl ?_
      refine PW_iload_n c_W_law_1082 rfl ?_
      refine PW_iconst (v := 3) c_W_law_1083 (by decide) ?_
      refine PW_iadd c_W_law_1084 ?_
      refine PW_scald (q := 6 * t + 3) c_W_law_1085 (by rw [(show nI (6 * t) + 3 = nI (6 * t + 3) from nI_add (6 * t) 3)]; exact sc_in (z := z) hz (by omega)) (by rw [(show nI (6 * t) + 3 = nI (6 * t + 3) from nI_add (6 * t) 3)]; exact nI_clamp (by omega)) ?_
      show PW _ _ _ 1086 [some (.ref 4), some (.ref 5), some (.ref 70), some (.int (nI (6 * t)))] [.int (z.2 (6 * t + 3)), .int (z.2 (6 * t + 2)), .int (z.2 (6 * t + 1)), .ref 70, .int r] (E x1 y)
      refine PW_V0 (d2 := 90) (st := [.int r]) [.int (z.2 (6 * t + 1)), .int (z.2 (6 * t + 2)), .int (z.2 (6 * t + 3))] c_W_law_1086 lk_W_law_145 (po_70 _ _) rfl rfl rfl (Nat.le_of_ble_eq_true rfl) (by first | decide | omega) (Nat.le_of_ble_eq_true rfl) ?_
      refine hM ?_
      show PW _ _ _ 1089 [some (.ref 4), some (.ref 5), some (.ref 70), some (.int (nI (6 * t)))] [.int r, .int r] (E x1 y1)
      refine PW_icmp_eq c_W_law_1089 (fun _ => ?_) (fun h64 => absurd rfl h64)
      refine PW_iinc (i := 3) (v := (nI (6 * t)) + 6) (L2 := [some (.ref 4), some (.ref 5), some (.ref 70), some (.int ((nI (6 * t)) + 6))]) c_W_law_1419 rfl (iinc_v (by decide)) (Nat.le_of_ble_eq_true rfl) rfl rfl ?_
      refine PW_goto c_W_law_1422 ?_
      refine PW.eqL ?_ rfl rfl (ih (t + 1) (by omega) hI1)
      show ([some (.ref 4), some (.ref 5), some (.ref 70), some (.int ((nI (6 * t)) + 6))] : List (Option Value)) = [some (.ref 4), some (.ref 5), some (.ref 70), some (.int (nI (6 * (t + 1))))]
      rw [show nI (6 * t) + 6 = nI (6 * (t + 1)) from nI_add (6 * t) 6]
    by_cases h65 : (z.2 (6 * t)) &&& 63 = 32
    · refine PW_tableIn (tgt := 1094) (off := 1061) c_W_law_33 (by rw [h65]; decide) (by rw [h65]; decide) (by rw [h65]; rfl) rfl ?_
      refine PW_aload_n c_W_law_1094 rfl ?_
      refine PW_aload_n c_W_law_1095 rfl ?_
      refine PW_iload_n c_W_law_1096 rfl ?_
      refine PW_iconst (v := 1) c_W_law_1097 (by decide) ?_
      refine PW_iadd c_W_law_1098 ?_
      refine PW_scald (q := 6 * t + 1) c_W_law_1099 (by rw [(show nI (6 * t) + 1 = nI (6 * t + 1) from nI_add (6 * t) 1)]; exact sc_in (z := z) hz (by omega)) (by rw [(show nI (6 * t) + 1 = nI (6 * t + 1) from nI_add (6 * t) 1)]; exact nI_clamp (by omega)) ?_
      show PW _ _ _ 1100 [some (.ref 4), some (.ref 5), some (.ref 70), some (.int (nI (6 * t)))] [.int (z.2 (6 * t + 1)), .ref 5] (E x y)
      obtain ⟨r, x1, y1, hI1, hX, hM⟩ := op_trace (a1 := z.2 (6 * t + 1)) hI (by omega)
      refine PW_V0 (d2 := 90) (st := []) [.int (z.2 (6 * t + 1))] c_W_law_1100 lk_W_law_146 (po_5 _ _) rfl rfl rfl (Nat.le_of_ble_eq_true rfl) (by first | decide | omega) (Nat.le_of_ble_eq_true rfl) ?_
      refine hX ?_
      show PW _ _ _ 1103 [some (.ref 4), some (.ref 5), some (.ref 70), some (.int (nI (6 * t)))] [.int r] (E x1 y)
      refine PW_aload_n c_W_law_1103 rfl ?_
      refine PW_aload_n c_W_law_1104 rfl ?_
      refine PW_iload_n c_W_law_1105 rfl ?_
      refine PW_iconst (v := 1) c_W_law_1106 (by decide) ?_
      refine PW_iadd c_W_law_1107 ?_
      refine PW_scald (q := 6 * t + 1) c_W_law_1108 (by rw [(show nI (6 * t) + 1 = nI (6 * t + 1) from nI_add (6 * t) 1)]; exact sc_in (z := z) hz (by omega)) (by rw [(show nI (6 * t) + 1 = nI (6 * t + 1) from nI_add (6 * t) 1)]; exact nI_clamp (by omega)) ?_
      show PW _ _ _ 1109 [some (.ref 4), some (.ref 5), some (.ref 70), some (.int (nI (6 * t)))] [.int (z.2 (6 * t + 1)), .ref 70, .int r] (E x1 y)
      refine PW_V0 (d2 := 90) (st := [.int r]) [.int (z.2 (6 * t + 1))] c_W_law_1109 lk_W_law_149 (po_70 _ _) rfl rfl rfl (Nat.le_of_ble_eq_true rfl) (by first | decide | omega) (Nat.le_of_ble_eq_true rfl) ?_
      refine hM ?_
      show PW _ _ _ 1112 [some (.ref 4), some (.ref 5), some (.ref 70), some (.int (nI (6 * t)))] [.int r, .int r] (E x1 y1)
      refine PW_icmp_eq c_W_law_1112 (fun _ => ?_) (fun h66 => absurd rfl h66)
      refine PW_iinc (i := 3) (v := (nI (6 * t)) + 6) (L2 := [some (.ref 4), some (.ref 5), some (.ref 70), some (.int ((nI (6 * t)) + 6))]) c_W_law_1419 rfl (iinc_v (by decide)) (Nat.le_of_ble_eq_true rfl) rfl rfl ?_
      refine PW_goto c_W_law_1422 ?_
      refine PW.eqL ?_ rfl rfl (ih (t + 1) (by omega) hI1)
      show ([some (.ref 4), some (.ref 5), some (.ref 70), some (.int ((nI (6 * t)) + 6))] : List (Option Value)) = [some (.ref 4), some (.ref 5), some (.ref 70), some (.int (nI (6 * (t + 1))))]
      rw [show nI (6 * t) + 6 = nI (6 * (t + 1)) from nI_add (6 * t) 6]
    by_cases h67 : (z.2 (6 * t)) &&& 63 = 33
    · refine PW_tableIn (tgt := 1117) (off := 1084) c_W_law_33 (by rw [h67]; decide) (by rw [h67]; decide) (by rw [h67]; rfl) rfl ?_
      refine PW_aload_n c_W_law_1117 rfl ?_
      refine PW_aload_n c_W_law_1118 rfl ?_
      refine PW_iload_n c_W_law_1119 rfl ?_
      refine PW_iconst (v := 1) c_W_law_1120 (by decide) ?_
      refine PW_iadd c_W_law_1121 ?_
      refine PW_scald (q := 6 * t + 1) c_W_law_1122 (by rw [(show nI (6 * t) + 1 = nI (6 * t + 1) from nI_add (6 * t) 1)]; exact sc_in (z := z) hz (by omega)) (by rw [(show nI (6 * t) + 1 = nI (6 * t + 1) from nI_add (6 * t) 1)]; exact nI_clamp (by omega)) ?_
      show PW _ _ _ 1123 [some (.ref 4), some (.ref 5), some (.ref 70), some (.int (nI (6 * t)))] [.int (z.2 (6 * t + 1)), .ref 5] (E x y)
      refine PW_aload_n c_W_law_1123 rfl ?_
      refine PW_iload_n c_W_law_1124 rfl ?_
      refine PW_iconst (v := 2) c_W_law_1125 (by decide) ?_
      refine PW_iadd c_W_law_1126 ?_
      refine PW_scald (q := 6 * t + 2) c_W_law_1127 (by rw [(show nI (6 * t) + 2 = nI (6 * t + 2) from nI_add (6 * t) 2)]; exact sc_in (z := z) hz (by omega)) (by rw [(show nI (6 * t) + 2 = nI (6 * t + 2) from nI_add (6 * t) 2)]; exact nI_clamp (by omega)) ?_
      show PW _ _ _ 1128 [some (.ref 4), some (.ref 5), some (.ref 70), some (.int (nI (6 * t)))] [.int (z.2 (6 * t + 2)), .int (z.2 (6 * t + 1)), .ref 5] (E x y)
      obtain ⟨r, x1, y1, hI1, hX, hM⟩ := op_keep (a1 := z.2 (6 * t + 1)) (a2 := z.2 (6 * t + 2)) hI (by omega)
      refine PW_V0 (d2 := 90) (st := []) [.int (z.2 (6 * t + 1)), .int (z.2 (6 * t + 2))] c_W_law_1128 lk_W_law_150 (po_5 _ _) rfl rfl rfl (Nat.le_of_ble_eq_true rfl) (by first | decide | omega) (Nat.le_of_ble_eq_true rfl) ?_
      refine hX ?_
      show PW _ _ _ 1131 [some (.ref 4), some (.ref 5), some (.ref 70), some (.int (nI (6 * t)))] [.int r] (E x1 y)
      refine PW_aload_n c_W_law_1131 rfl ?_
      refine PW_aload_n c_W_law_1132 rfl ?_
      refine PW_iload_n c_W_law_1133 rfl ?_
      refine PW_iconst (v := 1) c_W_law_1134 (by decide) ?_
      refine PW_iadd c_W_law_1135 ?_
      refine PW_scald (q := 6 * t + 1) c_W_law_1136 (by rw [(show nI (6 * t) + 1 = nI (6 * t + 1) from nI_add (6 * t) 1)]; exact sc_in (z := z) hz (by omega)) (by rw [(show nI (6 * t) + 1 = nI (6 * t + 1) from nI_add (6 * t) 1)]; exact nI_clamp (by omega)) ?_
      show PW _ _ _ 1137 [some (.ref 4), some (.ref 5), some (.ref 70), some (.int (nI (6 * t)))] [.int (z.2 (6 * t + 1)), .ref 70, .int r] (E x1 y)
      refine PW_aload_n c_W_law_1137 rfl ?_
      refine PW_iload_n c_W_law_1138 rfl ?_
      refine PW_iconst (v := 2) c_W_law_1139 (by decide) ?_
      refine PW_iadd c_W_law_1140 ?_
      refine PW_scald (q := 6 * t + 2) c_W_law_1141 (by rw [(show nI (6 * t) + 2 = nI (6 * t + 2) from nI_add (6 * t) 2)]; exact sc_in (z := z) hz (by omega)) (by rw [(show nI (6 * t) + 2 = nI (6 * t + 2) from nI_add (6 * t) 2)]; exact nI_clamp (by omega)) ?_
      show PW _ _ _ 1142 [some (.ref 4), some (.ref 5), some (.ref 70), some (.int (nI (6 * t)))] [.int (z.2 (6 * t + 2)), .int (z.2 (6 * t + 1)), .ref 70, .int r] (E x1 y)
      refine PW_V0 (d2 := 90) (st := [.int r]) [.int (z.2 (6 * t + 1)), .int (z.2 (6 * t + 2))] c_W_law_1142 lk_W_law_153 (po_70 _ _) rfl rfl rfl (Nat.le_of_ble_eq_true rfl) (by first | decide | omega) (Nat.le_of_ble_eq_true rfl) ?_
      refine hM ?_
      show PW _ _ _ 1145 [some (.ref 4), some (.ref 5), some (.ref 70), some (.int (nI (6 * t)))] [.int r, .int r] (E x1 y1)
      refine PW_icmp_eq c_W_law_1145 (fun _ => ?_) (fun h68 => absurd rfl h68)
      refine PW_iinc (i := 3) (v := (nI (6 * t)) + 6) (L2 := [some (.ref 4), some (.ref 5), some (.ref 70), some (.int ((nI (6 * t)) + 6))]) c_W_law_1419 rfl (iinc_v (by decide)) (Nat.le_of_ble_eq_true rfl) rfl rfl ?_
      refine PW_goto c_W_law_1422 ?_
      refine PW.eqL ?_ rfl rfl (ih (t + 1) (by omega) hI1)
      show ([some (.ref 4), some (.ref 5), some (.ref 70), some (.int ((nI (6 * t)) + 6))] : List (Option Value)) = [some (.ref 4), some (.ref 5), some (.ref 70), some (.int (nI (6 * (t + 1))))]
      rw [show nI (6 * t) + 6 = nI (6 * (t + 1)) from nI_add (6 * t) 6]
    by_cases h69 : (z.2 (6 * t)) &&& 63 = 34
    · refine PW_tableIn (tgt := 1150) (off := 1117) c_W_law_33 (by rw [h69]; decide) (by rw [h69]; decide) (by rw [h69]; rfl) rfl ?_
      refine PW_aload_n c_W_law_1150 rfl ?_
      refine PW_aload_n c_W_law_1151 rfl ?_
      refine PW_iload_n c_W_law_1152 rfl ?_
      refine PW_iconst (v := 1) c_W_law_1153 (by decide) ?_
      refine PW_iadd c_W_law_1154 ?_
      refine PW_scald (q := 6 * t + 1) c_W_law_1155 (by rw [(show nI (6 * t) + 1 = nI (6 * t + 1) from nI_add (6 * t) 1)]; exact sc_in (z := z) hz (by omega)) (by rw [(show nI (6 * t) + 1 = nI (6 * t + 1) from nI_add (6 * t) 1)]; exact nI_clamp (by omega)) ?_
      show PW _ _ _ 1156 [some (.ref 4), some (.ref 5), some (.ref 70), some (.int (nI (6 * t)))] [.int (z.2 (6 * t + 1)), .ref 5] (E x y)
      refine PW_aload_n c_W_law_1156 rfl ?_
      refine PW_iload_n c_W_law_1157 rfl ?_
      refine PW_iconst (v := 2) c_W_law_1158 (by decide) ?_
      refine PW_iadd c_W_law_1159 ?_
      refine PW_scald (q := 6 * t + 2) c_W_law_1160 (by rw [(show nI (6 * t) + 2 = nI (6 * t + 2) from nI_add (6 * t) 2)]; exact sc_in (z := z) hz (by omega)) (by rw [(show nI (6 * t) + 2 = nI (6 * t + 2) from nI_add (6 * t) 2)]; exact nI_clamp (by omega)) ?_
      show PW _ _ _ 1161 [some (.ref 4), some (.ref 5), some (.ref 70), some (.int (nI (6 * t)))] [.int (z.2 (6 * t + 2)), .int (z.2 (6 * t + 1)), .ref 5] (E x y)
      refine PW_aload_n c_W_law_1161 rfl ?_
      refine PW_iload_n c_W_law_1162 rfl ?_
      refine PW_iconst (v := 3) c_W_law_1163 (by decide) ?_
      refine PW_iadd c_W_law_1164 ?_
      refine PW_scald (q := 6 * t + 3) c_W_law_1165 (by rw [(show nI (6 * t) + 3 = nI (6 * t + 3) from nI_add (6 * t) 3)]; exact sc_in (z := z) hz (by omega)) (by rw [(show nI (6 * t) + 3 = nI (6 * t + 3) from nI_add (6 * t) 3)]; exact nI_clamp (by omega)) ?_
      show PW _ _ _ 1166 [some (.ref 4), some (.ref 5), some (.ref 70), some (.int (nI (6 * t)))] [.int (z.2 (6 * t + 3)), .int (z.2 (6 * t + 2)), .int (z.2 (6 * t + 1)), .ref 5] (E x y)
      obtain ⟨r, x1, y1, hI1, hX, hM⟩ := op_row (a1 := z.2 (6 * t + 1)) (a2 := z.2 (6 * t + 2)) (a3 := z.2 (6 * t + 3)) hI (by omega)
      refine PW_V0 (d2 := 90) (st := []) [.int (z.2 (6 * t + 1)), .int (z.2 (6 * t + 2)), .int (z.2 (6 * t + 3))] c_W_law_1166 lk_W_law_154 (po_5 _ _) rfl rfl rfl (Nat.le_of_ble_eq_true rfl) (by first | decide | omega) (Nat.le_of_ble_eq_true rfl) ?_
      refine hX ?_
      show PW _ _ _ 1169 [some (.ref 4), some (.ref 5), some (.ref 70), some (.int (nI (6 * t)))] [.int r] (E x1 y)
      refine PW_aload_n c_W_law_1169 rfl ?_
      refine PW_aload_n c_W_law_1170 rfl ?_
      refine PW_iload_n c_W_law_1171 rfl ?_
      refine PW_iconst (v := 1) c_W_law_1172 (by decide) ?_
      refine PW_iadd c_W_law_1173 ?_
      refine PW_scald (q := 6 * t + 1) c_W_law_1174 (by rw [(show nI (6 * t) + 1 = nI (6 * t + 1) from nI_add (6 * t) 1)]; exact sc_in (z := z) hz (by omega)) (by rw [(show nI (6 * t) + 1 = nI (6 * t + 1) from nI_add (6 * t) 1)]; exact nI_clamp (by omega)) ?_
      show PW _ _ _ 1175 [some (.ref 4), some (.ref 5), some (.ref 70), some (.int (nI (6 * t)))] [.int (z.2 (6 * t + 1)), .ref 70, .int r] (E x1 y)
      refine PW_aload_n c_W_law_1175 rfl ?_
      refine PW_iload_n c_W_law_1176 rfl ?_
      refine PW_iconst (v := 2) c_W_law_1177 (by decide) ?_
      refine PW_iadd c_W_law_1178 ?_
      refine PW_scald (q := 6 * t + 2) c_W_law_1179 (by rw [(show nI (6 * t) + 2 = nI (6 * t + 2) from nI_add (6 * t) 2)]; exact sc_in (z := z) hz (by omega)) (by rw [(show nI (6 * t) + 2 = nI (6 * t + 2) from nI_add (6 * t) 2)]; exact nI_clamp (by omega)) ?_
      show PW _ _ _ 1180 [some (.ref 4), some (.ref 5), some (.ref 70), some (.int (nI (6 * t)))] [.int (z.2 (6 * t + 2)), .int (z.2 (6 * t + 1)), .ref 70, .int r] (E x1 y)
      refine PW_aload_n c_W_law_1180 rfl ?_
      refine PW_iload_n c_W_law_1181 rfl ?_
      refine PW_iconst (v := 3) c_W_law_1182 (by decide) ?_
      refine PW_iadd c_W_law_1183 ?_
      refine PW_scald (q := 6 * t + 3) c_W_law_1184 (by rw [(show nI (6 * t) + 3 = nI (6 * t + 3) from nI_add (6 * t) 3)]; exact sc_in (z := z) hz (by omega)) (by rw [(show nI (6 * t) + 3 = nI (6 * t + 3) from nI_add (6 * t) 3)]; exact nI_clamp (by omega)) ?_
      show PW _ _ _ 1185 [some (.ref 4), some (.ref 5), some (.ref 70), some (.int (nI (6 * t)))] [.int (z.2 (6 * t + 3)), .int (z.2 (6 * t + 2)), .int (z.2 (6 * t + 1)), .ref 70, .int r] (E x1 y)
      refine PW_V0 (d2 := 90) (st := [.int r]) [.int (z.2 (6 * t + 1)), .int (z.2 (6 * t + 2)), .int (z.2 (6 * t + 3))] c_W_law_1185 lk_W_law_157 (po_70 _ _) rfl rfl rfl (Nat.le_of_ble_eq_true rfl) (by first | decide | omega) (Nat.le_of_ble_eq_true rfl) ?_
      refine hM ?_
      show PW _ _ _ 1188 [some (.ref 4), some (.ref 5), some (.ref 70), some (.int (nI (6 * t)))] [.int r, .int r] (E x1 y1)
      refine PW_icmp_eq c_W_law_1188 (fun _ => ?_) (fun h70 => absurd rfl h70)
      refine PW_iinc (i := 3) (v := (nI (6 * t)) + 6) (L2 := [some (.ref 4), some (.ref 5), some (.ref 70), some (.int ((nI (6 * t)) + 6))]) c_W_law_1419 rfl (iinc_v (by decide)) (Nat.le_of_ble_eq_true rfl) rfl rfl ?_
      refine PW_goto c_W_law_1422 ?_
      refine PW.eqL ?_ rfl rfl (ih (t + 1) (by omega) hI1)
      show ([some (.ref 4), some (.ref 5), some (.ref 70), some (.int ((nI (6 * t)) + 6))] : List (Option Value)) = [some (.ref 4), some (.ref 5), some (.ref 70), some (.int (nI (6 * (t + 1))))]
      rw [show nI (6 * t) + 6 = nI (6 * (t + 1)) from nI_add (6 * t) 6]
    by_cases h71 : (z.2 (6 * t)) &&& 63 = 35
    · refine PW_tableIn (tgt := 1193) (off := 1160) c_W_law_33 (by rw [h71]; decide) (by rw [h71]; decide) (by rw [h71]; rfl) rfl ?_
      refine PW_aload_n c_W_law_1193 rfl ?_
      refine PW_aload_n c_W_law_1194 rfl ?_
      refine PW_iload_n c_W_law_1195 rfl ?_
      refine PW_iconst (v := 1) c_W_law_1196 (by decide) ?_
      refine PW_iadd c_W_law_1197 ?_
      refine PW_scald (q := 6 * t + 1) c_W_law_1198 (by rw [(show nI (6 * t) + 1 = nI (6 * t + 1) from nI_add (6 * t) 1)]; exact sc_in (z := z) hz (by omega)) (by rw [(show nI (6 * t) + 1 = nI (6 * t + 1) from nI_add (6 * t) 1)]; exact nI_clamp (by omega)) ?_
      show PW _ _ _ 1199 [some (.ref 4), some (.ref 5), some (.ref 70), some (.int (nI (6 * t)))] [.int (z.2 (6 * t + 1)), .ref 5] (E x y)
      refine PW_aload_n c_W_law_1199 rfl ?_
      refine PW_iload_n c_W_law_1200 rfl ?_
      refine PW_iconst (v := 2) c_W_law_1201 (by decide) ?_
      refine PW_iadd c_W_law_1202 ?_
      refine PW_scald (q := 6 * t + 2) c_W_law_1203 (by rw [(show nI (6 * t) + 2 = nI (6 * t + 2) from nI_add (6 * t) 2)]; exact sc_in (z := z) hz (by omega)) (by rw [(show nI (6 * t) + 2 = nI (6 * t + 2) from nI_add (6 * t) 2)]; exact nI_clamp (by omega)) ?_
      show PW _ _ _ 1204 [some (.ref 4), some (.ref 5), some (.ref 70), some (.int (nI (6 * t)))] [.int (z.2 (6 * t + 2)), .int (z.2 (6 * t + 1)), .ref 5] (E x y)
      refine PW_aload_n c_W_law_1204 rfl ?_
      refine PW_iload_n c_W_law_1205 rfl ?_
      refine PW_iconst (v := 3) c_W_law_1206 (by decide) ?_
      refine PW_iadd c_W_law_1207 ?_
      refine PW_scald (q := 6 * t + 3) c_W_law_1208 (by rw [(show nI (6 * t) + 3 = nI (6 * t + 3) from nI_add (6 * t) 3)]; exact sc_in (z := z) hz (by omega)) (by rw [(show nI (6 * t) + 3 = nI (6 * t + 3) from nI_add (6 * t) 3)]; exact nI_clamp (by omega)) ?_
      show PW _ _ _ 1209 [some (.ref 4), some (.ref 5), some (.ref 70), some (.int (nI (6 * t)))] [.int (z.2 (6 * t + 3)), .int (z.2 (6 * t + 2)), .int (z.2 (6 * t + 1)), .ref 5] (E x y)
      refine PW_i2l c_W_law_1209 ?_
      refine PW_bipush (v := 32) c_W_law_1210 (by decide) ?_
      refine PW_lshl c_W_law_1212 ?_
      refine PW_aload_n c_W_law_1213 rfl ?_
      refine PW_iload_n c_W_law_1214 rfl ?_
      refine PW_iconst (v := 4) c_W_law_1215 (by decide) ?_
      refine PW_iadd c_W_law_1216 ?_
      refine PW_scald (q := 6 * t + 4) c_W_law_1217 (by rw [(show nI (6 * t) + 4 = nI (6 * t + 4) from nI_add (6 * t) 4)]; exact sc_in (z := z) hz (by omega)) (by rw [(show nI (6 * t) + 4 = nI (6 * t + 4) from nI_add (6 * t) 4)]; exact nI_clamp (by omega)) ?_
      show PW _ _ _ 1218 [some (.ref 4), some (.ref 5), some (.ref 70), some (.int (nI (6 * t)))] [.int (z.2 (6 * t + 4)), .long (((z.2 (6 * t + 3)).toInt64) <<< ((32 : Int32).toInt64 &&& 63)), .int (z.2 (6 * t + 2)), .int (z.2 (6 * t + 1)), .ref 5] (E x y)
      refine PW_i2l c_W_law_1218 ?_
      refine PW_ldc2 c_W_law_1219 kk_W_158 ?_
      refine PW_land c_W_law_1222 ?_
      refine PW_lor c_W_law_1223 ?_
      obtain ⟨r, x1, y1, hI1, hX, hM⟩ := op_put (a1 := z.2 (6 * t + 1)) (a2 := z.2 (6 * t + 2)) (a3 := (((z.2 (6 * t + 3)).toInt64) <<< ((32 : Int32).toInt64 &&& 63)) ||| (((z.2 (6 * t + 4)).toInt64) &&& 4294967295)) hI (by omega)
      refine PW_V0 (d2 := 90) (st := []) [.int (z.2 (6 * t + 1)), .int (z.2 (6 * t + 2)), .long ((((z.2 (6 * t + 3)).toInt64) <<< ((32 : Int32).toInt64 &&& 63)) ||| (((z.2 (6 * t + 4)).toInt64) &&& 4294967295))] c_W_law_1224 lk_W_law_160 (po_5 _ _) rfl rfl rfl (Nat.le_of_ble_eq_true rfl) (by first | decide | omega) (Nat.le_of_ble_eq_true rfl) ?_
      refine hX ?_
      show PW _ _ _ 1227 [some (.ref 4), some (.ref 5), some (.ref 70), some (.int (nI (6 * t)))] [.int r] (E x1 y)
      refine PW_aload_n c_W_law_1227 rfl ?_
      refine PW_aload_n c_W_law_1228 rfl ?_
      refine PW_iload_n c_W_law_1229 rfl ?_
      refine PW_iconst (v := 1) c_W_law_1230 (by decide) ?_
      refine PW_iadd c_W_law_1231 ?_
      refine PW_scald (q := 6 * t + 1) c_W_law_1232 (by rw [(show nI (6 * t) + 1 = nI (6 * t + 1) from nI_add (6 * t) 1)]; exact sc_in (z := z) hz (by omega)) (by rw [(show nI (6 * t) + 1 = nI (6 * t + 1) from nI_add (6 * t) 1)]; exact nI_clamp (by omega)) ?_
      show PW _ _ _ 1233 [some (.ref 4), some (.ref 5), some (.ref 70), some (.int (nI (6 * t)))] [.int (z.2 (6 * t + 1)), .ref 70, .int r] (E x1 y)
      refine PW_aload_n c_W_law_1233 rfl ?_
      refine PW_iload_n c_W_law_1234 rfl ?_
      refine PW_iconst (v := 2) c_W_law_1235 (by decide) ?_
      refine PW_iadd c_W_law_1236 ?_
      refine PW_scald (q := 6 * t + 2) c_W_law_1237 (by rw [(show nI (6 * t) + 2 = nI (6 * t + 2) from nI_add (6 * t) 2)]; exact sc_in (z := z) hz (by omega)) (by rw [(show nI (6 * t) + 2 = nI (6 * t + 2) from nI_add (6 * t) 2)]; exact nI_clamp (by omega)) ?_
      show PW _ _ _ 1238 [some (.ref 4), some (.ref 5), some (.ref 70), some (.int (nI (6 * t)))] [.int (z.2 (6 * t + 2)), .int (z.2 (6 * t + 1)), .ref 70, .int r] (E x1 y)
      refine PW_aload_n c_W_law_1238 rfl ?_
      refine PW_iload_n c_W_law_1239 rfl ?_
      refine PW_iconst (v := 3) c_W_law_1240 (by decide) ?_
      refine PW_iadd c_W_law_1241 ?_
      refine PW_scald (q := 6 * t + 3) c_W_law_1242 (by rw [(show nI (6 * t) + 3 = nI (6 * t + 3) from nI_add (6 * t) 3)]; exact sc_in (z := z) hz (by omega)) (by rw [(show nI (6 * t) + 3 = nI (6 * t + 3) from nI_add (6 * t) 3)]; exact nI_clamp (by omega)) ?_
      show PW _ _ _ 1243 [some (.ref 4), some (.ref 5), some (.ref 70), some (.int (nI (6 * t)))] [.int (z.2 (6 * t + 3)), .int (z.2 (6 * t + 2)), .int (z.2 (6 * t + 1)), .ref 70, .int r] (E x1 y)
      refine PW_i2l c_W_law_1243 ?_
      refine PW_bipush (v := 32) c_W_law_1244 (by decide) ?_
      refine PW_lshl c_W_law_1246 ?_
      refine PW_aload_n c_W_law_1247 rfl ?_
      refine PW_iload_n c_W_law_1248 rfl ?_
      refine PW_iconst (v := 4) c_W_law_1249 (by decide) ?_
      refine PW_iadd c_W_law_1250 ?_
      refine PW_scald (q := 6 * t + 4) c_W_law_1251 (by rw [(show nI (6 * t) + 4 = nI (6 * t + 4) from nI_add (6 * t) 4)]; exact sc_in (z := z) hz (by omega)) (by rw [(show nI (6 * t) + 4 = nI (6 * t + 4) from nI_add (6 * t) 4)]; exact nI_clamp (by omega)) ?_
      show PW _ _ _ 1252 [some (.ref 4), some (.ref 5), some (.ref 70), some (.int (nI (6 * t)))] [.int (z.2 (6 * t + 4)), .long (((z.2 (6 * t + 3)).toInt64) <<< ((32 : Int32).toInt64 &&& 63)), .int (z.2 (6 * t + 2)), .int (z.2 (6 * t + 1)), .ref 70, .int r] (E x1 y)
      refine PW_i2l c_W_law_1252 ?_
      refine PW_ldc2 c_W_law_1253 kk_W_158 ?_
      refine PW_land c_W_law_1256 ?_
      refine PW_lor c_W_law_1257 ?_
      refine PW_V0 (d2 := 90) (st := [.int r]) [.int (z.2 (6 * t + 1)), .int (z.2 (6 * t + 2)), .long ((((z.2 (6 * t + 3)).toInt64) <<< ((32 : Int32).toInt64 &&& 63)) ||| (((z.2 (6 * t + 4)).toInt64) &&& 4294967295))] c_W_law_1258 lk_W_law_164 (po_70 _ _) rfl rfl rfl (Nat.le_of_ble_eq_true rfl) (by first | decide | omega) (Nat.le_of_ble_eq_true rfl) ?_
      refine hM ?_
      show PW _ _ _ 1261 [some (.ref 4), some (.ref 5), some (.ref 70), some (.int (nI (6 * t)))] [.int r, .int r] (E x1 y1)
      refine PW_icmp_eq c_W_law_1261 (fun _ => ?_) (fun h72 => absurd rfl h72)
      refine PW_iinc (i := 3) (v := (nI (6 * t)) + 6) (L2 := [some (.ref 4), some (.ref 5), some (.ref 70), some (.int ((nI (6 * t)) + 6))]) c_W_law_1419 rfl (iinc_v (by decide)) (Nat.le_of_ble_eq_true rfl) rfl rfl ?_
      refine PW_goto c_W_law_1422 ?_
      refine PW.eqL ?_ rfl rfl (ih (t + 1) (by omega) hI1)
      show ([some (.ref 4), some (.ref 5), some (.ref 70), some (.int ((nI (6 * t)) + 6))] : List (Option Value)) = [some (.ref 4), some (.ref 5), some (.ref 70), some (.int (nI (6 * (t + 1))))]
      rw [show nI (6 * t) + 6 = nI (6 * (t + 1)) from nI_add (6 * t) 6]
    by_cases h73 : (z.2 (6 * t)) &&& 63 = 36
    · refine PW_tableIn (tgt := 1266) (off := 1233) c_W_law_33 (by rw [h73]; decide) (by rw [h73]; decide) (by rw [h73]; rfl) rfl ?_
      refine PW_aload_n c_W_law_1266 rfl ?_
      refine PW_aload_n c_W_law_1267 rfl ?_
      refine PW_iload_n c_W_law_1268 rfl ?_
      refine PW_iconst (v := 1) c_W_law_1269 (by decide) ?_
      refine PW_iadd c_W_law_1270 ?_
      refine PW_scald (q := 6 * t + 1) c_W_law_1271 (by rw [(show nI (6 * t) + 1 = nI (6 * t + 1) from nI_add (6 * t) 1)]; exact sc_in (z := z) hz (by omega)) (by rw [(show nI (6 * t) + 1 = nI (6 * t + 1) from nI_add (6 * t) 1)]; exact nI_clamp (by omega)) ?_
      show PW _ _ _ 1272 [some (.ref 4), some (.ref 5), some (.ref 70), some (.int (nI (6 * t)))] [.int (z.2 (6 * t + 1)), .ref 5] (E x y)
      refine PW_aload_n c_W_law_1272 rfl ?_
      refine PW_iload_n c_W_law_1273 rfl ?_
      refine PW_iconst (v := 2) c_W_law_1274 (by decide) ?_
      refine PW_iadd c_W_law_1275 ?_
      refine PW_scald (q := 6 * t + 2) c_W_law_1276 (by rw [(show nI (6 * t) + 2 = nI (6 * t + 2) from nI_add (6 * t) 2)]; exact sc_in (z := z) hz (by omega)) (by rw [(show nI (6 * t) + 2 = nI (6 * t + 2) from nI_add (6 * t) 2)]; exact nI_clamp (by omega)) ?_
      show PW _ _ _ 1277 [some (.ref 4), some (.ref 5), some (.ref 70), some (.int (nI (6 * t)))] [.int (z.2 (6 * t + 2)), .int (z.2 (6 * t + 1)), .ref 5] (E x y)
      obtain ⟨r, x1, y1, hI1, hX, hM⟩ := op_element (a1 := z.2 (6 * t + 1)) (a2 := z.2 (6 * t + 2)) hI (by omega)
      refine PW_V0 (d2 := 90) (st := []) [.int (z.2 (6 * t + 1)), .int (z.2 (6 * t + 2))] c_W_law_1277 lk_W_law_165 (po_5 _ _) rfl rfl rfl (Nat.le_of_ble_eq_true rfl) (by first | decide | omega) (Nat.le_of_ble_eq_true rfl) ?_
      refine hX ?_
      show PW _ _ _ 1280 [some (.ref 4), some (.ref 5), some (.ref 70), some (.int (nI (6 * t)))] [.long r] (E x1 y)
      refine PW_aload_n c_W_law_1280 rfl ?_
      refine PW_aload_n c_W_law_1281 rfl ?_
      refine PW_iload_n c_W_law_1282 rfl ?_
      refine PW_iconst (v := 1) c_W_law_1283 (by decide) ?_
      refine PW_iadd c_W_law_1284 ?_
      refine PW_scald (q := 6 * t + 1) c_W_law_1285 (by rw [(show nI (6 * t) + 1 = nI (6 * t + 1) from nI_add (6 * t) 1)]; exact sc_in (z := z) hz (by omega)) (by rw [(show nI (6 * t) + 1 = nI (6 * t + 1) from nI_add (6 * t) 1)]; exact nI_clamp (by omega)) ?_
      show PW _ _ _ 1286 [some (.ref 4), some (.ref 5), some (.ref 70), some (.int (nI (6 * t)))] [.int (z.2 (6 * t + 1)), .ref 70, .long r] (E x1 y)
      refine PW_aload_n c_W_law_1286 rfl ?_
      refine PW_iload_n c_W_law_1287 rfl ?_
      refine PW_iconst (v := 2) c_W_law_1288 (by decide) ?_
      refine PW_iadd c_W_law_1289 ?_
      refine PW_scald (q := 6 * t + 2) c_W_law_1290 (by rw [(show nI (6 * t) + 2 = nI (6 * t + 2) from nI_add (6 * t) 2)]; exact sc_in (z := z) hz (by omega)) (by rw [(show nI (6 * t) + 2 = nI (6 * t + 2) from nI_add (6 * t) 2)]; exact nI_clamp (by omega)) ?_
      show PW _ _ _ 1291 [some (.ref 4), some (.ref 5), some (.ref 70), some (.int (nI (6 * t)))] [.int (z.2 (6 * t + 2)), .int (z.2 (6 * t + 1)), .ref 70, .long r] (E x1 y)
      refine PW_V0 (d2 := 90) (st := [.long r]) [.int (z.2 (6 * t + 1)), .int (z.2 (6 * t + 2))] c_W_law_1291 lk_W_law_169 (po_70 _ _) rfl rfl rfl (Nat.le_of_ble_eq_true rfl) (by first | decide | omega) (Nat.le_of_ble_eq_true rfl) ?_
      refine hM ?_
      show PW _ _ _ 1294 [some (.ref 4), some (.ref 5), some (.ref 70), some (.int (nI (6 * t)))] [.long r, .long r] (E x1 y1)
      refine PW_lcmp c_W_law_1294 ?_
      refine PW_if_eq c_W_law_1295 (fun h74 => ?_) (fun h74 => absurd (lg_self r) h74)
      refine PW_iinc (i := 3) (v := (nI (6 * t)) + 6) (L2 := [some (.ref 4), some (.ref 5), some (.ref 70), some (.int ((nI (6 * t)) + 6))]) c_W_law_1419 rfl (iinc_v (by decide)) (Nat.le_of_ble_eq_true rfl) rfl rfl ?_
      refine PW_goto c_W_law_1422 ?_
      refine PW.eqL ?_ rfl rfl (ih (t + 1) (by omega) hI1)
      show ([some (.ref 4), some (.ref 5), some (.ref 70), some (.int ((nI (6 * t)) + 6))] : List (Option Value)) = [some (.ref 4), some (.ref 5), some (.ref 70), some (.int (nI (6 * (t + 1))))]
      rw [show nI (6 * t) + 6 = nI (6 * (t + 1)) from nI_add (6 * t) 6]
    by_cases h75 : (z.2 (6 * t)) &&& 63 = 37
    · refine PW_tableIn (tgt := 1300) (off := 1267) c_W_law_33 (by rw [h75]; decide) (by rw [h75]; decide) (by rw [h75]; rfl) rfl ?_
      refine PW_aload_n c_W_law_1300 rfl ?_
      refine PW_aload_n c_W_law_1301 rfl ?_
      refine PW_iload_n c_W_law_1302 rfl ?_
      refine PW_iconst (v := 1) c_W_law_1303 (by decide) ?_
      refine PW_iadd c_W_law_1304 ?_
      refine PW_scald (q := 6 * t + 1) c_W_law_1305 (by rw [(show nI (6 * t) + 1 = nI (6 * t + 1) from nI_add (6 * t) 1)]; exact sc_in (z := z) hz (by omega)) (by rw [(show nI (6 * t) + 1 = nI (6 * t + 1) from nI_add (6 * t) 1)]; exact nI_clamp (by omega)) ?_
      show PW _ _ _ 1306 [some (.ref 4), some (.ref 5), some (.ref 70), some (.int (nI (6 * t)))] [.int (z.2 (6 * t + 1)), .ref 5] (E x y)
      refine PW_aload_n c_W_law_1306 rfl ?_
      refine PW_iload_n c_W_law_1307 rfl ?_
      refine PW_iconst (v := 2) c_W_law_1308 (by decide) ?_
      refine PW_iadd c_W_law_1309 ?_
      refine PW_scald (q := 6 * t + 2) c_W_law_1310 (by rw [(show nI (6 * t) + 2 = nI (6 * t + 2) from nI_add (6 * t) 2)]; exact sc_in (z := z) hz (by omega)) (by rw [(show nI (6 * t) + 2 = nI (6 * t + 2) from nI_add (6 * t) 2)]; exact nI_clamp (by omega)) ?_
      show PW _ _ _ 1311 [some (.ref 4), some (.ref 5), some (.ref 70), some (.int (nI (6 * t)))] [.int (z.2 (6 * t + 2)), .int (z.2 (6 * t + 1)), .ref 5] (E x y)
      refine PW_aload_n c_W_law_1311 rfl ?_
      refine PW_iload_n c_W_law_1312 rfl ?_
      refine PW_iconst (v := 3) c_W_law_1313 (by decide) ?_
      refine PW_iadd c_W_law_1314 ?_
      refine PW_scald (q := 6 * t + 3) c_W_law_1315 (by rw [(show nI (6 * t) + 3 = nI (6 * t + 3) from nI_add (6 * t) 3)]; exact sc_in (z := z) hz (by omega)) (by rw [(show nI (6 * t) + 3 = nI (6 * t + 3) from nI_add (6 * t) 3)]; exact nI_clamp (by omega)) ?_
      show PW _ _ _ 1316 [some (.ref 4), some (.ref 5), some (.ref 70), some (.int (nI (6 * t)))] [.int (z.2 (6 * t + 3)), .int (z.2 (6 * t + 2)), .int (z.2 (6 * t + 1)), .ref 5] (E x y)
      refine PW_aload_n c_W_law_1316 rfl ?_
      refine PW_iload_n c_W_law_1317 rfl ?_
      refine PW_iconst (v := 4) c_W_law_1318 (by decide) ?_
      refine PW_iadd c_W_law_1319 ?_
      refine PW_scald (q := 6 * t + 4) c_W_law_1320 (by rw [(show nI (6 * t) + 4 = nI (6 * t + 4) from nI_add (6 * t) 4)]; exact sc_in (z := z) hz (by omega)) (by rw [(show nI (6 * t) + 4 = nI (6 * t + 4) from nI_add (6 * t) 4)]; exact nI_clamp (by omega)) ?_
      show PW _ _ _ 1321 [some (.ref 4), some (.ref 5), some (.ref 70), some (.int (nI (6 * t)))] [.int (z.2 (6 * t + 4)), .int (z.2 (6 * t + 3)), .int (z.2 (6 * t + 2)), .int (z.2 (6 * t + 1)), .ref 5] (E x y)
      refine PW_aload_n c_W_law_1321 rfl ?_
      refine PW_iload_n c_W_law_1322 rfl ?_
      refine PW_iconst (v := 5) c_W_law_1323 (by decide) ?_
      refine PW_iadd c_W_law_1324 ?_
      refine PW_scald (q := 6 * t + 5) c_W_law_1325 (by rw [(show nI (6 * t) + 5 = nI (6 * t + 5) from nI_add (6 * t) 5)]; exact sc_in (z := z) hz (by omega)) (by rw [(show nI (6 * t) + 5 = nI (6 * t + 5) from nI_add (6 * t) 5)]; exact nI_clamp (by omega)) ?_
      show PW _ _ _ 1326 [some (.ref 4), some (.ref 5), some (.ref 70), some (.int (nI (6 * t)))] [.int (z.2 (6 * t + 5)), .int (z.2 (6 * t + 4)), .int (z.2 (6 * t + 3)), .int (z.2 (6 * t + 2)), .int (z.2 (6 * t + 1)), .ref 5] (E x y)
      obtain ⟨r, x1, y1, hI1, hX, hM⟩ := op_shift (a1 := z.2 (6 * t + 1)) (a2 := z.2 (6 * t + 2)) (a3 := z.2 (6 * t + 3)) (a4 := z.2 (6 * t + 4)) (a5 := z.2 (6 * t + 5)) hI (by omega)
      refine PW_V0 (d2 := 90) (st := []) [.int (z.2 (6 * t + 1)), .int (z.2 (6 * t + 2)), .int (z.2 (6 * t + 3)), .int (z.2 (6 * t + 4)), .int (z.2 (6 * t + 5))] c_W_law_1326 lk_W_law_170 (po_5 _ _) rfl rfl rfl (Nat.le_of_ble_eq_true rfl) (by first | decide | omega) (Nat.le_of_ble_eq_true rfl) ?_
      refine hX ?_
      show PW _ _ _ 1329 [some (.ref 4), some (.ref 5), some (.ref 70), some (.int (nI (6 * t)))] [.int r] (E x1 y)
      refine PW_aload_n c_W_law_1329 rfl ?_
      refine PW_aload_n c_W_law_1330 rfl ?_
      refine PW_iload_n c_W_law_1331 rfl ?_
      refine PW_iconst (v := 1) c_W_law_1332 (by decide) ?_
      refine PW_iadd c_W_law_1333 ?_
      refine PW_scald (q := 6 * t + 1) c_W_law_1334 (by rw [(show nI (6 * t) + 1 = nI (6 * t + 1) from nI_add (6 * t) 1)]; exact sc_in (z := z) hz (by omega)) (by rw [(show nI (6 * t) + 1 = nI (6 * t + 1) from nI_add (6 * t) 1)]; exact nI_clamp (by omega)) ?_
      show PW _ _ _ 1335 [some (.ref 4), some (.ref 5), some (.ref 70), some (.int (nI (6 * t)))] [.int (z.2 (6 * t + 1)), .ref 70, .int r] (E x1 y)
      refine PW_aload_n c_W_law_1335 rfl ?_
      refine PW_iload_n c_W_law_1336 rfl ?_
      refine PW_iconst (v := 2) c_W_law_1337 (by decide) ?_
      refine PW_iadd c_W_law_1338 ?_
      refine PW_scald (q := 6 * t + 2) c_W_law_1339 (by rw [(show nI (6 * t) + 2 = nI (6 * t + 2) from nI_add (6 * t) 2)]; exact sc_in (z := z) hz (by omega)) (by rw [(show nI (6 * t) + 2 = nI (6 * t + 2) from nI_add (6 * t) 2)]; exact nI_clamp (by omega)) ?_
      show PW _ _ _ 1340 [some (.ref 4), some (.ref 5), some (.ref 70), some (.int (nI (6 * t)))] [.int (z.2 (6 * t + 2)), .int (z.2 (6 * t + 1)), .ref 70, .int r] (E x1 y)
      refine PW_aload_n c_W_law_1340 rfl ?_
      refine PW_iload_n c_W_law_1341 rfl ?_
      refine PW_iconst (v := 3) c_W_law_1342 (by decide) ?_
      refine PW_iadd c_W_law_1343 ?_
      refine PW_scald (q := 6 * t + 3) c_W_law_1344 (by rw [(show nI (6 * t) + 3 = nI (6 * t + 3) from nI_add (6 * t) 3)]; exact sc_in (z := z) hz (by omega)) (by rw [(show nI (6 * t) + 3 = nI (6 * t + 3) from nI_add (6 * t) 3)]; exact nI_clamp (by omega)) ?_
      show PW _ _ _ 1345 [some (.ref 4), some (.ref 5), some (.ref 70), some (.int (nI (6 * t)))] [.int (z.2 (6 * t + 3)), .int (z.2 (6 * t + 2)), .int (z.2 (6 * t + 1)), .ref 70, .int r] (E x1 y)
      refine PW_aload_n c_W_law_1345 rfl ?_
      refine PW_iload_n c_W_law_1346 rfl ?_
      refine PW_iconst (v := 4) c_W_law_1347 (by decide) ?_
      refine PW_iadd c_W_law_1348 ?_
      refine PW_scald (q := 6 * t + 4) c_W_law_1349 (by rw [(show nI (6 * t) + 4 = nI (6 * t + 4) from nI_add (6 * t) 4)]; exact sc_in (z := z) hz (by omega)) (by rw [(show nI (6 * t) + 4 = nI (6 * t + 4) from nI_add (6 * t) 4)]; exact nI_clamp (by omega)) ?_
      show PW _ _ _ 1350 [some (.ref 4), some (.ref 5), some (.ref 70), some (.int (nI (6 * t)))] [.int (z.2 (6 * t + 4)), .int (z.2 (6 * t + 3)), .int (z.2 (6 * t + 2)), .int (z.2 (6 * t + 1)), .ref 70, .int r] (E x1 y)
      refine PW_aload_n c_W_law_1350 rfl ?_
      refine PW_iload_n c_W_law_1351 rfl ?_
      refine PW_iconst (v := 5) c_W_law_1352 (by decide) ?_
      refine PW_iadd c_W_law_1353 ?_
      refine PW_scald (q := 6 * t + 5) c_W_law_1354 (by rw [(show nI (6 * t) + 5 = nI (6 * t + 5) from nI_add (6 * t) 5)]; exact sc_in (z := z) hz (by omega)) (by rw [(show nI (6 * t) + 5 = nI (6 * t + 5) from nI_add (6 * t) 5)]; exact nI_clamp (by omega)) ?_
      show PW _ _ _ 1355 [some (.ref 4), some (.ref 5), some (.ref 70), some (.int (nI (6 * t)))] [.int (z.2 (6 * t + 5)), .int (z.2 (6 * t + 4)), .int (z.2 (6 * t + 3)), .int (z.2 (6 * t + 2)), .int (z.2 (6 * t + 1)), .ref 70, .int r] (E x1 y)
      refine PW_V0 (d2 := 90) (st := [.int r]) [.int (z.2 (6 * t + 1)), .int (z.2 (6 * t + 2)), .int (z.2 (6 * t + 3)), .int (z.2 (6 * t + 4)), .int (z.2 (6 * t + 5))] c_W_law_1355 lk_W_law_174 (po_70 _ _) rfl rfl rfl (Nat.le_of_ble_eq_true rfl) (by first | decide | omega) (Nat.le_of_ble_eq_true rfl) ?_
      refine hM ?_
      show PW _ _ _ 1358 [some (.ref 4), some (.ref 5), some (.ref 70), some (.int (nI (6 * t)))] [.int r, .int r] (E x1 y1)
      refine PW_icmp_eq c_W_law_1358 (fun _ => ?_) (fun h76 => absurd rfl h76)
      refine PW_iinc (i := 3) (v := (nI (6 * t)) + 6) (L2 := [some (.ref 4), some (.ref 5), some (.ref 70), some (.int ((nI (6 * t)) + 6))]) c_W_law_1419 rfl (iinc_v (by decide)) (Nat.le_of_ble_eq_true rfl) rfl rfl ?_
      refine PW_goto c_W_law_1422 ?_
      refine PW.eqL ?_ rfl rfl (ih (t + 1) (by omega) hI1)
      show ([some (.ref 4), some (.ref 5), some (.ref 70), some (.int ((nI (6 * t)) + 6))] : List (Option Value)) = [some (.ref 4), some (.ref 5), some (.ref 70), some (.int (nI (6 * (t + 1))))]
      rw [show nI (6 * t) + 6 = nI (6 * (t + 1)) from nI_add (6 * t) 6]
    by_cases h77 : (z.2 (6 * t)) &&& 63 = 38
    · refine PW_tableIn (tgt := 1363) (off := 1330) c_W_law_33 (by rw [h77]; decide) (by rw [h77]; decide) (by rw [h77]; rfl) rfl ?_
      refine PW_aload_n c_W_law_1363 rfl ?_
      refine PW_aload_n c_W_law_1364 rfl ?_
      refine PW_iload_n c_W_law_1365 rfl ?_
      refine PW_iconst (v := 1) c_W_law_1366 (by decide) ?_
      refine PW_iadd c_W_law_1367 ?_
      refine PW_scald (q := 6 * t + 1) c_W_law_1368 (by rw [(show nI (6 * t) + 1 = nI (6 * t + 1) from nI_add (6 * t) 1)]; exact sc_in (z := z) hz (by omega)) (by rw [(show nI (6 * t) + 1 = nI (6 * t + 1) from nI_add (6 * t) 1)]; exact nI_clamp (by omega)) ?_
      show PW _ _ _ 1369 [some (.ref 4), some (.ref 5), some (.ref 70), some (.int (nI (6 * t)))] [.int (z.2 (6 * t + 1)), .ref 5] (E x y)
      refine PW_aload_n c_W_law_1369 rfl ?_
      refine PW_iload_n c_W_law_1370 rfl ?_
      refine PW_iconst (v := 2) c_W_law_1371 (by decide) ?_
      refine PW_iadd c_W_law_1372 ?_
      refine PW_scald (q := 6 * t + 2) c_W_law_1373 (by rw [(show nI (6 * t) + 2 = nI (6 * t + 2) from nI_add (6 * t) 2)]; exact sc_in (z := z) hz (by omega)) (by rw [(show nI (6 * t) + 2 = nI (6 * t + 2) from nI_add (6 * t) 2)]; exact nI_clamp (by omega)) ?_
      show PW _ _ _ 1374 [some (.ref 4), some (.ref 5), some (.ref 70), some (.int (nI (6 * t)))] [.int (z.2 (6 * t + 2)), .int (z.2 (6 * t + 1)), .ref 5] (E x y)
      obtain ⟨r, x1, y1, hI1, hX, hM⟩ := op_taken (a1 := z.2 (6 * t + 1)) (a2 := z.2 (6 * t + 2)) hI (by omega)
      refine PW_V0 (d2 := 90) (st := []) [.int (z.2 (6 * t + 1)), .int (z.2 (6 * t + 2))] c_W_law_1374 lk_W_law_175 (po_5 _ _) rfl rfl rfl (Nat.le_of_ble_eq_true rfl) (by first | decide | omega) (Nat.le_of_ble_eq_true rfl) ?_
      refine hX ?_
      show PW _ _ _ 1377 [some (.ref 4), some (.ref 5), some (.ref 70), some (.int (nI (6 * t)))] [.int r] (E x1 y)
      refine PW_aload_n c_W_law_1377 rfl ?_
      refine PW_aload_n c_W_law_1378 rfl ?_
      refine PW_iload_n c_W_law_1379 rfl ?_
      refine PW_iconst (v := 1) c_W_law_1380 (by decide) ?_
      refine PW_iadd c_W_law_1381 ?_
      refine PW_scald (q := 6 * t + 1) c_W_law_1382 (by rw [(show nI (6 * t) + 1 = nI (6 * t + 1) from nI_add (6 * t) 1)]; exact sc_in (z := z) hz (by omega)) (by rw [(show nI (6 * t) + 1 = nI (6 * t + 1) from nI_add (6 * t) 1)]; exact nI_clamp (by omega)) ?_
      show PW _ _ _ 1383 [some (.ref 4), some (.ref 5), some (.ref 70), some (.int (nI (6 * t)))] [.int (z.2 (6 * t + 1)), .ref 70, .int r] (E x1 y)
      refine PW_aload_n c_W_law_1383 rfl ?_
      refine PW_iload_n c_W_law_1384 rfl ?_
      refine PW_iconst (v := 2) c_W_law_1385 (by decide) ?_
      refine PW_iadd c_W_law_1386 ?_
      refine PW_scald (q := 6 * t + 2) c_W_law_1387 (by rw [(show nI (6 * t) + 2 = nI (6 * t + 2) from nI_add (6 * t) 2)]; exact sc_in (z := z) hz (by omega)) (by rw [(show nI (6 * t) + 2 = nI (6 * t + 2) from nI_add (6 * t) 2)]; exact nI_clamp (by omega)) ?_
      show PW _ _ _ 1388 [some (.ref 4), some (.ref 5), some (.ref 70), some (.int (nI (6 * t)))] [.int (z.2 (6 * t + 2)), .int (z.2 (6 * t + 1)), .ref 70, .int r] (E x1 y)
      refine PW_V0 (d2 := 90) (st := [.int r]) [.int (z.2 (6 * t + 1)), .int (z.2 (6 * t + 2))] c_W_law_1388 lk_W_law_178 (po_70 _ _) rfl rfl rfl (Nat.le_of_ble_eq_true rfl) (by first | decide | omega) (Nat.le_of_ble_eq_true rfl) ?_
      refine hM ?_
      show PW _ _ _ 1391 [some (.ref 4), some (.ref 5), some (.ref 70), some (.int (nI (6 * t)))] [.int r, .int r] (E x1 y1)
      refine PW_icmp_eq c_W_law_1391 (fun _ => ?_) (fun h78 => absurd rfl h78)
      refine PW_iinc (i := 3) (v := (nI (6 * t)) + 6) (L2 := [some (.ref 4), some (.ref 5), some (.ref 70), some (.int ((nI (6 * t)) + 6))]) c_W_law_1419 rfl (iinc_v (by decide)) (Nat.le_of_ble_eq_true rfl) rfl rfl ?_
      refine PW_goto c_W_law_1422 ?_
      refine PW.eqL ?_ rfl rfl (ih (t + 1) (by omega) hI1)
      show ([some (.ref 4), some (.ref 5), some (.ref 70), some (.int ((nI (6 * t)) + 6))] : List (Option Value)) = [some (.ref 4), some (.ref 5), some (.ref 70), some (.int (nI (6 * (t + 1))))]
      rw [show nI (6 * t) + 6 = nI (6 * (t + 1)) from nI_add (6 * t) 6]
    by_cases h79 : (z.2 (6 * t)) &&& 63 = 39
    · refine PW_tableIn (tgt := 1396) (off := 1363) c_W_law_33 (by rw [h79]; decide) (by rw [h79]; decide) (by rw [h79]; rfl) rfl ?_
      refine PW_aload_n c_W_law_1396 rfl ?_
      refine PW_aload_n c_W_law_1397 rfl ?_
      refine PW_iload_n c_W_law_1398 rfl ?_
      refine PW_iconst (v := 1) c_W_law_1399 (by decide) ?_
      refine PW_iadd c_W_law_1400 ?_
      refine PW_scald (q := 6 * t + 1) c_W_law_1401 (by rw [(show nI (6 * t) + 1 = nI (6 * t + 1) from nI_add (6 * t) 1)]; exact sc_in (z := z) hz (by omega)) (by rw [(show nI (6 * t) + 1 = nI (6 * t + 1) from nI_add (6 * t) 1)]; exact nI_clamp (by omega)) ?_
      show PW _ _ _ 1402 [some (.ref 4), some (.ref 5), some (.ref 70), some (.int (nI (6 * t)))] [.int (z.2 (6 * t + 1)), .ref 5] (E x y)
      obtain ⟨r, x1, y1, hI1, hX, hM⟩ := op_count (a1 := z.2 (6 * t + 1)) hI (by omega)
      refine PW_V0 (d2 := 90) (st := []) [.int (z.2 (6 * t + 1))] c_W_law_1402 lk_W_law_179 (po_5 _ _) rfl rfl rfl (Nat.le_of_ble_eq_true rfl) (by first | decide | omega) (Nat.le_of_ble_eq_true rfl) ?_
      refine hX ?_
      show PW _ _ _ 1405 [some (.ref 4), some (.ref 5), some (.ref 70), some (.int (nI (6 * t)))] [.int r] (E x1 y)
      refine PW_aload_n c_W_law_1405 rfl ?_
      refine PW_aload_n c_W_law_1406 rfl ?_
      refine PW_iload_n c_W_law_1407 rfl ?_
      refine PW_iconst (v := 1) c_W_law_1408 (by decide) ?_
      refine PW_iadd c_W_law_1409 ?_
      refine PW_scald (q := 6 * t + 1) c_W_law_1410 (by rw [(show nI (6 * t) + 1 = nI (6 * t + 1) from nI_add (6 * t) 1)]; exact sc_in (z := z) hz (by omega)) (by rw [(show nI (6 * t) + 1 = nI (6 * t + 1) from nI_add (6 * t) 1)]; exact nI_clamp (by omega)) ?_
      show PW _ _ _ 1411 [some (.ref 4), some (.ref 5), some (.ref 70), some (.int (nI (6 * t)))] [.int (z.2 (6 * t + 1)), .ref 70, .int r] (E x1 y)
      refine PW_V0 (d2 := 90) (st := [.int r]) [.int (z.2 (6 * t + 1))] c_W_law_1411 lk_W_law_182 (po_70 _ _) rfl rfl rfl (Nat.le_of_ble_eq_true rfl) (by first | decide | omega) (Nat.le_of_ble_eq_true rfl) ?_
      refine hM ?_
      show PW _ _ _ 1414 [some (.ref 4), some (.ref 5), some (.ref 70), some (.int (nI (6 * t)))] [.int r, .int r] (E x1 y1)
      refine PW_icmp_eq c_W_law_1414 (fun _ => ?_) (fun h80 => absurd rfl h80)
      refine PW_iinc (i := 3) (v := (nI (6 * t)) + 6) (L2 := [some (.ref 4), some (.ref 5), some (.ref 70), some (.int ((nI (6 * t)) + 6))]) c_W_law_1419 rfl (iinc_v (by decide)) (Nat.le_of_ble_eq_true rfl) rfl rfl ?_
      refine PW_goto c_W_law_1422 ?_
      refine PW.eqL ?_ rfl rfl (ih (t + 1) (by omega) hI1)
      show ([some (.ref 4), some (.ref 5), some (.ref 70), some (.int ((nI (6 * t)) + 6))] : List (Option Value)) = [some (.ref 4), some (.ref 5), some (.ref 70), some (.int (nI (6 * (t + 1))))]
      rw [show nI (6 * t) + 6 = nI (6 * (t + 1)) from nI_add (6 * t) 6]
    refine PW_tableOut (tgt := 1419) c_W_law_33 (sw_out (lo := 0) (n := 40) (by decide) (by decide) (by decide) (fun i hi => by match i, hi with | 0, _ => exact h1 | 1, _ => exact h3 | 2, _ => exact h5 | 3, _ => exact h7 | 4, _ => exact h9 | 5, _ => exact h11 | 6, _ => exact h13 | 7, _ => exact h15 | 8, _ => exact h17 | 9, _ => exact h19 | 10, _ => exact h21 | 11, _ => exact h23 | 12, _ => exact h25 | 13, _ => exact h27 | 14, _ => exact h29 | 15, _ => exact h31 | 16, _ => exact h33 | 17, _ => exact h35 | 18, _ => exact h37 | 19, _ => exact h39 | 20, _ => exact h41 | 21, _ => exact h43 | 22, _ => exact h45 | 23, _ => exact h47 | 24, _ => exact h49 | 25, _ => exact h51 | 26, _ => exact h53 | 27, _ => exact h55 | 28, _ => exact h57 | 29, _ => exact h59 | 30, _ => exact h61 | 31, _ => exact h63 | 32, _ => exact h65 | 33, _ => exact h67 | 34, _ => exact h69 | 35, _ => exact h71 | 36, _ => exact h73 | 37, _ => exact h75 | 38, _ => exact h77 | 39, _ => exact h79 | n + 40, hi => exact absurd hi (by omega))) rfl ?_
    refine PW_iinc (i := 3) (v := (nI (6 * t)) + 6) (L2 := [some (.ref 4), some (.ref 5), some (.ref 70), some (.int ((nI (6 * t)) + 6))]) c_W_law_1419 rfl (iinc_v (by decide)) (Nat.le_of_ble_eq_true rfl) rfl rfl ?_
    refine PW_goto c_W_law_1422 ?_
    refine PW.eqL ?_ rfl rfl (ih (t + 1) (by omega) (INV_step hI))
    show ([some (.ref 4), some (.ref 5), some (.ref 70), some (.int ((nI (6 * t)) + 6))] : List (Option Value)) = [some (.ref 4), some (.ref 5), some (.ref 70), some (.int (nI (6 * (t + 1))))]
    rw [show nI (6 * t) + 6 = nI (6 * (t + 1)) from nI_add (6 * t) 6]
