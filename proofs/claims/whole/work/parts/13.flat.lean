/-! A side: its ints by number (8 times the object's reference plus the field's place; the reference's object is 70), its rows of ints and of longs by their references. -/
abbrev XS : Type := (Nat → Int32) × (Nat → Nat → Int32) × (Nat → Nat → Int64)
def sI (x : XS) (n : Nat) (v : Int32) : XS := (upd x.1 n v, x.2.1, x.2.2)
def uA {α : Type} (f : Nat → α) (a : Nat) (v : α) : Nat → α := fun q => if q = a then v else f q
def sA (x : XS) (a : Nat) (f : Nat → Int32) : XS := (x.1, uA x.2.1 a f, x.2.2)
def sG (x : XS) (a : Nat) (f : Nat → Int64) : XS := (x.1, x.2.1, uA x.2.2 a f)
theorem sI_1 (x : XS) (n m : Nat) (v : Int32) : (sI x n v).1 m = if m = n then v else x.1 m := rfl
theorem sI_A (x : XS) (n : Nat) (v : Int32) : (sI x n v).2.1 = x.2.1 := rfl
theorem sI_G (x : XS) (n : Nat) (v : Int32) : (sI x n v).2.2 = x.2.2 := rfl
theorem sA_1 (x : XS) (a : Nat) (f : Nat → Int32) : (sA x a f).1 = x.1 := rfl
theorem sA_A (x : XS) (a b : Nat) (f : Nat → Int32) : (sA x a f).2.1 b = if b = a then f else x.2.1 b := rfl
theorem sA_G (x : XS) (a : Nat) (f : Nat → Int32) : (sA x a f).2.2 = x.2.2 := rfl
theorem sG_1 (x : XS) (a : Nat) (f : Nat → Int64) : (sG x a f).1 = x.1 := rfl
theorem sG_A (x : XS) (a : Nat) (f : Nat → Int64) : (sG x a f).2.1 = x.2.1 := rfl
theorem sG_G (x : XS) (a b : Nat) (f : Nat → Int64) : (sG x a f).2.2 b = if b = a then f else x.2.2 b := rfl
def EX (x : XS) : List PE := [.inr (0, [.ref 6, .ref 22, .ref 27, .ref 31, .ref 32, .ref 35, .ref 44, .ref 46, .ref 49, .ref 54, .ref 57]),
  .inr (1, [.ref 7, .ref 15, .ref 16, .int (x.1 51), .int (x.1 52), .int (x.1 53)]),
  .inl (.array .int, 7, .inr (.inr (.inr (.inr (fun i => if i < 7 then some (8 + i) else none))))),
  .inl (.int, 10, .inl (x.2.1 8)),
  .inl (.int, 10, .inl (x.2.1 9)),
  .inl (.int, 10, .inl (x.2.1 10)),
  .inl (.int, 10, .inl (x.2.1 11)),
  .inl (.int, 10, .inl (x.2.1 12)),
  .inl (.int, 10, .inl (x.2.1 13)),
  .inl (.int, 10, .inl (x.2.1 14)),
  .inl (.int, 4, .inl (x.2.1 15)),
  .inl (.array .int, 5, .inr (.inr (.inr (.inr (fun i => if i < 5 then some (17 + i) else none))))),
  .inl (.int, 100, .inl (x.2.1 17)),
  .inl (.int, 100, .inl (x.2.1 18)),
  .inl (.int, 100, .inl (x.2.1 19)),
  .inl (.int, 100, .inl (x.2.1 20)),
  .inl (.int, 100, .inl (x.2.1 21)),
  .inr (2, [.ref 23, .ref 24, .ref 25, .ref 26, .int (x.1 180), .int (x.1 181)]),
  .inl (.int, 256, .inl (x.2.1 23)),
  .inl (.int, 256, .inl (x.2.1 24)),
  .inl (.int, 5, .inl (x.2.1 25)),
  .inl (.int, 256, .inl (x.2.1 26)),
  .inr (3, [.ref 28, .ref 29, .ref 30, .int (x.1 219), .int (x.1 220), .int (x.1 221)]),
  .inl (.int, 120, .inl (x.2.1 28)),
  .inl (.int, 256, .inl (x.2.1 29)),
  .inl (.int, 256, .inl (x.2.1 30)),
  .inr (4, [.ref 6, .ref 22, .int (x.1 250), .int (x.1 251), .int (x.1 252)]),
  .inr (5, [.ref 6, .ref 22, .ref 33, .ref 34, .int (x.1 260), .int (x.1 261), .int (x.1 262)]),
  .inl (.int, 6, .inl (x.2.1 33)),
  .inl (.int, 6, .inl (x.2.1 34)),
  .inr (6, [.ref 6, .ref 42, .ref 43, .ref 36, .ref 39, .int (x.1 285), .int (x.1 286)]),
  .inl (.array .int, 2, .inr (.inr (.inr (.inr (fun i => if i < 2 then some (37 + i) else none))))),
  .inl (.int, 12, .inl (x.2.1 37)),
  .inl (.int, 12, .inl (x.2.1 38)),
  .inl (.array .int, 2, .inr (.inr (.inr (.inr (fun i => if i < 2 then some (40 + i) else none))))),
  .inl (.int, 12, .inl (x.2.1 40)),
  .inl (.int, 12, .inl (x.2.1 41)),
  .inr (4, [.ref 6, .ref 22, .int (x.1 338), .int (x.1 339), .int (x.1 340)]),
  .inr (4, [.ref 6, .ref 22, .int (x.1 346), .int (x.1 347), .int (x.1 348)]),
  .inr (7, [.ref 6, .ref 45, .int (x.1 354)]),
  .inl (.int, 11, .inl (x.2.1 45)),
  .inr (8, [.ref 6, .ref 48, .ref 47, .int (x.1 371), .int (x.1 372), .int (x.1 373), .int (x.1 374)]),
  .inl (.int, 6, .inl (x.2.1 47)),
  .inr (4, [.ref 6, .ref 22, .int (x.1 386), .int (x.1 387), .int (x.1 388)]),
  .inr (9, [.ref 6, .ref 50, .ref 51, .ref 52, .ref 53, .int (x.1 397), .int (x.1 398)]),
  .inl (.int, 40, .inl (x.2.1 50)),
  .inl (.int, 40, .inl (x.2.1 51)),
  .inl (.int, 40, .inl (x.2.1 52)),
  .inl (.int, 40, .inl (x.2.1 53)),
  .inr (10, [.ref 55, .ref 56, .int (x.1 434), .int (x.1 435)]),
  .inl (.int, 50, .inl (x.2.1 55)),
  .inl (.int, 24, .inl (x.2.1 56)),
  .inl (.object "GoodbyeAll$Shelf", 6, .inr (.inr (.inr (.inr (fun i => if i < 6 then some (58 + 2 * i) else none))))),
  .inr (11, [.ref 59, .int (x.1 465), .int (x.1 466), .int (x.1 467), .int (x.1 468)]),
  .inl (.long, 60, .inr (.inl (x.2.2 59))),
  .inr (11, [.ref 61, .int (x.1 481), .int (x.1 482), .int (x.1 483), .int (x.1 484)]),
  .inl (.long, 60, .inr (.inl (x.2.2 61))),
  .inr (11, [.ref 63, .int (x.1 497), .int (x.1 498), .int (x.1 499), .int (x.1 500)]),
  .inl (.long, 60, .inr (.inl (x.2.2 63))),
  .inr (11, [.ref 65, .int (x.1 513), .int (x.1 514), .int (x.1 515), .int (x.1 516)]),
  .inl (.long, 60, .inr (.inl (x.2.2 65))),
  .inr (11, [.ref 67, .int (x.1 529), .int (x.1 530), .int (x.1 531), .int (x.1 532)]),
  .inl (.long, 60, .inr (.inl (x.2.2 67))),
  .inr (11, [.ref 69, .int (x.1 545), .int (x.1 546), .int (x.1 547), .int (x.1 548)]),
  .inl (.long, 60, .inr (.inl (x.2.2 69)))]
def EM (y : XS) : List PE := [.inr (12, [.int (y.1 560), .int (y.1 561), .ref 71, .ref 72, .ref 73, .ref 74, .ref 75, .ref 76, .ref 77, .ref 78, .int (y.1 570), .int (y.1 571), .ref 79, .ref 80, .ref 81, .ref 82, .ref 83, .int (y.1 577), .int (y.1 578), .int (y.1 579), .int (y.1 580), .int (y.1 581), .ref 84, .ref 85, .ref 86, .ref 87, .ref 88, .ref 89, .ref 90, .int (y.1 589), .int (y.1 590), .int (y.1 591), .int (y.1 592), .ref 91, .ref 92, .int (y.1 595), .int (y.1 596), .ref 93, .ref 94, .ref 95, .ref 96, .ref 97, .ref 98, .ref 99, .int (y.1 604), .int (y.1 605), .ref 100, .ref 101, .int (y.1 608), .int (y.1 609), .ref 102, .int (y.1 611), .ref 103, .ref 104, .ref 105, .ref 106, .ref 107]),
  .inl (.int, 10, .inl (y.2.1 71)),
  .inl (.int, 10, .inl (y.2.1 72)),
  .inl (.int, 10, .inl (y.2.1 73)),
  .inl (.int, 10, .inl (y.2.1 74)),
  .inl (.int, 10, .inl (y.2.1 75)),
  .inl (.int, 10, .inl (y.2.1 76)),
  .inl (.int, 10, .inl (y.2.1 77)),
  .inl (.int, 4, .inl (y.2.1 78)),
  .inl (.int, 40, .inl (y.2.1 79)),
  .inl (.int, 40, .inl (y.2.1 80)),
  .inl (.int, 40, .inl (y.2.1 81)),
  .inl (.int, 40, .inl (y.2.1 82)),
  .inl (.byte, 120, .inl (y.2.1 83)),
  .inl (.byte, 260, .inl (y.2.1 84)),
  .inl (.int, 260, .inl (y.2.1 85)),
  .inl (.int, 2, .inl (y.2.1 86)),
  .inl (.short, 122, .inl (y.2.1 87)),
  .inl (.short, 122, .inl (y.2.1 88)),
  .inl (.int, 5, .inl (y.2.1 89)),
  .inl (.int, 130, .inl (y.2.1 90)),
  .inl (.int, 7, .inl (y.2.1 91)),
  .inl (.int, 7, .inl (y.2.1 92)),
  .inl (.int, 2, .inl (y.2.1 93)),
  .inl (.int, 2, .inl (y.2.1 94)),
  .inl (.int, 2, .inl (y.2.1 95)),
  .inl (.int, 2, .inl (y.2.1 96)),
  .inl (.int, 24, .inl (y.2.1 97)),
  .inl (.int, 24, .inl (y.2.1 98)),
  .inl (.int, 60, .inl (y.2.1 99)),
  .inl (.int, 6, .inl (y.2.1 100)),
  .inl (.int, 6, .inl (y.2.1 101)),
  .inl (.int, 50, .inl (y.2.1 102)),
  .inl (.int, 24, .inl (y.2.1 103)),
  .inl (.int, 6, .inl (y.2.1 104)),
  .inl (.int, 6, .inl (y.2.1 105)),
  .inl (.long, 360, .inr (.inl (y.2.2 106))),
  .inl (.long, 60, .inr (.inl (y.2.2 107)))]
def E (x y : XS) : List PE := EX x ++ EM y
section FLAT
variable (x y : XS)
theorem po_5 : PG (E x y) 5 = some (.inr (0, [.ref 6, .ref 22, .ref 27, .ref 31, .ref 32, .ref 35, .ref 44, .ref 46, .ref 49, .ref 54, .ref 57])) := rfl
theorem gf_5_0 : GF (E x y) 5 0 0 (.ref 6) := ⟨_, rfl, rfl⟩
theorem gf_5_1 : GF (E x y) 5 0 1 (.ref 22) := ⟨_, rfl, rfl⟩
theorem gf_5_2 : GF (E x y) 5 0 2 (.ref 27) := ⟨_, rfl, rfl⟩
theorem gf_5_3 : GF (E x y) 5 0 3 (.ref 31) := ⟨_, rfl, rfl⟩
theorem gf_5_4 : GF (E x y) 5 0 4 (.ref 32) := ⟨_, rfl, rfl⟩
theorem gf_5_5 : GF (E x y) 5 0 5 (.ref 35) := ⟨_, rfl, rfl⟩
theorem gf_5_6 : GF (E x y) 5 0 6 (.ref 44) := ⟨_, rfl, rfl⟩
theorem gf_5_7 : GF (E x y) 5 0 7 (.ref 46) := ⟨_, rfl, rfl⟩
theorem gf_5_8 : GF (E x y) 5 0 8 (.ref 49) := ⟨_, rfl, rfl⟩
theorem gf_5_9 : GF (E x y) 5 0 9 (.ref 54) := ⟨_, rfl, rfl⟩
theorem gf_5_10 : GF (E x y) 5 0 10 (.ref 57) := ⟨_, rfl, rfl⟩
theorem po_6 : PG (E x y) 6 = some (.inr (1, [.ref 7, .ref 15, .ref 16, .int (x.1 51), .int (x.1 52), .int (x.1 53)])) := rfl
theorem gf_6_0 : GF (E x y) 6 1 0 (.ref 7) := ⟨_, rfl, rfl⟩
theorem gf_6_1 : GF (E x y) 6 1 1 (.ref 15) := ⟨_, rfl, rfl⟩
theorem gf_6_2 : GF (E x y) 6 1 2 (.ref 16) := ⟨_, rfl, rfl⟩
theorem gf_6_3 : GF (E x y) 6 1 3 (.int (x.1 51)) := ⟨_, rfl, rfl⟩
theorem pf_6_3 (u : Int32) : PF (E x y) 6 1 3 (.int u) (E (sI x 51 u) y) := ⟨_, rfl, Nat.le_of_ble_eq_true rfl, rfl⟩
theorem gf_6_4 : GF (E x y) 6 1 4 (.int (x.1 52)) := ⟨_, rfl, rfl⟩
theorem pf_6_4 (u : Int32) : PF (E x y) 6 1 4 (.int u) (E (sI x 52 u) y) := ⟨_, rfl, Nat.le_of_ble_eq_true rfl, rfl⟩
theorem gf_6_5 : GF (E x y) 6 1 5 (.int (x.1 53)) := ⟨_, rfl, rfl⟩
theorem pf_6_5 (u : Int32) : PF (E x y) 6 1 5 (.int u) (E (sI x 53 u) y) := ⟨_, rfl, Nat.le_of_ble_eq_true rfl, rfl⟩
theorem ar_7 : PG (E x y) 7 = some (.inl (.array .int, 7, .inr (.inr (.inr (.inr (fun i => if i < 7 then some (8 + i) else none)))))) := rfl
theorem ar_8 : PG (E x y) 8 = some (.inl (.int, 10, .inl (x.2.1 8))) := rfl
theorem aw_8 (f : Nat → Int32) : (E x y).set (8 - 5) (.inl (.int, 10, .inl f)) = E (sA x 8 f) y := rfl
theorem ar_9 : PG (E x y) 9 = some (.inl (.int, 10, .inl (x.2.1 9))) := rfl
theorem aw_9 (f : Nat → Int32) : (E x y).set (9 - 5) (.inl (.int, 10, .inl f)) = E (sA x 9 f) y := rfl
theorem ar_10 : PG (E x y) 10 = some (.inl (.int, 10, .inl (x.2.1 10))) := rfl
theorem aw_10 (f : Nat → Int32) : (E x y).set (10 - 5) (.inl (.int, 10, .inl f)) = E (sA x 10 f) y := rfl
theorem ar_11 : PG (E x y) 11 = some (.inl (.int, 10, .inl (x.2.1 11))) := rfl
theorem aw_11 (f : Nat → Int32) : (E x y).set (11 - 5) (.inl (.int, 10, .inl f)) = E (sA x 11 f) y := rfl
theorem ar_12 : PG (E x y) 12 = some (.inl (.int, 10, .inl (x.2.1 12))) := rfl
theorem aw_12 (f : Nat → Int32) : (E x y).set (12 - 5) (.inl (.int, 10, .inl f)) = E (sA x 12 f) y := rfl
theorem ar_13 : PG (E x y) 13 = some (.inl (.int, 10, .inl (x.2.1 13))) := rfl
theorem aw_13 (f : Nat → Int32) : (E x y).set (13 - 5) (.inl (.int, 10, .inl f)) = E (sA x 13 f) y := rfl
theorem ar_14 : PG (E x y) 14 = some (.inl (.int, 10, .inl (x.2.1 14))) := rfl
theorem aw_14 (f : Nat → Int32) : (E x y).set (14 - 5) (.inl (.int, 10, .inl f)) = E (sA x 14 f) y := rfl
theorem ar_15 : PG (E x y) 15 = some (.inl (.int, 4, .inl (x.2.1 15))) := rfl
theorem aw_15 (f : Nat → Int32) : (E x y).set (15 - 5) (.inl (.int, 4, .inl f)) = E (sA x 15 f) y := rfl
theorem ar_16 : PG (E x y) 16 = some (.inl (.array .int, 5, .inr (.inr (.inr (.inr (fun i => if i < 5 then some (17 + i) else none)))))) := rfl
theorem ar_17 : PG (E x y) 17 = some (.inl (.int, 100, .inl (x.2.1 17))) := rfl
theorem aw_17 (f : Nat → Int32) : (E x y).set (17 - 5) (.inl (.int, 100, .inl f)) = E (sA x 17 f) y := rfl
theorem ar_18 : PG (E x y) 18 = some (.inl (.int, 100, .inl (x.2.1 18))) := rfl
theorem aw_18 (f : Nat → Int32) : (E x y).set (18 - 5) (.inl (.int, 100, .inl f)) = E (sA x 18 f) y := rfl
theorem ar_19 : PG (E x y) 19 = some (.inl (.int, 100, .inl (x.2.1 19))) := rfl
theorem aw_19 (f : Nat → Int32) : (E x y).set (19 - 5) (.inl (.int, 100, .inl f)) = E (sA x 19 f) y := rfl
theorem ar_20 : PG (E x y) 20 = some (.inl (.int, 100, .inl (x.2.1 20))) := rfl
theorem aw_20 (f : Nat → Int32) : (E x y).set (20 - 5) (.inl (.int, 100, .inl f)) = E (sA x 20 f) y := rfl
theorem ar_21 : PG (E x y) 21 = some (.inl (.int, 100, .inl (x.2.1 21))) := rfl
theorem aw_21 (f : Nat → Int32) : (E x y).set (21 - 5) (.inl (.int, 100, .inl f)) = E (sA x 21 f) y := rfl
theorem po_22 : PG (E x y) 22 = some (.inr (2, [.ref 23, .ref 24, .ref 25, .ref 26, .int (x.1 180), .int (x.1 181)])) := rfl
theorem gf_22_0 : GF (E x y) 22 2 0 (.ref 23) := ⟨_, rfl, rfl⟩
theorem gf_22_1 : GF (E x y) 22 2 1 (.ref 24) := ⟨_, rfl, rfl⟩
theorem gf_22_2 : GF (E x y) 22 2 2 (.ref 25) := ⟨_, rfl, rfl⟩
theorem gf_22_3 : GF (E x y) 22 2 3 (.ref 26) := ⟨_, rfl, rfl⟩
theorem gf_22_4 : GF (E x y) 22 2 4 (.int (x.1 180)) := ⟨_, rfl, rfl⟩
theorem pf_22_4 (u : Int32) : PF (E x y) 22 2 4 (.int u) (E (sI x 180 u) y) := ⟨_, rfl, Nat.le_of_ble_eq_true rfl, rfl⟩
theorem gf_22_5 : GF (E x y) 22 2 5 (.int (x.1 181)) := ⟨_, rfl, rfl⟩
theorem pf_22_5 (u : Int32) : PF (E x y) 22 2 5 (.int u) (E (sI x 181 u) y) := ⟨_, rfl, Nat.le_of_ble_eq_true rfl, rfl⟩
theorem ar_23 : PG (E x y) 23 = some (.inl (.int, 256, .inl (x.2.1 23))) := rfl
theorem aw_23 (f : Nat → Int32) : (E x y).set (23 - 5) (.inl (.int, 256, .inl f)) = E (sA x 23 f) y := rfl
theorem ar_24 : PG (E x y) 24 = some (.inl (.int, 256, .inl (x.2.1 24))) := rfl
theorem aw_24 (f : Nat → Int32) : (E x y).set (24 - 5) (.inl (.int, 256, .inl f)) = E (sA x 24 f) y := rfl
theorem ar_25 : PG (E x y) 25 = some (.inl (.int, 5, .inl (x.2.1 25))) := rfl
theorem aw_25 (f : Nat → Int32) : (E x y).set (25 - 5) (.inl (.int, 5, .inl f)) = E (sA x 25 f) y := rfl
theorem ar_26 : PG (E x y) 26 = some (.inl (.int, 256, .inl (x.2.1 26))) := rfl
theorem aw_26 (f : Nat → Int32) : (E x y).set (26 - 5) (.inl (.int, 256, .inl f)) = E (sA x 26 f) y := rfl
theorem po_27 : PG (E x y) 27 = some (.inr (3, [.ref 28, .ref 29, .ref 30, .int (x.1 219), .int (x.1 220), .int (x.1 221)])) := rfl
theorem gf_27_0 : GF (E x y) 27 3 0 (.ref 28) := ⟨_, rfl, rfl⟩
theorem gf_27_1 : GF (E x y) 27 3 1 (.ref 29) := ⟨_, rfl, rfl⟩
theorem gf_27_2 : GF (E x y) 27 3 2 (.ref 30) := ⟨_, rfl, rfl⟩
theorem gf_27_3 : GF (E x y) 27 3 3 (.int (x.1 219)) := ⟨_, rfl, rfl⟩
theorem pf_27_3 (u : Int32) : PF (E x y) 27 3 3 (.int u) (E (sI x 219 u) y) := ⟨_, rfl, Nat.le_of_ble_eq_true rfl, rfl⟩
theorem gf_27_4 : GF (E x y) 27 3 4 (.int (x.1 220)) := ⟨_, rfl, rfl⟩
theorem pf_27_4 (u : Int32) : PF (E x y) 27 3 4 (.int u) (E (sI x 220 u) y) := ⟨_, rfl, Nat.le_of_ble_eq_true rfl, rfl⟩
theorem gf_27_5 : GF (E x y) 27 3 5 (.int (x.1 221)) := ⟨_, rfl, rfl⟩
theorem pf_27_5 (u : Int32) : PF (E x y) 27 3 5 (.int u) (E (sI x 221 u) y) := ⟨_, rfl, Nat.le_of_ble_eq_true rfl, rfl⟩
theorem ar_28 : PG (E x y) 28 = some (.inl (.int, 120, .inl (x.2.1 28))) := rfl
theorem aw_28 (f : Nat → Int32) : (E x y).set (28 - 5) (.inl (.int, 120, .inl f)) = E (sA x 28 f) y := rfl
theorem ar_29 : PG (E x y) 29 = some (.inl (.int, 256, .inl (x.2.1 29))) := rfl
theorem aw_29 (f : Nat → Int32) : (E x y).set (29 - 5) (.inl (.int, 256, .inl f)) = E (sA x 29 f) y := rfl
theorem ar_30 : PG (E x y) 30 = some (.inl (.int, 256, .inl (x.2.1 30))) := rfl
theorem aw_30 (f : Nat → Int32) : (E x y).set (30 - 5) (.inl (.int, 256, .inl f)) = E (sA x 30 f) y := rfl
theorem po_31 : PG (E x y) 31 = some (.inr (4, [.ref 6, .ref 22, .int (x.1 250), .int (x.1 251), .int (x.1 252)])) := rfl
theorem gf_31_0 : GF (E x y) 31 4 0 (.ref 6) := ⟨_, rfl, rfl⟩
theorem gf_31_1 : GF (E x y) 31 4 1 (.ref 22) := ⟨_, rfl, rfl⟩
theorem gf_31_2 : GF (E x y) 31 4 2 (.int (x.1 250)) := ⟨_, rfl, rfl⟩
theorem pf_31_2 (u : Int32) : PF (E x y) 31 4 2 (.int u) (E (sI x 250 u) y) := ⟨_, rfl, Nat.le_of_ble_eq_true rfl, rfl⟩
theorem gf_31_3 : GF (E x y) 31 4 3 (.int (x.1 251)) := ⟨_, rfl, rfl⟩
theorem pf_31_3 (u : Int32) : PF (E x y) 31 4 3 (.int u) (E (sI x 251 u) y) := ⟨_, rfl, Nat.le_of_ble_eq_true rfl, rfl⟩
theorem gf_31_4 : GF (E x y) 31 4 4 (.int (x.1 252)) := ⟨_, rfl, rfl⟩
theorem pf_31_4 (u : Int32) : PF (E x y) 31 4 4 (.int u) (E (sI x 252 u) y) := ⟨_, rfl, Nat.le_of_ble_eq_true rfl, rfl⟩
theorem po_32 : PG (E x y) 32 = some (.inr (5, [.ref 6, .ref 22, .ref 33, .ref 34, .int (x.1 260), .int (x.1 261), .int (x.1 262)])) := rfl
theorem gf_32_0 : GF (E x y) 32 5 0 (.ref 6) := ⟨_, rfl, rfl⟩
theorem gf_32_1 : GF (E x y) 32 5 1 (.ref 22) := ⟨_, rfl, rfl⟩
theorem gf_32_2 : GF (E x y) 32 5 2 (.ref 33) := ⟨_, rfl, rfl⟩
theorem gf_32_3 : GF (E x y) 32 5 3 (.ref 34) := ⟨_, rfl, rfl⟩
theorem gf_32_4 : GF (E x y) 32 5 4 (.int (x.1 260)) := ⟨_, rfl, rfl⟩
theorem pf_32_4 (u : Int32) : PF (E x y) 32 5 4 (.int u) (E (sI x 260 u) y) := ⟨_, rfl, Nat.le_of_ble_eq_true rfl, rfl⟩
theorem gf_32_5 : GF (E x y) 32 5 5 (.int (x.1 261)) := ⟨_, rfl, rfl⟩
theorem pf_32_5 (u : Int32) : PF (E x y) 32 5 5 (.int u) (E (sI x 261 u) y) := ⟨_, rfl, Nat.le_of_ble_eq_true rfl, rfl⟩
theorem gf_32_6 : GF (E x y) 32 5 6 (.int (x.1 262)) := ⟨_, rfl, rfl⟩
theorem pf_32_6 (u : Int32) : PF (E x y) 32 5 6 (.int u) (E (sI x 262 u) y) := ⟨_, rfl, Nat.le_of_ble_eq_true rfl, rfl⟩
theorem ar_33 : PG (E x y) 33 = some (.inl (.int, 6, .inl (x.2.1 33))) := rfl
theorem aw_33 (f : Nat → Int32) : (E x y).set (33 - 5) (.inl (.int, 6, .inl f)) = E (sA x 33 f) y := rfl
theorem ar_34 : PG (E x y) 34 = some (.inl (.int, 6, .inl (x.2.1 34))) := rfl
theorem aw_34 (f : Nat → Int32) : (E x y).set (34 - 5) (.inl (.int, 6, .inl f)) = E (sA x 34 f) y := rfl
theorem po_35 : PG (E x y) 35 = some (.inr (6, [.ref 6, .ref 42, .ref 43, .ref 36, .ref 39, .int (x.1 285), .int (x.1 286)])) := rfl
theorem gf_35_0 : GF (E x y) 35 6 0 (.ref 6) := ⟨_, rfl, rfl⟩
theorem gf_35_1 : GF (E x y) 35 6 1 (.ref 42) := ⟨_, rfl, rfl⟩
theorem gf_35_2 : GF (E x y) 35 6 2 (.ref 43) := ⟨_, rfl, rfl⟩
theorem gf_35_3 : GF (E x y) 35 6 3 (.ref 36) := ⟨_, rfl, rfl⟩
theorem gf_35_4 : GF (E x y) 35 6 4 (.ref 39) := ⟨_, rfl, rfl⟩
theorem gf_35_5 : GF (E x y) 35 6 5 (.int (x.1 285)) := ⟨_, rfl, rfl⟩
theorem pf_35_5 (u : Int32) : PF (E x y) 35 6 5 (.int u) (E (sI x 285 u) y) := ⟨_, rfl, Nat.le_of_ble_eq_true rfl, rfl⟩
theorem gf_35_6 : GF (E x y) 35 6 6 (.int (x.1 286)) := ⟨_, rfl, rfl⟩
theorem pf_35_6 (u : Int32) : PF (E x y) 35 6 6 (.int u) (E (sI x 286 u) y) := ⟨_, rfl, Nat.le_of_ble_eq_true rfl, rfl⟩
theorem ar_36 : PG (E x y) 36 = some (.inl (.array .int, 2, .inr (.inr (.inr (.inr (fun i => if i < 2 then some (37 + i) else none)))))) := rfl
theorem ar_37 : PG (E x y) 37 = some (.inl (.int, 12, .inl (x.2.1 37))) := rfl
theorem aw_37 (f : Nat → Int32) : (E x y).set (37 - 5) (.inl (.int, 12, .inl f)) = E (sA x 37 f) y := rfl
theorem ar_38 : PG (E x y) 38 = some (.inl (.int, 12, .inl (x.2.1 38))) := rfl
theorem aw_38 (f : Nat → Int32) : (E x y).set (38 - 5) (.inl (.int, 12, .inl f)) = E (sA x 38 f) y := rfl
theorem ar_39 : PG (E x y) 39 = some (.inl (.array .int, 2, .inr (.inr (.inr (.inr (fun i => if i < 2 then some (40 + i) else none)))))) := rfl
theorem ar_40 : PG (E x y) 40 = some (.inl (.int, 12, .inl (x.2.1 40))) := rfl
theorem aw_40 (f : Nat → Int32) : (E x y).set (40 - 5) (.inl (.int, 12, .inl f)) = E (sA x 40 f) y := rfl
theorem ar_41 : PG (E x y) 41 = some (.inl (.int, 12, .inl (x.2.1 41))) := rfl
theorem aw_41 (f : Nat → Int32) : (E x y).set (41 - 5) (.inl (.int, 12, .inl f)) = E (sA x 41 f) y := rfl
theorem po_42 : PG (E x y) 42 = some (.inr (4, [.ref 6, .ref 22, .int (x.1 338), .int (x.1 339), .int (x.1 340)])) := rfl
theorem gf_42_0 : GF (E x y) 42 4 0 (.ref 6) := ⟨_, rfl, rfl⟩
theorem gf_42_1 : GF (E x y) 42 4 1 (.ref 22) := ⟨_, rfl, rfl⟩
theorem gf_42_2 : GF (E x y) 42 4 2 (.int (x.1 338)) := ⟨_, rfl, rfl⟩
theorem pf_42_2 (u : Int32) : PF (E x y) 42 4 2 (.int u) (E (sI x 338 u) y) := ⟨_, rfl, Nat.le_of_ble_eq_true rfl, rfl⟩
theorem gf_42_3 : GF (E x y) 42 4 3 (.int (x.1 339)) := ⟨_, rfl, rfl⟩
theorem pf_42_3 (u : Int32) : PF (E x y) 42 4 3 (.int u) (E (sI x 339 u) y) := ⟨_, rfl, Nat.le_of_ble_eq_true rfl, rfl⟩
theorem gf_42_4 : GF (E x y) 42 4 4 (.int (x.1 340)) := ⟨_, rfl, rfl⟩
theorem pf_42_4 (u : Int32) : PF (E x y) 42 4 4 (.int u) (E (sI x 340 u) y) := ⟨_, rfl, Nat.le_of_ble_eq_true rfl, rfl⟩
theorem po_43 : PG (E x y) 43 = some (.inr (4, [.ref 6, .ref 22, .int (x.1 346), .int (x.1 347), .int (x.1 348)])) := rfl
theorem gf_43_0 : GF (E x y) 43 4 0 (.ref 6) := ⟨_, rfl, rfl⟩
theorem gf_43_1 : GF (E x y) 43 4 1 (.ref 22) := ⟨_, rfl, rfl⟩
theorem gf_43_2 : GF (E x y) 43 4 2 (.int (x.1 346)) := ⟨_, rfl, rfl⟩
theorem pf_43_2 (u : Int32) : PF (E x y) 43 4 2 (.int u) (E (sI x 346 u) y) := ⟨_, rfl, Nat.le_of_ble_eq_true rfl, rfl⟩
theorem gf_43_3 : GF (E x y) 43 4 3 (.int (x.1 347)) := ⟨_, rfl, rfl⟩
theorem pf_43_3 (u : Int32) : PF (E x y) 43 4 3 (.int u) (E (sI x 347 u) y) := ⟨_, rfl, Nat.le_of_ble_eq_true rfl, rfl⟩
theorem gf_43_4 : GF (E x y) 43 4 4 (.int (x.1 348)) := ⟨_, rfl, rfl⟩
theorem pf_43_4 (u : Int32) : PF (E x y) 43 4 4 (.int u) (E (sI x 348 u) y) := ⟨_, rfl, Nat.le_of_ble_eq_true rfl, rfl⟩
theorem po_44 : PG (E x y) 44 = some (.inr (7, [.ref 6, .ref 45, .int (x.1 354)])) := rfl
theorem gf_44_0 : GF (E x y) 44 7 0 (.ref 6) := ⟨_, rfl, rfl⟩
theorem gf_44_1 : GF (E x y) 44 7 1 (.ref 45) := ⟨_, rfl, rfl⟩
theorem gf_44_2 : GF (E x y) 44 7 2 (.int (x.1 354)) := ⟨_, rfl, rfl⟩
theorem pf_44_2 (u : Int32) : PF (E x y) 44 7 2 (.int u) (E (sI x 354 u) y) := ⟨_, rfl, Nat.le_of_ble_eq_true rfl, rfl⟩
theorem ar_45 : PG (E x y) 45 = some (.inl (.int, 11, .inl (x.2.1 45))) := rfl
theorem aw_45 (f : Nat → Int32) : (E x y).set (45 - 5) (.inl (.int, 11, .inl f)) = E (sA x 45 f) y := rfl
theorem po_46 : PG (E x y) 46 = some (.inr (8, [.ref 6, .ref 48, .ref 47, .int (x.1 371), .int (x.1 372), .int (x.1 373), .int (x.1 374)])) := rfl
theorem gf_46_0 : GF (E x y) 46 8 0 (.ref 6) := ⟨_, rfl, rfl⟩
theorem gf_46_1 : GF (E x y) 46 8 1 (.ref 48) := ⟨_, rfl, rfl⟩
theorem gf_46_2 : GF (E x y) 46 8 2 (.ref 47) := ⟨_, rfl, rfl⟩
theorem gf_46_3 : GF (E x y) 46 8 3 (.int (x.1 371)) := ⟨_, rfl, rfl⟩
theorem pf_46_3 (u : Int32) : PF (E x y) 46 8 3 (.int u) (E (sI x 371 u) y) := ⟨_, rfl, Nat.le_of_ble_eq_true rfl, rfl⟩
theorem gf_46_4 : GF (E x y) 46 8 4 (.int (x.1 372)) := ⟨_, rfl, rfl⟩
theorem pf_46_4 (u : Int32) : PF (E x y) 46 8 4 (.int u) (E (sI x 372 u) y) := ⟨_, rfl, Nat.le_of_ble_eq_true rfl, rfl⟩
theorem gf_46_5 : GF (E x y) 46 8 5 (.int (x.1 373)) := ⟨_, rfl, rfl⟩
theorem pf_46_5 (u : Int32) : PF (E x y) 46 8 5 (.int u) (E (sI x 373 u) y) := ⟨_, rfl, Nat.le_of_ble_eq_true rfl, rfl⟩
theorem gf_46_6 : GF (E x y) 46 8 6 (.int (x.1 374)) := ⟨_, rfl, rfl⟩
theorem pf_46_6 (u : Int32) : PF (E x y) 46 8 6 (.int u) (E (sI x 374 u) y) := ⟨_, rfl, Nat.le_of_ble_eq_true rfl, rfl⟩
theorem ar_47 : PG (E x y) 47 = some (.inl (.int, 6, .inl (x.2.1 47))) := rfl
theorem aw_47 (f : Nat → Int32) : (E x y).set (47 - 5) (.inl (.int, 6, .inl f)) = E (sA x 47 f) y := rfl
theorem po_48 : PG (E x y) 48 = some (.inr (4, [.ref 6, .ref 22, .int (x.1 386), .int (x.1 387), .int (x.1 388)])) := rfl
theorem gf_48_0 : GF (E x y) 48 4 0 (.ref 6) := ⟨_, rfl, rfl⟩
theorem gf_48_1 : GF (E x y) 48 4 1 (.ref 22) := ⟨_, rfl, rfl⟩
theorem gf_48_2 : GF (E x y) 48 4 2 (.int (x.1 386)) := ⟨_, rfl, rfl⟩
theorem pf_48_2 (u : Int32) : PF (E x y) 48 4 2 (.int u) (E (sI x 386 u) y) := ⟨_, rfl, Nat.le_of_ble_eq_true rfl, rfl⟩
theorem gf_48_3 : GF (E x y) 48 4 3 (.int (x.1 387)) := ⟨_, rfl, rfl⟩
theorem pf_48_3 (u : Int32) : PF (E x y) 48 4 3 (.int u) (E (sI x 387 u) y) := ⟨_, rfl, Nat.le_of_ble_eq_true rfl, rfl⟩
theorem gf_48_4 : GF (E x y) 48 4 4 (.int (x.1 388)) := ⟨_, rfl, rfl⟩
theorem pf_48_4 (u : Int32) : PF (E x y) 48 4 4 (.int u) (E (sI x 388 u) y) := ⟨_, rfl, Nat.le_of_ble_eq_true rfl, rfl⟩
theorem po_49 : PG (E x y) 49 = some (.inr (9, [.ref 6, .ref 50, .ref 51, .ref 52, .ref 53, .int (x.1 397), .int (x.1 398)])) := rfl
theorem gf_49_0 : GF (E x y) 49 9 0 (.ref 6) := ⟨_, rfl, rfl⟩
theorem gf_49_1 : GF (E x y) 49 9 1 (.ref 50) := ⟨_, rfl, rfl⟩
theorem gf_49_2 : GF (E x y) 49 9 2 (.ref 51) := ⟨_, rfl, rfl⟩
theorem gf_49_3 : GF (E x y) 49 9 3 (.ref 52) := ⟨_, rfl, rfl⟩
theorem gf_49_4 : GF (E x y) 49 9 4 (.ref 53) := ⟨_, rfl, rfl⟩
theorem gf_49_5 : GF (E x y) 49 9 5 (.int (x.1 397)) := ⟨_, rfl, rfl⟩
theorem pf_49_5 (u : Int32) : PF (E x y) 49 9 5 (.int u) (E (sI x 397 u) y) := ⟨_, rfl, Nat.le_of_ble_eq_true rfl, rfl⟩
theorem gf_49_6 : GF (E x y) 49 9 6 (.int (x.1 398)) := ⟨_, rfl, rfl⟩
theorem pf_49_6 (u : Int32) : PF (E x y) 49 9 6 (.int u) (E (sI x 398 u) y) := ⟨_, rfl, Nat.le_of_ble_eq_true rfl, rfl⟩
theorem ar_50 : PG (E x y) 50 = some (.inl (.int, 40, .inl (x.2.1 50))) := rfl
theorem aw_50 (f : Nat → Int32) : (E x y).set (50 - 5) (.inl (.int, 40, .inl f)) = E (sA x 50 f) y := rfl
theorem ar_51 : PG (E x y) 51 = some (.inl (.int, 40, .inl (x.2.1 51))) := rfl
theorem aw_51 (f : Nat → Int32) : (E x y).set (51 - 5) (.inl (.int, 40, .inl f)) = E (sA x 51 f) y := rfl
theorem ar_52 : PG (E x y) 52 = some (.inl (.int, 40, .inl (x.2.1 52))) := rfl
theorem aw_52 (f : Nat → Int32) : (E x y).set (52 - 5) (.inl (.int, 40, .inl f)) = E (sA x 52 f) y := rfl
theorem ar_53 : PG (E x y) 53 = some (.inl (.int, 40, .inl (x.2.1 53))) := rfl
theorem aw_53 (f : Nat → Int32) : (E x y).set (53 - 5) (.inl (.int, 40, .inl f)) = E (sA x 53 f) y := rfl
theorem po_54 : PG (E x y) 54 = some (.inr (10, [.ref 55, .ref 56, .int (x.1 434), .int (x.1 435)])) := rfl
theorem gf_54_0 : GF (E x y) 54 10 0 (.ref 55) := ⟨_, rfl, rfl⟩
theorem gf_54_1 : GF (E x y) 54 10 1 (.ref 56) := ⟨_, rfl, rfl⟩
theorem gf_54_2 : GF (E x y) 54 10 2 (.int (x.1 434)) := ⟨_, rfl, rfl⟩
theorem pf_54_2 (u : Int32) : PF (E x y) 54 10 2 (.int u) (E (sI x 434 u) y) := ⟨_, rfl, Nat.le_of_ble_eq_true rfl, rfl⟩
theorem gf_54_3 : GF (E x y) 54 10 3 (.int (x.1 435)) := ⟨_, rfl, rfl⟩
theorem pf_54_3 (u : Int32) : PF (E x y) 54 10 3 (.int u) (E (sI x 435 u) y) := ⟨_, rfl, Nat.le_of_ble_eq_true rfl, rfl⟩
theorem ar_55 : PG (E x y) 55 = some (.inl (.int, 50, .inl (x.2.1 55))) := rfl
theorem aw_55 (f : Nat → Int32) : (E x y).set (55 - 5) (.inl (.int, 50, .inl f)) = E (sA x 55 f) y := rfl
theorem ar_56 : PG (E x y) 56 = some (.inl (.int, 24, .inl (x.2.1 56))) := rfl
theorem aw_56 (f : Nat → Int32) : (E x y).set (56 - 5) (.inl (.int, 24, .inl f)) = E (sA x 56 f) y := rfl
theorem ar_57 : PG (E x y) 57 = some (.inl (.object "GoodbyeAll$Shelf", 6, .inr (.inr (.inr (.inr (fun i => if i < 6 then some (58 + 2 * i) else none)))))) := rfl
theorem po_58 : PG (E x y) 58 = some (.inr (11, [.ref 59, .int (x.1 465), .int (x.1 466), .int (x.1 467), .int (x.1 468)])) := rfl
theorem gf_58_0 : GF (E x y) 58 11 0 (.ref 59) := ⟨_, rfl, rfl⟩
theorem gf_58_1 : GF (E x y) 58 11 1 (.int (x.1 465)) := ⟨_, rfl, rfl⟩
theorem pf_58_1 (u : Int32) : PF (E x y) 58 11 1 (.int u) (E (sI x 465 u) y) := ⟨_, rfl, Nat.le_of_ble_eq_true rfl, rfl⟩
theorem gf_58_2 : GF (E x y) 58 11 2 (.int (x.1 466)) := ⟨_, rfl, rfl⟩
theorem pf_58_2 (u : Int32) : PF (E x y) 58 11 2 (.int u) (E (sI x 466 u) y) := ⟨_, rfl, Nat.le_of_ble_eq_true rfl, rfl⟩
theorem gf_58_3 : GF (E x y) 58 11 3 (.int (x.1 467)) := ⟨_, rfl, rfl⟩
theorem pf_58_3 (u : Int32) : PF (E x y) 58 11 3 (.int u) (E (sI x 467 u) y) := ⟨_, rfl, Nat.le_of_ble_eq_true rfl, rfl⟩
theorem gf_58_4 : GF (E x y) 58 11 4 (.int (x.1 468)) := ⟨_, rfl, rfl⟩
theorem pf_58_4 (u : Int32) : PF (E x y) 58 11 4 (.int u) (E (sI x 468 u) y) := ⟨_, rfl, Nat.le_of_ble_eq_true rfl, rfl⟩
theorem ar_59 : PG (E x y) 59 = some (.inl (.long, 60, .inr (.inl (x.2.2 59)))) := rfl
theorem aw_59 (f : Nat → Int64) : (E x y).set (59 - 5) (.inl (.long, 60, .inr (.inl f))) = E (sG x 59 f) y := rfl
theorem po_60 : PG (E x y) 60 = some (.inr (11, [.ref 61, .int (x.1 481), .int (x.1 482), .int (x.1 483), .int (x.1 484)])) := rfl
theorem gf_60_0 : GF (E x y) 60 11 0 (.ref 61) := ⟨_, rfl, rfl⟩
theorem gf_60_1 : GF (E x y) 60 11 1 (.int (x.1 481)) := ⟨_, rfl, rfl⟩
theorem pf_60_1 (u : Int32) : PF (E x y) 60 11 1 (.int u) (E (sI x 481 u) y) := ⟨_, rfl, Nat.le_of_ble_eq_true rfl, rfl⟩
theorem gf_60_2 : GF (E x y) 60 11 2 (.int (x.1 482)) := ⟨_, rfl, rfl⟩
theorem pf_60_2 (u : Int32) : PF (E x y) 60 11 2 (.int u) (E (sI x 482 u) y) := ⟨_, rfl, Nat.le_of_ble_eq_true rfl, rfl⟩
theorem gf_60_3 : GF (E x y) 60 11 3 (.int (x.1 483)) := ⟨_, rfl, rfl⟩
theorem pf_60_3 (u : Int32) : PF (E x y) 60 11 3 (.int u) (E (sI x 483 u) y) := ⟨_, rfl, Nat.le_of_ble_eq_true rfl, rfl⟩
theorem gf_60_4 : GF (E x y) 60 11 4 (.int (x.1 484)) := ⟨_, rfl, rfl⟩
theorem pf_60_4 (u : Int32) : PF (E x y) 60 11 4 (.int u) (E (sI x 484 u) y) := ⟨_, rfl, Nat.le_of_ble_eq_true rfl, rfl⟩
theorem ar_61 : PG (E x y) 61 = some (.inl (.long, 60, .inr (.inl (x.2.2 61)))) := rfl
theorem aw_61 (f : Nat → Int64) : (E x y).set (61 - 5) (.inl (.long, 60, .inr (.inl f))) = E (sG x 61 f) y := rfl
theorem po_62 : PG (E x y) 62 = some (.inr (11, [.ref 63, .int (x.1 497), .int (x.1 498), .int (x.1 499), .int (x.1 500)])) := rfl
theorem gf_62_0 : GF (E x y) 62 11 0 (.ref 63) := ⟨_, rfl, rfl⟩
theorem gf_62_1 : GF (E x y) 62 11 1 (.int (x.1 497)) := ⟨_, rfl, rfl⟩
theorem pf_62_1 (u : Int32) : PF (E x y) 62 11 1 (.int u) (E (sI x 497 u) y) := ⟨_, rfl, Nat.le_of_ble_eq_true rfl, rfl⟩
theorem gf_62_2 : GF (E x y) 62 11 2 (.int (x.1 498)) := ⟨_, rfl, rfl⟩
theorem pf_62_2 (u : Int32) : PF (E x y) 62 11 2 (.int u) (E (sI x 498 u) y) := ⟨_, rfl, Nat.le_of_ble_eq_true rfl, rfl⟩
theorem gf_62_3 : GF (E x y) 62 11 3 (.int (x.1 499)) := ⟨_, rfl, rfl⟩
theorem pf_62_3 (u : Int32) : PF (E x y) 62 11 3 (.int u) (E (sI x 499 u) y) := ⟨_, rfl, Nat.le_of_ble_eq_true rfl, rfl⟩
theorem gf_62_4 : GF (E x y) 62 11 4 (.int (x.1 500)) := ⟨_, rfl, rfl⟩
theorem pf_62_4 (u : Int32) : PF (E x y) 62 11 4 (.int u) (E (sI x 500 u) y) := ⟨_, rfl, Nat.le_of_ble_eq_true rfl, rfl⟩
theorem ar_63 : PG (E x y) 63 = some (.inl (.long, 60, .inr (.inl (x.2.2 63)))) := rfl
theorem aw_63 (f : Nat → Int64) : (E x y).set (63 - 5) (.inl (.long, 60, .inr (.inl f))) = E (sG x 63 f) y := rfl
theorem po_64 : PG (E x y) 64 = some (.inr (11, [.ref 65, .int (x.1 513), .int (x.1 514), .int (x.1 515), .int (x.1 516)])) := rfl
theorem gf_64_0 : GF (E x y) 64 11 0 (.ref 65) := ⟨_, rfl, rfl⟩
theorem gf_64_1 : GF (E x y) 64 11 1 (.int (x.1 513)) := ⟨_, rfl, rfl⟩
theorem pf_64_1 (u : Int32) : PF (E x y) 64 11 1 (.int u) (E (sI x 513 u) y) := ⟨_, rfl, Nat.le_of_ble_eq_true rfl, rfl⟩
theorem gf_64_2 : GF (E x y) 64 11 2 (.int (x.1 514)) := ⟨_, rfl, rfl⟩
theorem pf_64_2 (u : Int32) : PF (E x y) 64 11 2 (.int u) (E (sI x 514 u) y) := ⟨_, rfl, Nat.le_of_ble_eq_true rfl, rfl⟩
theorem gf_64_3 : GF (E x y) 64 11 3 (.int (x.1 515)) := ⟨_, rfl, rfl⟩
theorem pf_64_3 (u : Int32) : PF (E x y) 64 11 3 (.int u) (E (sI x 515 u) y) := ⟨_, rfl, Nat.le_of_ble_eq_true rfl, rfl⟩
theorem gf_64_4 : GF (E x y) 64 11 4 (.int (x.1 516)) := ⟨_, rfl, rfl⟩
theorem pf_64_4 (u : Int32) : PF (E x y) 64 11 4 (.int u) (E (sI x 516 u) y) := ⟨_, rfl, Nat.le_of_ble_eq_true rfl, rfl⟩
theorem ar_65 : PG (E x y) 65 = some (.inl (.long, 60, .inr (.inl (x.2.2 65)))) := rfl
theorem aw_65 (f : Nat → Int64) : (E x y).set (65 - 5) (.inl (.long, 60, .inr (.inl f))) = E (sG x 65 f) y := rfl
theorem po_66 : PG (E x y) 66 = some (.inr (11, [.ref 67, .int (x.1 529), .int (x.1 530), .int (x.1 531), .int (x.1 532)])) := rfl
theorem gf_66_0 : GF (E x y) 66 11 0 (.ref 67) := ⟨_, rfl, rfl⟩
theorem gf_66_1 : GF (E x y) 66 11 1 (.int (x.1 529)) := ⟨_, rfl, rfl⟩
theorem pf_66_1 (u : Int32) : PF (E x y) 66 11 1 (.int u) (E (sI x 529 u) y) := ⟨_, rfl, Nat.le_of_ble_eq_true rfl, rfl⟩
theorem gf_66_2 : GF (E x y) 66 11 2 (.int (x.1 530)) := ⟨_, rfl, rfl⟩
theorem pf_66_2 (u : Int32) : PF (E x y) 66 11 2 (.int u) (E (sI x 530 u) y) := ⟨_, rfl, Nat.le_of_ble_eq_true rfl, rfl⟩
theorem gf_66_3 : GF (E x y) 66 11 3 (.int (x.1 531)) := ⟨_, rfl, rfl⟩
theorem pf_66_3 (u : Int32) : PF (E x y) 66 11 3 (.int u) (E (sI x 531 u) y) := ⟨_, rfl, Nat.le_of_ble_eq_true rfl, rfl⟩
theorem gf_66_4 : GF (E x y) 66 11 4 (.int (x.1 532)) := ⟨_, rfl, rfl⟩
theorem pf_66_4 (u : Int32) : PF (E x y) 66 11 4 (.int u) (E (sI x 532 u) y) := ⟨_, rfl, Nat.le_of_ble_eq_true rfl, rfl⟩
theorem ar_67 : PG (E x y) 67 = some (.inl (.long, 60, .inr (.inl (x.2.2 67)))) := rfl
theorem aw_67 (f : Nat → Int64) : (E x y).set (67 - 5) (.inl (.long, 60, .inr (.inl f))) = E (sG x 67 f) y := rfl
theorem po_68 : PG (E x y) 68 = some (.inr (11, [.ref 69, .int (x.1 545), .int (x.1 546), .int (x.1 547), .int (x.1 548)])) := rfl
theorem gf_68_0 : GF (E x y) 68 11 0 (.ref 69) := ⟨_, rfl, rfl⟩
theorem gf_68_1 : GF (E x y) 68 11 1 (.int (x.1 545)) := ⟨_, rfl, rfl⟩
theorem pf_68_1 (u : Int32) : PF (E x y) 68 11 1 (.int u) (E (sI x 545 u) y) := ⟨_, rfl, Nat.le_of_ble_eq_true rfl, rfl⟩
theorem gf_68_2 : GF (E x y) 68 11 2 (.int (x.1 546)) := ⟨_, rfl, rfl⟩
theorem pf_68_2 (u : Int32) : PF (E x y) 68 11 2 (.int u) (E (sI x 546 u) y) := ⟨_, rfl, Nat.le_of_ble_eq_true rfl, rfl⟩
theorem gf_68_3 : GF (E x y) 68 11 3 (.int (x.1 547)) := ⟨_, rfl, rfl⟩
theorem pf_68_3 (u : Int32) : PF (E x y) 68 11 3 (.int u) (E (sI x 547 u) y) := ⟨_, rfl, Nat.le_of_ble_eq_true rfl, rfl⟩
theorem gf_68_4 : GF (E x y) 68 11 4 (.int (x.1 548)) := ⟨_, rfl, rfl⟩
theorem pf_68_4 (u : Int32) : PF (E x y) 68 11 4 (.int u) (E (sI x 548 u) y) := ⟨_, rfl, Nat.le_of_ble_eq_true rfl, rfl⟩
theorem ar_69 : PG (E x y) 69 = some (.inl (.long, 60, .inr (.inl (x.2.2 69)))) := rfl
theorem aw_69 (f : Nat → Int64) : (E x y).set (69 - 5) (.inl (.long, 60, .inr (.inl f))) = E (sG x 69 f) y := rfl
theorem po_70 : PG (E x y) 70 = some (.inr (12, [.int (y.1 560), .int (y.1 561), .ref 71, .ref 72, .ref 73, .ref 74, .ref 75, .ref 76, .ref 77, .ref 78, .int (y.1 570), .int (y.1 571), .ref 79, .ref 80, .ref 81, .ref 82, .ref 83, .int (y.1 577), .int (y.1 578), .int (y.1 579), .int (y.1 580), .int (y.1 581), .ref 84, .ref 85, .ref 86, .ref 87, .ref 88, .ref 89, .ref 90, .int (y.1 589), .int (y.1 590), .int (y.1 591), .int (y.1 592), .ref 91, .ref 92, .int (y.1 595), .int (y.1 596), .ref 93, .ref 94, .ref 95, .ref 96, .ref 97, .ref 98, .ref 99, .int (y.1 604), .int (y.1 605), .ref 100, .ref 101, .int (y.1 608), .int (y.1 609), .ref 102, .int (y.1 611), .ref 103, .ref 104, .ref 105, .ref 106, .ref 107])) := rfl
theorem gf_70_0 : GF (E x y) 70 12 0 (.int (y.1 560)) := ⟨_, rfl, rfl⟩
theorem pf_70_0 (u : Int32) : PF (E x y) 70 12 0 (.int u) (E x (sI y 560 u)) := ⟨_, rfl, Nat.le_of_ble_eq_true rfl, rfl⟩
theorem gf_70_1 : GF (E x y) 70 12 1 (.int (y.1 561)) := ⟨_, rfl, rfl⟩
theorem pf_70_1 (u : Int32) : PF (E x y) 70 12 1 (.int u) (E x (sI y 561 u)) := ⟨_, rfl, Nat.le_of_ble_eq_true rfl, rfl⟩
theorem gf_70_2 : GF (E x y) 70 12 2 (.ref 71) := ⟨_, rfl, rfl⟩
theorem gf_70_3 : GF (E x y) 70 12 3 (.ref 72) := ⟨_, rfl, rfl⟩
theorem gf_70_4 : GF (E x y) 70 12 4 (.ref 73) := ⟨_, rfl, rfl⟩
theorem gf_70_5 : GF (E x y) 70 12 5 (.ref 74) := ⟨_, rfl, rfl⟩
theorem gf_70_6 : GF (E x y) 70 12 6 (.ref 75) := ⟨_, rfl, rfl⟩
theorem gf_70_7 : GF (E x y) 70 12 7 (.ref 76) := ⟨_, rfl, rfl⟩
theorem gf_70_8 : GF (E x y) 70 12 8 (.ref 77) := ⟨_, rfl, rfl⟩
theorem gf_70_9 : GF (E x y) 70 12 9 (.ref 78) := ⟨_, rfl, rfl⟩
theorem gf_70_10 : GF (E x y) 70 12 10 (.int (y.1 570)) := ⟨_, rfl, rfl⟩
theorem pf_70_10 (u : Int32) : PF (E x y) 70 12 10 (.int u) (E x (sI y 570 u)) := ⟨_, rfl, Nat.le_of_ble_eq_true rfl, rfl⟩
theorem gf_70_11 : GF (E x y) 70 12 11 (.int (y.1 571)) := ⟨_, rfl, rfl⟩
theorem pf_70_11 (u : Int32) : PF (E x y) 70 12 11 (.int u) (E x (sI y 571 u)) := ⟨_, rfl, Nat.le_of_ble_eq_true rfl, rfl⟩
theorem gf_70_12 : GF (E x y) 70 12 12 (.ref 79) := ⟨_, rfl, rfl⟩
theorem gf_70_13 : GF (E x y) 70 12 13 (.ref 80) := ⟨_, rfl, rfl⟩
theorem gf_70_14 : GF (E x y) 70 12 14 (.ref 81) := ⟨_, rfl, rfl⟩
theorem gf_70_15 : GF (E x y) 70 12 15 (.ref 82) := ⟨_, rfl, rfl⟩
theorem gf_70_16 : GF (E x y) 70 12 16 (.ref 83) := ⟨_, rfl, rfl⟩
theorem gf_70_17 : GF (E x y) 70 12 17 (.int (y.1 577)) := ⟨_, rfl, rfl⟩
theorem pf_70_17 (u : Int32) : PF (E x y) 70 12 17 (.int u) (E x (sI y 577 u)) := ⟨_, rfl, Nat.le_of_ble_eq_true rfl, rfl⟩
theorem gf_70_18 : GF (E x y) 70 12 18 (.int (y.1 578)) := ⟨_, rfl, rfl⟩
theorem pf_70_18 (u : Int32) : PF (E x y) 70 12 18 (.int u) (E x (sI y 578 u)) := ⟨_, rfl, Nat.le_of_ble_eq_true rfl, rfl⟩
theorem gf_70_19 : GF (E x y) 70 12 19 (.int (y.1 579)) := ⟨_, rfl, rfl⟩
theorem pf_70_19 (u : Int32) : PF (E x y) 70 12 19 (.int u) (E x (sI y 579 u)) := ⟨_, rfl, Nat.le_of_ble_eq_true rfl, rfl⟩
theorem gf_70_20 : GF (E x y) 70 12 20 (.int (y.1 580)) := ⟨_, rfl, rfl⟩
theorem pf_70_20 (u : Int32) : PF (E x y) 70 12 20 (.int u) (E x (sI y 580 u)) := ⟨_, rfl, Nat.le_of_ble_eq_true rfl, rfl⟩
theorem gf_70_21 : GF (E x y) 70 12 21 (.int (y.1 581)) := ⟨_, rfl, rfl⟩
theorem pf_70_21 (u : Int32) : PF (E x y) 70 12 21 (.int u) (E x (sI y 581 u)) := ⟨_, rfl, Nat.le_of_ble_eq_true rfl, rfl⟩
theorem gf_70_22 : GF (E x y) 70 12 22 (.ref 84) := ⟨_, rfl, rfl⟩
theorem gf_70_23 : GF (E x y) 70 12 23 (.ref 85) := ⟨_, rfl, rfl⟩
theorem gf_70_24 : GF (E x y) 70 12 24 (.ref 86) := ⟨_, rfl, rfl⟩
theorem gf_70_25 : GF (E x y) 70 12 25 (.ref 87) := ⟨_, rfl, rfl⟩
theorem gf_70_26 : GF (E x y) 70 12 26 (.ref 88) := ⟨_, rfl, rfl⟩
theorem gf_70_27 : GF (E x y) 70 12 27 (.ref 89) := ⟨_, rfl, rfl⟩
theorem gf_70_28 : GF (E x y) 70 12 28 (.ref 90) := ⟨_, rfl, rfl⟩
theorem gf_70_29 : GF (E x y) 70 12 29 (.int (y.1 589)) := ⟨_, rfl, rfl⟩
theorem pf_70_29 (u : Int32) : PF (E x y) 70 12 29 (.int u) (E x (sI y 589 u)) := ⟨_, rfl, Nat.le_of_ble_eq_true rfl, rfl⟩
theorem gf_70_30 : GF (E x y) 70 12 30 (.int (y.1 590)) := ⟨_, rfl, rfl⟩
theorem pf_70_30 (u : Int32) : PF (E x y) 70 12 30 (.int u) (E x (sI y 590 u)) := ⟨_, rfl, Nat.le_of_ble_eq_true rfl, rfl⟩
theorem gf_70_31 : GF (E x y) 70 12 31 (.int (y.1 591)) := ⟨_, rfl, rfl⟩
theorem pf_70_31 (u : Int32) : PF (E x y) 70 12 31 (.int u) (E x (sI y 591 u)) := ⟨_, rfl, Nat.le_of_ble_eq_true rfl, rfl⟩
theorem gf_70_32 : GF (E x y) 70 12 32 (.int (y.1 592)) := ⟨_, rfl, rfl⟩
theorem pf_70_32 (u : Int32) : PF (E x y) 70 12 32 (.int u) (E x (sI y 592 u)) := ⟨_, rfl, Nat.le_of_ble_eq_true rfl, rfl⟩
theorem gf_70_33 : GF (E x y) 70 12 33 (.ref 91) := ⟨_, rfl, rfl⟩
theorem gf_70_34 : GF (E x y) 70 12 34 (.ref 92) := ⟨_, rfl, rfl⟩
theorem gf_70_35 : GF (E x y) 70 12 35 (.int (y.1 595)) := ⟨_, rfl, rfl⟩
theorem pf_70_35 (u : Int32) : PF (E x y) 70 12 35 (.int u) (E x (sI y 595 u)) := ⟨_, rfl, Nat.le_of_ble_eq_true rfl, rfl⟩
theorem gf_70_36 : GF (E x y) 70 12 36 (.int (y.1 596)) := ⟨_, rfl, rfl⟩
theorem pf_70_36 (u : Int32) : PF (E x y) 70 12 36 (.int u) (E x (sI y 596 u)) := ⟨_, rfl, Nat.le_of_ble_eq_true rfl, rfl⟩
theorem gf_70_37 : GF (E x y) 70 12 37 (.ref 93) := ⟨_, rfl, rfl⟩
theorem gf_70_38 : GF (E x y) 70 12 38 (.ref 94) := ⟨_, rfl, rfl⟩
theorem gf_70_39 : GF (E x y) 70 12 39 (.ref 95) := ⟨_, rfl, rfl⟩
theorem gf_70_40 : GF (E x y) 70 12 40 (.ref 96) := ⟨_, rfl, rfl⟩
theorem gf_70_41 : GF (E x y) 70 12 41 (.ref 97) := ⟨_, rfl, rfl⟩
theorem gf_70_42 : GF (E x y) 70 12 42 (.ref 98) := ⟨_, rfl, rfl⟩
theorem gf_70_43 : GF (E x y) 70 12 43 (.ref 99) := ⟨_, rfl, rfl⟩
theorem gf_70_44 : GF (E x y) 70 12 44 (.int (y.1 604)) := ⟨_, rfl, rfl⟩
theorem pf_70_44 (u : Int32) : PF (E x y) 70 12 44 (.int u) (E x (sI y 604 u)) := ⟨_, rfl, Nat.le_of_ble_eq_true rfl, rfl⟩
theorem gf_70_45 : GF (E x y) 70 12 45 (.int (y.1 605)) := ⟨_, rfl, rfl⟩
theorem pf_70_45 (u : Int32) : PF (E x y) 70 12 45 (.int u) (E x (sI y 605 u)) := ⟨_, rfl, Nat.le_of_ble_eq_true rfl, rfl⟩
theorem gf_70_46 : GF (E x y) 70 12 46 (.ref 100) := ⟨_, rfl, rfl⟩
theorem gf_70_47 : GF (E x y) 70 12 47 (.ref 101) := ⟨_, rfl, rfl⟩
theorem gf_70_48 : GF (E x y) 70 12 48 (.int (y.1 608)) := ⟨_, rfl, rfl⟩
theorem pf_70_48 (u : Int32) : PF (E x y) 70 12 48 (.int u) (E x (sI y 608 u)) := ⟨_, rfl, Nat.le_of_ble_eq_true rfl, rfl⟩
theorem gf_70_49 : GF (E x y) 70 12 49 (.int (y.1 609)) := ⟨_, rfl, rfl⟩
theorem pf_70_49 (u : Int32) : PF (E x y) 70 12 49 (.int u) (E x (sI y 609 u)) := ⟨_, rfl, Nat.le_of_ble_eq_true rfl, rfl⟩
theorem gf_70_50 : GF (E x y) 70 12 50 (.ref 102) := ⟨_, rfl, rfl⟩
theorem gf_70_51 : GF (E x y) 70 12 51 (.int (y.1 611)) := ⟨_, rfl, rfl⟩
theorem pf_70_51 (u : Int32) : PF (E x y) 70 12 51 (.int u) (E x (sI y 611 u)) := ⟨_, rfl, Nat.le_of_ble_eq_true rfl, rfl⟩
theorem gf_70_52 : GF (E x y) 70 12 52 (.ref 103) := ⟨_, rfl, rfl⟩
theorem gf_70_53 : GF (E x y) 70 12 53 (.ref 104) := ⟨_, rfl, rfl⟩
theorem gf_70_54 : GF (E x y) 70 12 54 (.ref 105) := ⟨_, rfl, rfl⟩
theorem gf_70_55 : GF (E x y) 70 12 55 (.ref 106) := ⟨_, rfl, rfl⟩
theorem gf_70_56 : GF (E x y) 70 12 56 (.ref 107) := ⟨_, rfl, rfl⟩
theorem ar_71 : PG (E x y) 71 = some (.inl (.int, 10, .inl (y.2.1 71))) := rfl
theorem aw_71 (f : Nat → Int32) : (E x y).set (71 - 5) (.inl (.int, 10, .inl f)) = E x (sA y 71 f) := rfl
theorem ar_72 : PG (E x y) 72 = some (.inl (.int, 10, .inl (y.2.1 72))) := rfl
theorem aw_72 (f : Nat → Int32) : (E x y).set (72 - 5) (.inl (.int, 10, .inl f)) = E x (sA y 72 f) := rfl
theorem ar_73 : PG (E x y) 73 = some (.inl (.int, 10, .inl (y.2.1 73))) := rfl
theorem aw_73 (f : Nat → Int32) : (E x y).set (73 - 5) (.inl (.int, 10, .inl f)) = E x (sA y 73 f) := rfl
theorem ar_74 : PG (E x y) 74 = some (.inl (.int, 10, .inl (y.2.1 74))) := rfl
theorem aw_74 (f : Nat → Int32) : (E x y).set (74 - 5) (.inl (.int, 10, .inl f)) = E x (sA y 74 f) := rfl
theorem ar_75 : PG (E x y) 75 = some (.inl (.int, 10, .inl (y.2.1 75))) := rfl
theorem aw_75 (f : Nat → Int32) : (E x y).set (75 - 5) (.inl (.int, 10, .inl f)) = E x (sA y 75 f) := rfl
theorem ar_76 : PG (E x y) 76 = some (.inl (.int, 10, .inl (y.2.1 76))) := rfl
theorem aw_76 (f : Nat → Int32) : (E x y).set (76 - 5) (.inl (.int, 10, .inl f)) = E x (sA y 76 f) := rfl
theorem ar_77 : PG (E x y) 77 = some (.inl (.int, 10, .inl (y.2.1 77))) := rfl
theorem aw_77 (f : Nat → Int32) : (E x y).set (77 - 5) (.inl (.int, 10, .inl f)) = E x (sA y 77 f) := rfl
theorem ar_78 : PG (E x y) 78 = some (.inl (.int, 4, .inl (y.2.1 78))) := rfl
theorem aw_78 (f : Nat → Int32) : (E x y).set (78 - 5) (.inl (.int, 4, .inl f)) = E x (sA y 78 f) := rfl
theorem ar_79 : PG (E x y) 79 = some (.inl (.int, 40, .inl (y.2.1 79))) := rfl
theorem aw_79 (f : Nat → Int32) : (E x y).set (79 - 5) (.inl (.int, 40, .inl f)) = E x (sA y 79 f) := rfl
theorem ar_80 : PG (E x y) 80 = some (.inl (.int, 40, .inl (y.2.1 80))) := rfl
theorem aw_80 (f : Nat → Int32) : (E x y).set (80 - 5) (.inl (.int, 40, .inl f)) = E x (sA y 80 f) := rfl
theorem ar_81 : PG (E x y) 81 = some (.inl (.int, 40, .inl (y.2.1 81))) := rfl
theorem aw_81 (f : Nat → Int32) : (E x y).set (81 - 5) (.inl (.int, 40, .inl f)) = E x (sA y 81 f) := rfl
theorem ar_82 : PG (E x y) 82 = some (.inl (.int, 40, .inl (y.2.1 82))) := rfl
theorem aw_82 (f : Nat → Int32) : (E x y).set (82 - 5) (.inl (.int, 40, .inl f)) = E x (sA y 82 f) := rfl
theorem ar_83 : PG (E x y) 83 = some (.inl (.byte, 120, .inl (y.2.1 83))) := rfl
theorem aw_83 (f : Nat → Int32) : (E x y).set (83 - 5) (.inl (.byte, 120, .inl f)) = E x (sA y 83 f) := rfl
theorem ar_84 : PG (E x y) 84 = some (.inl (.byte, 260, .inl (y.2.1 84))) := rfl
theorem aw_84 (f : Nat → Int32) : (E x y).set (84 - 5) (.inl (.byte, 260, .inl f)) = E x (sA y 84 f) := rfl
theorem ar_85 : PG (E x y) 85 = some (.inl (.int, 260, .inl (y.2.1 85))) := rfl
theorem aw_85 (f : Nat → Int32) : (E x y).set (85 - 5) (.inl (.int, 260, .inl f)) = E x (sA y 85 f) := rfl
theorem ar_86 : PG (E x y) 86 = some (.inl (.int, 2, .inl (y.2.1 86))) := rfl
theorem aw_86 (f : Nat → Int32) : (E x y).set (86 - 5) (.inl (.int, 2, .inl f)) = E x (sA y 86 f) := rfl
theorem ar_87 : PG (E x y) 87 = some (.inl (.short, 122, .inl (y.2.1 87))) := rfl
theorem aw_87 (f : Nat → Int32) : (E x y).set (87 - 5) (.inl (.short, 122, .inl f)) = E x (sA y 87 f) := rfl
theorem ar_88 : PG (E x y) 88 = some (.inl (.short, 122, .inl (y.2.1 88))) := rfl
theorem aw_88 (f : Nat → Int32) : (E x y).set (88 - 5) (.inl (.short, 122, .inl f)) = E x (sA y 88 f) := rfl
theorem ar_89 : PG (E x y) 89 = some (.inl (.int, 5, .inl (y.2.1 89))) := rfl
theorem aw_89 (f : Nat → Int32) : (E x y).set (89 - 5) (.inl (.int, 5, .inl f)) = E x (sA y 89 f) := rfl
theorem ar_90 : PG (E x y) 90 = some (.inl (.int, 130, .inl (y.2.1 90))) := rfl
theorem aw_90 (f : Nat → Int32) : (E x y).set (90 - 5) (.inl (.int, 130, .inl f)) = E x (sA y 90 f) := rfl
theorem ar_91 : PG (E x y) 91 = some (.inl (.int, 7, .inl (y.2.1 91))) := rfl
theorem aw_91 (f : Nat → Int32) : (E x y).set (91 - 5) (.inl (.int, 7, .inl f)) = E x (sA y 91 f) := rfl
theorem ar_92 : PG (E x y) 92 = some (.inl (.int, 7, .inl (y.2.1 92))) := rfl
theorem aw_92 (f : Nat → Int32) : (E x y).set (92 - 5) (.inl (.int, 7, .inl f)) = E x (sA y 92 f) := rfl
theorem ar_93 : PG (E x y) 93 = some (.inl (.int, 2, .inl (y.2.1 93))) := rfl
theorem aw_93 (f : Nat → Int32) : (E x y).set (93 - 5) (.inl (.int, 2, .inl f)) = E x (sA y 93 f) := rfl
theorem ar_94 : PG (E x y) 94 = some (.inl (.int, 2, .inl (y.2.1 94))) := rfl
theorem aw_94 (f : Nat → Int32) : (E x y).set (94 - 5) (.inl (.int, 2, .inl f)) = E x (sA y 94 f) := rfl
theorem ar_95 : PG (E x y) 95 = some (.inl (.int, 2, .inl (y.2.1 95))) := rfl
theorem aw_95 (f : Nat → Int32) : (E x y).set (95 - 5) (.inl (.int, 2, .inl f)) = E x (sA y 95 f) := rfl
theorem ar_96 : PG (E x y) 96 = some (.inl (.int, 2, .inl (y.2.1 96))) := rfl
theorem aw_96 (f : Nat → Int32) : (E x y).set (96 - 5) (.inl (.int, 2, .inl f)) = E x (sA y 96 f) := rfl
theorem ar_97 : PG (E x y) 97 = some (.inl (.int, 24, .inl (y.2.1 97))) := rfl
theorem aw_97 (f : Nat → Int32) : (E x y).set (97 - 5) (.inl (.int, 24, .inl f)) = E x (sA y 97 f) := rfl
theorem ar_98 : PG (E x y) 98 = some (.inl (.int, 24, .inl (y.2.1 98))) := rfl
theorem aw_98 (f : Nat → Int32) : (E x y).set (98 - 5) (.inl (.int, 24, .inl f)) = E x (sA y 98 f) := rfl
theorem ar_99 : PG (E x y) 99 = some (.inl (.int, 60, .inl (y.2.1 99))) := rfl
theorem aw_99 (f : Nat → Int32) : (E x y).set (99 - 5) (.inl (.int, 60, .inl f)) = E x (sA y 99 f) := rfl
theorem ar_100 : PG (E x y) 100 = some (.inl (.int, 6, .inl (y.2.1 100))) := rfl
theorem aw_100 (f : Nat → Int32) : (E x y).set (100 - 5) (.inl (.int, 6, .inl f)) = E x (sA y 100 f) := rfl
theorem ar_101 : PG (E x y) 101 = some (.inl (.int, 6, .inl (y.2.1 101))) := rfl
theorem aw_101 (f : Nat → Int32) : (E x y).set (101 - 5) (.inl (.int, 6, .inl f)) = E x (sA y 101 f) := rfl
theorem ar_102 : PG (E x y) 102 = some (.inl (.int, 50, .inl (y.2.1 102))) := rfl
theorem aw_102 (f : Nat → Int32) : (E x y).set (102 - 5) (.inl (.int, 50, .inl f)) = E x (sA y 102 f) := rfl
theorem ar_103 : PG (E x y) 103 = some (.inl (.int, 24, .inl (y.2.1 103))) := rfl
theorem aw_103 (f : Nat → Int32) : (E x y).set (103 - 5) (.inl (.int, 24, .inl f)) = E x (sA y 103 f) := rfl
theorem ar_104 : PG (E x y) 104 = some (.inl (.int, 6, .inl (y.2.1 104))) := rfl
theorem aw_104 (f : Nat → Int32) : (E x y).set (104 - 5) (.inl (.int, 6, .inl f)) = E x (sA y 104 f) := rfl
theorem ar_105 : PG (E x y) 105 = some (.inl (.int, 6, .inl (y.2.1 105))) := rfl
theorem aw_105 (f : Nat → Int32) : (E x y).set (105 - 5) (.inl (.int, 6, .inl f)) = E x (sA y 105 f) := rfl
theorem ar_106 : PG (E x y) 106 = some (.inl (.long, 360, .inr (.inl (y.2.2 106)))) := rfl
theorem aw_106 (f : Nat → Int64) : (E x y).set (106 - 5) (.inl (.long, 360, .inr (.inl f))) = E x (sG y 106 f) := rfl
theorem ar_107 : PG (E x y) 107 = some (.inl (.long, 60, .inr (.inl (y.2.2 107)))) := rfl
theorem aw_107 (f : Nat → Int64) : (E x y).set (107 - 5) (.inl (.long, 60, .inr (.inl f))) = E x (sG y 107 f) := rfl
theorem fr_facts {i : Nat} (h : i < 7) : PG (E x y) (8 + i) = some (.inl (.int, 10, .inl (x.2.1 (8 + i)))) := by
  match i, h with
  | 0, _ => rfl
  | 1, _ => rfl
  | 2, _ => rfl
  | 3, _ => rfl
  | 4, _ => rfl
  | 5, _ => rfl
  | 6, _ => rfl
  | n + 7, h => omega
theorem fw_facts {i : Nat} (h : i < 7) (f : Nat → Int32) : (E x y).set (8 + i - 5) (.inl (.int, 10, .inl f)) = E (sA x (8 + i) f) y := by
  match i, h with
  | 0, _ => rfl
  | 1, _ => rfl
  | 2, _ => rfl
  | 3, _ => rfl
  | 4, _ => rfl
  | 5, _ => rfl
  | 6, _ => rfl
  | n + 7, h => omega
theorem fr_present {i : Nat} (h : i < 5) : PG (E x y) (17 + i) = some (.inl (.int, 100, .inl (x.2.1 (17 + i)))) := by
  match i, h with
  | 0, _ => rfl
  | 1, _ => rfl
  | 2, _ => rfl
  | 3, _ => rfl
  | 4, _ => rfl
  | n + 5, h => omega
theorem fw_present {i : Nat} (h : i < 5) (f : Nat → Int32) : (E x y).set (17 + i - 5) (.inl (.int, 100, .inl f)) = E (sA x (17 + i) f) y := by
  match i, h with
  | 0, _ => rfl
  | 1, _ => rfl
  | 2, _ => rfl
  | 3, _ => rfl
  | 4, _ => rfl
  | n + 5, h => omega
theorem fr_ends {i : Nat} (h : i < 2) : PG (E x y) (37 + i) = some (.inl (.int, 12, .inl (x.2.1 (37 + i)))) := by
  match i, h with
  | 0, _ => rfl
  | 1, _ => rfl
  | n + 2, h => omega
theorem fw_ends {i : Nat} (h : i < 2) (f : Nat → Int32) : (E x y).set (37 + i - 5) (.inl (.int, 12, .inl f)) = E (sA x (37 + i) f) y := by
  match i, h with
  | 0, _ => rfl
  | 1, _ => rfl
  | n + 2, h => omega
theorem fr_whoms {i : Nat} (h : i < 2) : PG (E x y) (40 + i) = some (.inl (.int, 12, .inl (x.2.1 (40 + i)))) := by
  match i, h with
  | 0, _ => rfl
  | 1, _ => rfl
  | n + 2, h => omega
theorem fw_whoms {i : Nat} (h : i < 2) (f : Nat → Int32) : (E x y).set (40 + i - 5) (.inl (.int, 12, .inl f)) = E (sA x (40 + i) f) y := by
  match i, h with
  | 0, _ => rfl
  | 1, _ => rfl
  | n + 2, h => omega
theorem sh_po {i : Nat} (h : i < 6) : PG (E x y) (58 + 2 * i) = some (.inr (11, [.ref (59 + 2 * i), .int (x.1 ((58 + 2 * i) * 8 + 1)), .int (x.1 ((58 + 2 * i) * 8 + 2)), .int (x.1 ((58 + 2 * i) * 8 + 3)), .int (x.1 ((58 + 2 * i) * 8 + 4))])) := by
  match i, h with
  | 0, _ => exact rfl
  | 1, _ => exact rfl
  | 2, _ => exact rfl
  | 3, _ => exact rfl
  | 4, _ => exact rfl
  | 5, _ => exact rfl
  | n + 6, h => omega
theorem sh_g0 {i : Nat} (h : i < 6) : GF (E x y) (58 + 2 * i) 11 0 (.ref (59 + 2 * i)) := ⟨_, sh_po x y h, rfl⟩
theorem sh_g1 {i : Nat} (h : i < 6) : GF (E x y) (58 + 2 * i) 11 1 (.int (x.1 ((58 + 2 * i) * 8 + 1))) := ⟨_, sh_po x y h, rfl⟩
theorem sh_p1 {i : Nat} (h : i < 6) (u : Int32) : PF (E x y) (58 + 2 * i) 11 1 (.int u) (E (sI x ((58 + 2 * i) * 8 + 1) u) y) := by
  match i, h with
  | 0, _ => exact ⟨_, rfl, Nat.le_of_ble_eq_true rfl, rfl⟩
  | 1, _ => exact ⟨_, rfl, Nat.le_of_ble_eq_true rfl, rfl⟩
  | 2, _ => exact ⟨_, rfl, Nat.le_of_ble_eq_true rfl, rfl⟩
  | 3, _ => exact ⟨_, rfl, Nat.le_of_ble_eq_true rfl, rfl⟩
  | 4, _ => exact ⟨_, rfl, Nat.le_of_ble_eq_true rfl, rfl⟩
  | 5, _ => exact ⟨_, rfl, Nat.le_of_ble_eq_true rfl, rfl⟩
  | n + 6, h => omega
theorem sh_g2 {i : Nat} (h : i < 6) : GF (E x y) (58 + 2 * i) 11 2 (.int (x.1 ((58 + 2 * i) * 8 + 2))) := ⟨_, sh_po x y h, rfl⟩
theorem sh_p2 {i : Nat} (h : i < 6) (u : Int32) : PF (E x y) (58 + 2 * i) 11 2 (.int u) (E (sI x ((58 + 2 * i) * 8 + 2) u) y) := by
  match i, h with
  | 0, _ => exact ⟨_, rfl, Nat.le_of_ble_eq_true rfl, rfl⟩
  | 1, _ => exact ⟨_, rfl, Nat.le_of_ble_eq_true rfl, rfl⟩
  | 2, _ => exact ⟨_, rfl, Nat.le_of_ble_eq_true rfl, rfl⟩
  | 3, _ => exact ⟨_, rfl, Nat.le_of_ble_eq_true rfl, rfl⟩
  | 4, _ => exact ⟨_, rfl, Nat.le_of_ble_eq_true rfl, rfl⟩
  | 5, _ => exact ⟨_, rfl, Nat.le_of_ble_eq_true rfl, rfl⟩
  | n + 6, h => omega
theorem sh_g3 {i : Nat} (h : i < 6) : GF (E x y) (58 + 2 * i) 11 3 (.int (x.1 ((58 + 2 * i) * 8 + 3))) := ⟨_, sh_po x y h, rfl⟩
theorem sh_p3 {i : Nat} (h : i < 6) (u : Int32) : PF (E x y) (58 + 2 * i) 11 3 (.int u) (E (sI x ((58 + 2 * i) * 8 + 3) u) y) := by
  match i, h with
  | 0, _ => exact ⟨_, rfl, Nat.le_of_ble_eq_true rfl, rfl⟩
  | 1, _ => exact ⟨_, rfl, Nat.le_of_ble_eq_true rfl, rfl⟩
  | 2, _ => exact ⟨_, rfl, Nat.le_of_ble_eq_true rfl, rfl⟩
  | 3, _ => exact ⟨_, rfl, Nat.le_of_ble_eq_true rfl, rfl⟩
  | 4, _ => exact ⟨_, rfl, Nat.le_of_ble_eq_true rfl, rfl⟩
  | 5, _ => exact ⟨_, rfl, Nat.le_of_ble_eq_true rfl, rfl⟩
  | n + 6, h => omega
theorem sh_g4 {i : Nat} (h : i < 6) : GF (E x y) (58 + 2 * i) 11 4 (.int (x.1 ((58 + 2 * i) * 8 + 4))) := ⟨_, sh_po x y h, rfl⟩
theorem sh_p4 {i : Nat} (h : i < 6) (u : Int32) : PF (E x y) (58 + 2 * i) 11 4 (.int u) (E (sI x ((58 + 2 * i) * 8 + 4) u) y) := by
  match i, h with
  | 0, _ => exact ⟨_, rfl, Nat.le_of_ble_eq_true rfl, rfl⟩
  | 1, _ => exact ⟨_, rfl, Nat.le_of_ble_eq_true rfl, rfl⟩
  | 2, _ => exact ⟨_, rfl, Nat.le_of_ble_eq_true rfl, rfl⟩
  | 3, _ => exact ⟨_, rfl, Nat.le_of_ble_eq_true rfl, rfl⟩
  | 4, _ => exact ⟨_, rfl, Nat.le_of_ble_eq_true rfl, rfl⟩
  | 5, _ => exact ⟨_, rfl, Nat.le_of_ble_eq_true rfl, rfl⟩
  | n + 6, h => omega
theorem sh_r {i : Nat} (h : i < 6) : PG (E x y) (59 + 2 * i) = some (.inl (.long, 60, .inr (.inl (x.2.2 (59 + 2 * i))))) := by
  match i, h with
  | 0, _ => exact rfl
  | 1, _ => exact rfl
  | 2, _ => exact rfl
  | 3, _ => exact rfl
  | 4, _ => exact rfl
  | 5, _ => exact rfl
  | n + 6, h => omega
theorem sh_w {i : Nat} (h : i < 6) (f : Nat → Int64) : (E x y).set (59 + 2 * i - 5) (.inl (.long, 60, .inr (.inl f))) = E (sG x (59 + 2 * i) f) y := by
  match i, h with
  | 0, _ => exact rfl
  | 1, _ => exact rfl
  | 2, _ => exact rfl
  | 3, _ => exact rfl
  | 4, _ => exact rfl
  | 5, _ => exact rfl
  | n + 6, h => omega
def LV (v : Nat) : Prop := v = 31 ∨ v = 42 ∨ v = 43 ∨ v = 48
theorem lv_g0 {v : Nat} (h : LV v) : GF (E x y) v 4 0 (.ref 6) := by
  rcases h with rfl | rfl | rfl | rfl <;> exact ⟨_, rfl, rfl⟩
theorem lv_g1 {v : Nat} (h : LV v) : GF (E x y) v 4 1 (.ref 22) := by
  rcases h with rfl | rfl | rfl | rfl <;> exact ⟨_, rfl, rfl⟩
theorem lv_g2 {v : Nat} (h : LV v) : GF (E x y) v 4 2 (.int (x.1 (v * 8 + 2))) := by
  rcases h with rfl | rfl | rfl | rfl <;> exact ⟨_, rfl, rfl⟩
theorem lv_p2 {v : Nat} (h : LV v) (u : Int32) : PF (E x y) v 4 2 (.int u) (E (sI x (v * 8 + 2) u) y) := by
  rcases h with rfl | rfl | rfl | rfl <;> exact ⟨_, rfl, Nat.le_of_ble_eq_true rfl, rfl⟩
theorem lv_g3 {v : Nat} (h : LV v) : GF (E x y) v 4 3 (.int (x.1 (v * 8 + 3))) := by
  rcases h with rfl | rfl | rfl | rfl <;> exact ⟨_, rfl, rfl⟩
theorem lv_p3 {v : Nat} (h : LV v) (u : Int32) : PF (E x y) v 4 3 (.int u) (E (sI x (v * 8 + 3) u) y) := by
  rcases h with rfl | rfl | rfl | rfl <;> exact ⟨_, rfl, Nat.le_of_ble_eq_true rfl, rfl⟩
theorem lv_g4 {v : Nat} (h : LV v) : GF (E x y) v 4 4 (.int (x.1 (v * 8 + 4))) := by
  rcases h with rfl | rfl | rfl | rfl <;> exact ⟨_, rfl, rfl⟩
theorem lv_p4 {v : Nat} (h : LV v) (u : Int32) : PF (E x y) v 4 4 (.int u) (E (sI x (v * 8 + 4) u) y) := by
  rcases h with rfl | rfl | rfl | rfl <;> exact ⟨_, rfl, Nat.le_of_ble_eq_true rfl, rfl⟩
theorem lv_po {v : Nat} (h : LV v) : PG (E x y) v = some (.inr (4, [.ref 6, .ref 22, .int (x.1 (v * 8 + 2)), .int (x.1 (v * 8 + 3)), .int (x.1 (v * 8 + 4))])) := by
  rcases h with rfl | rfl | rfl | rfl <;> rfl
end FLAT
