theorem aw_iconst {X : CT} {G : GT} {q : S_} {cc : ByteArray} {own : String} {nL d pc : Nat} {lv : List (Option Value)} {st : List Value} (C : Cx X G cc own nL d) {n : Int} {v : Int32} (hd : decode cc pc = .ok (.iconst n, 1)) (hv : Int32.ofInt n = v) (k : AW X G q (pc + 1) lv (.int v :: st)) : AW X G q pc lv (st) := by
  obtain ⟨p, l, e, R, s, m, args, below, meth, c, ce, sl, Q⟩ := X
  obtain ⟨hx, hb, hml, hown, hts, hK, hW, -, -, -, -⟩ := C
  intro H locs ls hP hS hl
  exact lv_iconst hx hb hd hv (k H locs ls hP hS hl)
theorem aw_bipush {X : CT} {G : GT} {q : S_} {cc : ByteArray} {own : String} {nL d pc : Nat} {lv : List (Option Value)} {st : List Value} (C : Cx X G cc own nL d) {n : Int} {v : Int32} (hd : decode cc pc = .ok (.bipush n, 2)) (hv : (Int8.ofInt n).toInt32 = v) (k : AW X G q (pc + 2) lv (.int v :: st)) : AW X G q pc lv (st) := by
  obtain ⟨p, l, e, R, s, m, args, below, meth, c, ce, sl, Q⟩ := X
  obtain ⟨hx, hb, hml, hown, hts, hK, hW, -, -, -, -⟩ := C
  intro H locs ls hP hS hl
  exact lv_bipush hx hb hd hv (k H locs ls hP hS hl)
theorem aw_sipush {X : CT} {G : GT} {q : S_} {cc : ByteArray} {own : String} {nL d pc : Nat} {lv : List (Option Value)} {st : List Value} (C : Cx X G cc own nL d) {n : Int} {v : Int32} (hd : decode cc pc = .ok (.sipush n, 3)) (hv : (Int16.ofInt n).toInt32 = v) (k : AW X G q (pc + 3) lv (.int v :: st)) : AW X G q pc lv (st) := by
  obtain ⟨p, l, e, R, s, m, args, below, meth, c, ce, sl, Q⟩ := X
  obtain ⟨hx, hb, hml, hown, hts, hK, hW, -, -, -, -⟩ := C
  intro H locs ls hP hS hl
  exact lv_sipush hx hb hd hv (k H locs ls hP hS hl)
theorem aw_lconst {X : CT} {G : GT} {q : S_} {cc : ByteArray} {own : String} {nL d pc : Nat} {lv : List (Option Value)} {st : List Value} (C : Cx X G cc own nL d) {n : Fin 2} {v : Int64} (hd : decode cc pc = .ok (.lconst n, 1)) (hv : Int64.ofNat (n : Nat) = v) (k : AW X G q (pc + 1) lv (.long v :: st)) : AW X G q pc lv (st) := by
  obtain ⟨p, l, e, R, s, m, args, below, meth, c, ce, sl, Q⟩ := X
  obtain ⟨hx, hb, hml, hown, hts, hK, hW, -, -, -, -⟩ := C
  intro H locs ls hP hS hl
  exact lv_lconst hx hb hd hv (k H locs ls hP hS hl)
theorem aw_ldc {X : CT} {G : GT} {q : S_} {cc : ByteArray} {own : String} {nL d pc : Nat} {lv : List (Option Value)} {st : List Value} (C : Cx X G cc own nL d) {v : Int32} {ix : Nat} (hd : decode cc pc = .ok (.ldc ix, 2)) (hv : Cond.constant own ix v ∈ gtb) (k : AW X G q (pc + 2) lv (.int v :: st)) : AW X G q pc lv (st) := by
  obtain ⟨p, l, e, R, s, m, args, below, meth, c, ce, sl, Q⟩ := X
  obtain ⟨hx, hb, hml, hown, hts, hK, hW, -, -, -, -⟩ := C
  intro H locs ls hP hS hl
  exact lv_ldc hx hb hown (hts _ hv) hd (k H locs ls hP hS hl)
theorem aw_ldcw {X : CT} {G : GT} {q : S_} {cc : ByteArray} {own : String} {nL d pc : Nat} {lv : List (Option Value)} {st : List Value} (C : Cx X G cc own nL d) {v : Int32} {ix : Nat} (hd : decode cc pc = .ok (.ldc_w ix, 3)) (hv : Cond.constant own ix v ∈ gtb) (k : AW X G q (pc + 3) lv (.int v :: st)) : AW X G q pc lv (st) := by
  obtain ⟨p, l, e, R, s, m, args, below, meth, c, ce, sl, Q⟩ := X
  obtain ⟨hx, hb, hml, hown, hts, hK, hW, -, -, -, -⟩ := C
  intro H locs ls hP hS hl
  exact lv_ldcw hx hb hown (hts _ hv) hd (k H locs ls hP hS hl)
theorem aw_ldc2 {X : CT} {G : GT} {q : S_} {cc : ByteArray} {own : String} {nL d pc : Nat} {lv : List (Option Value)} {st : List Value} (C : Cx X G cc own nL d) {v : Int64} {ix : Nat} (hd : decode cc pc = .ok (.ldc2_w ix, 3)) (hv : Cond.constantLong own ix v ∈ gtb) (k : AW X G q (pc + 3) lv (.long v :: st)) : AW X G q pc lv (st) := by
  obtain ⟨p, l, e, R, s, m, args, below, meth, c, ce, sl, Q⟩ := X
  obtain ⟨hx, hb, hml, hown, hts, hK, hW, -, -, -, -⟩ := C
  intro H locs ls hP hS hl
  exact lv_ldc2 hx hb hown (hts _ hv) hd (k H locs ls hP hS hl)
theorem aw_iadd {X : CT} {G : GT} {q : S_} {cc : ByteArray} {own : String} {nL d pc : Nat} {lv : List (Option Value)} {st : List Value} (C : Cx X G cc own nL d) {x y : Int32} (hd : decode cc pc = .ok (.iadd, 1)) (k : AW X G q (pc + 1) lv (.int (x + y) :: st)) : AW X G q pc lv (.int y :: .int x :: st) := by
  obtain ⟨p, l, e, R, s, m, args, below, meth, c, ce, sl, Q⟩ := X
  obtain ⟨hx, hb, hml, hown, hts, hK, hW, -, -, -, -⟩ := C
  intro H locs ls hP hS hl
  exact lv_iadd hx hb hd (k H locs ls hP hS hl)
theorem aw_isub {X : CT} {G : GT} {q : S_} {cc : ByteArray} {own : String} {nL d pc : Nat} {lv : List (Option Value)} {st : List Value} (C : Cx X G cc own nL d) {x y : Int32} (hd : decode cc pc = .ok (.isub, 1)) (k : AW X G q (pc + 1) lv (.int (x - y) :: st)) : AW X G q pc lv (.int y :: .int x :: st) := by
  obtain ⟨p, l, e, R, s, m, args, below, meth, c, ce, sl, Q⟩ := X
  obtain ⟨hx, hb, hml, hown, hts, hK, hW, -, -, -, -⟩ := C
  intro H locs ls hP hS hl
  exact lv_isub hx hb hd (k H locs ls hP hS hl)
theorem aw_imul {X : CT} {G : GT} {q : S_} {cc : ByteArray} {own : String} {nL d pc : Nat} {lv : List (Option Value)} {st : List Value} (C : Cx X G cc own nL d) {x y : Int32} (hd : decode cc pc = .ok (.imul, 1)) (k : AW X G q (pc + 1) lv (.int (x * y) :: st)) : AW X G q pc lv (.int y :: .int x :: st) := by
  obtain ⟨p, l, e, R, s, m, args, below, meth, c, ce, sl, Q⟩ := X
  obtain ⟨hx, hb, hml, hown, hts, hK, hW, -, -, -, -⟩ := C
  intro H locs ls hP hS hl
  exact lv_imul hx hb hd (k H locs ls hP hS hl)
theorem aw_iand {X : CT} {G : GT} {q : S_} {cc : ByteArray} {own : String} {nL d pc : Nat} {lv : List (Option Value)} {st : List Value} (C : Cx X G cc own nL d) {x y : Int32} (hd : decode cc pc = .ok (.iand, 1)) (k : AW X G q (pc + 1) lv (.int (x &&& y) :: st)) : AW X G q pc lv (.int y :: .int x :: st) := by
  obtain ⟨p, l, e, R, s, m, args, below, meth, c, ce, sl, Q⟩ := X
  obtain ⟨hx, hb, hml, hown, hts, hK, hW, -, -, -, -⟩ := C
  intro H locs ls hP hS hl
  exact lv_iand hx hb hd (k H locs ls hP hS hl)
theorem aw_ior {X : CT} {G : GT} {q : S_} {cc : ByteArray} {own : String} {nL d pc : Nat} {lv : List (Option Value)} {st : List Value} (C : Cx X G cc own nL d) {x y : Int32} (hd : decode cc pc = .ok (.ior, 1)) (k : AW X G q (pc + 1) lv (.int (x ||| y) :: st)) : AW X G q pc lv (.int y :: .int x :: st) := by
  obtain ⟨p, l, e, R, s, m, args, below, meth, c, ce, sl, Q⟩ := X
  obtain ⟨hx, hb, hml, hown, hts, hK, hW, -, -, -, -⟩ := C
  intro H locs ls hP hS hl
  exact lv_ior hx hb hd (k H locs ls hP hS hl)
theorem aw_ixor {X : CT} {G : GT} {q : S_} {cc : ByteArray} {own : String} {nL d pc : Nat} {lv : List (Option Value)} {st : List Value} (C : Cx X G cc own nL d) {x y : Int32} (hd : decode cc pc = .ok (.ixor, 1)) (k : AW X G q (pc + 1) lv (.int (x ^^^ y) :: st)) : AW X G q pc lv (.int y :: .int x :: st) := by
  obtain ⟨p, l, e, R, s, m, args, below, meth, c, ce, sl, Q⟩ := X
  obtain ⟨hx, hb, hml, hown, hts, hK, hW, -, -, -, -⟩ := C
  intro H locs ls hP hS hl
  exact lv_ixor hx hb hd (k H locs ls hP hS hl)
theorem aw_ladd {X : CT} {G : GT} {q : S_} {cc : ByteArray} {own : String} {nL d pc : Nat} {lv : List (Option Value)} {st : List Value} (C : Cx X G cc own nL d) {x y : Int64} (hd : decode cc pc = .ok (.ladd, 1)) (k : AW X G q (pc + 1) lv (.long (x + y) :: st)) : AW X G q pc lv (.long y :: .long x :: st) := by
  obtain ⟨p, l, e, R, s, m, args, below, meth, c, ce, sl, Q⟩ := X
  obtain ⟨hx, hb, hml, hown, hts, hK, hW, -, -, -, -⟩ := C
  intro H locs ls hP hS hl
  exact lv_ladd hx hb hd (k H locs ls hP hS hl)
theorem aw_lor {X : CT} {G : GT} {q : S_} {cc : ByteArray} {own : String} {nL d pc : Nat} {lv : List (Option Value)} {st : List Value} (C : Cx X G cc own nL d) {x y : Int64} (hd : decode cc pc = .ok (.lor, 1)) (k : AW X G q (pc + 1) lv (.long (x ||| y) :: st)) : AW X G q pc lv (.long y :: .long x :: st) := by
  obtain ⟨p, l, e, R, s, m, args, below, meth, c, ce, sl, Q⟩ := X
  obtain ⟨hx, hb, hml, hown, hts, hK, hW, -, -, -, -⟩ := C
  intro H locs ls hP hS hl
  exact lv_lor hx hb hd (k H locs ls hP hS hl)
theorem aw_land {X : CT} {G : GT} {q : S_} {cc : ByteArray} {own : String} {nL d pc : Nat} {lv : List (Option Value)} {st : List Value} (C : Cx X G cc own nL d) {x y : Int64} (hd : decode cc pc = .ok (.land, 1)) (k : AW X G q (pc + 1) lv (.long (x &&& y) :: st)) : AW X G q pc lv (.long y :: .long x :: st) := by
  obtain ⟨p, l, e, R, s, m, args, below, meth, c, ce, sl, Q⟩ := X
  obtain ⟨hx, hb, hml, hown, hts, hK, hW, -, -, -, -⟩ := C
  intro H locs ls hP hS hl
  exact lv_land hx hb hd (k H locs ls hP hS hl)
theorem aw_ishl {X : CT} {G : GT} {q : S_} {cc : ByteArray} {own : String} {nL d pc : Nat} {lv : List (Option Value)} {st : List Value} (C : Cx X G cc own nL d) {x y : Int32} (hd : decode cc pc = .ok (.ishl, 1)) (k : AW X G q (pc + 1) lv (.int (x <<< (y &&& 31)) :: st)) : AW X G q pc lv (.int y :: .int x :: st) := by
  obtain ⟨p, l, e, R, s, m, args, below, meth, c, ce, sl, Q⟩ := X
  obtain ⟨hx, hb, hml, hown, hts, hK, hW, -, -, -, -⟩ := C
  intro H locs ls hP hS hl
  exact lv_ishl hx hb hd (k H locs ls hP hS hl)
theorem aw_ishr {X : CT} {G : GT} {q : S_} {cc : ByteArray} {own : String} {nL d pc : Nat} {lv : List (Option Value)} {st : List Value} (C : Cx X G cc own nL d) {x y : Int32} (hd : decode cc pc = .ok (.ishr, 1)) (k : AW X G q (pc + 1) lv (.int (x >>> (y &&& 31)) :: st)) : AW X G q pc lv (.int y :: .int x :: st) := by
  obtain ⟨p, l, e, R, s, m, args, below, meth, c, ce, sl, Q⟩ := X
  obtain ⟨hx, hb, hml, hown, hts, hK, hW, -, -, -, -⟩ := C
  intro H locs ls hP hS hl
  exact lv_ishr hx hb hd (k H locs ls hP hS hl)
theorem aw_iushr {X : CT} {G : GT} {q : S_} {cc : ByteArray} {own : String} {nL d pc : Nat} {lv : List (Option Value)} {st : List Value} (C : Cx X G cc own nL d) {x y : Int32} (hd : decode cc pc = .ok (.iushr, 1)) (k : AW X G q (pc + 1) lv (.int (x.toUInt32 >>> (y.toUInt32 &&& Int32.toUInt32 31)).toInt32 :: st)) : AW X G q pc lv (.int y :: .int x :: st) := by
  obtain ⟨p, l, e, R, s, m, args, below, meth, c, ce, sl, Q⟩ := X
  obtain ⟨hx, hb, hml, hown, hts, hK, hW, -, -, -, -⟩ := C
  intro H locs ls hP hS hl
  exact lv_iushr hx hb hd rfl (k H locs ls hP hS hl)
theorem aw_lshl {X : CT} {G : GT} {q : S_} {cc : ByteArray} {own : String} {nL d pc : Nat} {lv : List (Option Value)} {st : List Value} (C : Cx X G cc own nL d) {x : Int64} {y : Int32} (hd : decode cc pc = .ok (.lshl, 1)) (k : AW X G q (pc + 1) lv (.long (x <<< (y.toInt64 &&& 63)) :: st)) : AW X G q pc lv (.int y :: .long x :: st) := by
  obtain ⟨p, l, e, R, s, m, args, below, meth, c, ce, sl, Q⟩ := X
  obtain ⟨hx, hb, hml, hown, hts, hK, hW, -, -, -, -⟩ := C
  intro H locs ls hP hS hl
  exact lv_lshl hx hb hd rfl (k H locs ls hP hS hl)
theorem aw_idiv {X : CT} {G : GT} {q : S_} {cc : ByteArray} {own : String} {nL d pc : Nat} {lv : List (Option Value)} {st : List Value} (C : Cx X G cc own nL d) {x y : Int32} (hd : decode cc pc = .ok (.idiv, 1)) (hne : ¬ y = 0) (k : AW X G q (pc + 1) lv (.int (x / y) :: st)) : AW X G q pc lv (.int y :: .int x :: st) := by
  obtain ⟨p, l, e, R, s, m, args, below, meth, c, ce, sl, Q⟩ := X
  obtain ⟨hx, hb, hml, hown, hts, hK, hW, -, -, -, -⟩ := C
  intro H locs ls hP hS hl
  exact lv_idiv hx hb hd hne (k H locs ls hP hS hl)
theorem aw_irem {X : CT} {G : GT} {q : S_} {cc : ByteArray} {own : String} {nL d pc : Nat} {lv : List (Option Value)} {st : List Value} (C : Cx X G cc own nL d) {x y : Int32} (hd : decode cc pc = .ok (.irem, 1)) (hne : ¬ y = 0) (k : AW X G q (pc + 1) lv (.int (x % y) :: st)) : AW X G q pc lv (.int y :: .int x :: st) := by
  obtain ⟨p, l, e, R, s, m, args, below, meth, c, ce, sl, Q⟩ := X
  obtain ⟨hx, hb, hml, hown, hts, hK, hW, -, -, -, -⟩ := C
  intro H locs ls hP hS hl
  rw [← irem_eq_mod] at k
  exact lv_irem hx hb hd hne (k H locs ls hP hS hl)
theorem aw_ldiv {X : CT} {G : GT} {q : S_} {cc : ByteArray} {own : String} {nL d pc : Nat} {lv : List (Option Value)} {st : List Value} (C : Cx X G cc own nL d) {x y : Int64} (hd : decode cc pc = .ok (.ldiv, 1)) (hne : ¬ y = 0) (k : AW X G q (pc + 1) lv (.long (x / y) :: st)) : AW X G q pc lv (.long y :: .long x :: st) := by
  obtain ⟨p, l, e, R, s, m, args, below, meth, c, ce, sl, Q⟩ := X
  obtain ⟨hx, hb, hml, hown, hts, hK, hW, -, -, -, -⟩ := C
  intro H locs ls hP hS hl
  exact lv_ldiv hx hb hd hne (k H locs ls hP hS hl)
theorem aw_lrem {X : CT} {G : GT} {q : S_} {cc : ByteArray} {own : String} {nL d pc : Nat} {lv : List (Option Value)} {st : List Value} (C : Cx X G cc own nL d) {x y : Int64} (hd : decode cc pc = .ok (.lrem, 1)) (hne : ¬ y = 0) (k : AW X G q (pc + 1) lv (.long (x - x / y * y) :: st)) : AW X G q pc lv (.long y :: .long x :: st) := by
  obtain ⟨p, l, e, R, s, m, args, below, meth, c, ce, sl, Q⟩ := X
  obtain ⟨hx, hb, hml, hown, hts, hK, hW, -, -, -, -⟩ := C
  intro H locs ls hP hS hl
  exact lv_lrem hx hb hd hne (k H locs ls hP hS hl)
theorem aw_ineg {X : CT} {G : GT} {q : S_} {cc : ByteArray} {own : String} {nL d pc : Nat} {lv : List (Option Value)} {st : List Value} (C : Cx X G cc own nL d) {x : Int32} (hd : decode cc pc = .ok (.ineg, 1)) (k : AW X G q (pc + 1) lv (.int (-x) :: st)) : AW X G q pc lv (.int x :: st) := by
  obtain ⟨p, l, e, R, s, m, args, below, meth, c, ce, sl, Q⟩ := X
  obtain ⟨hx, hb, hml, hown, hts, hK, hW, -, -, -, -⟩ := C
  intro H locs ls hP hS hl
  exact lv_ineg hx hb hd (k H locs ls hP hS hl)
theorem aw_i2l {X : CT} {G : GT} {q : S_} {cc : ByteArray} {own : String} {nL d pc : Nat} {lv : List (Option Value)} {st : List Value} (C : Cx X G cc own nL d) {x : Int32} (hd : decode cc pc = .ok (.i2l, 1)) (k : AW X G q (pc + 1) lv (.long x.toInt64 :: st)) : AW X G q pc lv (.int x :: st) := by
  obtain ⟨p, l, e, R, s, m, args, below, meth, c, ce, sl, Q⟩ := X
  obtain ⟨hx, hb, hml, hown, hts, hK, hW, -, -, -, -⟩ := C
  intro H locs ls hP hS hl
  exact lv_i2l hx hb hd rfl (k H locs ls hP hS hl)
theorem aw_l2i {X : CT} {G : GT} {q : S_} {cc : ByteArray} {own : String} {nL d pc : Nat} {lv : List (Option Value)} {st : List Value} (C : Cx X G cc own nL d) {x : Int64} (hd : decode cc pc = .ok (.l2i, 1)) (k : AW X G q (pc + 1) lv (.int x.toInt32 :: st)) : AW X G q pc lv (.long x :: st) := by
  obtain ⟨p, l, e, R, s, m, args, below, meth, c, ce, sl, Q⟩ := X
  obtain ⟨hx, hb, hml, hown, hts, hK, hW, -, -, -, -⟩ := C
  intro H locs ls hP hS hl
  exact lv_l2i hx hb hd rfl (k H locs ls hP hS hl)
theorem aw_i2b {X : CT} {G : GT} {q : S_} {cc : ByteArray} {own : String} {nL d pc : Nat} {lv : List (Option Value)} {st : List Value} (C : Cx X G cc own nL d) {x : Int32} (hd : decode cc pc = .ok (.i2b, 1)) (k : AW X G q (pc + 1) lv (.int x.toInt8.toInt32 :: st)) : AW X G q pc lv (.int x :: st) := by
  obtain ⟨p, l, e, R, s, m, args, below, meth, c, ce, sl, Q⟩ := X
  obtain ⟨hx, hb, hml, hown, hts, hK, hW, -, -, -, -⟩ := C
  intro H locs ls hP hS hl
  exact lv_i2b hx hb hd rfl (k H locs ls hP hS hl)
theorem aw_i2s {X : CT} {G : GT} {q : S_} {cc : ByteArray} {own : String} {nL d pc : Nat} {lv : List (Option Value)} {st : List Value} (C : Cx X G cc own nL d) {x : Int32} (hd : decode cc pc = .ok (.i2s, 1)) (k : AW X G q (pc + 1) lv (.int x.toInt16.toInt32 :: st)) : AW X G q pc lv (.int x :: st) := by
  obtain ⟨p, l, e, R, s, m, args, below, meth, c, ce, sl, Q⟩ := X
  obtain ⟨hx, hb, hml, hown, hts, hK, hW, -, -, -, -⟩ := C
  intro H locs ls hP hS hl
  exact lv_i2s hx hb hd rfl (k H locs ls hP hS hl)
theorem aw_i2c {X : CT} {G : GT} {q : S_} {cc : ByteArray} {own : String} {nL d pc : Nat} {lv : List (Option Value)} {st : List Value} (C : Cx X G cc own nL d) {x : Int32} (hd : decode cc pc = .ok (.i2c, 1)) (k : AW X G q (pc + 1) lv (.int (x.toUInt32 % 65536).toInt32 :: st)) : AW X G q pc lv (.int x :: st) := by
  obtain ⟨p, l, e, R, s, m, args, below, meth, c, ce, sl, Q⟩ := X
  obtain ⟨hx, hb, hml, hown, hts, hK, hW, -, -, -, -⟩ := C
  intro H locs ls hP hS hl
  exact lv_i2c hx hb hd rfl (k H locs ls hP hS hl)
theorem aw_lcmp {X : CT} {G : GT} {q : S_} {cc : ByteArray} {own : String} {nL d pc : Nat} {lv : List (Option Value)} {st : List Value} (C : Cx X G cc own nL d) {x y : Int64} (hd : decode cc pc = .ok (.lcmp, 1)) (k : AW X G q (pc + 1) lv (.int (lg_cmp x y) :: st)) : AW X G q pc lv (.long y :: .long x :: st) := by
  obtain ⟨p, l, e, R, s, m, args, below, meth, c, ce, sl, Q⟩ := X
  obtain ⟨hx, hb, hml, hown, hts, hK, hW, -, -, -, -⟩ := C
  intro H locs ls hP hS hl
  exact W.lcmp hx hb hd (k H locs ls hP hS hl)
theorem aw_pop {X : CT} {G : GT} {q : S_} {cc : ByteArray} {own : String} {nL d pc : Nat} {lv : List (Option Value)} {st : List Value} (C : Cx X G cc own nL d) {x : Value} (hd : decode cc pc = .ok (.pop, 1)) (hc : x.category = 1) (k : AW X G q (pc + 1) lv (st)) : AW X G q pc lv (x :: st) := by
  obtain ⟨p, l, e, R, s, m, args, below, meth, c, ce, sl, Q⟩ := X
  obtain ⟨hx, hb, hml, hown, hts, hK, hW, -, -, -, -⟩ := C
  intro H locs ls hP hS hl
  exact lv_pop hx hb hd hc (k H locs ls hP hS hl)
theorem aw_dup {X : CT} {G : GT} {q : S_} {cc : ByteArray} {own : String} {nL d pc : Nat} {lv : List (Option Value)} {st : List Value} (C : Cx X G cc own nL d) {x : Value} (hd : decode cc pc = .ok (.dup, 1)) (hc : x.category = 1) (k : AW X G q (pc + 1) lv (x :: x :: st)) : AW X G q pc lv (x :: st) := by
  obtain ⟨p, l, e, R, s, m, args, below, meth, c, ce, sl, Q⟩ := X
  obtain ⟨hx, hb, hml, hown, hts, hK, hW, -, -, -, -⟩ := C
  intro H locs ls hP hS hl
  exact lv_dup hx hb hd hc (k H locs ls hP hS hl)
theorem aw_dup_x1 {X : CT} {G : GT} {q : S_} {cc : ByteArray} {own : String} {nL d pc : Nat} {lv : List (Option Value)} {st : List Value} (C : Cx X G cc own nL d) {x y : Value} (hd : decode cc pc = .ok (.dup_x1, 1)) (hc : x.category = 1) (hc2 : y.category = 1) (k : AW X G q (pc + 1) lv (x :: y :: x :: st)) : AW X G q pc lv (x :: y :: st) := by
  obtain ⟨p, l, e, R, s, m, args, below, meth, c, ce, sl, Q⟩ := X
  obtain ⟨hx, hb, hml, hown, hts, hK, hW, -, -, -, -⟩ := C
  intro H locs ls hP hS hl
  exact lv_dup_x1 hx hb hd hc hc2 (k H locs ls hP hS hl)
theorem aw_dup2 {X : CT} {G : GT} {q : S_} {cc : ByteArray} {own : String} {nL d pc : Nat} {lv : List (Option Value)} {st : List Value} (C : Cx X G cc own nL d) {x y : Value} (hd : decode cc pc = .ok (.dup2, 1)) (hc : x.category = 1) (hc2 : y.category = 1) (k : AW X G q (pc + 1) lv (x :: y :: x :: y :: st)) : AW X G q pc lv (x :: y :: st) := by
  obtain ⟨p, l, e, R, s, m, args, below, meth, c, ce, sl, Q⟩ := X
  obtain ⟨hx, hb, hml, hown, hts, hK, hW, -, -, -, -⟩ := C
  intro H locs ls hP hS hl
  exact lv_dup2_11 hx hb hd hc hc2 (k H locs ls hP hS hl)
theorem aw_aconst_null {X : CT} {G : GT} {q : S_} {cc : ByteArray} {own : String} {nL d pc : Nat} {lv : List (Option Value)} {st : List Value} (C : Cx X G cc own nL d)  (hd : decode cc pc = .ok (.aconst_null, 1)) (k : AW X G q (pc + 1) lv (.null :: st)) : AW X G q pc lv (st) := by
  obtain ⟨p, l, e, R, s, m, args, below, meth, c, ce, sl, Q⟩ := X
  obtain ⟨hx, hb, hml, hown, hts, hK, hW, -, -, -, -⟩ := C
  intro H locs ls hP hS hl
  exact lv_null hx hb hd (k H locs ls hP hS hl)
theorem aw_if_eq {X : CT} {G : GT} {q : S_} {cc : ByteArray} {own : String} {nL d pc : Nat} {lv : List (Option Value)} {st : List Value} (C : Cx X G cc own nL d) {x : Int32} {off : Int} {tgt : Nat} (hd : decode cc pc = .ok (.ifCond .eq off, 3)) (ht : (pc : Int) + off = (tgt : Int)) (kt : x = 0 → AW X G q tgt lv st) (kf : ¬ x = 0 → AW X G q (pc + 3) lv st) : AW X G q pc lv (.int x :: st) := by
  obtain ⟨p, l, e, R, s, m, args, below, meth, c, ce, sl, Q⟩ := X
  obtain ⟨hx, hb, hml, hown, hts, hK, hW, -, -, -, -⟩ := C
  intro H locs ls hP hS hl
  exact lv_if_eq hx hb hd ht (fun z => kt z H locs ls hP hS hl) (fun z => kf z H locs ls hP hS hl)
theorem aw_if_ne {X : CT} {G : GT} {q : S_} {cc : ByteArray} {own : String} {nL d pc : Nat} {lv : List (Option Value)} {st : List Value} (C : Cx X G cc own nL d) {x : Int32} {off : Int} {tgt : Nat} (hd : decode cc pc = .ok (.ifCond .ne off, 3)) (ht : (pc : Int) + off = (tgt : Int)) (kt : ¬ x = 0 → AW X G q tgt lv st) (kf : x = 0 → AW X G q (pc + 3) lv st) : AW X G q pc lv (.int x :: st) := by
  obtain ⟨p, l, e, R, s, m, args, below, meth, c, ce, sl, Q⟩ := X
  obtain ⟨hx, hb, hml, hown, hts, hK, hW, -, -, -, -⟩ := C
  intro H locs ls hP hS hl
  exact lv_if_ne hx hb hd ht (fun z => kt z H locs ls hP hS hl) (fun z => kf z H locs ls hP hS hl)
theorem aw_if_lt {X : CT} {G : GT} {q : S_} {cc : ByteArray} {own : String} {nL d pc : Nat} {lv : List (Option Value)} {st : List Value} (C : Cx X G cc own nL d) {x : Int32} {off : Int} {tgt : Nat} (hd : decode cc pc = .ok (.ifCond .lt off, 3)) (ht : (pc : Int) + off = (tgt : Int)) (kt : x < 0 → AW X G q tgt lv st) (kf : ¬ x < 0 → AW X G q (pc + 3) lv st) : AW X G q pc lv (.int x :: st) := by
  obtain ⟨p, l, e, R, s, m, args, below, meth, c, ce, sl, Q⟩ := X
  obtain ⟨hx, hb, hml, hown, hts, hK, hW, -, -, -, -⟩ := C
  intro H locs ls hP hS hl
  exact lv_if_lt hx hb hd ht (fun z => kt z H locs ls hP hS hl) (fun z => kf z H locs ls hP hS hl)
theorem aw_if_ge {X : CT} {G : GT} {q : S_} {cc : ByteArray} {own : String} {nL d pc : Nat} {lv : List (Option Value)} {st : List Value} (C : Cx X G cc own nL d) {x : Int32} {off : Int} {tgt : Nat} (hd : decode cc pc = .ok (.ifCond .ge off, 3)) (ht : (pc : Int) + off = (tgt : Int)) (kt : 0 ≤ x → AW X G q tgt lv st) (kf : ¬ 0 ≤ x → AW X G q (pc + 3) lv st) : AW X G q pc lv (.int x :: st) := by
  obtain ⟨p, l, e, R, s, m, args, below, meth, c, ce, sl, Q⟩ := X
  obtain ⟨hx, hb, hml, hown, hts, hK, hW, -, -, -, -⟩ := C
  intro H locs ls hP hS hl
  exact lv_if_ge hx hb hd ht (fun z => kt z H locs ls hP hS hl) (fun z => kf z H locs ls hP hS hl)
theorem aw_if_gt {X : CT} {G : GT} {q : S_} {cc : ByteArray} {own : String} {nL d pc : Nat} {lv : List (Option Value)} {st : List Value} (C : Cx X G cc own nL d) {x : Int32} {off : Int} {tgt : Nat} (hd : decode cc pc = .ok (.ifCond .gt off, 3)) (ht : (pc : Int) + off = (tgt : Int)) (kt : 0 < x → AW X G q tgt lv st) (kf : ¬ 0 < x → AW X G q (pc + 3) lv st) : AW X G q pc lv (.int x :: st) := by
  obtain ⟨p, l, e, R, s, m, args, below, meth, c, ce, sl, Q⟩ := X
  obtain ⟨hx, hb, hml, hown, hts, hK, hW, -, -, -, -⟩ := C
  intro H locs ls hP hS hl
  exact lv_if_gt hx hb hd ht (fun z => kt z H locs ls hP hS hl) (fun z => kf z H locs ls hP hS hl)
theorem aw_if_le {X : CT} {G : GT} {q : S_} {cc : ByteArray} {own : String} {nL d pc : Nat} {lv : List (Option Value)} {st : List Value} (C : Cx X G cc own nL d) {x : Int32} {off : Int} {tgt : Nat} (hd : decode cc pc = .ok (.ifCond .le off, 3)) (ht : (pc : Int) + off = (tgt : Int)) (kt : x ≤ 0 → AW X G q tgt lv st) (kf : ¬ x ≤ 0 → AW X G q (pc + 3) lv st) : AW X G q pc lv (.int x :: st) := by
  obtain ⟨p, l, e, R, s, m, args, below, meth, c, ce, sl, Q⟩ := X
  obtain ⟨hx, hb, hml, hown, hts, hK, hW, -, -, -, -⟩ := C
  intro H locs ls hP hS hl
  exact lv_if_le hx hb hd ht (fun z => kt z H locs ls hP hS hl) (fun z => kf z H locs ls hP hS hl)
theorem aw_icmp_eq {X : CT} {G : GT} {q : S_} {cc : ByteArray} {own : String} {nL d pc : Nat} {lv : List (Option Value)} {st : List Value} (C : Cx X G cc own nL d) {x y : Int32} {off : Int} {tgt : Nat} (hd : decode cc pc = .ok (.if_icmp .eq off, 3)) (ht : (pc : Int) + off = (tgt : Int)) (kt : x = y → AW X G q tgt lv st) (kf : ¬ x = y → AW X G q (pc + 3) lv st) : AW X G q pc lv (.int y :: .int x :: st) := by
  obtain ⟨p, l, e, R, s, m, args, below, meth, c, ce, sl, Q⟩ := X
  obtain ⟨hx, hb, hml, hown, hts, hK, hW, -, -, -, -⟩ := C
  intro H locs ls hP hS hl
  exact lv_icmp_eq hx hb hd ht (fun z => kt z H locs ls hP hS hl) (fun z => kf z H locs ls hP hS hl)
theorem aw_icmp_ne {X : CT} {G : GT} {q : S_} {cc : ByteArray} {own : String} {nL d pc : Nat} {lv : List (Option Value)} {st : List Value} (C : Cx X G cc own nL d) {x y : Int32} {off : Int} {tgt : Nat} (hd : decode cc pc = .ok (.if_icmp .ne off, 3)) (ht : (pc : Int) + off = (tgt : Int)) (kt : ¬ x = y → AW X G q tgt lv st) (kf : x = y → AW X G q (pc + 3) lv st) : AW X G q pc lv (.int y :: .int x :: st) := by
  obtain ⟨p, l, e, R, s, m, args, below, meth, c, ce, sl, Q⟩ := X
  obtain ⟨hx, hb, hml, hown, hts, hK, hW, -, -, -, -⟩ := C
  intro H locs ls hP hS hl
  exact lv_icmp_ne hx hb hd ht (fun z => kt z H locs ls hP hS hl) (fun z => kf z H locs ls hP hS hl)
theorem aw_icmp_lt {X : CT} {G : GT} {q : S_} {cc : ByteArray} {own : String} {nL d pc : Nat} {lv : List (Option Value)} {st : List Value} (C : Cx X G cc own nL d) {x y : Int32} {off : Int} {tgt : Nat} (hd : decode cc pc = .ok (.if_icmp .lt off, 3)) (ht : (pc : Int) + off = (tgt : Int)) (kt : x < y → AW X G q tgt lv st) (kf : ¬ x < y → AW X G q (pc + 3) lv st) : AW X G q pc lv (.int y :: .int x :: st) := by
  obtain ⟨p, l, e, R, s, m, args, below, meth, c, ce, sl, Q⟩ := X
  obtain ⟨hx, hb, hml, hown, hts, hK, hW, -, -, -, -⟩ := C
  intro H locs ls hP hS hl
  exact lv_icmp_lt hx hb hd ht (fun z => kt z H locs ls hP hS hl) (fun z => kf z H locs ls hP hS hl)
theorem aw_icmp_ge {X : CT} {G : GT} {q : S_} {cc : ByteArray} {own : String} {nL d pc : Nat} {lv : List (Option Value)} {st : List Value} (C : Cx X G cc own nL d) {x y : Int32} {off : Int} {tgt : Nat} (hd : decode cc pc = .ok (.if_icmp .ge off, 3)) (ht : (pc : Int) + off = (tgt : Int)) (kt : y ≤ x → AW X G q tgt lv st) (kf : ¬ y ≤ x → AW X G q (pc + 3) lv st) : AW X G q pc lv (.int y :: .int x :: st) := by
  obtain ⟨p, l, e, R, s, m, args, below, meth, c, ce, sl, Q⟩ := X
  obtain ⟨hx, hb, hml, hown, hts, hK, hW, -, -, -, -⟩ := C
  intro H locs ls hP hS hl
  exact lv_icmp_ge hx hb hd ht (fun z => kt z H locs ls hP hS hl) (fun z => kf z H locs ls hP hS hl)
theorem aw_icmp_gt {X : CT} {G : GT} {q : S_} {cc : ByteArray} {own : String} {nL d pc : Nat} {lv : List (Option Value)} {st : List Value} (C : Cx X G cc own nL d) {x y : Int32} {off : Int} {tgt : Nat} (hd : decode cc pc = .ok (.if_icmp .gt off, 3)) (ht : (pc : Int) + off = (tgt : Int)) (kt : y < x → AW X G q tgt lv st) (kf : ¬ y < x → AW X G q (pc + 3) lv st) : AW X G q pc lv (.int y :: .int x :: st) := by
  obtain ⟨p, l, e, R, s, m, args, below, meth, c, ce, sl, Q⟩ := X
  obtain ⟨hx, hb, hml, hown, hts, hK, hW, -, -, -, -⟩ := C
  intro H locs ls hP hS hl
  exact lv_icmp_gt hx hb hd ht (fun z => kt z H locs ls hP hS hl) (fun z => kf z H locs ls hP hS hl)
theorem aw_icmp_le {X : CT} {G : GT} {q : S_} {cc : ByteArray} {own : String} {nL d pc : Nat} {lv : List (Option Value)} {st : List Value} (C : Cx X G cc own nL d) {x y : Int32} {off : Int} {tgt : Nat} (hd : decode cc pc = .ok (.if_icmp .le off, 3)) (ht : (pc : Int) + off = (tgt : Int)) (kt : x ≤ y → AW X G q tgt lv st) (kf : ¬ x ≤ y → AW X G q (pc + 3) lv st) : AW X G q pc lv (.int y :: .int x :: st) := by
  obtain ⟨p, l, e, R, s, m, args, below, meth, c, ce, sl, Q⟩ := X
  obtain ⟨hx, hb, hml, hown, hts, hK, hW, -, -, -, -⟩ := C
  intro H locs ls hP hS hl
  exact lv_icmp_le hx hb hd ht (fun z => kt z H locs ls hP hS hl) (fun z => kf z H locs ls hP hS hl)
theorem aw_goto {X : CT} {G : GT} {q : S_} {cc : ByteArray} {own : String} {nL d pc : Nat} {lv : List (Option Value)} {st : List Value} (C : Cx X G cc own nL d) {off : Int} {tgt : Nat} (hd : decode cc pc = .ok (.goto off, 3)) (ht : (pc : Int) + off = (tgt : Int)) (k : AW X G q tgt lv st) : AW X G q pc lv st := by
  obtain ⟨p, l, e, R, s, m, args, below, meth, c, ce, sl, Q⟩ := X
  obtain ⟨hx, hb, hml, hown, hts, hK, hW, -, -, -, -⟩ := C
  intro H locs ls hP hS hl
  exact lv_goto hx hb hd ht (k H locs ls hP hS hl)
theorem aw_ifnonnull {X : CT} {G : GT} {q : S_} {cc : ByteArray} {own : String} {nL d pc : Nat} {lv : List (Option Value)} {st : List Value} (C : Cx X G cc own nL d) {x : Value} {a : Nat} {off : Int} {tgt : Nat} (hd : decode cc pc = .ok (.ifnonnull off, 3)) (ht : (pc : Int) + off = (tgt : Int)) (hxr : x = .ref a) (k : AW X G q tgt lv st) : AW X G q pc lv (x :: st) := by
  subst hxr
  obtain ⟨p, l, e, R, s, m, args, below, meth, c, ce, sl, Q⟩ := X
  obtain ⟨hx, hb, hml, hown, hts, hK, hW, -, -, -, -⟩ := C
  intro H locs ls hP hS hl
  exact lv_ifnonnull hx hb hd ht (k H locs ls hP hS hl)
theorem aw_ifnonnullN {X : CT} {G : GT} {q : S_} {cc : ByteArray} {own : String} {nL d pc : Nat} {lv : List (Option Value)} {st : List Value} (C : Cx X G cc own nL d) {x : Value} {off : Int} (hd : decode cc pc = .ok (.ifnonnull off, 3)) (hxr : x = .null) (k : AW X G q (pc + 3) lv st) : AW X G q pc lv (x :: st) := by
  subst hxr
  obtain ⟨p, l, e, R, s, m, args, below, meth, c, ce, sl, Q⟩ := X
  obtain ⟨hx, hb, hml, hown, hts, hK, hW, -, -, -, -⟩ := C
  intro H locs ls hP hS hl
  exact lv_ifnonnullN hx hb hd (k H locs ls hP hS hl)
theorem aw_tableIn {X : CT} {G : GT} {q : S_} {cc : ByteArray} {own : String} {nL d pc : Nat} {lv : List (Option Value)} {st : List Value} (C : Cx X G cc own nL d) {dflt lo hi : Int} {offs : Array Int} {len : Nat} {x : Int32} {off : Int} {tgt : Nat} (hd : decode cc pc = .ok (.tableswitch dflt lo hi offs, len)) (h1 : ¬ x.toInt < lo) (h2 : ¬ hi < x.toInt) (ho : offs[(x.toInt - lo).toNat]? = some off) (ht : (pc : Int) + off = (tgt : Int)) (k : AW X G q tgt lv st) : AW X G q pc lv (.int x :: st) := by
  obtain ⟨p, l, e, R, s, m, args, below, meth, c, ce, sl, Q⟩ := X
  obtain ⟨hx, hb, hml, hown, hts, hK, hW, -, -, -, -⟩ := C
  intro H locs ls hP hS hl
  exact lv_tableIn hx hb hd h1 h2 ho ht (k H locs ls hP hS hl)
theorem aw_tableOut {X : CT} {G : GT} {q : S_} {cc : ByteArray} {own : String} {nL d pc : Nat} {lv : List (Option Value)} {st : List Value} (C : Cx X G cc own nL d) {dflt lo hi : Int} {offs : Array Int} {len : Nat} {x : Int32} {tgt : Nat} (hd : decode cc pc = .ok (.tableswitch dflt lo hi offs, len)) (h : x.toInt < lo ∨ hi < x.toInt) (ht : (pc : Int) + dflt = (tgt : Int)) (k : AW X G q tgt lv st) : AW X G q pc lv (.int x :: st) := by
  obtain ⟨p, l, e, R, s, m, args, below, meth, c, ce, sl, Q⟩ := X
  obtain ⟨hx, hb, hml, hown, hts, hK, hW, -, -, -, -⟩ := C
  intro H locs ls hP hS hl
  exact lv_tableOut hx hb hd h ht (k H locs ls hP hS hl)
theorem aw_lookup {X : CT} {G : GT} {q : S_} {cc : ByteArray} {own : String} {nL d pc : Nat} {lv : List (Option Value)} {st : List Value} (C : Cx X G cc own nL d) {dflt : Int} {ps : Array (Int × Int)} {len : Nat} {x : Int32} {off : Int} {tgt : Nat} (hd : decode cc pc = .ok (.lookupswitch dflt ps, len)) (hp : (ps.toList.zip (ps.toList.drop 1)).all (fun (a, next) => a.1 < next.1) = true) (ho : Op.lookupswitch.offset ps.toList dflt x.toInt = off) (ht : (pc : Int) + off = (tgt : Int)) (k : AW X G q tgt lv st) : AW X G q pc lv (.int x :: st) := by
  obtain ⟨p, l, e, R, s, m, args, below, meth, c, ce, sl, Q⟩ := X
  obtain ⟨hx, hb, hml, hown, hts, hK, hW, -, -, -, -⟩ := C
  intro H locs ls hP hS hl
  exact lv_lookup hx hb hd hp ho ht (k H locs ls hP hS hl)
theorem aw_iload_0 {X : CT} {G : GT} {q : S_} {cc : ByteArray} {own : String} {nL d pc : Nat} {st : List Value} (C : Cx X G cc own nL d) {tl : List (Option Value)} {x : Int32} (hd : decode cc pc = .ok (.iload_n 0, 1)) (k : AW X G q (pc + 1) (some (.int x) :: tl) (.int x :: st)) : AW X G q pc (some (.int x) :: tl) st := by
  obtain ⟨p, l, e, R, s, m, args, below, meth, c, ce, sl, Q⟩ := X
  obtain ⟨hx, hb, hml, hown, hts, hK, hW, -, -, -, -⟩ := C
  intro H locs ls hP hS hl
  exact lv_iload_n hx hb hd rfl (lvh_at hl (i := 0) rfl) (k H locs ls hP hS hl)
theorem aw_aload_0 {X : CT} {G : GT} {q : S_} {cc : ByteArray} {own : String} {nL d pc : Nat} {st : List Value} (C : Cx X G cc own nL d) {tl : List (Option Value)} {x : Value} {a : Nat} (hd : decode cc pc = .ok (.aload_n 0, 1)) (hr : x = .ref a) (k : AW X G q (pc + 1) (some x :: tl) (x :: st)) : AW X G q pc (some x :: tl) st := by
  subst hr
  obtain ⟨p, l, e, R, s, m, args, below, meth, c, ce, sl, Q⟩ := X
  obtain ⟨hx, hb, hml, hown, hts, hK, hW, -, -, -, -⟩ := C
  intro H locs ls hP hS hl
  exact lv_aload_n hx hb hd rfl (lvh_at hl (i := 0) rfl) (k H locs ls hP hS hl)
theorem aw_lload_0 {X : CT} {G : GT} {q : S_} {cc : ByteArray} {own : String} {nL d pc : Nat} {st : List Value} (C : Cx X G cc own nL d) {tl : List (Option Value)} {x : Int64} (hd : decode cc pc = .ok (.lload_n 0, 1)) (k : AW X G q (pc + 1) (some (.long x) :: tl) (.long x :: st)) : AW X G q pc (some (.long x) :: tl) st := by
  obtain ⟨p, l, e, R, s, m, args, below, meth, c, ce, sl, Q⟩ := X
  obtain ⟨hx, hb, hml, hown, hts, hK, hW, -, -, -, -⟩ := C
  intro H locs ls hP hS hl
  exact lv_lload_n hx hb hd rfl (lvh_at hl (i := 0) rfl) (k H locs ls hP hS hl)
theorem aw_istore_0 {X : CT} {G : GT} {q : S_} {cc : ByteArray} {own : String} {nL d pc : Nat} {st : List Value} (C : Cx X G cc own nL d) {tl : List (Option Value)} {y : Option Value} {x : Int32} (hd : decode cc pc = .ok (.istore_n 0, 1)) (hn : 0 < nL) (k : AW X G q (pc + 1) (some (.int x) :: tl) st) : AW X G q pc (y :: tl) (.int x :: st) := by
  obtain ⟨p, l, e, R, s, m, args, below, meth, c, ce, sl, Q⟩ := X
  obtain ⟨hx, hb, hml, hown, hts, hK, hW, -, -, -, -⟩ := C
  intro H locs ls hP hS hl
  exact lv_istore_n hx hb hd rfl (lvh_has hl) (by rw [hml]; exact hn) rfl (fun ls' h' => k H locs ls' hP hS (lvh_store1 (i := 0) (fun w h => absurd h (by decide)) h'))
theorem aw_astore_0 {X : CT} {G : GT} {q : S_} {cc : ByteArray} {own : String} {nL d pc : Nat} {st : List Value} (C : Cx X G cc own nL d) {tl : List (Option Value)} {y : Option Value} {x : Value} {a : Nat} (hd : decode cc pc = .ok (.astore_n 0, 1)) (hn : 0 < nL) (hr : x = .ref a) (k : AW X G q (pc + 1) (some x :: tl) st) : AW X G q pc (y :: tl) (x :: st) := by
  subst hr
  obtain ⟨p, l, e, R, s, m, args, below, meth, c, ce, sl, Q⟩ := X
  obtain ⟨hx, hb, hml, hown, hts, hK, hW, -, -, -, -⟩ := C
  intro H locs ls hP hS hl
  exact lv_astore_n hx hb hd rfl (lvh_has hl) (by rw [hml]; exact hn) rfl (fun ls' h' => k H locs ls' hP hS (lvh_store1 (i := 0) (fun w h => absurd h (by decide)) h'))
theorem aw_lstore_0 {X : CT} {G : GT} {q : S_} {cc : ByteArray} {own : String} {nL d pc : Nat} {st : List Value} (C : Cx X G cc own nL d) {tl : List (Option Value)} {y y2 : Option Value} {x : Int64} (hd : decode cc pc = .ok (.lstore_n 0, 1)) (hn : 0 + 1 < nL) (k : AW X G q (pc + 1) (some (.long x) :: none :: tl) st) : AW X G q pc (y :: y2 :: tl) (.long x :: st) := by
  obtain ⟨p, l, e, R, s, m, args, below, meth, c, ce, sl, Q⟩ := X
  obtain ⟨hx, hb, hml, hown, hts, hK, hW, -, -, -, -⟩ := C
  intro H locs ls hP hS hl
  exact lv_lstore_n hx hb hd rfl (lvh_has hl) (by rw [hml]; exact hn) rfl (fun ls' h' => k H locs ls' hP hS (lvh_store2 (i := 0) (fun w h => absurd h (by decide)) h'))
theorem aw_iinc_0 {X : CT} {G : GT} {q : S_} {cc : ByteArray} {own : String} {nL d pc : Nat} {st : List Value} (C : Cx X G cc own nL d) {tl : List (Option Value)} {n : Int} {x v : Int32} (hd : decode cc pc = .ok (.iinc 0 n, 3)) (hn : 0 < nL) (hv : x + Int32.ofInt n = v) (k : AW X G q (pc + 3) (some (.int v) :: tl) st) : AW X G q pc (some (.int x) :: tl) st := by
  obtain ⟨p, l, e, R, s, m, args, below, meth, c, ce, sl, Q⟩ := X
  obtain ⟨hx, hb, hml, hown, hts, hK, hW, -, -, -, -⟩ := C
  intro H locs ls hP hS hl
  obtain ⟨w, hw⟩ := List.getElem?_of_mem (lvl_mem.mpr (show (some (.int x) :: tl : List (Option Value))[0]? = some (some (.int x)) from rfl))
  exact lv_iinc hx hb hd (lvh_has hl) hw hv (by rw [hml]; exact hn) rfl (fun ls' h' => k H locs ls' hP hS (lvh_store1 (i := 0) (fun w h => absurd h (by decide)) h'))
theorem aw_iload_1 {X : CT} {G : GT} {q : S_} {cc : ByteArray} {own : String} {nL d pc : Nat} {st : List Value} (C : Cx X G cc own nL d) {x0 : Option Value} {tl : List (Option Value)} {x : Int32} (hd : decode cc pc = .ok (.iload_n 1, 1)) (k : AW X G q (pc + 1) (x0 :: some (.int x) :: tl) (.int x :: st)) : AW X G q pc (x0 :: some (.int x) :: tl) st := by
  obtain ⟨p, l, e, R, s, m, args, below, meth, c, ce, sl, Q⟩ := X
  obtain ⟨hx, hb, hml, hown, hts, hK, hW, -, -, -, -⟩ := C
  intro H locs ls hP hS hl
  exact lv_iload_n hx hb hd rfl (lvh_at hl (i := 1) rfl) (k H locs ls hP hS hl)
theorem aw_aload_1 {X : CT} {G : GT} {q : S_} {cc : ByteArray} {own : String} {nL d pc : Nat} {st : List Value} (C : Cx X G cc own nL d) {x0 : Option Value} {tl : List (Option Value)} {x : Value} {a : Nat} (hd : decode cc pc = .ok (.aload_n 1, 1)) (hr : x = .ref a) (k : AW X G q (pc + 1) (x0 :: some x :: tl) (x :: st)) : AW X G q pc (x0 :: some x :: tl) st := by
  subst hr
  obtain ⟨p, l, e, R, s, m, args, below, meth, c, ce, sl, Q⟩ := X
  obtain ⟨hx, hb, hml, hown, hts, hK, hW, -, -, -, -⟩ := C
  intro H locs ls hP hS hl
  exact lv_aload_n hx hb hd rfl (lvh_at hl (i := 1) rfl) (k H locs ls hP hS hl)
theorem aw_lload_1 {X : CT} {G : GT} {q : S_} {cc : ByteArray} {own : String} {nL d pc : Nat} {st : List Value} (C : Cx X G cc own nL d) {x0 : Option Value} {tl : List (Option Value)} {x : Int64} (hd : decode cc pc = .ok (.lload_n 1, 1)) (k : AW X G q (pc + 1) (x0 :: some (.long x) :: tl) (.long x :: st)) : AW X G q pc (x0 :: some (.long x) :: tl) st := by
  obtain ⟨p, l, e, R, s, m, args, below, meth, c, ce, sl, Q⟩ := X
  obtain ⟨hx, hb, hml, hown, hts, hK, hW, -, -, -, -⟩ := C
  intro H locs ls hP hS hl
  exact lv_lload_n hx hb hd rfl (lvh_at hl (i := 1) rfl) (k H locs ls hP hS hl)
theorem aw_istore_1 {X : CT} {G : GT} {q : S_} {cc : ByteArray} {own : String} {nL d pc : Nat} {st : List Value} (C : Cx X G cc own nL d) {x0 : Option Value} {tl : List (Option Value)} {y : Option Value} {x : Int32} (hd : decode cc pc = .ok (.istore_n 1, 1)) (hn : 1 < nL) (hp : ∀ w, x0 = some w → w.category = 1) (k : AW X G q (pc + 1) (x0 :: some (.int x) :: tl) st) : AW X G q pc (x0 :: y :: tl) (.int x :: st) := by
  obtain ⟨p, l, e, R, s, m, args, below, meth, c, ce, sl, Q⟩ := X
  obtain ⟨hx, hb, hml, hown, hts, hK, hW, -, -, -, -⟩ := C
  intro H locs ls hP hS hl
  exact lv_istore_n hx hb hd rfl (lvh_has hl) (by rw [hml]; exact hn) rfl (fun ls' h' => k H locs ls' hP hS (lvh_store1 (i := 1) (fun w _ h => hp w (Option.some.inj h)) h'))
theorem aw_astore_1 {X : CT} {G : GT} {q : S_} {cc : ByteArray} {own : String} {nL d pc : Nat} {st : List Value} (C : Cx X G cc own nL d) {x0 : Option Value} {tl : List (Option Value)} {y : Option Value} {x : Value} {a : Nat} (hd : decode cc pc = .ok (.astore_n 1, 1)) (hn : 1 < nL) (hp : ∀ w, x0 = some w → w.category = 1) (hr : x = .ref a) (k : AW X G q (pc + 1) (x0 :: some x :: tl) st) : AW X G q pc (x0 :: y :: tl) (x :: st) := by
  subst hr
  obtain ⟨p, l, e, R, s, m, args, below, meth, c, ce, sl, Q⟩ := X
  obtain ⟨hx, hb, hml, hown, hts, hK, hW, -, -, -, -⟩ := C
  intro H locs ls hP hS hl
  exact lv_astore_n hx hb hd rfl (lvh_has hl) (by rw [hml]; exact hn) rfl (fun ls' h' => k H locs ls' hP hS (lvh_store1 (i := 1) (fun w _ h => hp w (Option.some.inj h)) h'))
theorem aw_lstore_1 {X : CT} {G : GT} {q : S_} {cc : ByteArray} {own : String} {nL d pc : Nat} {st : List Value} (C : Cx X G cc own nL d) {x0 : Option Value} {tl : List (Option Value)} {y y2 : Option Value} {x : Int64} (hd : decode cc pc = .ok (.lstore_n 1, 1)) (hn : 1 + 1 < nL) (hp : ∀ w, x0 = some w → w.category = 1) (k : AW X G q (pc + 1) (x0 :: some (.long x) :: none :: tl) st) : AW X G q pc (x0 :: y :: y2 :: tl) (.long x :: st) := by
  obtain ⟨p, l, e, R, s, m, args, below, meth, c, ce, sl, Q⟩ := X
  obtain ⟨hx, hb, hml, hown, hts, hK, hW, -, -, -, -⟩ := C
  intro H locs ls hP hS hl
  exact lv_lstore_n hx hb hd rfl (lvh_has hl) (by rw [hml]; exact hn) rfl (fun ls' h' => k H locs ls' hP hS (lvh_store2 (i := 1) (fun w _ h => hp w (Option.some.inj h)) h'))
theorem aw_iinc_1 {X : CT} {G : GT} {q : S_} {cc : ByteArray} {own : String} {nL d pc : Nat} {st : List Value} (C : Cx X G cc own nL d) {x0 : Option Value} {tl : List (Option Value)} {n : Int} {x v : Int32} (hd : decode cc pc = .ok (.iinc 1 n, 3)) (hn : 1 < nL) (hp : ∀ w, x0 = some w → w.category = 1) (hv : x + Int32.ofInt n = v) (k : AW X G q (pc + 3) (x0 :: some (.int v) :: tl) st) : AW X G q pc (x0 :: some (.int x) :: tl) st := by
  obtain ⟨p, l, e, R, s, m, args, below, meth, c, ce, sl, Q⟩ := X
  obtain ⟨hx, hb, hml, hown, hts, hK, hW, -, -, -, -⟩ := C
  intro H locs ls hP hS hl
  obtain ⟨w, hw⟩ := List.getElem?_of_mem (lvl_mem.mpr (show (x0 :: some (.int x) :: tl : List (Option Value))[1]? = some (some (.int x)) from rfl))
  exact lv_iinc hx hb hd (lvh_has hl) hw hv (by rw [hml]; exact hn) rfl (fun ls' h' => k H locs ls' hP hS (lvh_store1 (i := 1) (fun w _ h => hp w (Option.some.inj h)) h'))
theorem aw_iload_2 {X : CT} {G : GT} {q : S_} {cc : ByteArray} {own : String} {nL d pc : Nat} {st : List Value} (C : Cx X G cc own nL d) {x0 x1 : Option Value} {tl : List (Option Value)} {x : Int32} (hd : decode cc pc = .ok (.iload_n 2, 1)) (k : AW X G q (pc + 1) (x0 :: x1 :: some (.int x) :: tl) (.int x :: st)) : AW X G q pc (x0 :: x1 :: some (.int x) :: tl) st := by
  obtain ⟨p, l, e, R, s, m, args, below, meth, c, ce, sl, Q⟩ := X
  obtain ⟨hx, hb, hml, hown, hts, hK, hW, -, -, -, -⟩ := C
  intro H locs ls hP hS hl
  exact lv_iload_n hx hb hd rfl (lvh_at hl (i := 2) rfl) (k H locs ls hP hS hl)
theorem aw_aload_2 {X : CT} {G : GT} {q : S_} {cc : ByteArray} {own : String} {nL d pc : Nat} {st : List Value} (C : Cx X G cc own nL d) {x0 x1 : Option Value} {tl : List (Option Value)} {x : Value} {a : Nat} (hd : decode cc pc = .ok (.aload_n 2, 1)) (hr : x = .ref a) (k : AW X G q (pc + 1) (x0 :: x1 :: some x :: tl) (x :: st)) : AW X G q pc (x0 :: x1 :: some x :: tl) st := by
  subst hr
  obtain ⟨p, l, e, R, s, m, args, below, meth, c, ce, sl, Q⟩ := X
  obtain ⟨hx, hb, hml, hown, hts, hK, hW, -, -, -, -⟩ := C
  intro H locs ls hP hS hl
  exact lv_aload_n hx hb hd rfl (lvh_at hl (i := 2) rfl) (k H locs ls hP hS hl)
theorem aw_lload_2 {X : CT} {G : GT} {q : S_} {cc : ByteArray} {own : String} {nL d pc : Nat} {st : List Value} (C : Cx X G cc own nL d) {x0 x1 : Option Value} {tl : List (Option Value)} {x : Int64} (hd : decode cc pc = .ok (.lload_n 2, 1)) (k : AW X G q (pc + 1) (x0 :: x1 :: some (.long x) :: tl) (.long x :: st)) : AW X G q pc (x0 :: x1 :: some (.long x) :: tl) st := by
  obtain ⟨p, l, e, R, s, m, args, below, meth, c, ce, sl, Q⟩ := X
  obtain ⟨hx, hb, hml, hown, hts, hK, hW, -, -, -, -⟩ := C
  intro H locs ls hP hS hl
  exact lv_lload_n hx hb hd rfl (lvh_at hl (i := 2) rfl) (k H locs ls hP hS hl)
theorem aw_istore_2 {X : CT} {G : GT} {q : S_} {cc : ByteArray} {own : String} {nL d pc : Nat} {st : List Value} (C : Cx X G cc own nL d) {x0 x1 : Option Value} {tl : List (Option Value)} {y : Option Value} {x : Int32} (hd : decode cc pc = .ok (.istore_n 2, 1)) (hn : 2 < nL) (hp : ∀ w, x1 = some w → w.category = 1) (k : AW X G q (pc + 1) (x0 :: x1 :: some (.int x) :: tl) st) : AW X G q pc (x0 :: x1 :: y :: tl) (.int x :: st) := by
  obtain ⟨p, l, e, R, s, m, args, below, meth, c, ce, sl, Q⟩ := X
  obtain ⟨hx, hb, hml, hown, hts, hK, hW, -, -, -, -⟩ := C
  intro H locs ls hP hS hl
  exact lv_istore_n hx hb hd rfl (lvh_has hl) (by rw [hml]; exact hn) rfl (fun ls' h' => k H locs ls' hP hS (lvh_store1 (i := 2) (fun w _ h => hp w (Option.some.inj h)) h'))
theorem aw_astore_2 {X : CT} {G : GT} {q : S_} {cc : ByteArray} {own : String} {nL d pc : Nat} {st : List Value} (C : Cx X G cc own nL d) {x0 x1 : Option Value} {tl : List (Option Value)} {y : Option Value} {x : Value} {a : Nat} (hd : decode cc pc = .ok (.astore_n 2, 1)) (hn : 2 < nL) (hp : ∀ w, x1 = some w → w.category = 1) (hr : x = .ref a) (k : AW X G q (pc + 1) (x0 :: x1 :: some x :: tl) st) : AW X G q pc (x0 :: x1 :: y :: tl) (x :: st) := by
  subst hr
  obtain ⟨p, l, e, R, s, m, args, below, meth, c, ce, sl, Q⟩ := X
  obtain ⟨hx, hb, hml, hown, hts, hK, hW, -, -, -, -⟩ := C
  intro H locs ls hP hS hl
  exact lv_astore_n hx hb hd rfl (lvh_has hl) (by rw [hml]; exact hn) rfl (fun ls' h' => k H locs ls' hP hS (lvh_store1 (i := 2) (fun w _ h => hp w (Option.some.inj h)) h'))
theorem aw_lstore_2 {X : CT} {G : GT} {q : S_} {cc : ByteArray} {own : String} {nL d pc : Nat} {st : List Value} (C : Cx X G cc own nL d) {x0 x1 : Option Value} {tl : List (Option Value)} {y y2 : Option Value} {x : Int64} (hd : decode cc pc = .ok (.lstore_n 2, 1)) (hn : 2 + 1 < nL) (hp : ∀ w, x1 = some w → w.category = 1) (k : AW X G q (pc + 1) (x0 :: x1 :: some (.long x) :: none :: tl) st) : AW X G q pc (x0 :: x1 :: y :: y2 :: tl) (.long x :: st) := by
  obtain ⟨p, l, e, R, s, m, args, below, meth, c, ce, sl, Q⟩ := X
  obtain ⟨hx, hb, hml, hown, hts, hK, hW, -, -, -, -⟩ := C
  intro H locs ls hP hS hl
  exact lv_lstore_n hx hb hd rfl (lvh_has hl) (by rw [hml]; exact hn) rfl (fun ls' h' => k H locs ls' hP hS (lvh_store2 (i := 2) (fun w _ h => hp w (Option.some.inj h)) h'))
theorem aw_iinc_2 {X : CT} {G : GT} {q : S_} {cc : ByteArray} {own : String} {nL d pc : Nat} {st : List Value} (C : Cx X G cc own nL d) {x0 x1 : Option Value} {tl : List (Option Value)} {n : Int} {x v : Int32} (hd : decode cc pc = .ok (.iinc 2 n, 3)) (hn : 2 < nL) (hp : ∀ w, x1 = some w → w.category = 1) (hv : x + Int32.ofInt n = v) (k : AW X G q (pc + 3) (x0 :: x1 :: some (.int v) :: tl) st) : AW X G q pc (x0 :: x1 :: some (.int x) :: tl) st := by
  obtain ⟨p, l, e, R, s, m, args, below, meth, c, ce, sl, Q⟩ := X
  obtain ⟨hx, hb, hml, hown, hts, hK, hW, -, -, -, -⟩ := C
  intro H locs ls hP hS hl
  obtain ⟨w, hw⟩ := List.getElem?_of_mem (lvl_mem.mpr (show (x0 :: x1 :: some (.int x) :: tl : List (Option Value))[2]? = some (some (.int x)) from rfl))
  exact lv_iinc hx hb hd (lvh_has hl) hw hv (by rw [hml]; exact hn) rfl (fun ls' h' => k H locs ls' hP hS (lvh_store1 (i := 2) (fun w _ h => hp w (Option.some.inj h)) h'))
theorem aw_iload_3 {X : CT} {G : GT} {q : S_} {cc : ByteArray} {own : String} {nL d pc : Nat} {st : List Value} (C : Cx X G cc own nL d) {x0 x1 x2 : Option Value} {tl : List (Option Value)} {x : Int32} (hd : decode cc pc = .ok (.iload_n 3, 1)) (k : AW X G q (pc + 1) (x0 :: x1 :: x2 :: some (.int x) :: tl) (.int x :: st)) : AW X G q pc (x0 :: x1 :: x2 :: some (.int x) :: tl) st := by
  obtain ⟨p, l, e, R, s, m, args, below, meth, c, ce, sl, Q⟩ := X
  obtain ⟨hx, hb, hml, hown, hts, hK, hW, -, -, -, -⟩ := C
  intro H locs ls hP hS hl
  exact lv_iload_n hx hb hd rfl (lvh_at hl (i := 3) rfl) (k H locs ls hP hS hl)
theorem aw_aload_3 {X : CT} {G : GT} {q : S_} {cc : ByteArray} {own : String} {nL d pc : Nat} {st : List Value} (C : Cx X G cc own nL d) {x0 x1 x2 : Option Value} {tl : List (Option Value)} {x : Value} {a : Nat} (hd : decode cc pc = .ok (.aload_n 3, 1)) (hr : x = .ref a) (k : AW X G q (pc + 1) (x0 :: x1 :: x2 :: some x :: tl) (x :: st)) : AW X G q pc (x0 :: x1 :: x2 :: some x :: tl) st := by
  subst hr
  obtain ⟨p, l, e, R, s, m, args, below, meth, c, ce, sl, Q⟩ := X
  obtain ⟨hx, hb, hml, hown, hts, hK, hW, -, -, -, -⟩ := C
  intro H locs ls hP hS hl
  exact lv_aload_n hx hb hd rfl (lvh_at hl (i := 3) rfl) (k H locs ls hP hS hl)
theorem aw_lload_3 {X : CT} {G : GT} {q : S_} {cc : ByteArray} {own : String} {nL d pc : Nat} {st : List Value} (C : Cx X G cc own nL d) {x0 x1 x2 : Option Value} {tl : List (Option Value)} {x : Int64} (hd : decode cc pc = .ok (.lload_n 3, 1)) (k : AW X G q (pc + 1) (x0 :: x1 :: x2 :: some (.long x) :: tl) (.long x :: st)) : AW X G q pc (x0 :: x1 :: x2 :: some (.long x) :: tl) st := by
  obtain ⟨p, l, e, R, s, m, args, below, meth, c, ce, sl, Q⟩ := X
  obtain ⟨hx, hb, hml, hown, hts, hK, hW, -, -, -, -⟩ := C
  intro H locs ls hP hS hl
  exact lv_lload_n hx hb hd rfl (lvh_at hl (i := 3) rfl) (k H locs ls hP hS hl)
theorem aw_istore_3 {X : CT} {G : GT} {q : S_} {cc : ByteArray} {own : String} {nL d pc : Nat} {st : List Value} (C : Cx X G cc own nL d) {x0 x1 x2 : Option Value} {tl : List (Option Value)} {y : Option Value} {x : Int32} (hd : decode cc pc = .ok (.istore_n 3, 1)) (hn : 3 < nL) (hp : ∀ w, x2 = some w → w.category = 1) (k : AW X G q (pc + 1) (x0 :: x1 :: x2 :: some (.int x) :: tl) st) : AW X G q pc (x0 :: x1 :: x2 :: y :: tl) (.int x :: st) := by
  obtain ⟨p, l, e, R, s, m, args, below, meth, c, ce, sl, Q⟩ := X
  obtain ⟨hx, hb, hml, hown, hts, hK, hW, -, -, -, -⟩ := C
  intro H locs ls hP hS hl
  exact lv_istore_n hx hb hd rfl (lvh_has hl) (by rw [hml]; exact hn) rfl (fun ls' h' => k H locs ls' hP hS (lvh_store1 (i := 3) (fun w _ h => hp w (Option.some.inj h)) h'))
theorem aw_astore_3 {X : CT} {G : GT} {q : S_} {cc : ByteArray} {own : String} {nL d pc : Nat} {st : List Value} (C : Cx X G cc own nL d) {x0 x1 x2 : Option Value} {tl : List (Option Value)} {y : Option Value} {x : Value} {a : Nat} (hd : decode cc pc = .ok (.astore_n 3, 1)) (hn : 3 < nL) (hp : ∀ w, x2 = some w → w.category = 1) (hr : x = .ref a) (k : AW X G q (pc + 1) (x0 :: x1 :: x2 :: some x :: tl) st) : AW X G q pc (x0 :: x1 :: x2 :: y :: tl) (x :: st) := by
  subst hr
  obtain ⟨p, l, e, R, s, m, args, below, meth, c, ce, sl, Q⟩ := X
  obtain ⟨hx, hb, hml, hown, hts, hK, hW, -, -, -, -⟩ := C
  intro H locs ls hP hS hl
  exact lv_astore_n hx hb hd rfl (lvh_has hl) (by rw [hml]; exact hn) rfl (fun ls' h' => k H locs ls' hP hS (lvh_store1 (i := 3) (fun w _ h => hp w (Option.some.inj h)) h'))
theorem aw_lstore_3 {X : CT} {G : GT} {q : S_} {cc : ByteArray} {own : String} {nL d pc : Nat} {st : List Value} (C : Cx X G cc own nL d) {x0 x1 x2 : Option Value} {tl : List (Option Value)} {y y2 : Option Value} {x : Int64} (hd : decode cc pc = .ok (.lstore_n 3, 1)) (hn : 3 + 1 < nL) (hp : ∀ w, x2 = some w → w.category = 1) (k : AW X G q (pc + 1) (x0 :: x1 :: x2 :: some (.long x) :: none :: tl) st) : AW X G q pc (x0 :: x1 :: x2 :: y :: y2 :: tl) (.long x :: st) := by
  obtain ⟨p, l, e, R, s, m, args, below, meth, c, ce, sl, Q⟩ := X
  obtain ⟨hx, hb, hml, hown, hts, hK, hW, -, -, -, -⟩ := C
  intro H locs ls hP hS hl
  exact lv_lstore_n hx hb hd rfl (lvh_has hl) (by rw [hml]; exact hn) rfl (fun ls' h' => k H locs ls' hP hS (lvh_store2 (i := 3) (fun w _ h => hp w (Option.some.inj h)) h'))
theorem aw_iinc_3 {X : CT} {G : GT} {q : S_} {cc : ByteArray} {own : String} {nL d pc : Nat} {st : List Value} (C : Cx X G cc own nL d) {x0 x1 x2 : Option Value} {tl : List (Option Value)} {n : Int} {x v : Int32} (hd : decode cc pc = .ok (.iinc 3 n, 3)) (hn : 3 < nL) (hp : ∀ w, x2 = some w → w.category = 1) (hv : x + Int32.ofInt n = v) (k : AW X G q (pc + 3) (x0 :: x1 :: x2 :: some (.int v) :: tl) st) : AW X G q pc (x0 :: x1 :: x2 :: some (.int x) :: tl) st := by
  obtain ⟨p, l, e, R, s, m, args, below, meth, c, ce, sl, Q⟩ := X
  obtain ⟨hx, hb, hml, hown, hts, hK, hW, -, -, -, -⟩ := C
  intro H locs ls hP hS hl
  obtain ⟨w, hw⟩ := List.getElem?_of_mem (lvl_mem.mpr (show (x0 :: x1 :: x2 :: some (.int x) :: tl : List (Option Value))[3]? = some (some (.int x)) from rfl))
  exact lv_iinc hx hb hd (lvh_has hl) hw hv (by rw [hml]; exact hn) rfl (fun ls' h' => k H locs ls' hP hS (lvh_store1 (i := 3) (fun w _ h => hp w (Option.some.inj h)) h'))
theorem aw_iload_4 {X : CT} {G : GT} {q : S_} {cc : ByteArray} {own : String} {nL d pc : Nat} {st : List Value} (C : Cx X G cc own nL d) {x0 x1 x2 x3 : Option Value} {tl : List (Option Value)} {x : Int32} (hd : decode cc pc = .ok (.iload 4, 2)) (k : AW X G q (pc + 2) (x0 :: x1 :: x2 :: x3 :: some (.int x) :: tl) (.int x :: st)) : AW X G q pc (x0 :: x1 :: x2 :: x3 :: some (.int x) :: tl) st := by
  obtain ⟨p, l, e, R, s, m, args, below, meth, c, ce, sl, Q⟩ := X
  obtain ⟨hx, hb, hml, hown, hts, hK, hW, -, -, -, -⟩ := C
  intro H locs ls hP hS hl
  exact lv_iload hx hb hd (lvh_at hl (i := 4) rfl) (k H locs ls hP hS hl)
theorem aw_aload_4 {X : CT} {G : GT} {q : S_} {cc : ByteArray} {own : String} {nL d pc : Nat} {st : List Value} (C : Cx X G cc own nL d) {x0 x1 x2 x3 : Option Value} {tl : List (Option Value)} {x : Value} {a : Nat} (hd : decode cc pc = .ok (.aload 4, 2)) (hr : x = .ref a) (k : AW X G q (pc + 2) (x0 :: x1 :: x2 :: x3 :: some x :: tl) (x :: st)) : AW X G q pc (x0 :: x1 :: x2 :: x3 :: some x :: tl) st := by
  subst hr
  obtain ⟨p, l, e, R, s, m, args, below, meth, c, ce, sl, Q⟩ := X
  obtain ⟨hx, hb, hml, hown, hts, hK, hW, -, -, -, -⟩ := C
  intro H locs ls hP hS hl
  exact lv_aload hx hb hd (lvh_at hl (i := 4) rfl) (k H locs ls hP hS hl)
theorem aw_lload_4 {X : CT} {G : GT} {q : S_} {cc : ByteArray} {own : String} {nL d pc : Nat} {st : List Value} (C : Cx X G cc own nL d) {x0 x1 x2 x3 : Option Value} {tl : List (Option Value)} {x : Int64} (hd : decode cc pc = .ok (.lload 4, 2)) (k : AW X G q (pc + 2) (x0 :: x1 :: x2 :: x3 :: some (.long x) :: tl) (.long x :: st)) : AW X G q pc (x0 :: x1 :: x2 :: x3 :: some (.long x) :: tl) st := by
  obtain ⟨p, l, e, R, s, m, args, below, meth, c, ce, sl, Q⟩ := X
  obtain ⟨hx, hb, hml, hown, hts, hK, hW, -, -, -, -⟩ := C
  intro H locs ls hP hS hl
  exact lv_lload hx hb hd (lvh_at hl (i := 4) rfl) (k H locs ls hP hS hl)
theorem aw_istore_4 {X : CT} {G : GT} {q : S_} {cc : ByteArray} {own : String} {nL d pc : Nat} {st : List Value} (C : Cx X G cc own nL d) {x0 x1 x2 x3 : Option Value} {tl : List (Option Value)} {y : Option Value} {x : Int32} (hd : decode cc pc = .ok (.istore 4, 2)) (hn : 4 < nL) (hp : ∀ w, x3 = some w → w.category = 1) (k : AW X G q (pc + 2) (x0 :: x1 :: x2 :: x3 :: some (.int x) :: tl) st) : AW X G q pc (x0 :: x1 :: x2 :: x3 :: y :: tl) (.int x :: st) := by
  obtain ⟨p, l, e, R, s, m, args, below, meth, c, ce, sl, Q⟩ := X
  obtain ⟨hx, hb, hml, hown, hts, hK, hW, -, -, -, -⟩ := C
  intro H locs ls hP hS hl
  exact lv_istore hx hb hd (lvh_has hl) (by rw [hml]; exact hn) rfl (fun ls' h' => k H locs ls' hP hS (lvh_store1 (i := 4) (fun w _ h => hp w (Option.some.inj h)) h'))
theorem aw_astore_4 {X : CT} {G : GT} {q : S_} {cc : ByteArray} {own : String} {nL d pc : Nat} {st : List Value} (C : Cx X G cc own nL d) {x0 x1 x2 x3 : Option Value} {tl : List (Option Value)} {y : Option Value} {x : Value} {a : Nat} (hd : decode cc pc = .ok (.astore 4, 2)) (hn : 4 < nL) (hp : ∀ w, x3 = some w → w.category = 1) (hr : x = .ref a) (k : AW X G q (pc + 2) (x0 :: x1 :: x2 :: x3 :: some x :: tl) st) : AW X G q pc (x0 :: x1 :: x2 :: x3 :: y :: tl) (x :: st) := by
  subst hr
  obtain ⟨p, l, e, R, s, m, args, below, meth, c, ce, sl, Q⟩ := X
  obtain ⟨hx, hb, hml, hown, hts, hK, hW, -, -, -, -⟩ := C
  intro H locs ls hP hS hl
  exact lv_astore hx hb hd (lvh_has hl) (by rw [hml]; exact hn) rfl (fun ls' h' => k H locs ls' hP hS (lvh_store1 (i := 4) (fun w _ h => hp w (Option.some.inj h)) h'))
theorem aw_lstore_4 {X : CT} {G : GT} {q : S_} {cc : ByteArray} {own : String} {nL d pc : Nat} {st : List Value} (C : Cx X G cc own nL d) {x0 x1 x2 x3 : Option Value} {tl : List (Option Value)} {y y2 : Option Value} {x : Int64} (hd : decode cc pc = .ok (.lstore 4, 2)) (hn : 4 + 1 < nL) (hp : ∀ w, x3 = some w → w.category = 1) (k : AW X G q (pc + 2) (x0 :: x1 :: x2 :: x3 :: some (.long x) :: none :: tl) st) : AW X G q pc (x0 :: x1 :: x2 :: x3 :: y :: y2 :: tl) (.long x :: st) := by
  obtain ⟨p, l, e, R, s, m, args, below, meth, c, ce, sl, Q⟩ := X
  obtain ⟨hx, hb, hml, hown, hts, hK, hW, -, -, -, -⟩ := C
  intro H locs ls hP hS hl
  exact lv_lstore hx hb hd (lvh_has hl) (by rw [hml]; exact hn) rfl (fun ls' h' => k H locs ls' hP hS (lvh_store2 (i := 4) (fun w _ h => hp w (Option.some.inj h)) h'))
theorem aw_iinc_4 {X : CT} {G : GT} {q : S_} {cc : ByteArray} {own : String} {nL d pc : Nat} {st : List Value} (C : Cx X G cc own nL d) {x0 x1 x2 x3 : Option Value} {tl : List (Option Value)} {n : Int} {x v : Int32} (hd : decode cc pc = .ok (.iinc 4 n, 3)) (hn : 4 < nL) (hp : ∀ w, x3 = some w → w.category = 1) (hv : x + Int32.ofInt n = v) (k : AW X G q (pc + 3) (x0 :: x1 :: x2 :: x3 :: some (.int v) :: tl) st) : AW X G q pc (x0 :: x1 :: x2 :: x3 :: some (.int x) :: tl) st := by
  obtain ⟨p, l, e, R, s, m, args, below, meth, c, ce, sl, Q⟩ := X
  obtain ⟨hx, hb, hml, hown, hts, hK, hW, -, -, -, -⟩ := C
  intro H locs ls hP hS hl
  obtain ⟨w, hw⟩ := List.getElem?_of_mem (lvl_mem.mpr (show (x0 :: x1 :: x2 :: x3 :: some (.int x) :: tl : List (Option Value))[4]? = some (some (.int x)) from rfl))
  exact lv_iinc hx hb hd (lvh_has hl) hw hv (by rw [hml]; exact hn) rfl (fun ls' h' => k H locs ls' hP hS (lvh_store1 (i := 4) (fun w _ h => hp w (Option.some.inj h)) h'))
theorem aw_iload_5 {X : CT} {G : GT} {q : S_} {cc : ByteArray} {own : String} {nL d pc : Nat} {st : List Value} (C : Cx X G cc own nL d) {x0 x1 x2 x3 x4 : Option Value} {tl : List (Option Value)} {x : Int32} (hd : decode cc pc = .ok (.iload 5, 2)) (k : AW X G q (pc + 2) (x0 :: x1 :: x2 :: x3 :: x4 :: some (.int x) :: tl) (.int x :: st)) : AW X G q pc (x0 :: x1 :: x2 :: x3 :: x4 :: some (.int x) :: tl) st := by
  obtain ⟨p, l, e, R, s, m, args, below, meth, c, ce, sl, Q⟩ := X
  obtain ⟨hx, hb, hml, hown, hts, hK, hW, -, -, -, -⟩ := C
  intro H locs ls hP hS hl
  exact lv_iload hx hb hd (lvh_at hl (i := 5) rfl) (k H locs ls hP hS hl)
theorem aw_aload_5 {X : CT} {G : GT} {q : S_} {cc : ByteArray} {own : String} {nL d pc : Nat} {st : List Value} (C : Cx X G cc own nL d) {x0 x1 x2 x3 x4 : Option Value} {tl : List (Option Value)} {x : Value} {a : Nat} (hd : decode cc pc = .ok (.aload 5, 2)) (hr : x = .ref a) (k : AW X G q (pc + 2) (x0 :: x1 :: x2 :: x3 :: x4 :: some x :: tl) (x :: st)) : AW X G q pc (x0 :: x1 :: x2 :: x3 :: x4 :: some x :: tl) st := by
  subst hr
  obtain ⟨p, l, e, R, s, m, args, below, meth, c, ce, sl, Q⟩ := X
  obtain ⟨hx, hb, hml, hown, hts, hK, hW, -, -, -, -⟩ := C
  intro H locs ls hP hS hl
  exact lv_aload hx hb hd (lvh_at hl (i := 5) rfl) (k H locs ls hP hS hl)
theorem aw_lload_5 {X : CT} {G : GT} {q : S_} {cc : ByteArray} {own : String} {nL d pc : Nat} {st : List Value} (C : Cx X G cc own nL d) {x0 x1 x2 x3 x4 : Option Value} {tl : List (Option Value)} {x : Int64} (hd : decode cc pc = .ok (.lload 5, 2)) (k : AW X G q (pc + 2) (x0 :: x1 :: x2 :: x3 :: x4 :: some (.long x) :: tl) (.long x :: st)) : AW X G q pc (x0 :: x1 :: x2 :: x3 :: x4 :: some (.long x) :: tl) st := by
  obtain ⟨p, l, e, R, s, m, args, below, meth, c, ce, sl, Q⟩ := X
  obtain ⟨hx, hb, hml, hown, hts, hK, hW, -, -, -, -⟩ := C
  intro H locs ls hP hS hl
  exact lv_lload hx hb hd (lvh_at hl (i := 5) rfl) (k H locs ls hP hS hl)
theorem aw_istore_5 {X : CT} {G : GT} {q : S_} {cc : ByteArray} {own : String} {nL d pc : Nat} {st : List Value} (C : Cx X G cc own nL d) {x0 x1 x2 x3 x4 : Option Value} {tl : List (Option Value)} {y : Option Value} {x : Int32} (hd : decode cc pc = .ok (.istore 5, 2)) (hn : 5 < nL) (hp : ∀ w, x4 = some w → w.category = 1) (k : AW X G q (pc + 2) (x0 :: x1 :: x2 :: x3 :: x4 :: some (.int x) :: tl) st) : AW X G q pc (x0 :: x1 :: x2 :: x3 :: x4 :: y :: tl) (.int x :: st) := by
  obtain ⟨p, l, e, R, s, m, args, below, meth, c, ce, sl, Q⟩ := X
  obtain ⟨hx, hb, hml, hown, hts, hK, hW, -, -, -, -⟩ := C
  intro H locs ls hP hS hl
  exact lv_istore hx hb hd (lvh_has hl) (by rw [hml]; exact hn) rfl (fun ls' h' => k H locs ls' hP hS (lvh_store1 (i := 5) (fun w _ h => hp w (Option.some.inj h)) h'))
theorem aw_astore_5 {X : CT} {G : GT} {q : S_} {cc : ByteArray} {own : String} {nL d pc : Nat} {st : List Value} (C : Cx X G cc own nL d) {x0 x1 x2 x3 x4 : Option Value} {tl : List (Option Value)} {y : Option Value} {x : Value} {a : Nat} (hd : decode cc pc = .ok (.astore 5, 2)) (hn : 5 < nL) (hp : ∀ w, x4 = some w → w.category = 1) (hr : x = .ref a) (k : AW X G q (pc + 2) (x0 :: x1 :: x2 :: x3 :: x4 :: some x :: tl) st) : AW X G q pc (x0 :: x1 :: x2 :: x3 :: x4 :: y :: tl) (x :: st) := by
  subst hr
  obtain ⟨p, l, e, R, s, m, args, below, meth, c, ce, sl, Q⟩ := X
  obtain ⟨hx, hb, hml, hown, hts, hK, hW, -, -, -, -⟩ := C
  intro H locs ls hP hS hl
  exact lv_astore hx hb hd (lvh_has hl) (by rw [hml]; exact hn) rfl (fun ls' h' => k H locs ls' hP hS (lvh_store1 (i := 5) (fun w _ h => hp w (Option.some.inj h)) h'))
theorem aw_lstore_5 {X : CT} {G : GT} {q : S_} {cc : ByteArray} {own : String} {nL d pc : Nat} {st : List Value} (C : Cx X G cc own nL d) {x0 x1 x2 x3 x4 : Option Value} {tl : List (Option Value)} {y y2 : Option Value} {x : Int64} (hd : decode cc pc = .ok (.lstore 5, 2)) (hn : 5 + 1 < nL) (hp : ∀ w, x4 = some w → w.category = 1) (k : AW X G q (pc + 2) (x0 :: x1 :: x2 :: x3 :: x4 :: some (.long x) :: none :: tl) st) : AW X G q pc (x0 :: x1 :: x2 :: x3 :: x4 :: y :: y2 :: tl) (.long x :: st) := by
  obtain ⟨p, l, e, R, s, m, args, below, meth, c, ce, sl, Q⟩ := X
  obtain ⟨hx, hb, hml, hown, hts, hK, hW, -, -, -, -⟩ := C
  intro H locs ls hP hS hl
  exact lv_lstore hx hb hd (lvh_has hl) (by rw [hml]; exact hn) rfl (fun ls' h' => k H locs ls' hP hS (lvh_store2 (i := 5) (fun w _ h => hp w (Option.some.inj h)) h'))
theorem aw_iinc_5 {X : CT} {G : GT} {q : S_} {cc : ByteArray} {own : String} {nL d pc : Nat} {st : List Value} (C : Cx X G cc own nL d) {x0 x1 x2 x3 x4 : Option Value} {tl : List (Option Value)} {n : Int} {x v : Int32} (hd : decode cc pc = .ok (.iinc 5 n, 3)) (hn : 5 < nL) (hp : ∀ w, x4 = some w → w.category = 1) (hv : x + Int32.ofInt n = v) (k : AW X G q (pc + 3) (x0 :: x1 :: x2 :: x3 :: x4 :: some (.int v) :: tl) st) : AW X G q pc (x0 :: x1 :: x2 :: x3 :: x4 :: some (.int x) :: tl) st := by
  obtain ⟨p, l, e, R, s, m, args, below, meth, c, ce, sl, Q⟩ := X
  obtain ⟨hx, hb, hml, hown, hts, hK, hW, -, -, -, -⟩ := C
  intro H locs ls hP hS hl
  obtain ⟨w, hw⟩ := List.getElem?_of_mem (lvl_mem.mpr (show (x0 :: x1 :: x2 :: x3 :: x4 :: some (.int x) :: tl : List (Option Value))[5]? = some (some (.int x)) from rfl))
  exact lv_iinc hx hb hd (lvh_has hl) hw hv (by rw [hml]; exact hn) rfl (fun ls' h' => k H locs ls' hP hS (lvh_store1 (i := 5) (fun w _ h => hp w (Option.some.inj h)) h'))
theorem aw_iload_6 {X : CT} {G : GT} {q : S_} {cc : ByteArray} {own : String} {nL d pc : Nat} {st : List Value} (C : Cx X G cc own nL d) {x0 x1 x2 x3 x4 x5 : Option Value} {tl : List (Option Value)} {x : Int32} (hd : decode cc pc = .ok (.iload 6, 2)) (k : AW X G q (pc + 2) (x0 :: x1 :: x2 :: x3 :: x4 :: x5 :: some (.int x) :: tl) (.int x :: st)) : AW X G q pc (x0 :: x1 :: x2 :: x3 :: x4 :: x5 :: some (.int x) :: tl) st := by
  obtain ⟨p, l, e, R, s, m, args, below, meth, c, ce, sl, Q⟩ := X
  obtain ⟨hx, hb, hml, hown, hts, hK, hW, -, -, -, -⟩ := C
  intro H locs ls hP hS hl
  exact lv_iload hx hb hd (lvh_at hl (i := 6) rfl) (k H locs ls hP hS hl)
theorem aw_aload_6 {X : CT} {G : GT} {q : S_} {cc : ByteArray} {own : String} {nL d pc : Nat} {st : List Value} (C : Cx X G cc own nL d) {x0 x1 x2 x3 x4 x5 : Option Value} {tl : List (Option Value)} {x : Value} {a : Nat} (hd : decode cc pc = .ok (.aload 6, 2)) (hr : x = .ref a) (k : AW X G q (pc + 2) (x0 :: x1 :: x2 :: x3 :: x4 :: x5 :: some x :: tl) (x :: st)) : AW X G q pc (x0 :: x1 :: x2 :: x3 :: x4 :: x5 :: some x :: tl) st := by
  subst hr
  obtain ⟨p, l, e, R, s, m, args, below, meth, c, ce, sl, Q⟩ := X
  obtain ⟨hx, hb, hml, hown, hts, hK, hW, -, -, -, -⟩ := C
  intro H locs ls hP hS hl
  exact lv_aload hx hb hd (lvh_at hl (i := 6) rfl) (k H locs ls hP hS hl)
theorem aw_lload_6 {X : CT} {G : GT} {q : S_} {cc : ByteArray} {own : String} {nL d pc : Nat} {st : List Value} (C : Cx X G cc own nL d) {x0 x1 x2 x3 x4 x5 : Option Value} {tl : List (Option Value)} {x : Int64} (hd : decode cc pc = .ok (.lload 6, 2)) (k : AW X G q (pc + 2) (x0 :: x1 :: x2 :: x3 :: x4 :: x5 :: some (.long x) :: tl) (.long x :: st)) : AW X G q pc (x0 :: x1 :: x2 :: x3 :: x4 :: x5 :: some (.long x) :: tl) st := by
  obtain ⟨p, l, e, R, s, m, args, below, meth, c, ce, sl, Q⟩ := X
  obtain ⟨hx, hb, hml, hown, hts, hK, hW, -, -, -, -⟩ := C
  intro H locs ls hP hS hl
  exact lv_lload hx hb hd (lvh_at hl (i := 6) rfl) (k H locs ls hP hS hl)
theorem aw_istore_6 {X : CT} {G : GT} {q : S_} {cc : ByteArray} {own : String} {nL d pc : Nat} {st : List Value} (C : Cx X G cc own nL d) {x0 x1 x2 x3 x4 x5 : Option Value} {tl : List (Option Value)} {y : Option Value} {x : Int32} (hd : decode cc pc = .ok (.istore 6, 2)) (hn : 6 < nL) (hp : ∀ w, x5 = some w → w.category = 1) (k : AW X G q (pc + 2) (x0 :: x1 :: x2 :: x3 :: x4 :: x5 :: some (.int x) :: tl) st) : AW X G q pc (x0 :: x1 :: x2 :: x3 :: x4 :: x5 :: y :: tl) (.int x :: st) := by
  obtain ⟨p, l, e, R, s, m, args, below, meth, c, ce, sl, Q⟩ := X
  obtain ⟨hx, hb, hml, hown, hts, hK, hW, -, -, -, -⟩ := C
  intro H locs ls hP hS hl
  exact lv_istore hx hb hd (lvh_has hl) (by rw [hml]; exact hn) rfl (fun ls' h' => k H locs ls' hP hS (lvh_store1 (i := 6) (fun w _ h => hp w (Option.some.inj h)) h'))
theorem aw_astore_6 {X : CT} {G : GT} {q : S_} {cc : ByteArray} {own : String} {nL d pc : Nat} {st : List Value} (C : Cx X G cc own nL d) {x0 x1 x2 x3 x4 x5 : Option Value} {tl : List (Option Value)} {y : Option Value} {x : Value} {a : Nat} (hd : decode cc pc = .ok (.astore 6, 2)) (hn : 6 < nL) (hp : ∀ w, x5 = some w → w.category = 1) (hr : x = .ref a) (k : AW X G q (pc + 2) (x0 :: x1 :: x2 :: x3 :: x4 :: x5 :: some x :: tl) st) : AW X G q pc (x0 :: x1 :: x2 :: x3 :: x4 :: x5 :: y :: tl) (x :: st) := by
  subst hr
  obtain ⟨p, l, e, R, s, m, args, below, meth, c, ce, sl, Q⟩ := X
  obtain ⟨hx, hb, hml, hown, hts, hK, hW, -, -, -, -⟩ := C
  intro H locs ls hP hS hl
  exact lv_astore hx hb hd (lvh_has hl) (by rw [hml]; exact hn) rfl (fun ls' h' => k H locs ls' hP hS (lvh_store1 (i := 6) (fun w _ h => hp w (Option.some.inj h)) h'))
theorem aw_lstore_6 {X : CT} {G : GT} {q : S_} {cc : ByteArray} {own : String} {nL d pc : Nat} {st : List Value} (C : Cx X G cc own nL d) {x0 x1 x2 x3 x4 x5 : Option Value} {tl : List (Option Value)} {y y2 : Option Value} {x : Int64} (hd : decode cc pc = .ok (.lstore 6, 2)) (hn : 6 + 1 < nL) (hp : ∀ w, x5 = some w → w.category = 1) (k : AW X G q (pc + 2) (x0 :: x1 :: x2 :: x3 :: x4 :: x5 :: some (.long x) :: none :: tl) st) : AW X G q pc (x0 :: x1 :: x2 :: x3 :: x4 :: x5 :: y :: y2 :: tl) (.long x :: st) := by
  obtain ⟨p, l, e, R, s, m, args, below, meth, c, ce, sl, Q⟩ := X
  obtain ⟨hx, hb, hml, hown, hts, hK, hW, -, -, -, -⟩ := C
  intro H locs ls hP hS hl
  exact lv_lstore hx hb hd (lvh_has hl) (by rw [hml]; exact hn) rfl (fun ls' h' => k H locs ls' hP hS (lvh_store2 (i := 6) (fun w _ h => hp w (Option.some.inj h)) h'))
theorem aw_iinc_6 {X : CT} {G : GT} {q : S_} {cc : ByteArray} {own : String} {nL d pc : Nat} {st : List Value} (C : Cx X G cc own nL d) {x0 x1 x2 x3 x4 x5 : Option Value} {tl : List (Option Value)} {n : Int} {x v : Int32} (hd : decode cc pc = .ok (.iinc 6 n, 3)) (hn : 6 < nL) (hp : ∀ w, x5 = some w → w.category = 1) (hv : x + Int32.ofInt n = v) (k : AW X G q (pc + 3) (x0 :: x1 :: x2 :: x3 :: x4 :: x5 :: some (.int v) :: tl) st) : AW X G q pc (x0 :: x1 :: x2 :: x3 :: x4 :: x5 :: some (.int x) :: tl) st := by
  obtain ⟨p, l, e, R, s, m, args, below, meth, c, ce, sl, Q⟩ := X
  obtain ⟨hx, hb, hml, hown, hts, hK, hW, -, -, -, -⟩ := C
  intro H locs ls hP hS hl
  obtain ⟨w, hw⟩ := List.getElem?_of_mem (lvl_mem.mpr (show (x0 :: x1 :: x2 :: x3 :: x4 :: x5 :: some (.int x) :: tl : List (Option Value))[6]? = some (some (.int x)) from rfl))
  exact lv_iinc hx hb hd (lvh_has hl) hw hv (by rw [hml]; exact hn) rfl (fun ls' h' => k H locs ls' hP hS (lvh_store1 (i := 6) (fun w _ h => hp w (Option.some.inj h)) h'))
theorem aw_iload_7 {X : CT} {G : GT} {q : S_} {cc : ByteArray} {own : String} {nL d pc : Nat} {st : List Value} (C : Cx X G cc own nL d) {x0 x1 x2 x3 x4 x5 x6 : Option Value} {tl : List (Option Value)} {x : Int32} (hd : decode cc pc = .ok (.iload 7, 2)) (k : AW X G q (pc + 2) (x0 :: x1 :: x2 :: x3 :: x4 :: x5 :: x6 :: some (.int x) :: tl) (.int x :: st)) : AW X G q pc (x0 :: x1 :: x2 :: x3 :: x4 :: x5 :: x6 :: some (.int x) :: tl) st := by
  obtain ⟨p, l, e, R, s, m, args, below, meth, c, ce, sl, Q⟩ := X
  obtain ⟨hx, hb, hml, hown, hts, hK, hW, -, -, -, -⟩ := C
  intro H locs ls hP hS hl
  exact lv_iload hx hb hd (lvh_at hl (i := 7) rfl) (k H locs ls hP hS hl)
theorem aw_aload_7 {X : CT} {G : GT} {q : S_} {cc : ByteArray} {own : String} {nL d pc : Nat} {st : List Value} (C : Cx X G cc own nL d) {x0 x1 x2 x3 x4 x5 x6 : Option Value} {tl : List (Option Value)} {x : Value} {a : Nat} (hd : decode cc pc = .ok (.aload 7, 2)) (hr : x = .ref a) (k : AW X G q (pc + 2) (x0 :: x1 :: x2 :: x3 :: x4 :: x5 :: x6 :: some x :: tl) (x :: st)) : AW X G q pc (x0 :: x1 :: x2 :: x3 :: x4 :: x5 :: x6 :: some x :: tl) st := by
  subst hr
  obtain ⟨p, l, e, R, s, m, args, below, meth, c, ce, sl, Q⟩ := X
  obtain ⟨hx, hb, hml, hown, hts, hK, hW, -, -, -, -⟩ := C
  intro H locs ls hP hS hl
  exact lv_aload hx hb hd (lvh_at hl (i := 7) rfl) (k H locs ls hP hS hl)
theorem aw_lload_7 {X : CT} {G : GT} {q : S_} {cc : ByteArray} {own : String} {nL d pc : Nat} {st : List Value} (C : Cx X G cc own nL d) {x0 x1 x2 x3 x4 x5 x6 : Option Value} {tl : List (Option Value)} {x : Int64} (hd : decode cc pc = .ok (.lload 7, 2)) (k : AW X G q (pc + 2) (x0 :: x1 :: x2 :: x3 :: x4 :: x5 :: x6 :: some (.long x) :: tl) (.long x :: st)) : AW X G q pc (x0 :: x1 :: x2 :: x3 :: x4 :: x5 :: x6 :: some (.long x) :: tl) st := by
  obtain ⟨p, l, e, R, s, m, args, below, meth, c, ce, sl, Q⟩ := X
  obtain ⟨hx, hb, hml, hown, hts, hK, hW, -, -, -, -⟩ := C
  intro H locs ls hP hS hl
  exact lv_lload hx hb hd (lvh_at hl (i := 7) rfl) (k H locs ls hP hS hl)
theorem aw_istore_7 {X : CT} {G : GT} {q : S_} {cc : ByteArray} {own : String} {nL d pc : Nat} {st : List Value} (C : Cx X G cc own nL d) {x0 x1 x2 x3 x4 x5 x6 : Option Value} {tl : List (Option Value)} {y : Option Value} {x : Int32} (hd : decode cc pc = .ok (.istore 7, 2)) (hn : 7 < nL) (hp : ∀ w, x6 = some w → w.category = 1) (k : AW X G q (pc + 2) (x0 :: x1 :: x2 :: x3 :: x4 :: x5 :: x6 :: some (.int x) :: tl) st) : AW X G q pc (x0 :: x1 :: x2 :: x3 :: x4 :: x5 :: x6 :: y :: tl) (.int x :: st) := by
  obtain ⟨p, l, e, R, s, m, args, below, meth, c, ce, sl, Q⟩ := X
  obtain ⟨hx, hb, hml, hown, hts, hK, hW, -, -, -, -⟩ := C
  intro H locs ls hP hS hl
  exact lv_istore hx hb hd (lvh_has hl) (by rw [hml]; exact hn) rfl (fun ls' h' => k H locs ls' hP hS (lvh_store1 (i := 7) (fun w _ h => hp w (Option.some.inj h)) h'))
theorem aw_astore_7 {X : CT} {G : GT} {q : S_} {cc : ByteArray} {own : String} {nL d pc : Nat} {st : List Value} (C : Cx X G cc own nL d) {x0 x1 x2 x3 x4 x5 x6 : Option Value} {tl : List (Option Value)} {y : Option Value} {x : Value} {a : Nat} (hd : decode cc pc = .ok (.astore 7, 2)) (hn : 7 < nL) (hp : ∀ w, x6 = some w → w.category = 1) (hr : x = .ref a) (k : AW X G q (pc + 2) (x0 :: x1 :: x2 :: x3 :: x4 :: x5 :: x6 :: some x :: tl) st) : AW X G q pc (x0 :: x1 :: x2 :: x3 :: x4 :: x5 :: x6 :: y :: tl) (x :: st) := by
  subst hr
  obtain ⟨p, l, e, R, s, m, args, below, meth, c, ce, sl, Q⟩ := X
  obtain ⟨hx, hb, hml, hown, hts, hK, hW, -, -, -, -⟩ := C
  intro H locs ls hP hS hl
  exact lv_astore hx hb hd (lvh_has hl) (by rw [hml]; exact hn) rfl (fun ls' h' => k H locs ls' hP hS (lvh_store1 (i := 7) (fun w _ h => hp w (Option.some.inj h)) h'))
theorem aw_lstore_7 {X : CT} {G : GT} {q : S_} {cc : ByteArray} {own : String} {nL d pc : Nat} {st : List Value} (C : Cx X G cc own nL d) {x0 x1 x2 x3 x4 x5 x6 : Option Value} {tl : List (Option Value)} {y y2 : Option Value} {x : Int64} (hd : decode cc pc = .ok (.lstore 7, 2)) (hn : 7 + 1 < nL) (hp : ∀ w, x6 = some w → w.category = 1) (k : AW X G q (pc + 2) (x0 :: x1 :: x2 :: x3 :: x4 :: x5 :: x6 :: some (.long x) :: none :: tl) st) : AW X G q pc (x0 :: x1 :: x2 :: x3 :: x4 :: x5 :: x6 :: y :: y2 :: tl) (.long x :: st) := by
  obtain ⟨p, l, e, R, s, m, args, below, meth, c, ce, sl, Q⟩ := X
  obtain ⟨hx, hb, hml, hown, hts, hK, hW, -, -, -, -⟩ := C
  intro H locs ls hP hS hl
  exact lv_lstore hx hb hd (lvh_has hl) (by rw [hml]; exact hn) rfl (fun ls' h' => k H locs ls' hP hS (lvh_store2 (i := 7) (fun w _ h => hp w (Option.some.inj h)) h'))
theorem aw_iinc_7 {X : CT} {G : GT} {q : S_} {cc : ByteArray} {own : String} {nL d pc : Nat} {st : List Value} (C : Cx X G cc own nL d) {x0 x1 x2 x3 x4 x5 x6 : Option Value} {tl : List (Option Value)} {n : Int} {x v : Int32} (hd : decode cc pc = .ok (.iinc 7 n, 3)) (hn : 7 < nL) (hp : ∀ w, x6 = some w → w.category = 1) (hv : x + Int32.ofInt n = v) (k : AW X G q (pc + 3) (x0 :: x1 :: x2 :: x3 :: x4 :: x5 :: x6 :: some (.int v) :: tl) st) : AW X G q pc (x0 :: x1 :: x2 :: x3 :: x4 :: x5 :: x6 :: some (.int x) :: tl) st := by
  obtain ⟨p, l, e, R, s, m, args, below, meth, c, ce, sl, Q⟩ := X
  obtain ⟨hx, hb, hml, hown, hts, hK, hW, -, -, -, -⟩ := C
  intro H locs ls hP hS hl
  obtain ⟨w, hw⟩ := List.getElem?_of_mem (lvl_mem.mpr (show (x0 :: x1 :: x2 :: x3 :: x4 :: x5 :: x6 :: some (.int x) :: tl : List (Option Value))[7]? = some (some (.int x)) from rfl))
  exact lv_iinc hx hb hd (lvh_has hl) hw hv (by rw [hml]; exact hn) rfl (fun ls' h' => k H locs ls' hP hS (lvh_store1 (i := 7) (fun w _ h => hp w (Option.some.inj h)) h'))
theorem aw_iload_8 {X : CT} {G : GT} {q : S_} {cc : ByteArray} {own : String} {nL d pc : Nat} {st : List Value} (C : Cx X G cc own nL d) {x0 x1 x2 x3 x4 x5 x6 x7 : Option Value} {tl : List (Option Value)} {x : Int32} (hd : decode cc pc = .ok (.iload 8, 2)) (k : AW X G q (pc + 2) (x0 :: x1 :: x2 :: x3 :: x4 :: x5 :: x6 :: x7 :: some (.int x) :: tl) (.int x :: st)) : AW X G q pc (x0 :: x1 :: x2 :: x3 :: x4 :: x5 :: x6 :: x7 :: some (.int x) :: tl) st := by
  obtain ⟨p, l, e, R, s, m, args, below, meth, c, ce, sl, Q⟩ := X
  obtain ⟨hx, hb, hml, hown, hts, hK, hW, -, -, -, -⟩ := C
  intro H locs ls hP hS hl
  exact lv_iload hx hb hd (lvh_at hl (i := 8) rfl) (k H locs ls hP hS hl)
theorem aw_aload_8 {X : CT} {G : GT} {q : S_} {cc : ByteArray} {own : String} {nL d pc : Nat} {st : List Value} (C : Cx X G cc own nL d) {x0 x1 x2 x3 x4 x5 x6 x7 : Option Value} {tl : List (Option Value)} {x : Value} {a : Nat} (hd : decode cc pc = .ok (.aload 8, 2)) (hr : x = .ref a) (k : AW X G q (pc + 2) (x0 :: x1 :: x2 :: x3 :: x4 :: x5 :: x6 :: x7 :: some x :: tl) (x :: st)) : AW X G q pc (x0 :: x1 :: x2 :: x3 :: x4 :: x5 :: x6 :: x7 :: some x :: tl) st := by
  subst hr
  obtain ⟨p, l, e, R, s, m, args, below, meth, c, ce, sl, Q⟩ := X
  obtain ⟨hx, hb, hml, hown, hts, hK, hW, -, -, -, -⟩ := C
  intro H locs ls hP hS hl
  exact lv_aload hx hb hd (lvh_at hl (i := 8) rfl) (k H locs ls hP hS hl)
theorem aw_lload_8 {X : CT} {G : GT} {q : S_} {cc : ByteArray} {own : String} {nL d pc : Nat} {st : List Value} (C : Cx X G cc own nL d) {x0 x1 x2 x3 x4 x5 x6 x7 : Option Value} {tl : List (Option Value)} {x : Int64} (hd : decode cc pc = .ok (.lload 8, 2)) (k : AW X G q (pc + 2) (x0 :: x1 :: x2 :: x3 :: x4 :: x5 :: x6 :: x7 :: some (.long x) :: tl) (.long x :: st)) : AW X G q pc (x0 :: x1 :: x2 :: x3 :: x4 :: x5 :: x6 :: x7 :: some (.long x) :: tl) st := by
  obtain ⟨p, l, e, R, s, m, args, below, meth, c, ce, sl, Q⟩ := X
  obtain ⟨hx, hb, hml, hown, hts, hK, hW, -, -, -, -⟩ := C
  intro H locs ls hP hS hl
  exact lv_lload hx hb hd (lvh_at hl (i := 8) rfl) (k H locs ls hP hS hl)
theorem aw_istore_8 {X : CT} {G : GT} {q : S_} {cc : ByteArray} {own : String} {nL d pc : Nat} {st : List Value} (C : Cx X G cc own nL d) {x0 x1 x2 x3 x4 x5 x6 x7 : Option Value} {tl : List (Option Value)} {y : Option Value} {x : Int32} (hd : decode cc pc = .ok (.istore 8, 2)) (hn : 8 < nL) (hp : ∀ w, x7 = some w → w.category = 1) (k : AW X G q (pc + 2) (x0 :: x1 :: x2 :: x3 :: x4 :: x5 :: x6 :: x7 :: some (.int x) :: tl) st) : AW X G q pc (x0 :: x1 :: x2 :: x3 :: x4 :: x5 :: x6 :: x7 :: y :: tl) (.int x :: st) := by
  obtain ⟨p, l, e, R, s, m, args, below, meth, c, ce, sl, Q⟩ := X
  obtain ⟨hx, hb, hml, hown, hts, hK, hW, -, -, -, -⟩ := C
  intro H locs ls hP hS hl
  exact lv_istore hx hb hd (lvh_has hl) (by rw [hml]; exact hn) rfl (fun ls' h' => k H locs ls' hP hS (lvh_store1 (i := 8) (fun w _ h => hp w (Option.some.inj h)) h'))
theorem aw_astore_8 {X : CT} {G : GT} {q : S_} {cc : ByteArray} {own : String} {nL d pc : Nat} {st : List Value} (C : Cx X G cc own nL d) {x0 x1 x2 x3 x4 x5 x6 x7 : Option Value} {tl : List (Option Value)} {y : Option Value} {x : Value} {a : Nat} (hd : decode cc pc = .ok (.astore 8, 2)) (hn : 8 < nL) (hp : ∀ w, x7 = some w → w.category = 1) (hr : x = .ref a) (k : AW X G q (pc + 2) (x0 :: x1 :: x2 :: x3 :: x4 :: x5 :: x6 :: x7 :: some x :: tl) st) : AW X G q pc (x0 :: x1 :: x2 :: x3 :: x4 :: x5 :: x6 :: x7 :: y :: tl) (x :: st) := by
  subst hr
  obtain ⟨p, l, e, R, s, m, args, below, meth, c, ce, sl, Q⟩ := X
  obtain ⟨hx, hb, hml, hown, hts, hK, hW, -, -, -, -⟩ := C
  intro H locs ls hP hS hl
  exact lv_astore hx hb hd (lvh_has hl) (by rw [hml]; exact hn) rfl (fun ls' h' => k H locs ls' hP hS (lvh_store1 (i := 8) (fun w _ h => hp w (Option.some.inj h)) h'))
theorem aw_lstore_8 {X : CT} {G : GT} {q : S_} {cc : ByteArray} {own : String} {nL d pc : Nat} {st : List Value} (C : Cx X G cc own nL d) {x0 x1 x2 x3 x4 x5 x6 x7 : Option Value} {tl : List (Option Value)} {y y2 : Option Value} {x : Int64} (hd : decode cc pc = .ok (.lstore 8, 2)) (hn : 8 + 1 < nL) (hp : ∀ w, x7 = some w → w.category = 1) (k : AW X G q (pc + 2) (x0 :: x1 :: x2 :: x3 :: x4 :: x5 :: x6 :: x7 :: some (.long x) :: none :: tl) st) : AW X G q pc (x0 :: x1 :: x2 :: x3 :: x4 :: x5 :: x6 :: x7 :: y :: y2 :: tl) (.long x :: st) := by
  obtain ⟨p, l, e, R, s, m, args, below, meth, c, ce, sl, Q⟩ := X
  obtain ⟨hx, hb, hml, hown, hts, hK, hW, -, -, -, -⟩ := C
  intro H locs ls hP hS hl
  exact lv_lstore hx hb hd (lvh_has hl) (by rw [hml]; exact hn) rfl (fun ls' h' => k H locs ls' hP hS (lvh_store2 (i := 8) (fun w _ h => hp w (Option.some.inj h)) h'))
theorem aw_iinc_8 {X : CT} {G : GT} {q : S_} {cc : ByteArray} {own : String} {nL d pc : Nat} {st : List Value} (C : Cx X G cc own nL d) {x0 x1 x2 x3 x4 x5 x6 x7 : Option Value} {tl : List (Option Value)} {n : Int} {x v : Int32} (hd : decode cc pc = .ok (.iinc 8 n, 3)) (hn : 8 < nL) (hp : ∀ w, x7 = some w → w.category = 1) (hv : x + Int32.ofInt n = v) (k : AW X G q (pc + 3) (x0 :: x1 :: x2 :: x3 :: x4 :: x5 :: x6 :: x7 :: some (.int v) :: tl) st) : AW X G q pc (x0 :: x1 :: x2 :: x3 :: x4 :: x5 :: x6 :: x7 :: some (.int x) :: tl) st := by
  obtain ⟨p, l, e, R, s, m, args, below, meth, c, ce, sl, Q⟩ := X
  obtain ⟨hx, hb, hml, hown, hts, hK, hW, -, -, -, -⟩ := C
  intro H locs ls hP hS hl
  obtain ⟨w, hw⟩ := List.getElem?_of_mem (lvl_mem.mpr (show (x0 :: x1 :: x2 :: x3 :: x4 :: x5 :: x6 :: x7 :: some (.int x) :: tl : List (Option Value))[8]? = some (some (.int x)) from rfl))
  exact lv_iinc hx hb hd (lvh_has hl) hw hv (by rw [hml]; exact hn) rfl (fun ls' h' => k H locs ls' hP hS (lvh_store1 (i := 8) (fun w _ h => hp w (Option.some.inj h)) h'))
theorem aw_iload_9 {X : CT} {G : GT} {q : S_} {cc : ByteArray} {own : String} {nL d pc : Nat} {st : List Value} (C : Cx X G cc own nL d) {x0 x1 x2 x3 x4 x5 x6 x7 x8 : Option Value} {tl : List (Option Value)} {x : Int32} (hd : decode cc pc = .ok (.iload 9, 2)) (k : AW X G q (pc + 2) (x0 :: x1 :: x2 :: x3 :: x4 :: x5 :: x6 :: x7 :: x8 :: some (.int x) :: tl) (.int x :: st)) : AW X G q pc (x0 :: x1 :: x2 :: x3 :: x4 :: x5 :: x6 :: x7 :: x8 :: some (.int x) :: tl) st := by
  obtain ⟨p, l, e, R, s, m, args, below, meth, c, ce, sl, Q⟩ := X
  obtain ⟨hx, hb, hml, hown, hts, hK, hW, -, -, -, -⟩ := C
  intro H locs ls hP hS hl
  exact lv_iload hx hb hd (lvh_at hl (i := 9) rfl) (k H locs ls hP hS hl)
theorem aw_aload_9 {X : CT} {G : GT} {q : S_} {cc : ByteArray} {own : String} {nL d pc : Nat} {st : List Value} (C : Cx X G cc own nL d) {x0 x1 x2 x3 x4 x5 x6 x7 x8 : Option Value} {tl : List (Option Value)} {x : Value} {a : Nat} (hd : decode cc pc = .ok (.aload 9, 2)) (hr : x = .ref a) (k : AW X G q (pc + 2) (x0 :: x1 :: x2 :: x3 :: x4 :: x5 :: x6 :: x7 :: x8 :: some x :: tl) (x :: st)) : AW X G q pc (x0 :: x1 :: x2 :: x3 :: x4 :: x5 :: x6 :: x7 :: x8 :: some x :: tl) st := by
  subst hr
  obtain ⟨p, l, e, R, s, m, args, below, meth, c, ce, sl, Q⟩ := X
  obtain ⟨hx, hb, hml, hown, hts, hK, hW, -, -, -, -⟩ := C
  intro H locs ls hP hS hl
  exact lv_aload hx hb hd (lvh_at hl (i := 9) rfl) (k H locs ls hP hS hl)
theorem aw_lload_9 {X : CT} {G : GT} {q : S_} {cc : ByteArray} {own : String} {nL d pc : Nat} {st : List Value} (C : Cx X G cc own nL d) {x0 x1 x2 x3 x4 x5 x6 x7 x8 : Option Value} {tl : List (Option Value)} {x : Int64} (hd : decode cc pc = .ok (.lload 9, 2)) (k : AW X G q (pc + 2) (x0 :: x1 :: x2 :: x3 :: x4 :: x5 :: x6 :: x7 :: x8 :: some (.long x) :: tl) (.long x :: st)) : AW X G q pc (x0 :: x1 :: x2 :: x3 :: x4 :: x5 :: x6 :: x7 :: x8 :: some (.long x) :: tl) st := by
  obtain ⟨p, l, e, R, s, m, args, below, meth, c, ce, sl, Q⟩ := X
  obtain ⟨hx, hb, hml, hown, hts, hK, hW, -, -, -, -⟩ := C
  intro H locs ls hP hS hl
  exact lv_lload hx hb hd (lvh_at hl (i := 9) rfl) (k H locs ls hP hS hl)
theorem aw_istore_9 {X : CT} {G : GT} {q : S_} {cc : ByteArray} {own : String} {nL d pc : Nat} {st : List Value} (C : Cx X G cc own nL d) {x0 x1 x2 x3 x4 x5 x6 x7 x8 : Option Value} {tl : List (Option Value)} {y : Option Value} {x : Int32} (hd : decode cc pc = .ok (.istore 9, 2)) (hn : 9 < nL) (hp : ∀ w, x8 = some w → w.category = 1) (k : AW X G q (pc + 2) (x0 :: x1 :: x2 :: x3 :: x4 :: x5 :: x6 :: x7 :: x8 :: some (.int x) :: tl) st) : AW X G q pc (x0 :: x1 :: x2 :: x3 :: x4 :: x5 :: x6 :: x7 :: x8 :: y :: tl) (.int x :: st) := by
  obtain ⟨p, l, e, R, s, m, args, below, meth, c, ce, sl, Q⟩ := X
  obtain ⟨hx, hb, hml, hown, hts, hK, hW, -, -, -, -⟩ := C
  intro H locs ls hP hS hl
  exact lv_istore hx hb hd (lvh_has hl) (by rw [hml]; exact hn) rfl (fun ls' h' => k H locs ls' hP hS (lvh_store1 (i := 9) (fun w _ h => hp w (Option.some.inj h)) h'))
theorem aw_astore_9 {X : CT} {G : GT} {q : S_} {cc : ByteArray} {own : String} {nL d pc : Nat} {st : List Value} (C : Cx X G cc own nL d) {x0 x1 x2 x3 x4 x5 x6 x7 x8 : Option Value} {tl : List (Option Value)} {y : Option Value} {x : Value} {a : Nat} (hd : decode cc pc = .ok (.astore 9, 2)) (hn : 9 < nL) (hp : ∀ w, x8 = some w → w.category = 1) (hr : x = .ref a) (k : AW X G q (pc + 2) (x0 :: x1 :: x2 :: x3 :: x4 :: x5 :: x6 :: x7 :: x8 :: some x :: tl) st) : AW X G q pc (x0 :: x1 :: x2 :: x3 :: x4 :: x5 :: x6 :: x7 :: x8 :: y :: tl) (x :: st) := by
  subst hr
  obtain ⟨p, l, e, R, s, m, args, below, meth, c, ce, sl, Q⟩ := X
  obtain ⟨hx, hb, hml, hown, hts, hK, hW, -, -, -, -⟩ := C
  intro H locs ls hP hS hl
  exact lv_astore hx hb hd (lvh_has hl) (by rw [hml]; exact hn) rfl (fun ls' h' => k H locs ls' hP hS (lvh_store1 (i := 9) (fun w _ h => hp w (Option.some.inj h)) h'))
theorem aw_lstore_9 {X : CT} {G : GT} {q : S_} {cc : ByteArray} {own : String} {nL d pc : Nat} {st : List Value} (C : Cx X G cc own nL d) {x0 x1 x2 x3 x4 x5 x6 x7 x8 : Option Value} {tl : List (Option Value)} {y y2 : Option Value} {x : Int64} (hd : decode cc pc = .ok (.lstore 9, 2)) (hn : 9 + 1 < nL) (hp : ∀ w, x8 = some w → w.category = 1) (k : AW X G q (pc + 2) (x0 :: x1 :: x2 :: x3 :: x4 :: x5 :: x6 :: x7 :: x8 :: some (.long x) :: none :: tl) st) : AW X G q pc (x0 :: x1 :: x2 :: x3 :: x4 :: x5 :: x6 :: x7 :: x8 :: y :: y2 :: tl) (.long x :: st) := by
  obtain ⟨p, l, e, R, s, m, args, below, meth, c, ce, sl, Q⟩ := X
  obtain ⟨hx, hb, hml, hown, hts, hK, hW, -, -, -, -⟩ := C
  intro H locs ls hP hS hl
  exact lv_lstore hx hb hd (lvh_has hl) (by rw [hml]; exact hn) rfl (fun ls' h' => k H locs ls' hP hS (lvh_store2 (i := 9) (fun w _ h => hp w (Option.some.inj h)) h'))
theorem aw_iinc_9 {X : CT} {G : GT} {q : S_} {cc : ByteArray} {own : String} {nL d pc : Nat} {st : List Value} (C : Cx X G cc own nL d) {x0 x1 x2 x3 x4 x5 x6 x7 x8 : Option Value} {tl : List (Option Value)} {n : Int} {x v : Int32} (hd : decode cc pc = .ok (.iinc 9 n, 3)) (hn : 9 < nL) (hp : ∀ w, x8 = some w → w.category = 1) (hv : x + Int32.ofInt n = v) (k : AW X G q (pc + 3) (x0 :: x1 :: x2 :: x3 :: x4 :: x5 :: x6 :: x7 :: x8 :: some (.int v) :: tl) st) : AW X G q pc (x0 :: x1 :: x2 :: x3 :: x4 :: x5 :: x6 :: x7 :: x8 :: some (.int x) :: tl) st := by
  obtain ⟨p, l, e, R, s, m, args, below, meth, c, ce, sl, Q⟩ := X
  obtain ⟨hx, hb, hml, hown, hts, hK, hW, -, -, -, -⟩ := C
  intro H locs ls hP hS hl
  obtain ⟨w, hw⟩ := List.getElem?_of_mem (lvl_mem.mpr (show (x0 :: x1 :: x2 :: x3 :: x4 :: x5 :: x6 :: x7 :: x8 :: some (.int x) :: tl : List (Option Value))[9]? = some (some (.int x)) from rfl))
  exact lv_iinc hx hb hd (lvh_has hl) hw hv (by rw [hml]; exact hn) rfl (fun ls' h' => k H locs ls' hP hS (lvh_store1 (i := 9) (fun w _ h => hp w (Option.some.inj h)) h'))
theorem aw_iload_10 {X : CT} {G : GT} {q : S_} {cc : ByteArray} {own : String} {nL d pc : Nat} {st : List Value} (C : Cx X G cc own nL d) {x0 x1 x2 x3 x4 x5 x6 x7 x8 x9 : Option Value} {tl : List (Option Value)} {x : Int32} (hd : decode cc pc = .ok (.iload 10, 2)) (k : AW X G q (pc + 2) (x0 :: x1 :: x2 :: x3 :: x4 :: x5 :: x6 :: x7 :: x8 :: x9 :: some (.int x) :: tl) (.int x :: st)) : AW X G q pc (x0 :: x1 :: x2 :: x3 :: x4 :: x5 :: x6 :: x7 :: x8 :: x9 :: some (.int x) :: tl) st := by
  obtain ⟨p, l, e, R, s, m, args, below, meth, c, ce, sl, Q⟩ := X
  obtain ⟨hx, hb, hml, hown, hts, hK, hW, -, -, -, -⟩ := C
  intro H locs ls hP hS hl
  exact lv_iload hx hb hd (lvh_at hl (i := 10) rfl) (k H locs ls hP hS hl)
theorem aw_aload_10 {X : CT} {G : GT} {q : S_} {cc : ByteArray} {own : String} {nL d pc : Nat} {st : List Value} (C : Cx X G cc own nL d) {x0 x1 x2 x3 x4 x5 x6 x7 x8 x9 : Option Value} {tl : List (Option Value)} {x : Value} {a : Nat} (hd : decode cc pc = .ok (.aload 10, 2)) (hr : x = .ref a) (k : AW X G q (pc + 2) (x0 :: x1 :: x2 :: x3 :: x4 :: x5 :: x6 :: x7 :: x8 :: x9 :: some x :: tl) (x :: st)) : AW X G q pc (x0 :: x1 :: x2 :: x3 :: x4 :: x5 :: x6 :: x7 :: x8 :: x9 :: some x :: tl) st := by
  subst hr
  obtain ⟨p, l, e, R, s, m, args, below, meth, c, ce, sl, Q⟩ := X
  obtain ⟨hx, hb, hml, hown, hts, hK, hW, -, -, -, -⟩ := C
  intro H locs ls hP hS hl
  exact lv_aload hx hb hd (lvh_at hl (i := 10) rfl) (k H locs ls hP hS hl)
theorem aw_lload_10 {X : CT} {G : GT} {q : S_} {cc : ByteArray} {own : String} {nL d pc : Nat} {st : List Value} (C : Cx X G cc own nL d) {x0 x1 x2 x3 x4 x5 x6 x7 x8 x9 : Option Value} {tl : List (Option Value)} {x : Int64} (hd : decode cc pc = .ok (.lload 10, 2)) (k : AW X G q (pc + 2) (x0 :: x1 :: x2 :: x3 :: x4 :: x5 :: x6 :: x7 :: x8 :: x9 :: some (.long x) :: tl) (.long x :: st)) : AW X G q pc (x0 :: x1 :: x2 :: x3 :: x4 :: x5 :: x6 :: x7 :: x8 :: x9 :: some (.long x) :: tl) st := by
  obtain ⟨p, l, e, R, s, m, args, below, meth, c, ce, sl, Q⟩ := X
  obtain ⟨hx, hb, hml, hown, hts, hK, hW, -, -, -, -⟩ := C
  intro H locs ls hP hS hl
  exact lv_lload hx hb hd (lvh_at hl (i := 10) rfl) (k H locs ls hP hS hl)
theorem aw_istore_10 {X : CT} {G : GT} {q : S_} {cc : ByteArray} {own : String} {nL d pc : Nat} {st : List Value} (C : Cx X G cc own nL d) {x0 x1 x2 x3 x4 x5 x6 x7 x8 x9 : Option Value} {tl : List (Option Value)} {y : Option Value} {x : Int32} (hd : decode cc pc = .ok (.istore 10, 2)) (hn : 10 < nL) (hp : ∀ w, x9 = some w → w.category = 1) (k : AW X G q (pc + 2) (x0 :: x1 :: x2 :: x3 :: x4 :: x5 :: x6 :: x7 :: x8 :: x9 :: some (.int x) :: tl) st) : AW X G q pc (x0 :: x1 :: x2 :: x3 :: x4 :: x5 :: x6 :: x7 :: x8 :: x9 :: y :: tl) (.int x :: st) := by
  obtain ⟨p, l, e, R, s, m, args, below, meth, c, ce, sl, Q⟩ := X
  obtain ⟨hx, hb, hml, hown, hts, hK, hW, -, -, -, -⟩ := C
  intro H locs ls hP hS hl
  exact lv_istore hx hb hd (lvh_has hl) (by rw [hml]; exact hn) rfl (fun ls' h' => k H locs ls' hP hS (lvh_store1 (i := 10) (fun w _ h => hp w (Option.some.inj h)) h'))
theorem aw_astore_10 {X : CT} {G : GT} {q : S_} {cc : ByteArray} {own : String} {nL d pc : Nat} {st : List Value} (C : Cx X G cc own nL d) {x0 x1 x2 x3 x4 x5 x6 x7 x8 x9 : Option Value} {tl : List (Option Value)} {y : Option Value} {x : Value} {a : Nat} (hd : decode cc pc = .ok (.astore 10, 2)) (hn : 10 < nL) (hp : ∀ w, x9 = some w → w.category = 1) (hr : x = .ref a) (k : AW X G q (pc + 2) (x0 :: x1 :: x2 :: x3 :: x4 :: x5 :: x6 :: x7 :: x8 :: x9 :: some x :: tl) st) : AW X G q pc (x0 :: x1 :: x2 :: x3 :: x4 :: x5 :: x6 :: x7 :: x8 :: x9 :: y :: tl) (x :: st) := by
  subst hr
  obtain ⟨p, l, e, R, s, m, args, below, meth, c, ce, sl, Q⟩ := X
  obtain ⟨hx, hb, hml, hown, hts, hK, hW, -, -, -, -⟩ := C
  intro H locs ls hP hS hl
  exact lv_astore hx hb hd (lvh_has hl) (by rw [hml]; exact hn) rfl (fun ls' h' => k H locs ls' hP hS (lvh_store1 (i := 10) (fun w _ h => hp w (Option.some.inj h)) h'))
theorem aw_lstore_10 {X : CT} {G : GT} {q : S_} {cc : ByteArray} {own : String} {nL d pc : Nat} {st : List Value} (C : Cx X G cc own nL d) {x0 x1 x2 x3 x4 x5 x6 x7 x8 x9 : Option Value} {tl : List (Option Value)} {y y2 : Option Value} {x : Int64} (hd : decode cc pc = .ok (.lstore 10, 2)) (hn : 10 + 1 < nL) (hp : ∀ w, x9 = some w → w.category = 1) (k : AW X G q (pc + 2) (x0 :: x1 :: x2 :: x3 :: x4 :: x5 :: x6 :: x7 :: x8 :: x9 :: some (.long x) :: none :: tl) st) : AW X G q pc (x0 :: x1 :: x2 :: x3 :: x4 :: x5 :: x6 :: x7 :: x8 :: x9 :: y :: y2 :: tl) (.long x :: st) := by
  obtain ⟨p, l, e, R, s, m, args, below, meth, c, ce, sl, Q⟩ := X
  obtain ⟨hx, hb, hml, hown, hts, hK, hW, -, -, -, -⟩ := C
  intro H locs ls hP hS hl
  exact lv_lstore hx hb hd (lvh_has hl) (by rw [hml]; exact hn) rfl (fun ls' h' => k H locs ls' hP hS (lvh_store2 (i := 10) (fun w _ h => hp w (Option.some.inj h)) h'))
theorem aw_iinc_10 {X : CT} {G : GT} {q : S_} {cc : ByteArray} {own : String} {nL d pc : Nat} {st : List Value} (C : Cx X G cc own nL d) {x0 x1 x2 x3 x4 x5 x6 x7 x8 x9 : Option Value} {tl : List (Option Value)} {n : Int} {x v : Int32} (hd : decode cc pc = .ok (.iinc 10 n, 3)) (hn : 10 < nL) (hp : ∀ w, x9 = some w → w.category = 1) (hv : x + Int32.ofInt n = v) (k : AW X G q (pc + 3) (x0 :: x1 :: x2 :: x3 :: x4 :: x5 :: x6 :: x7 :: x8 :: x9 :: some (.int v) :: tl) st) : AW X G q pc (x0 :: x1 :: x2 :: x3 :: x4 :: x5 :: x6 :: x7 :: x8 :: x9 :: some (.int x) :: tl) st := by
  obtain ⟨p, l, e, R, s, m, args, below, meth, c, ce, sl, Q⟩ := X
  obtain ⟨hx, hb, hml, hown, hts, hK, hW, -, -, -, -⟩ := C
  intro H locs ls hP hS hl
  obtain ⟨w, hw⟩ := List.getElem?_of_mem (lvl_mem.mpr (show (x0 :: x1 :: x2 :: x3 :: x4 :: x5 :: x6 :: x7 :: x8 :: x9 :: some (.int x) :: tl : List (Option Value))[10]? = some (some (.int x)) from rfl))
  exact lv_iinc hx hb hd (lvh_has hl) hw hv (by rw [hml]; exact hn) rfl (fun ls' h' => k H locs ls' hP hS (lvh_store1 (i := 10) (fun w _ h => hp w (Option.some.inj h)) h'))
theorem aw_iload_11 {X : CT} {G : GT} {q : S_} {cc : ByteArray} {own : String} {nL d pc : Nat} {st : List Value} (C : Cx X G cc own nL d) {x0 x1 x2 x3 x4 x5 x6 x7 x8 x9 x10 : Option Value} {tl : List (Option Value)} {x : Int32} (hd : decode cc pc = .ok (.iload 11, 2)) (k : AW X G q (pc + 2) (x0 :: x1 :: x2 :: x3 :: x4 :: x5 :: x6 :: x7 :: x8 :: x9 :: x10 :: some (.int x) :: tl) (.int x :: st)) : AW X G q pc (x0 :: x1 :: x2 :: x3 :: x4 :: x5 :: x6 :: x7 :: x8 :: x9 :: x10 :: some (.int x) :: tl) st := by
  obtain ⟨p, l, e, R, s, m, args, below, meth, c, ce, sl, Q⟩ := X
  obtain ⟨hx, hb, hml, hown, hts, hK, hW, -, -, -, -⟩ := C
  intro H locs ls hP hS hl
  exact lv_iload hx hb hd (lvh_at hl (i := 11) rfl) (k H locs ls hP hS hl)
theorem aw_aload_11 {X : CT} {G : GT} {q : S_} {cc : ByteArray} {own : String} {nL d pc : Nat} {st : List Value} (C : Cx X G cc own nL d) {x0 x1 x2 x3 x4 x5 x6 x7 x8 x9 x10 : Option Value} {tl : List (Option Value)} {x : Value} {a : Nat} (hd : decode cc pc = .ok (.aload 11, 2)) (hr : x = .ref a) (k : AW X G q (pc + 2) (x0 :: x1 :: x2 :: x3 :: x4 :: x5 :: x6 :: x7 :: x8 :: x9 :: x10 :: some x :: tl) (x :: st)) : AW X G q pc (x0 :: x1 :: x2 :: x3 :: x4 :: x5 :: x6 :: x7 :: x8 :: x9 :: x10 :: some x :: tl) st := by
  subst hr
  obtain ⟨p, l, e, R, s, m, args, below, meth, c, ce, sl, Q⟩ := X
  obtain ⟨hx, hb, hml, hown, hts, hK, hW, -, -, -, -⟩ := C
  intro H locs ls hP hS hl
  exact lv_aload hx hb hd (lvh_at hl (i := 11) rfl) (k H locs ls hP hS hl)
theorem aw_lload_11 {X : CT} {G : GT} {q : S_} {cc : ByteArray} {own : String} {nL d pc : Nat} {st : List Value} (C : Cx X G cc own nL d) {x0 x1 x2 x3 x4 x5 x6 x7 x8 x9 x10 : Option Value} {tl : List (Option Value)} {x : Int64} (hd : decode cc pc = .ok (.lload 11, 2)) (k : AW X G q (pc + 2) (x0 :: x1 :: x2 :: x3 :: x4 :: x5 :: x6 :: x7 :: x8 :: x9 :: x10 :: some (.long x) :: tl) (.long x :: st)) : AW X G q pc (x0 :: x1 :: x2 :: x3 :: x4 :: x5 :: x6 :: x7 :: x8 :: x9 :: x10 :: some (.long x) :: tl) st := by
  obtain ⟨p, l, e, R, s, m, args, below, meth, c, ce, sl, Q⟩ := X
  obtain ⟨hx, hb, hml, hown, hts, hK, hW, -, -, -, -⟩ := C
  intro H locs ls hP hS hl
  exact lv_lload hx hb hd (lvh_at hl (i := 11) rfl) (k H locs ls hP hS hl)
theorem aw_istore_11 {X : CT} {G : GT} {q : S_} {cc : ByteArray} {own : String} {nL d pc : Nat} {st : List Value} (C : Cx X G cc own nL d) {x0 x1 x2 x3 x4 x5 x6 x7 x8 x9 x10 : Option Value} {tl : List (Option Value)} {y : Option Value} {x : Int32} (hd : decode cc pc = .ok (.istore 11, 2)) (hn : 11 < nL) (hp : ∀ w, x10 = some w → w.category = 1) (k : AW X G q (pc + 2) (x0 :: x1 :: x2 :: x3 :: x4 :: x5 :: x6 :: x7 :: x8 :: x9 :: x10 :: some (.int x) :: tl) st) : AW X G q pc (x0 :: x1 :: x2 :: x3 :: x4 :: x5 :: x6 :: x7 :: x8 :: x9 :: x10 :: y :: tl) (.int x :: st) := by
  obtain ⟨p, l, e, R, s, m, args, below, meth, c, ce, sl, Q⟩ := X
  obtain ⟨hx, hb, hml, hown, hts, hK, hW, -, -, -, -⟩ := C
  intro H locs ls hP hS hl
  exact lv_istore hx hb hd (lvh_has hl) (by rw [hml]; exact hn) rfl (fun ls' h' => k H locs ls' hP hS (lvh_store1 (i := 11) (fun w _ h => hp w (Option.some.inj h)) h'))
theorem aw_astore_11 {X : CT} {G : GT} {q : S_} {cc : ByteArray} {own : String} {nL d pc : Nat} {st : List Value} (C : Cx X G cc own nL d) {x0 x1 x2 x3 x4 x5 x6 x7 x8 x9 x10 : Option Value} {tl : List (Option Value)} {y : Option Value} {x : Value} {a : Nat} (hd : decode cc pc = .ok (.astore 11, 2)) (hn : 11 < nL) (hp : ∀ w, x10 = some w → w.category = 1) (hr : x = .ref a) (k : AW X G q (pc + 2) (x0 :: x1 :: x2 :: x3 :: x4 :: x5 :: x6 :: x7 :: x8 :: x9 :: x10 :: some x :: tl) st) : AW X G q pc (x0 :: x1 :: x2 :: x3 :: x4 :: x5 :: x6 :: x7 :: x8 :: x9 :: x10 :: y :: tl) (x :: st) := by
  subst hr
  obtain ⟨p, l, e, R, s, m, args, below, meth, c, ce, sl, Q⟩ := X
  obtain ⟨hx, hb, hml, hown, hts, hK, hW, -, -, -, -⟩ := C
  intro H locs ls hP hS hl
  exact lv_astore hx hb hd (lvh_has hl) (by rw [hml]; exact hn) rfl (fun ls' h' => k H locs ls' hP hS (lvh_store1 (i := 11) (fun w _ h => hp w (Option.some.inj h)) h'))
theorem aw_lstore_11 {X : CT} {G : GT} {q : S_} {cc : ByteArray} {own : String} {nL d pc : Nat} {st : List Value} (C : Cx X G cc own nL d) {x0 x1 x2 x3 x4 x5 x6 x7 x8 x9 x10 : Option Value} {tl : List (Option Value)} {y y2 : Option Value} {x : Int64} (hd : decode cc pc = .ok (.lstore 11, 2)) (hn : 11 + 1 < nL) (hp : ∀ w, x10 = some w → w.category = 1) (k : AW X G q (pc + 2) (x0 :: x1 :: x2 :: x3 :: x4 :: x5 :: x6 :: x7 :: x8 :: x9 :: x10 :: some (.long x) :: none :: tl) st) : AW X G q pc (x0 :: x1 :: x2 :: x3 :: x4 :: x5 :: x6 :: x7 :: x8 :: x9 :: x10 :: y :: y2 :: tl) (.long x :: st) := by
  obtain ⟨p, l, e, R, s, m, args, below, meth, c, ce, sl, Q⟩ := X
  obtain ⟨hx, hb, hml, hown, hts, hK, hW, -, -, -, -⟩ := C
  intro H locs ls hP hS hl
  exact lv_lstore hx hb hd (lvh_has hl) (by rw [hml]; exact hn) rfl (fun ls' h' => k H locs ls' hP hS (lvh_store2 (i := 11) (fun w _ h => hp w (Option.some.inj h)) h'))
theorem aw_iinc_11 {X : CT} {G : GT} {q : S_} {cc : ByteArray} {own : String} {nL d pc : Nat} {st : List Value} (C : Cx X G cc own nL d) {x0 x1 x2 x3 x4 x5 x6 x7 x8 x9 x10 : Option Value} {tl : List (Option Value)} {n : Int} {x v : Int32} (hd : decode cc pc = .ok (.iinc 11 n, 3)) (hn : 11 < nL) (hp : ∀ w, x10 = some w → w.category = 1) (hv : x + Int32.ofInt n = v) (k : AW X G q (pc + 3) (x0 :: x1 :: x2 :: x3 :: x4 :: x5 :: x6 :: x7 :: x8 :: x9 :: x10 :: some (.int v) :: tl) st) : AW X G q pc (x0 :: x1 :: x2 :: x3 :: x4 :: x5 :: x6 :: x7 :: x8 :: x9 :: x10 :: some (.int x) :: tl) st := by
  obtain ⟨p, l, e, R, s, m, args, below, meth, c, ce, sl, Q⟩ := X
  obtain ⟨hx, hb, hml, hown, hts, hK, hW, -, -, -, -⟩ := C
  intro H locs ls hP hS hl
  obtain ⟨w, hw⟩ := List.getElem?_of_mem (lvl_mem.mpr (show (x0 :: x1 :: x2 :: x3 :: x4 :: x5 :: x6 :: x7 :: x8 :: x9 :: x10 :: some (.int x) :: tl : List (Option Value))[11]? = some (some (.int x)) from rfl))
  exact lv_iinc hx hb hd (lvh_has hl) hw hv (by rw [hml]; exact hn) rfl (fun ls' h' => k H locs ls' hP hS (lvh_store1 (i := 11) (fun w _ h => hp w (Option.some.inj h)) h'))
theorem aw_iload_12 {X : CT} {G : GT} {q : S_} {cc : ByteArray} {own : String} {nL d pc : Nat} {st : List Value} (C : Cx X G cc own nL d) {x0 x1 x2 x3 x4 x5 x6 x7 x8 x9 x10 x11 : Option Value} {tl : List (Option Value)} {x : Int32} (hd : decode cc pc = .ok (.iload 12, 2)) (k : AW X G q (pc + 2) (x0 :: x1 :: x2 :: x3 :: x4 :: x5 :: x6 :: x7 :: x8 :: x9 :: x10 :: x11 :: some (.int x) :: tl) (.int x :: st)) : AW X G q pc (x0 :: x1 :: x2 :: x3 :: x4 :: x5 :: x6 :: x7 :: x8 :: x9 :: x10 :: x11 :: some (.int x) :: tl) st := by
  obtain ⟨p, l, e, R, s, m, args, below, meth, c, ce, sl, Q⟩ := X
  obtain ⟨hx, hb, hml, hown, hts, hK, hW, -, -, -, -⟩ := C
  intro H locs ls hP hS hl
  exact lv_iload hx hb hd (lvh_at hl (i := 12) rfl) (k H locs ls hP hS hl)
theorem aw_aload_12 {X : CT} {G : GT} {q : S_} {cc : ByteArray} {own : String} {nL d pc : Nat} {st : List Value} (C : Cx X G cc own nL d) {x0 x1 x2 x3 x4 x5 x6 x7 x8 x9 x10 x11 : Option Value} {tl : List (Option Value)} {x : Value} {a : Nat} (hd : decode cc pc = .ok (.aload 12, 2)) (hr : x = .ref a) (k : AW X G q (pc + 2) (x0 :: x1 :: x2 :: x3 :: x4 :: x5 :: x6 :: x7 :: x8 :: x9 :: x10 :: x11 :: some x :: tl) (x :: st)) : AW X G q pc (x0 :: x1 :: x2 :: x3 :: x4 :: x5 :: x6 :: x7 :: x8 :: x9 :: x10 :: x11 :: some x :: tl) st := by
  subst hr
  obtain ⟨p, l, e, R, s, m, args, below, meth, c, ce, sl, Q⟩ := X
  obtain ⟨hx, hb, hml, hown, hts, hK, hW, -, -, -, -⟩ := C
  intro H locs ls hP hS hl
  exact lv_aload hx hb hd (lvh_at hl (i := 12) rfl) (k H locs ls hP hS hl)
theorem aw_lload_12 {X : CT} {G : GT} {q : S_} {cc : ByteArray} {own : String} {nL d pc : Nat} {st : List Value} (C : Cx X G cc own nL d) {x0 x1 x2 x3 x4 x5 x6 x7 x8 x9 x10 x11 : Option Value} {tl : List (Option Value)} {x : Int64} (hd : decode cc pc = .ok (.lload 12, 2)) (k : AW X G q (pc + 2) (x0 :: x1 :: x2 :: x3 :: x4 :: x5 :: x6 :: x7 :: x8 :: x9 :: x10 :: x11 :: some (.long x) :: tl) (.long x :: st)) : AW X G q pc (x0 :: x1 :: x2 :: x3 :: x4 :: x5 :: x6 :: x7 :: x8 :: x9 :: x10 :: x11 :: some (.long x) :: tl) st := by
  obtain ⟨p, l, e, R, s, m, args, below, meth, c, ce, sl, Q⟩ := X
  obtain ⟨hx, hb, hml, hown, hts, hK, hW, -, -, -, -⟩ := C
  intro H locs ls hP hS hl
  exact lv_lload hx hb hd (lvh_at hl (i := 12) rfl) (k H locs ls hP hS hl)
theorem aw_istore_12 {X : CT} {G : GT} {q : S_} {cc : ByteArray} {own : String} {nL d pc : Nat} {st : List Value} (C : Cx X G cc own nL d) {x0 x1 x2 x3 x4 x5 x6 x7 x8 x9 x10 x11 : Option Value} {tl : List (Option Value)} {y : Option Value} {x : Int32} (hd : decode cc pc = .ok (.istore 12, 2)) (hn : 12 < nL) (hp : ∀ w, x11 = some w → w.category = 1) (k : AW X G q (pc + 2) (x0 :: x1 :: x2 :: x3 :: x4 :: x5 :: x6 :: x7 :: x8 :: x9 :: x10 :: x11 :: some (.int x) :: tl) st) : AW X G q pc (x0 :: x1 :: x2 :: x3 :: x4 :: x5 :: x6 :: x7 :: x8 :: x9 :: x10 :: x11 :: y :: tl) (.int x :: st) := by
  obtain ⟨p, l, e, R, s, m, args, below, meth, c, ce, sl, Q⟩ := X
  obtain ⟨hx, hb, hml, hown, hts, hK, hW, -, -, -, -⟩ := C
  intro H locs ls hP hS hl
  exact lv_istore hx hb hd (lvh_has hl) (by rw [hml]; exact hn) rfl (fun ls' h' => k H locs ls' hP hS (lvh_store1 (i := 12) (fun w _ h => hp w (Option.some.inj h)) h'))
theorem aw_astore_12 {X : CT} {G : GT} {q : S_} {cc : ByteArray} {own : String} {nL d pc : Nat} {st : List Value} (C : Cx X G cc own nL d) {x0 x1 x2 x3 x4 x5 x6 x7 x8 x9 x10 x11 : Option Value} {tl : List (Option Value)} {y : Option Value} {x : Value} {a : Nat} (hd : decode cc pc = .ok (.astore 12, 2)) (hn : 12 < nL) (hp : ∀ w, x11 = some w → w.category = 1) (hr : x = .ref a) (k : AW X G q (pc + 2) (x0 :: x1 :: x2 :: x3 :: x4 :: x5 :: x6 :: x7 :: x8 :: x9 :: x10 :: x11 :: some x :: tl) st) : AW X G q pc (x0 :: x1 :: x2 :: x3 :: x4 :: x5 :: x6 :: x7 :: x8 :: x9 :: x10 :: x11 :: y :: tl) (x :: st) := by
  subst hr
  obtain ⟨p, l, e, R, s, m, args, below, meth, c, ce, sl, Q⟩ := X
  obtain ⟨hx, hb, hml, hown, hts, hK, hW, -, -, -, -⟩ := C
  intro H locs ls hP hS hl
  exact lv_astore hx hb hd (lvh_has hl) (by rw [hml]; exact hn) rfl (fun ls' h' => k H locs ls' hP hS (lvh_store1 (i := 12) (fun w _ h => hp w (Option.some.inj h)) h'))
theorem aw_lstore_12 {X : CT} {G : GT} {q : S_} {cc : ByteArray} {own : String} {nL d pc : Nat} {st : List Value} (C : Cx X G cc own nL d) {x0 x1 x2 x3 x4 x5 x6 x7 x8 x9 x10 x11 : Option Value} {tl : List (Option Value)} {y y2 : Option Value} {x : Int64} (hd : decode cc pc = .ok (.lstore 12, 2)) (hn : 12 + 1 < nL) (hp : ∀ w, x11 = some w → w.category = 1) (k : AW X G q (pc + 2) (x0 :: x1 :: x2 :: x3 :: x4 :: x5 :: x6 :: x7 :: x8 :: x9 :: x10 :: x11 :: some (.long x) :: none :: tl) st) : AW X G q pc (x0 :: x1 :: x2 :: x3 :: x4 :: x5 :: x6 :: x7 :: x8 :: x9 :: x10 :: x11 :: y :: y2 :: tl) (.long x :: st) := by
  obtain ⟨p, l, e, R, s, m, args, below, meth, c, ce, sl, Q⟩ := X
  obtain ⟨hx, hb, hml, hown, hts, hK, hW, -, -, -, -⟩ := C
  intro H locs ls hP hS hl
  exact lv_lstore hx hb hd (lvh_has hl) (by rw [hml]; exact hn) rfl (fun ls' h' => k H locs ls' hP hS (lvh_store2 (i := 12) (fun w _ h => hp w (Option.some.inj h)) h'))
theorem aw_iinc_12 {X : CT} {G : GT} {q : S_} {cc : ByteArray} {own : String} {nL d pc : Nat} {st : List Value} (C : Cx X G cc own nL d) {x0 x1 x2 x3 x4 x5 x6 x7 x8 x9 x10 x11 : Option Value} {tl : List (Option Value)} {n : Int} {x v : Int32} (hd : decode cc pc = .ok (.iinc 12 n, 3)) (hn : 12 < nL) (hp : ∀ w, x11 = some w → w.category = 1) (hv : x + Int32.ofInt n = v) (k : AW X G q (pc + 3) (x0 :: x1 :: x2 :: x3 :: x4 :: x5 :: x6 :: x7 :: x8 :: x9 :: x10 :: x11 :: some (.int v) :: tl) st) : AW X G q pc (x0 :: x1 :: x2 :: x3 :: x4 :: x5 :: x6 :: x7 :: x8 :: x9 :: x10 :: x11 :: some (.int x) :: tl) st := by
  obtain ⟨p, l, e, R, s, m, args, below, meth, c, ce, sl, Q⟩ := X
  obtain ⟨hx, hb, hml, hown, hts, hK, hW, -, -, -, -⟩ := C
  intro H locs ls hP hS hl
  obtain ⟨w, hw⟩ := List.getElem?_of_mem (lvl_mem.mpr (show (x0 :: x1 :: x2 :: x3 :: x4 :: x5 :: x6 :: x7 :: x8 :: x9 :: x10 :: x11 :: some (.int x) :: tl : List (Option Value))[12]? = some (some (.int x)) from rfl))
  exact lv_iinc hx hb hd (lvh_has hl) hw hv (by rw [hml]; exact hn) rfl (fun ls' h' => k H locs ls' hP hS (lvh_store1 (i := 12) (fun w _ h => hp w (Option.some.inj h)) h'))
theorem aw_iload_13 {X : CT} {G : GT} {q : S_} {cc : ByteArray} {own : String} {nL d pc : Nat} {st : List Value} (C : Cx X G cc own nL d) {x0 x1 x2 x3 x4 x5 x6 x7 x8 x9 x10 x11 x12 : Option Value} {tl : List (Option Value)} {x : Int32} (hd : decode cc pc = .ok (.iload 13, 2)) (k : AW X G q (pc + 2) (x0 :: x1 :: x2 :: x3 :: x4 :: x5 :: x6 :: x7 :: x8 :: x9 :: x10 :: x11 :: x12 :: some (.int x) :: tl) (.int x :: st)) : AW X G q pc (x0 :: x1 :: x2 :: x3 :: x4 :: x5 :: x6 :: x7 :: x8 :: x9 :: x10 :: x11 :: x12 :: some (.int x) :: tl) st := by
  obtain ⟨p, l, e, R, s, m, args, below, meth, c, ce, sl, Q⟩ := X
  obtain ⟨hx, hb, hml, hown, hts, hK, hW, -, -, -, -⟩ := C
  intro H locs ls hP hS hl
  exact lv_iload hx hb hd (lvh_at hl (i := 13) rfl) (k H locs ls hP hS hl)
theorem aw_aload_13 {X : CT} {G : GT} {q : S_} {cc : ByteArray} {own : String} {nL d pc : Nat} {st : List Value} (C : Cx X G cc own nL d) {x0 x1 x2 x3 x4 x5 x6 x7 x8 x9 x10 x11 x12 : Option Value} {tl : List (Option Value)} {x : Value} {a : Nat} (hd : decode cc pc = .ok (.aload 13, 2)) (hr : x = .ref a) (k : AW X G q (pc + 2) (x0 :: x1 :: x2 :: x3 :: x4 :: x5 :: x6 :: x7 :: x8 :: x9 :: x10 :: x11 :: x12 :: some x :: tl) (x :: st)) : AW X G q pc (x0 :: x1 :: x2 :: x3 :: x4 :: x5 :: x6 :: x7 :: x8 :: x9 :: x10 :: x11 :: x12 :: some x :: tl) st := by
  subst hr
  obtain ⟨p, l, e, R, s, m, args, below, meth, c, ce, sl, Q⟩ := X
  obtain ⟨hx, hb, hml, hown, hts, hK, hW, -, -, -, -⟩ := C
  intro H locs ls hP hS hl
  exact lv_aload hx hb hd (lvh_at hl (i := 13) rfl) (k H locs ls hP hS hl)
theorem aw_lload_13 {X : CT} {G : GT} {q : S_} {cc : ByteArray} {own : String} {nL d pc : Nat} {st : List Value} (C : Cx X G cc own nL d) {x0 x1 x2 x3 x4 x5 x6 x7 x8 x9 x10 x11 x12 : Option Value} {tl : List (Option Value)} {x : Int64} (hd : decode cc pc = .ok (.lload 13, 2)) (k : AW X G q (pc + 2) (x0 :: x1 :: x2 :: x3 :: x4 :: x5 :: x6 :: x7 :: x8 :: x9 :: x10 :: x11 :: x12 :: some (.long x) :: tl) (.long x :: st)) : AW X G q pc (x0 :: x1 :: x2 :: x3 :: x4 :: x5 :: x6 :: x7 :: x8 :: x9 :: x10 :: x11 :: x12 :: some (.long x) :: tl) st := by
  obtain ⟨p, l, e, R, s, m, args, below, meth, c, ce, sl, Q⟩ := X
  obtain ⟨hx, hb, hml, hown, hts, hK, hW, -, -, -, -⟩ := C
  intro H locs ls hP hS hl
  exact lv_lload hx hb hd (lvh_at hl (i := 13) rfl) (k H locs ls hP hS hl)
theorem aw_istore_13 {X : CT} {G : GT} {q : S_} {cc : ByteArray} {own : String} {nL d pc : Nat} {st : List Value} (C : Cx X G cc own nL d) {x0 x1 x2 x3 x4 x5 x6 x7 x8 x9 x10 x11 x12 : Option Value} {tl : List (Option Value)} {y : Option Value} {x : Int32} (hd : decode cc pc = .ok (.istore 13, 2)) (hn : 13 < nL) (hp : ∀ w, x12 = some w → w.category = 1) (k : AW X G q (pc + 2) (x0 :: x1 :: x2 :: x3 :: x4 :: x5 :: x6 :: x7 :: x8 :: x9 :: x10 :: x11 :: x12 :: some (.int x) :: tl) st) : AW X G q pc (x0 :: x1 :: x2 :: x3 :: x4 :: x5 :: x6 :: x7 :: x8 :: x9 :: x10 :: x11 :: x12 :: y :: tl) (.int x :: st) := by
  obtain ⟨p, l, e, R, s, m, args, below, meth, c, ce, sl, Q⟩ := X
  obtain ⟨hx, hb, hml, hown, hts, hK, hW, -, -, -, -⟩ := C
  intro H locs ls hP hS hl
  exact lv_istore hx hb hd (lvh_has hl) (by rw [hml]; exact hn) rfl (fun ls' h' => k H locs ls' hP hS (lvh_store1 (i := 13) (fun w _ h => hp w (Option.some.inj h)) h'))
theorem aw_astore_13 {X : CT} {G : GT} {q : S_} {cc : ByteArray} {own : String} {nL d pc : Nat} {st : List Value} (C : Cx X G cc own nL d) {x0 x1 x2 x3 x4 x5 x6 x7 x8 x9 x10 x11 x12 : Option Value} {tl : List (Option Value)} {y : Option Value} {x : Value} {a : Nat} (hd : decode cc pc = .ok (.astore 13, 2)) (hn : 13 < nL) (hp : ∀ w, x12 = some w → w.category = 1) (hr : x = .ref a) (k : AW X G q (pc + 2) (x0 :: x1 :: x2 :: x3 :: x4 :: x5 :: x6 :: x7 :: x8 :: x9 :: x10 :: x11 :: x12 :: some x :: tl) st) : AW X G q pc (x0 :: x1 :: x2 :: x3 :: x4 :: x5 :: x6 :: x7 :: x8 :: x9 :: x10 :: x11 :: x12 :: y :: tl) (x :: st) := by
  subst hr
  obtain ⟨p, l, e, R, s, m, args, below, meth, c, ce, sl, Q⟩ := X
  obtain ⟨hx, hb, hml, hown, hts, hK, hW, -, -, -, -⟩ := C
  intro H locs ls hP hS hl
  exact lv_astore hx hb hd (lvh_has hl) (by rw [hml]; exact hn) rfl (fun ls' h' => k H locs ls' hP hS (lvh_store1 (i := 13) (fun w _ h => hp w (Option.some.inj h)) h'))
theorem aw_lstore_13 {X : CT} {G : GT} {q : S_} {cc : ByteArray} {own : String} {nL d pc : Nat} {st : List Value} (C : Cx X G cc own nL d) {x0 x1 x2 x3 x4 x5 x6 x7 x8 x9 x10 x11 x12 : Option Value} {tl : List (Option Value)} {y y2 : Option Value} {x : Int64} (hd : decode cc pc = .ok (.lstore 13, 2)) (hn : 13 + 1 < nL) (hp : ∀ w, x12 = some w → w.category = 1) (k : AW X G q (pc + 2) (x0 :: x1 :: x2 :: x3 :: x4 :: x5 :: x6 :: x7 :: x8 :: x9 :: x10 :: x11 :: x12 :: some (.long x) :: none :: tl) st) : AW X G q pc (x0 :: x1 :: x2 :: x3 :: x4 :: x5 :: x6 :: x7 :: x8 :: x9 :: x10 :: x11 :: x12 :: y :: y2 :: tl) (.long x :: st) := by
  obtain ⟨p, l, e, R, s, m, args, below, meth, c, ce, sl, Q⟩ := X
  obtain ⟨hx, hb, hml, hown, hts, hK, hW, -, -, -, -⟩ := C
  intro H locs ls hP hS hl
  exact lv_lstore hx hb hd (lvh_has hl) (by rw [hml]; exact hn) rfl (fun ls' h' => k H locs ls' hP hS (lvh_store2 (i := 13) (fun w _ h => hp w (Option.some.inj h)) h'))
theorem aw_iinc_13 {X : CT} {G : GT} {q : S_} {cc : ByteArray} {own : String} {nL d pc : Nat} {st : List Value} (C : Cx X G cc own nL d) {x0 x1 x2 x3 x4 x5 x6 x7 x8 x9 x10 x11 x12 : Option Value} {tl : List (Option Value)} {n : Int} {x v : Int32} (hd : decode cc pc = .ok (.iinc 13 n, 3)) (hn : 13 < nL) (hp : ∀ w, x12 = some w → w.category = 1) (hv : x + Int32.ofInt n = v) (k : AW X G q (pc + 3) (x0 :: x1 :: x2 :: x3 :: x4 :: x5 :: x6 :: x7 :: x8 :: x9 :: x10 :: x11 :: x12 :: some (.int v) :: tl) st) : AW X G q pc (x0 :: x1 :: x2 :: x3 :: x4 :: x5 :: x6 :: x7 :: x8 :: x9 :: x10 :: x11 :: x12 :: some (.int x) :: tl) st := by
  obtain ⟨p, l, e, R, s, m, args, below, meth, c, ce, sl, Q⟩ := X
  obtain ⟨hx, hb, hml, hown, hts, hK, hW, -, -, -, -⟩ := C
  intro H locs ls hP hS hl
  obtain ⟨w, hw⟩ := List.getElem?_of_mem (lvl_mem.mpr (show (x0 :: x1 :: x2 :: x3 :: x4 :: x5 :: x6 :: x7 :: x8 :: x9 :: x10 :: x11 :: x12 :: some (.int x) :: tl : List (Option Value))[13]? = some (some (.int x)) from rfl))
  exact lv_iinc hx hb hd (lvh_has hl) hw hv (by rw [hml]; exact hn) rfl (fun ls' h' => k H locs ls' hP hS (lvh_store1 (i := 13) (fun w _ h => hp w (Option.some.inj h)) h'))
theorem aw_iload_14 {X : CT} {G : GT} {q : S_} {cc : ByteArray} {own : String} {nL d pc : Nat} {st : List Value} (C : Cx X G cc own nL d) {x0 x1 x2 x3 x4 x5 x6 x7 x8 x9 x10 x11 x12 x13 : Option Value} {tl : List (Option Value)} {x : Int32} (hd : decode cc pc = .ok (.iload 14, 2)) (k : AW X G q (pc + 2) (x0 :: x1 :: x2 :: x3 :: x4 :: x5 :: x6 :: x7 :: x8 :: x9 :: x10 :: x11 :: x12 :: x13 :: some (.int x) :: tl) (.int x :: st)) : AW X G q pc (x0 :: x1 :: x2 :: x3 :: x4 :: x5 :: x6 :: x7 :: x8 :: x9 :: x10 :: x11 :: x12 :: x13 :: some (.int x) :: tl) st := by
  obtain ⟨p, l, e, R, s, m, args, below, meth, c, ce, sl, Q⟩ := X
  obtain ⟨hx, hb, hml, hown, hts, hK, hW, -, -, -, -⟩ := C
  intro H locs ls hP hS hl
  exact lv_iload hx hb hd (lvh_at hl (i := 14) rfl) (k H locs ls hP hS hl)
theorem aw_aload_14 {X : CT} {G : GT} {q : S_} {cc : ByteArray} {own : String} {nL d pc : Nat} {st : List Value} (C : Cx X G cc own nL d) {x0 x1 x2 x3 x4 x5 x6 x7 x8 x9 x10 x11 x12 x13 : Option Value} {tl : List (Option Value)} {x : Value} {a : Nat} (hd : decode cc pc = .ok (.aload 14, 2)) (hr : x = .ref a) (k : AW X G q (pc + 2) (x0 :: x1 :: x2 :: x3 :: x4 :: x5 :: x6 :: x7 :: x8 :: x9 :: x10 :: x11 :: x12 :: x13 :: some x :: tl) (x :: st)) : AW X G q pc (x0 :: x1 :: x2 :: x3 :: x4 :: x5 :: x6 :: x7 :: x8 :: x9 :: x10 :: x11 :: x12 :: x13 :: some x :: tl) st := by
  subst hr
  obtain ⟨p, l, e, R, s, m, args, below, meth, c, ce, sl, Q⟩ := X
  obtain ⟨hx, hb, hml, hown, hts, hK, hW, -, -, -, -⟩ := C
  intro H locs ls hP hS hl
  exact lv_aload hx hb hd (lvh_at hl (i := 14) rfl) (k H locs ls hP hS hl)
theorem aw_lload_14 {X : CT} {G : GT} {q : S_} {cc : ByteArray} {own : String} {nL d pc : Nat} {st : List Value} (C : Cx X G cc own nL d) {x0 x1 x2 x3 x4 x5 x6 x7 x8 x9 x10 x11 x12 x13 : Option Value} {tl : List (Option Value)} {x : Int64} (hd : decode cc pc = .ok (.lload 14, 2)) (k : AW X G q (pc + 2) (x0 :: x1 :: x2 :: x3 :: x4 :: x5 :: x6 :: x7 :: x8 :: x9 :: x10 :: x11 :: x12 :: x13 :: some (.long x) :: tl) (.long x :: st)) : AW X G q pc (x0 :: x1 :: x2 :: x3 :: x4 :: x5 :: x6 :: x7 :: x8 :: x9 :: x10 :: x11 :: x12 :: x13 :: some (.long x) :: tl) st := by
  obtain ⟨p, l, e, R, s, m, args, below, meth, c, ce, sl, Q⟩ := X
  obtain ⟨hx, hb, hml, hown, hts, hK, hW, -, -, -, -⟩ := C
  intro H locs ls hP hS hl
  exact lv_lload hx hb hd (lvh_at hl (i := 14) rfl) (k H locs ls hP hS hl)
theorem aw_istore_14 {X : CT} {G : GT} {q : S_} {cc : ByteArray} {own : String} {nL d pc : Nat} {st : List Value} (C : Cx X G cc own nL d) {x0 x1 x2 x3 x4 x5 x6 x7 x8 x9 x10 x11 x12 x13 : Option Value} {tl : List (Option Value)} {y : Option Value} {x : Int32} (hd : decode cc pc = .ok (.istore 14, 2)) (hn : 14 < nL) (hp : ∀ w, x13 = some w → w.category = 1) (k : AW X G q (pc + 2) (x0 :: x1 :: x2 :: x3 :: x4 :: x5 :: x6 :: x7 :: x8 :: x9 :: x10 :: x11 :: x12 :: x13 :: some (.int x) :: tl) st) : AW X G q pc (x0 :: x1 :: x2 :: x3 :: x4 :: x5 :: x6 :: x7 :: x8 :: x9 :: x10 :: x11 :: x12 :: x13 :: y :: tl) (.int x :: st) := by
  obtain ⟨p, l, e, R, s, m, args, below, meth, c, ce, sl, Q⟩ := X
  obtain ⟨hx, hb, hml, hown, hts, hK, hW, -, -, -, -⟩ := C
  intro H locs ls hP hS hl
  exact lv_istore hx hb hd (lvh_has hl) (by rw [hml]; exact hn) rfl (fun ls' h' => k H locs ls' hP hS (lvh_store1 (i := 14) (fun w _ h => hp w (Option.some.inj h)) h'))
theorem aw_astore_14 {X : CT} {G : GT} {q : S_} {cc : ByteArray} {own : String} {nL d pc : Nat} {st : List Value} (C : Cx X G cc own nL d) {x0 x1 x2 x3 x4 x5 x6 x7 x8 x9 x10 x11 x12 x13 : Option Value} {tl : List (Option Value)} {y : Option Value} {x : Value} {a : Nat} (hd : decode cc pc = .ok (.astore 14, 2)) (hn : 14 < nL) (hp : ∀ w, x13 = some w → w.category = 1) (hr : x = .ref a) (k : AW X G q (pc + 2) (x0 :: x1 :: x2 :: x3 :: x4 :: x5 :: x6 :: x7 :: x8 :: x9 :: x10 :: x11 :: x12 :: x13 :: some x :: tl) st) : AW X G q pc (x0 :: x1 :: x2 :: x3 :: x4 :: x5 :: x6 :: x7 :: x8 :: x9 :: x10 :: x11 :: x12 :: x13 :: y :: tl) (x :: st) := by
  subst hr
  obtain ⟨p, l, e, R, s, m, args, below, meth, c, ce, sl, Q⟩ := X
  obtain ⟨hx, hb, hml, hown, hts, hK, hW, -, -, -, -⟩ := C
  intro H locs ls hP hS hl
  exact lv_astore hx hb hd (lvh_has hl) (by rw [hml]; exact hn) rfl (fun ls' h' => k H locs ls' hP hS (lvh_store1 (i := 14) (fun w _ h => hp w (Option.some.inj h)) h'))
theorem aw_lstore_14 {X : CT} {G : GT} {q : S_} {cc : ByteArray} {own : String} {nL d pc : Nat} {st : List Value} (C : Cx X G cc own nL d) {x0 x1 x2 x3 x4 x5 x6 x7 x8 x9 x10 x11 x12 x13 : Option Value} {tl : List (Option Value)} {y y2 : Option Value} {x : Int64} (hd : decode cc pc = .ok (.lstore 14, 2)) (hn : 14 + 1 < nL) (hp : ∀ w, x13 = some w → w.category = 1) (k : AW X G q (pc + 2) (x0 :: x1 :: x2 :: x3 :: x4 :: x5 :: x6 :: x7 :: x8 :: x9 :: x10 :: x11 :: x12 :: x13 :: some (.long x) :: none :: tl) st) : AW X G q pc (x0 :: x1 :: x2 :: x3 :: x4 :: x5 :: x6 :: x7 :: x8 :: x9 :: x10 :: x11 :: x12 :: x13 :: y :: y2 :: tl) (.long x :: st) := by
  obtain ⟨p, l, e, R, s, m, args, below, meth, c, ce, sl, Q⟩ := X
  obtain ⟨hx, hb, hml, hown, hts, hK, hW, -, -, -, -⟩ := C
  intro H locs ls hP hS hl
  exact lv_lstore hx hb hd (lvh_has hl) (by rw [hml]; exact hn) rfl (fun ls' h' => k H locs ls' hP hS (lvh_store2 (i := 14) (fun w _ h => hp w (Option.some.inj h)) h'))
theorem aw_iinc_14 {X : CT} {G : GT} {q : S_} {cc : ByteArray} {own : String} {nL d pc : Nat} {st : List Value} (C : Cx X G cc own nL d) {x0 x1 x2 x3 x4 x5 x6 x7 x8 x9 x10 x11 x12 x13 : Option Value} {tl : List (Option Value)} {n : Int} {x v : Int32} (hd : decode cc pc = .ok (.iinc 14 n, 3)) (hn : 14 < nL) (hp : ∀ w, x13 = some w → w.category = 1) (hv : x + Int32.ofInt n = v) (k : AW X G q (pc + 3) (x0 :: x1 :: x2 :: x3 :: x4 :: x5 :: x6 :: x7 :: x8 :: x9 :: x10 :: x11 :: x12 :: x13 :: some (.int v) :: tl) st) : AW X G q pc (x0 :: x1 :: x2 :: x3 :: x4 :: x5 :: x6 :: x7 :: x8 :: x9 :: x10 :: x11 :: x12 :: x13 :: some (.int x) :: tl) st := by
  obtain ⟨p, l, e, R, s, m, args, below, meth, c, ce, sl, Q⟩ := X
  obtain ⟨hx, hb, hml, hown, hts, hK, hW, -, -, -, -⟩ := C
  intro H locs ls hP hS hl
  obtain ⟨w, hw⟩ := List.getElem?_of_mem (lvl_mem.mpr (show (x0 :: x1 :: x2 :: x3 :: x4 :: x5 :: x6 :: x7 :: x8 :: x9 :: x10 :: x11 :: x12 :: x13 :: some (.int x) :: tl : List (Option Value))[14]? = some (some (.int x)) from rfl))
  exact lv_iinc hx hb hd (lvh_has hl) hw hv (by rw [hml]; exact hn) rfl (fun ls' h' => k H locs ls' hP hS (lvh_store1 (i := 14) (fun w _ h => hp w (Option.some.inj h)) h'))
theorem aw_iload_15 {X : CT} {G : GT} {q : S_} {cc : ByteArray} {own : String} {nL d pc : Nat} {st : List Value} (C : Cx X G cc own nL d) {x0 x1 x2 x3 x4 x5 x6 x7 x8 x9 x10 x11 x12 x13 x14 : Option Value} {tl : List (Option Value)} {x : Int32} (hd : decode cc pc = .ok (.iload 15, 2)) (k : AW X G q (pc + 2) (x0 :: x1 :: x2 :: x3 :: x4 :: x5 :: x6 :: x7 :: x8 :: x9 :: x10 :: x11 :: x12 :: x13 :: x14 :: some (.int x) :: tl) (.int x :: st)) : AW X G q pc (x0 :: x1 :: x2 :: x3 :: x4 :: x5 :: x6 :: x7 :: x8 :: x9 :: x10 :: x11 :: x12 :: x13 :: x14 :: some (.int x) :: tl) st := by
  obtain ⟨p, l, e, R, s, m, args, below, meth, c, ce, sl, Q⟩ := X
  obtain ⟨hx, hb, hml, hown, hts, hK, hW, -, -, -, -⟩ := C
  intro H locs ls hP hS hl
  exact lv_iload hx hb hd (lvh_at hl (i := 15) rfl) (k H locs ls hP hS hl)
theorem aw_aload_15 {X : CT} {G : GT} {q : S_} {cc : ByteArray} {own : String} {nL d pc : Nat} {st : List Value} (C : Cx X G cc own nL d) {x0 x1 x2 x3 x4 x5 x6 x7 x8 x9 x10 x11 x12 x13 x14 : Option Value} {tl : List (Option Value)} {x : Value} {a : Nat} (hd : decode cc pc = .ok (.aload 15, 2)) (hr : x = .ref a) (k : AW X G q (pc + 2) (x0 :: x1 :: x2 :: x3 :: x4 :: x5 :: x6 :: x7 :: x8 :: x9 :: x10 :: x11 :: x12 :: x13 :: x14 :: some x :: tl) (x :: st)) : AW X G q pc (x0 :: x1 :: x2 :: x3 :: x4 :: x5 :: x6 :: x7 :: x8 :: x9 :: x10 :: x11 :: x12 :: x13 :: x14 :: some x :: tl) st := by
  subst hr
  obtain ⟨p, l, e, R, s, m, args, below, meth, c, ce, sl, Q⟩ := X
  obtain ⟨hx, hb, hml, hown, hts, hK, hW, -, -, -, -⟩ := C
  intro H locs ls hP hS hl
  exact lv_aload hx hb hd (lvh_at hl (i := 15) rfl) (k H locs ls hP hS hl)
theorem aw_lload_15 {X : CT} {G : GT} {q : S_} {cc : ByteArray} {own : String} {nL d pc : Nat} {st : List Value} (C : Cx X G cc own nL d) {x0 x1 x2 x3 x4 x5 x6 x7 x8 x9 x10 x11 x12 x13 x14 : Option Value} {tl : List (Option Value)} {x : Int64} (hd : decode cc pc = .ok (.lload 15, 2)) (k : AW X G q (pc + 2) (x0 :: x1 :: x2 :: x3 :: x4 :: x5 :: x6 :: x7 :: x8 :: x9 :: x10 :: x11 :: x12 :: x13 :: x14 :: some (.long x) :: tl) (.long x :: st)) : AW X G q pc (x0 :: x1 :: x2 :: x3 :: x4 :: x5 :: x6 :: x7 :: x8 :: x9 :: x10 :: x11 :: x12 :: x13 :: x14 :: some (.long x) :: tl) st := by
  obtain ⟨p, l, e, R, s, m, args, below, meth, c, ce, sl, Q⟩ := X
  obtain ⟨hx, hb, hml, hown, hts, hK, hW, -, -, -, -⟩ := C
  intro H locs ls hP hS hl
  exact lv_lload hx hb hd (lvh_at hl (i := 15) rfl) (k H locs ls hP hS hl)
theorem aw_istore_15 {X : CT} {G : GT} {q : S_} {cc : ByteArray} {own : String} {nL d pc : Nat} {st : List Value} (C : Cx X G cc own nL d) {x0 x1 x2 x3 x4 x5 x6 x7 x8 x9 x10 x11 x12 x13 x14 : Option Value} {tl : List (Option Value)} {y : Option Value} {x : Int32} (hd : decode cc pc = .ok (.istore 15, 2)) (hn : 15 < nL) (hp : ∀ w, x14 = some w → w.category = 1) (k : AW X G q (pc + 2) (x0 :: x1 :: x2 :: x3 :: x4 :: x5 :: x6 :: x7 :: x8 :: x9 :: x10 :: x11 :: x12 :: x13 :: x14 :: some (.int x) :: tl) st) : AW X G q pc (x0 :: x1 :: x2 :: x3 :: x4 :: x5 :: x6 :: x7 :: x8 :: x9 :: x10 :: x11 :: x12 :: x13 :: x14 :: y :: tl) (.int x :: st) := by
  obtain ⟨p, l, e, R, s, m, args, below, meth, c, ce, sl, Q⟩ := X
  obtain ⟨hx, hb, hml, hown, hts, hK, hW, -, -, -, -⟩ := C
  intro H locs ls hP hS hl
  exact lv_istore hx hb hd (lvh_has hl) (by rw [hml]; exact hn) rfl (fun ls' h' => k H locs ls' hP hS (lvh_store1 (i := 15) (fun w _ h => hp w (Option.some.inj h)) h'))
theorem aw_astore_15 {X : CT} {G : GT} {q : S_} {cc : ByteArray} {own : String} {nL d pc : Nat} {st : List Value} (C : Cx X G cc own nL d) {x0 x1 x2 x3 x4 x5 x6 x7 x8 x9 x10 x11 x12 x13 x14 : Option Value} {tl : List (Option Value)} {y : Option Value} {x : Value} {a : Nat} (hd : decode cc pc = .ok (.astore 15, 2)) (hn : 15 < nL) (hp : ∀ w, x14 = some w → w.category = 1) (hr : x = .ref a) (k : AW X G q (pc + 2) (x0 :: x1 :: x2 :: x3 :: x4 :: x5 :: x6 :: x7 :: x8 :: x9 :: x10 :: x11 :: x12 :: x13 :: x14 :: some x :: tl) st) : AW X G q pc (x0 :: x1 :: x2 :: x3 :: x4 :: x5 :: x6 :: x7 :: x8 :: x9 :: x10 :: x11 :: x12 :: x13 :: x14 :: y :: tl) (x :: st) := by
  subst hr
  obtain ⟨p, l, e, R, s, m, args, below, meth, c, ce, sl, Q⟩ := X
  obtain ⟨hx, hb, hml, hown, hts, hK, hW, -, -, -, -⟩ := C
  intro H locs ls hP hS hl
  exact lv_astore hx hb hd (lvh_has hl) (by rw [hml]; exact hn) rfl (fun ls' h' => k H locs ls' hP hS (lvh_store1 (i := 15) (fun w _ h => hp w (Option.some.inj h)) h'))
theorem aw_lstore_15 {X : CT} {G : GT} {q : S_} {cc : ByteArray} {own : String} {nL d pc : Nat} {st : List Value} (C : Cx X G cc own nL d) {x0 x1 x2 x3 x4 x5 x6 x7 x8 x9 x10 x11 x12 x13 x14 : Option Value} {tl : List (Option Value)} {y y2 : Option Value} {x : Int64} (hd : decode cc pc = .ok (.lstore 15, 2)) (hn : 15 + 1 < nL) (hp : ∀ w, x14 = some w → w.category = 1) (k : AW X G q (pc + 2) (x0 :: x1 :: x2 :: x3 :: x4 :: x5 :: x6 :: x7 :: x8 :: x9 :: x10 :: x11 :: x12 :: x13 :: x14 :: some (.long x) :: none :: tl) st) : AW X G q pc (x0 :: x1 :: x2 :: x3 :: x4 :: x5 :: x6 :: x7 :: x8 :: x9 :: x10 :: x11 :: x12 :: x13 :: x14 :: y :: y2 :: tl) (.long x :: st) := by
  obtain ⟨p, l, e, R, s, m, args, below, meth, c, ce, sl, Q⟩ := X
  obtain ⟨hx, hb, hml, hown, hts, hK, hW, -, -, -, -⟩ := C
  intro H locs ls hP hS hl
  exact lv_lstore hx hb hd (lvh_has hl) (by rw [hml]; exact hn) rfl (fun ls' h' => k H locs ls' hP hS (lvh_store2 (i := 15) (fun w _ h => hp w (Option.some.inj h)) h'))
theorem aw_iinc_15 {X : CT} {G : GT} {q : S_} {cc : ByteArray} {own : String} {nL d pc : Nat} {st : List Value} (C : Cx X G cc own nL d) {x0 x1 x2 x3 x4 x5 x6 x7 x8 x9 x10 x11 x12 x13 x14 : Option Value} {tl : List (Option Value)} {n : Int} {x v : Int32} (hd : decode cc pc = .ok (.iinc 15 n, 3)) (hn : 15 < nL) (hp : ∀ w, x14 = some w → w.category = 1) (hv : x + Int32.ofInt n = v) (k : AW X G q (pc + 3) (x0 :: x1 :: x2 :: x3 :: x4 :: x5 :: x6 :: x7 :: x8 :: x9 :: x10 :: x11 :: x12 :: x13 :: x14 :: some (.int v) :: tl) st) : AW X G q pc (x0 :: x1 :: x2 :: x3 :: x4 :: x5 :: x6 :: x7 :: x8 :: x9 :: x10 :: x11 :: x12 :: x13 :: x14 :: some (.int x) :: tl) st := by
  obtain ⟨p, l, e, R, s, m, args, below, meth, c, ce, sl, Q⟩ := X
  obtain ⟨hx, hb, hml, hown, hts, hK, hW, -, -, -, -⟩ := C
  intro H locs ls hP hS hl
  obtain ⟨w, hw⟩ := List.getElem?_of_mem (lvl_mem.mpr (show (x0 :: x1 :: x2 :: x3 :: x4 :: x5 :: x6 :: x7 :: x8 :: x9 :: x10 :: x11 :: x12 :: x13 :: x14 :: some (.int x) :: tl : List (Option Value))[15]? = some (some (.int x)) from rfl))
  exact lv_iinc hx hb hd (lvh_has hl) hw hv (by rw [hml]; exact hn) rfl (fun ls' h' => k H locs ls' hP hS (lvh_store1 (i := 15) (fun w _ h => hp w (Option.some.inj h)) h'))
theorem aw_iload_16 {X : CT} {G : GT} {q : S_} {cc : ByteArray} {own : String} {nL d pc : Nat} {st : List Value} (C : Cx X G cc own nL d) {x0 x1 x2 x3 x4 x5 x6 x7 x8 x9 x10 x11 x12 x13 x14 x15 : Option Value} {tl : List (Option Value)} {x : Int32} (hd : decode cc pc = .ok (.iload 16, 2)) (k : AW X G q (pc + 2) (x0 :: x1 :: x2 :: x3 :: x4 :: x5 :: x6 :: x7 :: x8 :: x9 :: x10 :: x11 :: x12 :: x13 :: x14 :: x15 :: some (.int x) :: tl) (.int x :: st)) : AW X G q pc (x0 :: x1 :: x2 :: x3 :: x4 :: x5 :: x6 :: x7 :: x8 :: x9 :: x10 :: x11 :: x12 :: x13 :: x14 :: x15 :: some (.int x) :: tl) st := by
  obtain ⟨p, l, e, R, s, m, args, below, meth, c, ce, sl, Q⟩ := X
  obtain ⟨hx, hb, hml, hown, hts, hK, hW, -, -, -, -⟩ := C
  intro H locs ls hP hS hl
  exact lv_iload hx hb hd (lvh_at hl (i := 16) rfl) (k H locs ls hP hS hl)
theorem aw_aload_16 {X : CT} {G : GT} {q : S_} {cc : ByteArray} {own : String} {nL d pc : Nat} {st : List Value} (C : Cx X G cc own nL d) {x0 x1 x2 x3 x4 x5 x6 x7 x8 x9 x10 x11 x12 x13 x14 x15 : Option Value} {tl : List (Option Value)} {x : Value} {a : Nat} (hd : decode cc pc = .ok (.aload 16, 2)) (hr : x = .ref a) (k : AW X G q (pc + 2) (x0 :: x1 :: x2 :: x3 :: x4 :: x5 :: x6 :: x7 :: x8 :: x9 :: x10 :: x11 :: x12 :: x13 :: x14 :: x15 :: some x :: tl) (x :: st)) : AW X G q pc (x0 :: x1 :: x2 :: x3 :: x4 :: x5 :: x6 :: x7 :: x8 :: x9 :: x10 :: x11 :: x12 :: x13 :: x14 :: x15 :: some x :: tl) st := by
  subst hr
  obtain ⟨p, l, e, R, s, m, args, below, meth, c, ce, sl, Q⟩ := X
  obtain ⟨hx, hb, hml, hown, hts, hK, hW, -, -, -, -⟩ := C
  intro H locs ls hP hS hl
  exact lv_aload hx hb hd (lvh_at hl (i := 16) rfl) (k H locs ls hP hS hl)
theorem aw_lload_16 {X : CT} {G : GT} {q : S_} {cc : ByteArray} {own : String} {nL d pc : Nat} {st : List Value} (C : Cx X G cc own nL d) {x0 x1 x2 x3 x4 x5 x6 x7 x8 x9 x10 x11 x12 x13 x14 x15 : Option Value} {tl : List (Option Value)} {x : Int64} (hd : decode cc pc = .ok (.lload 16, 2)) (k : AW X G q (pc + 2) (x0 :: x1 :: x2 :: x3 :: x4 :: x5 :: x6 :: x7 :: x8 :: x9 :: x10 :: x11 :: x12 :: x13 :: x14 :: x15 :: some (.long x) :: tl) (.long x :: st)) : AW X G q pc (x0 :: x1 :: x2 :: x3 :: x4 :: x5 :: x6 :: x7 :: x8 :: x9 :: x10 :: x11 :: x12 :: x13 :: x14 :: x15 :: some (.long x) :: tl) st := by
  obtain ⟨p, l, e, R, s, m, args, below, meth, c, ce, sl, Q⟩ := X
  obtain ⟨hx, hb, hml, hown, hts, hK, hW, -, -, -, -⟩ := C
  intro H locs ls hP hS hl
  exact lv_lload hx hb hd (lvh_at hl (i := 16) rfl) (k H locs ls hP hS hl)
theorem aw_istore_16 {X : CT} {G : GT} {q : S_} {cc : ByteArray} {own : String} {nL d pc : Nat} {st : List Value} (C : Cx X G cc own nL d) {x0 x1 x2 x3 x4 x5 x6 x7 x8 x9 x10 x11 x12 x13 x14 x15 : Option Value} {tl : List (Option Value)} {y : Option Value} {x : Int32} (hd : decode cc pc = .ok (.istore 16, 2)) (hn : 16 < nL) (hp : ∀ w, x15 = some w → w.category = 1) (k : AW X G q (pc + 2) (x0 :: x1 :: x2 :: x3 :: x4 :: x5 :: x6 :: x7 :: x8 :: x9 :: x10 :: x11 :: x12 :: x13 :: x14 :: x15 :: some (.int x) :: tl) st) : AW X G q pc (x0 :: x1 :: x2 :: x3 :: x4 :: x5 :: x6 :: x7 :: x8 :: x9 :: x10 :: x11 :: x12 :: x13 :: x14 :: x15 :: y :: tl) (.int x :: st) := by
  obtain ⟨p, l, e, R, s, m, args, below, meth, c, ce, sl, Q⟩ := X
  obtain ⟨hx, hb, hml, hown, hts, hK, hW, -, -, -, -⟩ := C
  intro H locs ls hP hS hl
  exact lv_istore hx hb hd (lvh_has hl) (by rw [hml]; exact hn) rfl (fun ls' h' => k H locs ls' hP hS (lvh_store1 (i := 16) (fun w _ h => hp w (Option.some.inj h)) h'))
theorem aw_astore_16 {X : CT} {G : GT} {q : S_} {cc : ByteArray} {own : String} {nL d pc : Nat} {st : List Value} (C : Cx X G cc own nL d) {x0 x1 x2 x3 x4 x5 x6 x7 x8 x9 x10 x11 x12 x13 x14 x15 : Option Value} {tl : List (Option Value)} {y : Option Value} {x : Value} {a : Nat} (hd : decode cc pc = .ok (.astore 16, 2)) (hn : 16 < nL) (hp : ∀ w, x15 = some w → w.category = 1) (hr : x = .ref a) (k : AW X G q (pc + 2) (x0 :: x1 :: x2 :: x3 :: x4 :: x5 :: x6 :: x7 :: x8 :: x9 :: x10 :: x11 :: x12 :: x13 :: x14 :: x15 :: some x :: tl) st) : AW X G q pc (x0 :: x1 :: x2 :: x3 :: x4 :: x5 :: x6 :: x7 :: x8 :: x9 :: x10 :: x11 :: x12 :: x13 :: x14 :: x15 :: y :: tl) (x :: st) := by
  subst hr
  obtain ⟨p, l, e, R, s, m, args, below, meth, c, ce, sl, Q⟩ := X
  obtain ⟨hx, hb, hml, hown, hts, hK, hW, -, -, -, -⟩ := C
  intro H locs ls hP hS hl
  exact lv_astore hx hb hd (lvh_has hl) (by rw [hml]; exact hn) rfl (fun ls' h' => k H locs ls' hP hS (lvh_store1 (i := 16) (fun w _ h => hp w (Option.some.inj h)) h'))
theorem aw_lstore_16 {X : CT} {G : GT} {q : S_} {cc : ByteArray} {own : String} {nL d pc : Nat} {st : List Value} (C : Cx X G cc own nL d) {x0 x1 x2 x3 x4 x5 x6 x7 x8 x9 x10 x11 x12 x13 x14 x15 : Option Value} {tl : List (Option Value)} {y y2 : Option Value} {x : Int64} (hd : decode cc pc = .ok (.lstore 16, 2)) (hn : 16 + 1 < nL) (hp : ∀ w, x15 = some w → w.category = 1) (k : AW X G q (pc + 2) (x0 :: x1 :: x2 :: x3 :: x4 :: x5 :: x6 :: x7 :: x8 :: x9 :: x10 :: x11 :: x12 :: x13 :: x14 :: x15 :: some (.long x) :: none :: tl) st) : AW X G q pc (x0 :: x1 :: x2 :: x3 :: x4 :: x5 :: x6 :: x7 :: x8 :: x9 :: x10 :: x11 :: x12 :: x13 :: x14 :: x15 :: y :: y2 :: tl) (.long x :: st) := by
  obtain ⟨p, l, e, R, s, m, args, below, meth, c, ce, sl, Q⟩ := X
  obtain ⟨hx, hb, hml, hown, hts, hK, hW, -, -, -, -⟩ := C
  intro H locs ls hP hS hl
  exact lv_lstore hx hb hd (lvh_has hl) (by rw [hml]; exact hn) rfl (fun ls' h' => k H locs ls' hP hS (lvh_store2 (i := 16) (fun w _ h => hp w (Option.some.inj h)) h'))
theorem aw_iinc_16 {X : CT} {G : GT} {q : S_} {cc : ByteArray} {own : String} {nL d pc : Nat} {st : List Value} (C : Cx X G cc own nL d) {x0 x1 x2 x3 x4 x5 x6 x7 x8 x9 x10 x11 x12 x13 x14 x15 : Option Value} {tl : List (Option Value)} {n : Int} {x v : Int32} (hd : decode cc pc = .ok (.iinc 16 n, 3)) (hn : 16 < nL) (hp : ∀ w, x15 = some w → w.category = 1) (hv : x + Int32.ofInt n = v) (k : AW X G q (pc + 3) (x0 :: x1 :: x2 :: x3 :: x4 :: x5 :: x6 :: x7 :: x8 :: x9 :: x10 :: x11 :: x12 :: x13 :: x14 :: x15 :: some (.int v) :: tl) st) : AW X G q pc (x0 :: x1 :: x2 :: x3 :: x4 :: x5 :: x6 :: x7 :: x8 :: x9 :: x10 :: x11 :: x12 :: x13 :: x14 :: x15 :: some (.int x) :: tl) st := by
  obtain ⟨p, l, e, R, s, m, args, below, meth, c, ce, sl, Q⟩ := X
  obtain ⟨hx, hb, hml, hown, hts, hK, hW, -, -, -, -⟩ := C
  intro H locs ls hP hS hl
  obtain ⟨w, hw⟩ := List.getElem?_of_mem (lvl_mem.mpr (show (x0 :: x1 :: x2 :: x3 :: x4 :: x5 :: x6 :: x7 :: x8 :: x9 :: x10 :: x11 :: x12 :: x13 :: x14 :: x15 :: some (.int x) :: tl : List (Option Value))[16]? = some (some (.int x)) from rfl))
  exact lv_iinc hx hb hd (lvh_has hl) hw hv (by rw [hml]; exact hn) rfl (fun ls' h' => k H locs ls' hP hS (lvh_store1 (i := 16) (fun w _ h => hp w (Option.some.inj h)) h'))
