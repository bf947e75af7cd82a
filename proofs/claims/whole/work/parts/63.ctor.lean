/-! THE CONSTRUCTORS: the first n cells, as E says -/
def kpw (G : GT) (E : Nat → va_E) (n : Nat) : va_W := (List.range n).map fun k => (G.2.2.1 + k, E k)
def kov (E : Nat → va_E) (k : Nat) (v : va_E) : Nat → va_E := fun a => if a = k then v else E a
theorem kov_eq {E : Nat → va_E} {k : Nat} {v : va_E} : kov E k v k = v := if_pos rfl
theorem kov_ne {E : Nat → va_E} {k a : Nat} {v : va_E} (h : a ≠ k) : kov E k v a = E a := if_neg h
theorem kov_self {E : Nat → va_E} {k : Nat} {v : va_E} (h : E k = v) : kov E k v = E := by
  funext a
  unfold kov
  by_cases e : a = k
  · rw [if_pos e, e, h]
  · rw [if_neg e]
theorem kov_com {E : Nat → va_E} {k j : Nat} {v w : va_E} (h : k ≠ j) : kov (kov E k v) j w = kov (kov E j w) k v := by
  funext a
  unfold kov
  by_cases e : a = j
  · have e2 : ¬ a = k := fun z => h (z.symm.trans e)
    simp only [if_pos e, if_neg e2]
  · simp only [if_neg e]
theorem kov_kov {E : Nat → va_E} {k : Nat} {v w : va_E} : kov (kov E k v) k w = kov E k w := by
  funext a
  unfold kov
  by_cases e : a = k
  · simp only [if_pos e]
  · simp only [if_neg e]
theorem kpw_get {G : GT} {E : Nat → va_E} {n k : Nat} (h : k < n) : (kpw G E n)[k]? = some (G.2.2.1 + k, E k) := by
  simp [kpw, h]
theorem kpw_out {G : GT} {E : Nat → va_E} {n k : Nat} {x : Nat × va_E} (h : (kpw G E n)[k]? = some x) : k < n ∧ x = (G.2.2.1 + k, E k) := by
  rcases Nat.lt_or_ge k n with l | l
  · rw [kpw_get l] at h
    exact ⟨l, (Option.some.inj h).symm⟩
  · rw [kpw, List.getElem?_eq_none (by simpa using l)] at h
    cases h
theorem kpw_D (G : GT) (E : Nat → va_E) (n : Nat) : va_D (fun a => G.2.2.1 ≤ a) (kpw G E n) := by
  refine ⟨fun i j p r hi hj h => ?_, fun k p hk => ?_⟩
  · obtain ⟨-, rfl⟩ := kpw_out hi
    obtain ⟨-, rfl⟩ := kpw_out hj
    simpa using h
  · obtain ⟨-, rfl⟩ := kpw_out hk
    exact Nat.le_add_right _ _
theorem kpw_set {G : GT} {E : Nat → va_E} {n k : Nat} {e : va_E} : (kpw G E n).set k (G.2.2.1 + k, e) = kpw G (kov E k e) n := by
  apply List.ext_getElem?
  intro i
  rw [List.getElem?_set]
  by_cases h : k = i
  · subst h
    rw [if_pos rfl]
    by_cases hk : k < n
    · rw [if_pos (by simpa [kpw] using hk), kpw_get hk, kov_eq]
    · rw [if_neg (by simpa [kpw] using hk), kpw, List.getElem?_eq_none (by simpa using hk)]
  · rw [if_neg h]
    by_cases hk : i < n
    · rw [kpw_get hk, kpw_get hk, kov_ne (fun z => h z.symm)]
    · rw [kpw, kpw, List.getElem?_eq_none (by simpa using hk), List.getElem?_eq_none (by simpa using hk)]
theorem kpw_congr {G : GT} {E E' : Nat → va_E} {n : Nat} (h : ∀ k, k < n → E k = E' k) : kpw G E n = kpw G E' n := by
  unfold kpw
  exact List.map_congr_left (fun k hk => by rw [h k (List.mem_range.mp hk)])
theorem kpw_push {G : GT} {E : Nat → va_E} {n : Nat} {v : va_E} {H H1 : Heap} (hP : va_P G.1 vwCl (kpw G E n) H) (ho : ∀ q : Nat, q < H.size → H1[q]? = H[q]?) (hv : va_at G.1 vwCl (G.2.2.1 + n, v) H1) : va_P G.1 vwCl (kpw G (kov E n v) (n + 1)) H1 := by
  intro i x hx
  obtain ⟨hi, rfl⟩ := kpw_out hx
  by_cases e : i = n
  · subst e
    rw [kov_eq]
    exact hv
  · rw [kov_ne e]
    have h := hP i _ (kpw_get (by omega))
    exact h.kept (ho _ h.lt)
/-- what holds of nest mates and of arrays of objects -/
def KN (U : State) : Prop := (va_Nw (.methodLinkNest RX7 42 yX2_init RX8) U ∧ va_Nw (.methodLinkNest RX8 26 yX6_init RX8) U ∧ va_Nw (.methodLinkNest RX8 33 yX5_init RX8) U ∧ va_Nw (.methodLinkNest RX8 52 yX0_init RX8) U ∧ va_Nw (.methodLinkNest RX8 57 yX1_init RX8) U ∧ va_Nw (.methodLinkNest RX8 58 yX4_init RX8) U) ∧ va_AO RX2 U ∧ va_AO RX1 U ∧ va_AO RX4 U
theorem KN.move {s U : State} (hW : s.WarmedH U.vm) (h : KN s) : KN U := by
  obtain ⟨⟨h1, h2, h3, h4, h5, h6⟩, h7, h8, h9⟩ := h
  exact ⟨⟨h1.warmM hW, h2.warmM hW, h3.warmM hW, h4.warmM hW, h5.warmM hW, h6.warmM hW⟩, h7.moved hW.alike, h8.moved hW.alike, h9.moved hW.alike⟩
def KW (X : CT) (G : GT) (k0 : Nat) (E : Nat → va_E) (ce sl pc : Nat) (lv : List (Option Value)) (st : List Value) : Prop := match X with
  | (p, l, e, R, s, m, args, below, meth, c, _, _, Q) => ∀ (H : Heap) (locs : List Loc) (ls : Array Slot), va_P G.1 vwCl (kpw G E (k0 + ce)) H → va_S (fun a => G.2.2.1 ≤ a) s.heap H locs → lvh ls c.maxLocals lv → W p l e R s m args below meth c H locs ce sl Q (F0 m pc ls st)
def KC (X : CT) (G : GT) (cc : ByteArray) (own : String) (nL d k0 mc ms : Nat) : Prop := match X with
  | (p, _, _, R, s, m, args, _, _, c, _, _, _) => p.tables.exec = Jvm.exec ∧ c.code = cc ∧ c.maxLocals = nL ∧ s.vm.findClass own = some m.cls ∧ (∀ w ∈ gtb, w.before args s = true) ∧ va_K G.1 vwCl (tysG G) s ∧ KN s ∧ s.heap.size = G.2.2.1 + k0 ∧ d ≤ R.frames ∧ 64 * d ≤ R.locals ∧ mc ≤ R.cells ∧ ms ≤ R.slots
def KI (X : CT) : Prop := match X with
  | (_, _, _, _, _, _, _, _, meth, _, _, _, _) => meth.name = "<init>"
theorem karr {cA : ClassId} {n : Nat} {f g : Nat → Value} (h : ∀ j, j < n → f j = g j) : arrV cA n f = arrV cA n g := by
  unfold arrV
  congr 1
  congr 1
  funext j
  exact h j.1 j.2
theorem kw_sz {p : Program} {l : Launch} {e : Env} {R : Room} {s : State} {m : MethodId} {args : Array Value} {below : List Frame} {meth : Method} {c : Code} {T : State} {locs : List Loc} {ce sl k0 : Nat} {G : GT} {E : Nat → va_E} (XX : Stand p l e R s m args below meth c T locs ce sl) (hP : va_P G.1 vwCl (kpw G E (k0 + ce)) T.heap) (hz : s.heap.size = G.2.2.1 + k0) : T.heap.size = G.2.2.1 + (k0 + ce) := by
  have h1 : T.heap.size ≤ s.heap.size + ce := XX.same.2.2.1
  have h2 : s.heap.size ≤ T.heap.size := XX.same.2.1
  rcases Nat.eq_zero_or_pos (k0 + ce) with h | h
  · omega
  · have h3 := (hP _ _ (kpw_get (k := k0 + ce - 1) (by omega))).lt
    dsimp only at h3
    omega
theorem kw_in {p : Program} {l : Launch} {e : Env} {R : Room} {s : State} {m : MethodId} {args : Array Value} {below : List Frame} {meth : Method} {c : Code} {H : Heap} {locs : List Loc} {ce sl k0 : Nat} {Q : State → Prop} {g : JFrame} {G : GT} {E : Nat → va_E} (hP : va_P G.1 vwCl (kpw G E (k0 + ce)) H) (hz : s.heap.size = G.2.2.1 + k0) (h : H.size = G.2.2.1 + (k0 + ce) → W p l e R s m args below meth c H locs ce sl Q g) : W p l e R s m args below meth c H locs ce sl Q g := by
  intro T hT X
  subst hT
  exact h (kw_sz X hP hz) T rfl X

theorem kw_iconst {X : CT} {G : GT} {E : Nat → va_E} {k0 mc ms ce sl : Nat} {cc : ByteArray} {own : String} {nL d pc : Nat} {lv : List (Option Value)} {st : List Value} (C : KC X G cc own nL d k0 mc ms) {n : Int} {v : Int32} (hd : decode cc pc = .ok (.iconst n, 1)) (hv : Int32.ofInt n = v) (k : KW X G k0 E ce sl (pc + 1) lv (.int v :: st)) : KW X G k0 E ce sl pc lv (st) := by
  obtain ⟨p, l, e, R, s, m, args, below, meth, c, ce9, sl9, Q⟩ := X
  obtain ⟨hx, hb, hml, hown, hts, hK, hW, -, -, -, -, -⟩ := C
  intro H locs ls hP hS hl
  exact lv_iconst hx hb hd hv (k H locs ls hP hS hl)

theorem kw_bipush {X : CT} {G : GT} {E : Nat → va_E} {k0 mc ms ce sl : Nat} {cc : ByteArray} {own : String} {nL d pc : Nat} {lv : List (Option Value)} {st : List Value} (C : KC X G cc own nL d k0 mc ms) {n : Int} {v : Int32} (hd : decode cc pc = .ok (.bipush n, 2)) (hv : (Int8.ofInt n).toInt32 = v) (k : KW X G k0 E ce sl (pc + 2) lv (.int v :: st)) : KW X G k0 E ce sl pc lv (st) := by
  obtain ⟨p, l, e, R, s, m, args, below, meth, c, ce9, sl9, Q⟩ := X
  obtain ⟨hx, hb, hml, hown, hts, hK, hW, -, -, -, -, -⟩ := C
  intro H locs ls hP hS hl
  exact lv_bipush hx hb hd hv (k H locs ls hP hS hl)

theorem kw_sipush {X : CT} {G : GT} {E : Nat → va_E} {k0 mc ms ce sl : Nat} {cc : ByteArray} {own : String} {nL d pc : Nat} {lv : List (Option Value)} {st : List Value} (C : KC X G cc own nL d k0 mc ms) {n : Int} {v : Int32} (hd : decode cc pc = .ok (.sipush n, 3)) (hv : (Int16.ofInt n).toInt32 = v) (k : KW X G k0 E ce sl (pc + 3) lv (.int v :: st)) : KW X G k0 E ce sl pc lv (st) := by
  obtain ⟨p, l, e, R, s, m, args, below, meth, c, ce9, sl9, Q⟩ := X
  obtain ⟨hx, hb, hml, hown, hts, hK, hW, -, -, -, -, -⟩ := C
  intro H locs ls hP hS hl
  exact lv_sipush hx hb hd hv (k H locs ls hP hS hl)

theorem kw_iadd {X : CT} {G : GT} {E : Nat → va_E} {k0 mc ms ce sl : Nat} {cc : ByteArray} {own : String} {nL d pc : Nat} {lv : List (Option Value)} {st : List Value} (C : KC X G cc own nL d k0 mc ms) {x y : Int32} (hd : decode cc pc = .ok (.iadd, 1)) (k : KW X G k0 E ce sl (pc + 1) lv (.int (x + y) :: st)) : KW X G k0 E ce sl pc lv (.int y :: .int x :: st) := by
  obtain ⟨p, l, e, R, s, m, args, below, meth, c, ce9, sl9, Q⟩ := X
  obtain ⟨hx, hb, hml, hown, hts, hK, hW, -, -, -, -, -⟩ := C
  intro H locs ls hP hS hl
  exact lv_iadd hx hb hd (k H locs ls hP hS hl)

theorem kw_isub {X : CT} {G : GT} {E : Nat → va_E} {k0 mc ms ce sl : Nat} {cc : ByteArray} {own : String} {nL d pc : Nat} {lv : List (Option Value)} {st : List Value} (C : KC X G cc own nL d k0 mc ms) {x y : Int32} (hd : decode cc pc = .ok (.isub, 1)) (k : KW X G k0 E ce sl (pc + 1) lv (.int (x - y) :: st)) : KW X G k0 E ce sl pc lv (.int y :: .int x :: st) := by
  obtain ⟨p, l, e, R, s, m, args, below, meth, c, ce9, sl9, Q⟩ := X
  obtain ⟨hx, hb, hml, hown, hts, hK, hW, -, -, -, -, -⟩ := C
  intro H locs ls hP hS hl
  exact lv_isub hx hb hd (k H locs ls hP hS hl)

theorem kw_dup {X : CT} {G : GT} {E : Nat → va_E} {k0 mc ms ce sl : Nat} {cc : ByteArray} {own : String} {nL d pc : Nat} {lv : List (Option Value)} {st : List Value} (C : KC X G cc own nL d k0 mc ms) {x : Value} (hd : decode cc pc = .ok (.dup, 1)) (hc : x.category = 1) (k : KW X G k0 E ce sl (pc + 1) lv (x :: x :: st)) : KW X G k0 E ce sl pc lv (x :: st) := by
  obtain ⟨p, l, e, R, s, m, args, below, meth, c, ce9, sl9, Q⟩ := X
  obtain ⟨hx, hb, hml, hown, hts, hK, hW, -, -, -, -, -⟩ := C
  intro H locs ls hP hS hl
  exact lv_dup hx hb hd hc (k H locs ls hP hS hl)

theorem kw_goto {X : CT} {G : GT} {E : Nat → va_E} {k0 mc ms ce sl : Nat} {cc : ByteArray} {own : String} {nL d pc : Nat} {lv : List (Option Value)} {st : List Value} (C : KC X G cc own nL d k0 mc ms) {off : Int} {tgt : Nat} (hd : decode cc pc = .ok (.goto off, 3)) (ht : (pc : Int) + off = (tgt : Int)) (k : KW X G k0 E ce sl tgt lv st) : KW X G k0 E ce sl pc lv st := by
  obtain ⟨p, l, e, R, s, m, args, below, meth, c, ce9, sl9, Q⟩ := X
  obtain ⟨hx, hb, hml, hown, hts, hK, hW, -, -, -, -, -⟩ := C
  intro H locs ls hP hS hl
  exact lv_goto hx hb hd ht (k H locs ls hP hS hl)

theorem kw_icmp_ge {X : CT} {G : GT} {E : Nat → va_E} {k0 mc ms ce sl : Nat} {cc : ByteArray} {own : String} {nL d pc : Nat} {lv : List (Option Value)} {st : List Value} (C : KC X G cc own nL d k0 mc ms) {x y : Int32} {off : Int} {tgt : Nat} (hd : decode cc pc = .ok (.if_icmp .ge off, 3)) (ht : (pc : Int) + off = (tgt : Int)) (kt : y ≤ x → KW X G k0 E ce sl tgt lv st) (kf : ¬ y ≤ x → KW X G k0 E ce sl (pc + 3) lv st) : KW X G k0 E ce sl pc lv (.int y :: .int x :: st) := by
  obtain ⟨p, l, e, R, s, m, args, below, meth, c, ce9, sl9, Q⟩ := X
  obtain ⟨hx, hb, hml, hown, hts, hK, hW, -, -, -, -, -⟩ := C
  intro H locs ls hP hS hl
  exact lv_icmp_ge hx hb hd ht (fun z => kt z H locs ls hP hS hl) (fun z => kf z H locs ls hP hS hl)

theorem kw_iload_1 {X : CT} {G : GT} {E : Nat → va_E} {k0 mc ms ce sl : Nat} {cc : ByteArray} {own : String} {nL d pc : Nat} {st : List Value} (C : KC X G cc own nL d k0 mc ms) {x0 : Option Value} {tl : List (Option Value)} {x : Int32} (hd : decode cc pc = .ok (.iload_n 1, 1)) (k : KW X G k0 E ce sl (pc + 1) (x0 :: some (.int x) :: tl) (.int x :: st)) : KW X G k0 E ce sl pc (x0 :: some (.int x) :: tl) st := by
  obtain ⟨p, l, e, R, s, m, args, below, meth, c, ce9, sl9, Q⟩ := X
  obtain ⟨hx, hb, hml, hown, hts, hK, hW, -, -, -, -, -⟩ := C
  intro H locs ls hP hS hl
  exact lv_iload_n hx hb hd rfl (lvh_at hl (i := 1) rfl) (k H locs ls hP hS hl)

theorem kw_aload_0 {X : CT} {G : GT} {E : Nat → va_E} {k0 mc ms ce sl : Nat} {cc : ByteArray} {own : String} {nL d pc : Nat} {st : List Value} (C : KC X G cc own nL d k0 mc ms) {tl : List (Option Value)} {x : Value} {a : Nat} (hd : decode cc pc = .ok (.aload_n 0, 1)) (hr : x = .ref a) (k : KW X G k0 E ce sl (pc + 1) (some x :: tl) (x :: st)) : KW X G k0 E ce sl pc (some x :: tl) st := by
  subst hr
  obtain ⟨p, l, e, R, s, m, args, below, meth, c, ce9, sl9, Q⟩ := X
  obtain ⟨hx, hb, hml, hown, hts, hK, hW, -, -, -, -, -⟩ := C
  intro H locs ls hP hS hl
  exact lv_aload_n hx hb hd rfl (lvh_at hl (i := 0) rfl) (k H locs ls hP hS hl)

theorem kw_istore_1 {X : CT} {G : GT} {E : Nat → va_E} {k0 mc ms ce sl : Nat} {cc : ByteArray} {own : String} {nL d pc : Nat} {st : List Value} (C : KC X G cc own nL d k0 mc ms) {x0 : Option Value} {tl : List (Option Value)} {y : Option Value} {x : Int32} (hd : decode cc pc = .ok (.istore_n 1, 1)) (hn : 1 < nL) (hp : ∀ w, x0 = some w → w.category = 1) (k : KW X G k0 E ce sl (pc + 1) (x0 :: some (.int x) :: tl) st) : KW X G k0 E ce sl pc (x0 :: y :: tl) (.int x :: st) := by
  obtain ⟨p, l, e, R, s, m, args, below, meth, c, ce9, sl9, Q⟩ := X
  obtain ⟨hx, hb, hml, hown, hts, hK, hW, -, -, -, -, -⟩ := C
  intro H locs ls hP hS hl
  exact lv_istore_n hx hb hd rfl (lvh_has hl) (by rw [hml]; exact hn) rfl (fun ls' h' => k H locs ls' hP hS (lvh_store1 (i := 1) (fun w _ h => hp w (Option.some.inj h)) h'))

theorem kw_astore_1 {X : CT} {G : GT} {E : Nat → va_E} {k0 mc ms ce sl : Nat} {cc : ByteArray} {own : String} {nL d pc : Nat} {st : List Value} (C : KC X G cc own nL d k0 mc ms) {x0 : Option Value} {tl : List (Option Value)} {y : Option Value} {x : Value} {a : Nat} (hd : decode cc pc = .ok (.astore_n 1, 1)) (hn : 1 < nL) (hp : ∀ w, x0 = some w → w.category = 1) (hr : x = .ref a) (k : KW X G k0 E ce sl (pc + 1) (x0 :: some x :: tl) st) : KW X G k0 E ce sl pc (x0 :: y :: tl) (x :: st) := by
  subst hr
  obtain ⟨p, l, e, R, s, m, args, below, meth, c, ce9, sl9, Q⟩ := X
  obtain ⟨hx, hb, hml, hown, hts, hK, hW, -, -, -, -, -⟩ := C
  intro H locs ls hP hS hl
  exact lv_astore_n hx hb hd rfl (lvh_has hl) (by rw [hml]; exact hn) rfl (fun ls' h' => k H locs ls' hP hS (lvh_store1 (i := 1) (fun w _ h => hp w (Option.some.inj h)) h'))

theorem kw_astore_2 {X : CT} {G : GT} {E : Nat → va_E} {k0 mc ms ce sl : Nat} {cc : ByteArray} {own : String} {nL d pc : Nat} {st : List Value} (C : KC X G cc own nL d k0 mc ms) {x0 x1 : Option Value} {tl : List (Option Value)} {y : Option Value} {x : Value} {a : Nat} (hd : decode cc pc = .ok (.astore_n 2, 1)) (hn : 2 < nL) (hp : ∀ w, x1 = some w → w.category = 1) (hr : x = .ref a) (k : KW X G k0 E ce sl (pc + 1) (x0 :: x1 :: some x :: tl) st) : KW X G k0 E ce sl pc (x0 :: x1 :: y :: tl) (x :: st) := by
  subst hr
  obtain ⟨p, l, e, R, s, m, args, below, meth, c, ce9, sl9, Q⟩ := X
  obtain ⟨hx, hb, hml, hown, hts, hK, hW, -, -, -, -, -⟩ := C
  intro H locs ls hP hS hl
  exact lv_astore_n hx hb hd rfl (lvh_has hl) (by rw [hml]; exact hn) rfl (fun ls' h' => k H locs ls' hP hS (lvh_store1 (i := 2) (fun w _ h => hp w (Option.some.inj h)) h'))

theorem kw_istore_3 {X : CT} {G : GT} {E : Nat → va_E} {k0 mc ms ce sl : Nat} {cc : ByteArray} {own : String} {nL d pc : Nat} {st : List Value} (C : KC X G cc own nL d k0 mc ms) {x0 x1 x2 : Option Value} {tl : List (Option Value)} {y : Option Value} {x : Int32} (hd : decode cc pc = .ok (.istore_n 3, 1)) (hn : 3 < nL) (hp : ∀ w, x2 = some w → w.category = 1) (k : KW X G k0 E ce sl (pc + 1) (x0 :: x1 :: x2 :: some (.int x) :: tl) st) : KW X G k0 E ce sl pc (x0 :: x1 :: x2 :: y :: tl) (.int x :: st) := by
  obtain ⟨p, l, e, R, s, m, args, below, meth, c, ce9, sl9, Q⟩ := X
  obtain ⟨hx, hb, hml, hown, hts, hK, hW, -, -, -, -, -⟩ := C
  intro H locs ls hP hS hl
  exact lv_istore_n hx hb hd rfl (lvh_has hl) (by rw [hml]; exact hn) rfl (fun ls' h' => k H locs ls' hP hS (lvh_store1 (i := 3) (fun w _ h => hp w (Option.some.inj h)) h'))

theorem kw_iinc_1 {X : CT} {G : GT} {E : Nat → va_E} {k0 mc ms ce sl : Nat} {cc : ByteArray} {own : String} {nL d pc : Nat} {st : List Value} (C : KC X G cc own nL d k0 mc ms) {x0 : Option Value} {tl : List (Option Value)} {n : Int} {x v : Int32} (hd : decode cc pc = .ok (.iinc 1 n, 3)) (hn : 1 < nL) (hp : ∀ w, x0 = some w → w.category = 1) (hv : x + Int32.ofInt n = v) (k : KW X G k0 E ce sl (pc + 3) (x0 :: some (.int v) :: tl) st) : KW X G k0 E ce sl pc (x0 :: some (.int x) :: tl) st := by
  obtain ⟨p, l, e, R, s, m, args, below, meth, c, ce9, sl9, Q⟩ := X
  obtain ⟨hx, hb, hml, hown, hts, hK, hW, -, -, -, -, -⟩ := C
  intro H locs ls hP hS hl
  obtain ⟨w, hw⟩ := List.getElem?_of_mem (lvl_mem.mpr (show (x0 :: some (.int x) :: tl : List (Option Value))[1]? = some (some (.int x)) from rfl))
  exact lv_iinc hx hb hd (lvh_has hl) hw hv (by rw [hml]; exact hn) rfl (fun ls' h' => k H locs ls' hP hS (lvh_store1 (i := 1) (fun w _ h => hp w (Option.some.inj h)) h'))

section KROWS
variable {X : CT} {G : GT} {E : Nat → va_E} {cc : ByteArray} {own : String} {nL d k0 mc ms ce sl pc k : Nat} {lv : List (Option Value)} {st : List Value}
theorem kw_objInit (C : KC X G cc own nL d k0 mc ms) {ix : Nat} {x : Value} {a : Nat} (hxr : x = .ref a) (h1 : Cond.methodLink own ix Lib.objectInit ∈ gtb) (h2 : Cond.instanceMethod Lib.objectInit ∈ gtb) (h3 : Cond.code Lib.objectInit ⟨#[0xb1]⟩ 1 none ∈ gtb) (hd : decode cc pc = .ok (.invokespecial ix, 3)) (hdd : 1 ≤ d) (kk : KW X G k0 E ce sl (pc + 3) lv []) : KW X G k0 E ce sl pc lv [x] := by
  subst hxr
  obtain ⟨p, l, e, R, s, m, args, below, meth, c, ce9, sl9, Q⟩ := X
  obtain ⟨hx, hb, hml, hown, hts, hK, hN, hz, hd1, hd2, hmc, hms⟩ := C
  intro H locs ls hP hS hlv
  refine W.objInit hx hb hown (hts _ h1) (hts _ h2) (hts _ h3) rfl hlv.1 rfl hd (by omega) (by show 2 * (F0 m pc ls []).monitorRoom + 0 + 12 ≤ _; have : (F0 m pc ls []).monitorRoom = 0 := rfl; omega) ?_
  exact kk H locs ls hP hS hlv
theorem kw_newa (C : KC X G cc own nL d k0 mc ms) (a : Nat) (ha : a = k0 + ce) (t : Nat) {atype : ArrayType} {N : Nat} {z : (Nat → Int32) ⊕ (Nat → Int64) ⊕ (Nat → UInt32) ⊕ (Nat → UInt64) ⊕ (Nat → Option Nat)} (ht : (tysG G)[t]? = some (G.2.1 t, newarray.typeOf atype)) (harr : Cond.arrayClass (newarray.typeOf atype) ∈ gtb) (hz : ∀ cA : ClassId, vp_cell cA (N, z) = arrV cA N (fun _ => defaultValue (newarray.typeOf atype))) {x : Int32} (hxN : x = nI N) (hN : N < 2000) (hby : N * componentBytes (newarray.typeOf atype) ≤ 536870912) (hce : ce + 1 ≤ mc) (hsl : sl + N ≤ ms) (hd : decode cc pc = .ok (.newarray atype, 2)) (kk : KW X G k0 (kov E a (.inl (G.2.1 t, N, z))) (ce + 1) (sl + N) (pc + 2) lv (rfn G a :: st)) : KW X G k0 E ce sl pc lv (.int x :: st) := by
  subst hxN; subst ha
  obtain ⟨p, l, e, R, s, m, args, below, meth, c, ce9, sl9, Q⟩ := X
  obtain ⟨hx, hb, hml, hown, hts, hK, hN2, hsz, hd1, hd2, hmc, hms⟩ := C
  intro H locs ls hP hS hlv
  refine kw_in hP hsz (fun hzz => ?_)
  refine va_newaK hx hb (hts _ harr) rfl hd rfl (nI_pos (by omega)) (nI_clamp (by omega)) hby (by omega) (by omega) hzz (fun H1 cA e1 z1 o1 _ hNm => ?_)
  have hcA : cA = G.2.1 t := by
    have h := (hK.2 t _ ht).2
    have h4 : s.vm.findClass ("[" ++ (newarray.typeOf atype).toString) = some (G.2.1 t) := by
      cases atype <;> exact h
    exact Option.some.inj (hNm.symm.trans h4)
  subst hcA
  have oo : ∀ q : Nat, q < H.size → H1[q]? = H[q]? := fun q hq => o1 q (by omega)
  exact kk H1 locs ls (kpw_push hP oo (by show H1[_]? = some (vp_cell _ _); rw [hz]; exact e1)) ⟨Nat.le_trans hS.1 (by omega), fun q h1 h2 => (oo q (Nat.lt_of_lt_of_le h1 hS.1)).trans (hS.2.1 q h1 h2), hS.2.2⟩ hlv
theorem kw_newr (C : KC X G cc own nL d k0 mc ms) (a : Nat) (ha : a = k0 + ce) (t : Nat) {N ix : Nat} {C' : String} (ht : (tysG G)[t]? = some (G.2.1 t, .object C')) (hcl : Cond.classLink own ix C' ∈ gtb) (hao : ∀ U, KN U → va_AO C' U) (f : Nat → Option Nat) (hf : ∀ j, j < N → f j = none) {x : Int32} (hxN : x = nI N) (hN : N < 2000) (hce : ce + 1 ≤ mc) (hsl : sl + N ≤ ms) (hd : decode cc pc = .ok (.anewarray ix, 3)) (kk : KW X G k0 (kov E a (.inl (G.2.1 t, N, .inr (.inr (.inr (.inr f)))))) (ce + 1) (sl + N) (pc + 3) lv (rfn G a :: st)) : KW X G k0 E ce sl pc lv (.int x :: st) := by
  subst hxN; subst ha
  obtain ⟨p, l, e, R, s, m, args, below, meth, c, ce9, sl9, Q⟩ := X
  obtain ⟨hx, hb, hml, hown, hts, hK, hN2, hsz, hd1, hd2, hmc, hms⟩ := C
  intro H locs ls hP hS hlv
  refine kw_in hP hsz (fun hzz => ?_)
  have hcN : (nI N).toNatClampNeg = N := nI_clamp (by omega)
  refine W.anew hx hb hown (hts _ hcl) (va_AO.use (hao s hN2)) rfl hd rfl (nI_pos (by omega)) (by rw [hcN]; omega) (by omega) (by rw [hcN]; omega) (fun cA kA comp f1 f2 f3 f4 => ?_)
  rw [hcN]
  have hcA : cA = G.2.1 t := by
    obtain ⟨kB, cB, g1, g2, g3, g4⟩ := (hK.2 t _ ht).2
    exact Option.some.inj (f1.symm.trans g4)
  subst hcA
  generalize hH1 : H.push ({ cls := G.2.1 t, slots := Array.replicate N .null, vm := .none } : Cell) = H1
  have z1 : H1.size = H.size + 1 := by rw [← hH1, Array.size_push]
  have e1 : H1[H.size]? = some (arrV (G.2.1 t) N (fun _ => .null)) := by rw [← hH1, Array.getElem?_push_size, ← arrV_new]
  have oo : ∀ q : Nat, q < H.size → H1[q]? = H[q]? := fun q hq => by rw [← hH1, Array.getElem?_push, if_neg (Nat.ne_of_lt hq)]
  have hh : va_P G.1 vwCl (kpw G (kov E (k0 + ce) (.inl (G.2.1 t, N, .inr (.inr (.inr (.inr f)))))) (k0 + ce + 1)) H1 := kpw_push hP oo (by show H1[_]? = some (vp_cell _ _); rw [vp_cell_q, ← hzz, karr (g := fun _ => .null) (fun j hj => by rw [hf j hj]; rfl)]; exact e1)
  have hg := kk H1 locs ls hh ⟨Nat.le_trans hS.1 (by omega), fun q h1 h2 => (oo q (Nat.lt_of_lt_of_le h1 hS.1)).trans (hS.2.1 q h1 h2), hS.2.2⟩ hlv
  have hr : (Value.ref H.size) = rfn G (k0 + ce) := by rw [hzz]; rfl
  rw [← hr] at hg
  exact hg
theorem kw_new (C : KC X G cc own nL d k0 mc ms) (a ci : Nat) (ha : a = k0 + ce) {C' : String} {T : u_T} {N ix : Nat} (hc : vwCl[ci]? = some (C', T, N)) (hin : ∀ w ∈ u_ws C' T N, w ∈ gtb) (ty0 : Nat → FieldType) (hty : ∀ k, k < N → parseFieldDescriptor (T k).2.2.1 = some (ty0 k)) (h1 : Cond.classLink own ix C' ∈ gtb) (h2 : Cond.instantiable C' N ∈ gtb) (h3 : Cond.initialized C' ∈ gtb) (fs : List Value) (hfs : ∀ j, j < N → defaultValue (ty0 j) = vp_V fs j) (hce : ce + 1 ≤ mc) (hsl : sl + N ≤ ms) (hd : decode cc pc = .ok (.new ix, 3)) (kk : KW X G k0 (kov E a (.inr (ci, fs))) (ce + 1) (sl + N) (pc + 3) lv (rfn G a :: st)) : KW X G k0 E ce sl pc lv st := by
  subst ha
  obtain ⟨p, l, e, R, s, m, args, below, meth, c, ce9, sl9, Q⟩ := X
  obtain ⟨hx, hb, hml, hown, hts, hK, hN2, hsz, hd1, hd2, hmc, hms⟩ := C
  intro H locs ls hP hS hlv
  refine kw_in hP hsz (fun hzz => ?_)
  have hKn := hK.1 ci _ hc
  refine W.newcK hx hb hown (hts _ h1) (hts _ h2) (hts _ h3) rfl hd (by omega) (by omega) hKn.2.1 hzz (fun H1 kC hkC e1 z1 o1 => ?_)
  have oo : ∀ q : Nat, q < H.size → H1[q]? = H[q]? := fun q hq => o1 q (by omega)
  exact kk H1 locs ls (kpw_push hP oo ⟨_, hc, (u_born ty0 hts hin hKn hkC e1 hty).to hfs⟩) ⟨Nat.le_trans hS.1 (by omega), fun q h1 h2 => (oo q (Nat.lt_of_lt_of_le h1 hS.1)).trans (hS.2.1 q h1 h2), hS.2.2⟩ hlv
theorem kw_get (C : KC X G cc own nL d k0 mc ms) (ci j : Nat) {C' : String} {T : u_T} {N ix : Nat} (hc : vwCl[ci]? = some (C', T, N)) (hin : ∀ w ∈ u_ws C' T N, w ∈ gtb) {fs : List Value} (he : E k = .inr (ci, fs)) (hk : k < k0 + ce) (hj : j < N) {v : Value} (hv : fs[j]? = some v) (hl : Cond.fieldLink own ix (T j).1 (T j).2.1 (T j).2.2.1 ∈ gtb) (hd : decode cc pc = .ok (.getfield ix, 3)) (kk : KW X G k0 E ce sl (pc + 3) lv (v :: st)) : KW X G k0 E ce sl pc lv (rfn G k :: st) := by
  obtain ⟨p, l, e, R, s, m, args, below, meth, c, ce9, sl9, Q⟩ := X
  obtain ⟨hx, hb, hml, hown, hts, hK, hN2, hsz, hd1, hd2, hmc, hms⟩ := C
  intro H locs ls hP hS hlv
  exact va_get hx hb hts hin hown hK hP k (by rw [kpw_get hk, he]) hc j hj (hts _ hl) (fun _ h => h) hv hd (kk H locs ls hP hS hlv)
theorem kw_put (C : KC X G cc own nL d k0 mc ms) (ci j : Nat) {C' : String} {T : u_T} {N ix : Nat} (hc : vwCl[ci]? = some (C', T, N)) (hin : ∀ w ∈ u_ws C' T N, w ∈ gtb) (ty0 : Nat → FieldType) (hty : ∀ k, k < N → parseFieldDescriptor (T k).2.2.1 = some (ty0 k)) (hnm : ∀ a, a < N → ∀ b, b < N → a ≠ b → (T a).2.1 ≠ (T b).2.1) {fs : List Value} (he : E k = .inr (ci, fs)) (hk : k < k0 + ce) (hj : j < N) (hfin : (T j).2.2.2 = false) {v : Value} (hn : narrow (ty0 j) v = v) (hfit : fits (ty0 j) v = true) (hlen : j < fs.length) (hl : Cond.fieldLink own ix (T j).1 (T j).2.1 (T j).2.2.1 ∈ gtb) (hd : decode cc pc = .ok (.putfield ix, 3)) (kk : KW X G k0 (kov E k (.inr (ci, fs.set j v))) ce sl (pc + 3) lv st) : KW X G k0 E ce sl pc lv (v :: rfn G k :: st) := by
  obtain ⟨p, l, e, R, s, m, args, below, meth, c, ce9, sl9, Q⟩ := X
  obtain ⟨hx, hb, hml, hown, hts, hK, hN2, hsz, hd1, hd2, hmc, hms⟩ := C
  intro H locs ls hP hS hlv
  refine va_put (D := G.1) (ci := ci) hx hb hts hin ty0 hty hnm hown hK hP (kpw_D G E _) hS k (by rw [kpw_get hk, he]) hc j hj (hts _ hl) (fun _ h => h) hfin (hty j hj) hn hfit hlen hd (fun H1 locs1 hP1 _ hS1 => kk H1 locs1 ls ?_ hS1 hlv)
  rw [kpw_set] at hP1
  exact hP1
theorem kw_putF (C : KC X G cc own nL d k0 mc ms) (hI : KI X) (ci j : Nat) {C' : String} {T : u_T} {N ix : Nat} (hc : vwCl[ci]? = some (C', T, N)) (hin : ∀ w ∈ u_ws C' T N, w ∈ gtb) (ty0 : Nat → FieldType) (hty : ∀ k, k < N → parseFieldDescriptor (T k).2.2.1 = some (ty0 k)) (hnm : ∀ a, a < N → ∀ b, b < N → a ≠ b → (T a).2.1 ≠ (T b).2.1) {fs : List Value} (he : E k = .inr (ci, fs)) (hk : k < k0 + ce) (hj : j < N) (hfin : (T j).2.2.2 = true) (hdecl : (T j).1 = own) {v : Value} (hn : narrow (ty0 j) v = v) (hfit : fits (ty0 j) v = true) (hlen : j < fs.length) (hl : Cond.fieldLink own ix (T j).1 (T j).2.1 (T j).2.2.1 ∈ gtb) (hd : decode cc pc = .ok (.putfield ix, 3)) (kk : KW X G k0 (kov E k (.inr (ci, fs.set j v))) ce sl (pc + 3) lv st) : KW X G k0 E ce sl pc lv (v :: rfn G k :: st) := by
  obtain ⟨p, l, e, R, s, m, args, below, meth, c, ce9, sl9, Q⟩ := X
  obtain ⟨hx, hb, hml, hown, hts, hK, hN2, hsz, hd1, hd2, hmc, hms⟩ := C
  intro H locs ls hP hS hlv
  refine va_putF (D := G.1) (ci := ci) hx hb hts hin ty0 hty hnm hown hK hP (kpw_D G E _) hS k (by rw [kpw_get hk, he]) hc j hj (hts _ hl) (fun _ h => h) hfin hI hdecl (hty j hj) hn hfit hlen hd (fun H1 locs1 hP1 _ hS1 => kk H1 locs1 ls ?_ hS1 hlv)
  rw [kpw_set] at hP1
  exact hP1
theorem kw_iast (C : KC X G cc own nL d k0 mc ms) {N i : Nat} {f : Nat → Int32} {x y : Int32} (hy : y = nI i) (he : E k = .inl (G.2.1 0, N, .inl f)) (hk : k < k0 + ce) (hi : i < N) (hN : N < 2000) (hd : decode cc pc = .ok (.iastore, 1)) (kk : KW X G k0 (kov E k (.inl (G.2.1 0, N, .inl (upd f i x)))) ce sl (pc + 1) lv st) : KW X G k0 E ce sl pc lv (.int x :: .int y :: rfn G k :: st) := by
  subst hy
  obtain ⟨p, l, e, R, s, m, args, below, meth, c, ce9, sl9, Q⟩ := X
  obtain ⟨hx, hb, hml, hown, hts, hK, hN2, hsz, hd1, hd2, hmc, hms⟩ := C
  intro H locs ls hP hS hlv
  refine va_iast hx hb hK hP (kpw_D G E _) hS k 0 (by rw [kpw_get hk, he]) rfl (nI_vin hi hN) hd (fun H1 locs1 hP1 _ hS1 => kk H1 locs1 ls ?_ hS1 hlv)
  rw [nI_clamp (by omega), kpw_set] at hP1
  exact hP1
theorem kw_cast (C : KC X G cc own nL d k0 mc ms) {N i : Nat} {f : Nat → Int32} {x y : Int32} (hy : y = nI i) (hn : vp_nar .char x = x) (he : E k = .inl (G.2.1 2, N, .inl f)) (hk : k < k0 + ce) (hi : i < N) (hN : N < 2000) (hd : decode cc pc = .ok (.castore, 1)) (kk : KW X G k0 (kov E k (.inl (G.2.1 2, N, .inl (upd f i x)))) ce sl (pc + 1) lv st) : KW X G k0 E ce sl pc lv (.int x :: .int y :: rfn G k :: st) := by
  subst hy
  obtain ⟨p, l, e, R, s, m, args, below, meth, c, ce9, sl9, Q⟩ := X
  obtain ⟨hx, hb, hml, hown, hts, hK, hN2, hsz, hd1, hd2, hmc, hms⟩ := C
  intro H locs ls hP hS hlv
  refine va_cast hx hb hK hP (kpw_D G E _) hS k 2 (by rw [kpw_get hk, he]) rfl (nI_vin hi hN) hd (fun H1 locs1 hP1 _ hS1 => kk H1 locs1 ls ?_ hS1 hlv)
  rw [nI_clamp (by omega), hn, kpw_set] at hP1
  exact hP1
theorem kw_aast (C : KC X G cc own nL d k0 mc ms) (t a ci : Nat) {N i : Nat} {r : vw_C} {vs : List Value} {f : Nat → Option Nat} {y : Int32} (hy : y = nI i) (he : E k = .inl (G.2.1 t, N, .inr (.inr (.inr (.inr f))))) (ht : (tysG G)[t]? = some (G.2.1 t, .object r.1)) (hv : E a = .inr (ci, vs)) (hc : vwCl[ci]? = some r) (hk : k < k0 + ce) (ha : a < k0 + ce) (hi : i < N) (hN : N < 2000) (hd : decode cc pc = .ok (.aastore, 1)) (kk : KW X G k0 (kov E k (.inl (G.2.1 t, N, .inr (.inr (.inr (.inr (va_up f i (some (G.2.2.1 + a)))))))) ) ce sl (pc + 1) lv st) : KW X G k0 E ce sl pc lv (rfn G a :: .int y :: rfn G k :: st) := by
  subst hy
  obtain ⟨p, l, e, R, s, m, args, below, meth, c, ce9, sl9, Q⟩ := X
  obtain ⟨hx, hb, hml, hown, hts, hK, hN2, hsz, hd1, hd2, hmc, hms⟩ := C
  intro H locs ls hP hS hlv
  refine va_astq hx hb hK hP (kpw_D G E _) hS k t a ci (by rw [kpw_get hk, he]) ht (by rw [kpw_get ha, hv]) hc (nI_vin hi hN) hd (fun H1 locs1 hP1 _ hS1 => kk H1 locs1 ls ?_ hS1 hlv)
  rw [nI_clamp (by omega), kpw_set] at hP1
  exact hP1
/-! contracts of constructors -/
def KP (G : GT) (vs : List Value) (E : Nat → va_E) (n : Nat) : Array Value → State → Prop := va_Pc vs (fun U => va_P G.1 vwCl (kpw G E n) U.heap ∧ U.heap.size = G.2.2.1 + n ∧ va_K G.1 vwCl (tysG G) U ∧ KN U)
def KQ (G : GT) (E : Nat → va_E) (n : Nat) : Array Value → State → Outcome → State → Prop := fun _ st o t => (o = .returned none ∧ va_P G.1 vwCl (kpw G E n) t.heap) ∧ va_F (fun a => G.2.2.1 ≤ a) st t
theorem KP.blind {vs : List Value} {n : Nat} : FrameBlind (KP G vs E n) := by
  intro a U g mk ⟨h1, h2, h3, h4, h5⟩
  have hW : U.WarmedH (U.calling g mk a).vm := by exact State.WarmedH.refl U
  exact ⟨h1, h2, h3, va_K.moved (u := U) (U := U.calling g mk a) (Vm.Alike.refl U.vm) h4, h5.move hW⟩
theorem kw_run {p : Program} {l : Launch} {e : Env} {R : Room} {s : State} {m : MethodId} {args : Array Value} {below : List Frame} {meth : Method} {c : Code} {Q : State → Prop} {H : Heap} {locs : List Loc} {ls : Array Slot} {st0 : List Value} {a : Array Value} {m1 s1 n1 ce9 sl9 : Nat} {E1 : Nat → va_E} (hS : va_S (fun a => G.2.2.1 ≤ a) s.heap H locs) (hl : lvh ls c.maxLocals lv)
    (hr : va_Run p l e R s m args below meth c H locs ce sl m1 s1 (F0 m pc ls st0) st (KQ G E1 n1 a) (fun a => G.2.2.1 ≤ a)) (hn : n1 = k0 + (ce + m1)) (hE : ∀ b, b < n1 → E1 b = E b) (kk : KW (p, l, e, R, s, m, args, below, meth, c, ce9, sl9, Q) G k0 E (ce + m1) (sl + s1) (pc + 3) lv st) : W p l e R s m args below meth c H locs ce sl Q (F0 m pc ls st0) := by
  intro T hT X
  obtain ⟨v, st₀, t, T', L, h0, X', hL, e1, e2, ⟨⟨hv, hp⟩, hz, hk⟩, st⟩ := hr T hT X
  cases hv
  rw [h0] at hz hk
  rw [kpw_congr hE, hn, ← e1] at hp
  obtain ⟨t2, a1, b1⟩ := kk T'.heap (locs ++ L) ls hp
    ⟨Nat.le_trans hS.1 (by rw [e1]; exact hz), fun a h1 h2 => by rw [e1, hk a (Nat.lt_of_lt_of_le h1 hS.1) h2]; exact hS.2.1 a h1 h2, fun z hz => by
      rcases List.mem_append.mp hz with h | h
      · exact hS.2.2 z h
      · exact hL z h⟩ hl T' rfl X'
  exact ⟨t2, st t2 a1, b1⟩
theorem KP.of {s : State} {vs : List Value} {n : Nat} {H : Heap} (hK : va_K G.1 vwCl (tysG G) s) (hN : KN s) (hP : va_P G.1 vwCl (kpw G E n) H) (hz : H.size = G.2.2.1 + n) : PreS s H (KP G vs E n) vs :=
  ⟨KP.blind, fun U hU hW => ⟨rfl, by rw [hU]; exact hP, by rw [hU]; exact hz, va_K.moved hW.alike hK, hN.move hW⟩⟩
end KROWS
