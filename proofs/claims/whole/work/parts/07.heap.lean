theorem shp_small {k a n : Nat} (h : shp k = (a, n)) : n < 2000 := by
  have key : ∀ k, k < 155 → (shp k).2 < 2000 := by decide +kernel
  rcases Nat.lt_or_ge k 155 with l | l
  · have := key k l
    rw [h] at this
    exact this
  · rw [shp, List.getD_eq_getElem?_getD, List.getElem?_eq_none (by rw [shpT_len]; exact l)] at h
    cases h
    decide
theorem cell_obj {G : GT} {q : S_} {k ci : Nat} (h : shp k = (0, ci)) : cellAt G q k = .inr (ci, flds G q k ci) := by
  unfold cellAt
  rw [h] <;> rfl
theorem cell_int {G : GT} {q : S_} {k n : Nat} (h : shp k = (1, n)) : cellAt G q k = .inl (G.2.1 0, n, .inl (q.1 k)) := by
  unfold cellAt
  rw [h] <;> rfl
theorem cell_boo {G : GT} {q : S_} {k n : Nat} (h : shp k = (2, n)) : cellAt G q k = .inl (G.2.1 1, n, .inl (q.1 k)) := by
  unfold cellAt
  rw [h] <;> rfl
theorem cell_cha {G : GT} {q : S_} {k n : Nat} (h : shp k = (3, n)) : cellAt G q k = .inl (G.2.1 2, n, .inl (q.1 k)) := by
  unfold cellAt
  rw [h] <;> rfl
theorem cell_lon {G : GT} {q : S_} {k n : Nat} (h : shp k = (4, n)) : cellAt G q k = .inl (G.2.1 3, n, .inr (.inl (q.2 k))) := by
  unfold cellAt
  rw [h] <;> rfl
theorem cell_per {G : GT} {q : S_} {k n : Nat} (h : shp k = (5, n)) : cellAt G q k = .inl (G.2.1 4, n, .inr (.inr (.inr (.inr fun j => some (G.2.2.1 + (k + 13 + 2 * j)))))) := by
  unfold cellAt
  rw [h] <;> rfl
theorem cell_cit {G : GT} {q : S_} {k n : Nat} (h : shp k = (6, n)) : cellAt G q k = .inl (G.2.1 5, n, .inr (.inr (.inr (.inr fun j => some (G.2.2.1 + (99 + 3 * j)))))) := by
  unfold cellAt
  rw [h] <;> rfl
theorem cell_tap {G : GT} {q : S_} {k n : Nat} (h : shp k = (7, n)) : cellAt G q k = .inl (G.2.1 6, n, .inr (.inr (.inr (.inr fun j => some (G.2.2.1 + (117 + 2 * j)))))) := by
  unfold cellAt
  rw [h] <;> rfl
theorem view_at {G : GT} {q : S_} {k a c : Nat} {e : va_E} (h : shp k = (a, c)) (ha : a ≠ 9) (he : cellAt G q k = e) : (view G q)[k]? = some (G.2.2.1 + k, e) := by
  rw [← he]
  exact view_get G q (shp_lt h ha)
theorem nI_vin {j n : Nat} (hj : j < n) (hn : n < 2000) : vp_in (nI j) n := vp_in_nI hj (by omega)
section HEAP
variable {X : CT} {G : GT} {q q' : S_} {cc : ByteArray} {own : String} {nL d pc k : Nat} {lv : List (Option Value)} {st : List Value}
theorem aw_get (C : Cx X G cc own nL d) (ci j : Nat) {C' : String} {T : u_T} {N ix : Nat} (hc : vwCl[ci]? = some (C', T, N)) (hin : ∀ w ∈ u_ws C' T N, w ∈ gtb) (hsh : shp k = (0, ci)) (hj : j < N) {v : Value} (hv : (flds G q k ci)[j]? = some v)
    (hl : Cond.fieldLink own ix (T j).1 (T j).2.1 (T j).2.2.1 ∈ gtb) (hd : decode cc pc = .ok (.getfield ix, 3)) (kk : AW X G q (pc + 3) lv (v :: st)) : AW X G q pc lv (rfn G k :: st) := by
  obtain ⟨p, l, e, R, s, m, args, below, meth, c, ce, sl, Q⟩ := X
  obtain ⟨hx, hb, hml, hown, hts, hK, hW, -, -, -, -⟩ := C
  intro H locs ls hP hS hlv
  exact va_get (D := G.1) (ci := ci) hx hb hts hin hown hK hP k (view_at hsh (by decide) (cell_obj hsh)) hc j hj (hts _ hl) (fun _ h => h) hv hd (kk H locs ls hP hS hlv)
theorem aw_put (C : Cx X G cc own nL d) (ci j : Nat) {C' : String} {T : u_T} {N ix : Nat} (hc : vwCl[ci]? = some (C', T, N)) (hin : ∀ w ∈ u_ws C' T N, w ∈ gtb) (ty0 : Nat → FieldType) (hty : ∀ k, k < N → parseFieldDescriptor (T k).2.2.1 = some (ty0 k)) (hnm : ∀ a, a < N → ∀ b, b < N → a ≠ b → (T a).2.1 ≠ (T b).2.1) (hsh : shp k = (0, ci)) (hj : j < N) (hfin : (T j).2.2.2 = false)
    {v : Value} (hn : narrow (ty0 j) v = v) (hfit : fits (ty0 j) v = true) (hlen : j < (flds G q k ci).length) (hf : flds G q' k ci = (flds G q k ci).set j v) (ho : ∀ a, a ≠ k → cellAt G q' a = cellAt G q a)
    (hl : Cond.fieldLink own ix (T j).1 (T j).2.1 (T j).2.2.1 ∈ gtb) (hd : decode cc pc = .ok (.putfield ix, 3)) (kk : AW X G q' (pc + 3) lv st) : AW X G q pc lv (v :: rfn G k :: st) := by
  obtain ⟨p, l, e, R, s, m, args, below, meth, c, ce, sl, Q⟩ := X
  obtain ⟨hx, hb, hml, hown, hts, hK, hW, -, -, -, -⟩ := C
  intro H locs ls hP hS hlv
  refine va_put (D := G.1) (ci := ci) hx hb hts hin ty0 hty hnm hown hK hP (view_D G q) hS k (view_at hsh (by decide) (cell_obj hsh)) hc j hj (hts _ hl) (fun _ h => h) hfin (hty j hj) hn hfit hlen hd (fun H1 locs1 hP1 _ hS1 => kk H1 locs1 ls ?_ hS1 hlv)
  rw [view_set G q q' (by rw [cell_obj hsh, hf]) ho] at hP1
  exact hP1
theorem aw_iald (C : Cx X G cc own nL d) {n : Nat} {i : Int32} (j : Nat) {x : Int32} (hx : gI q k j = x) (hd : decode cc pc = .ok (.iaload, 1)) (hsh : shp k = (1, n)) (hi : i = nI j) (hj : j < n) (kk : AW X G q (pc + 1) lv (.int x :: st)) : AW X G q pc lv (.int i :: rfn G k :: st) := by
  subst hi; subst hx
  obtain ⟨p, l, e, R, s, m, args, below, meth, c, ce, sl, Q⟩ := X
  obtain ⟨hx, hb, hml, hown, hts, hK, hW, -, -, -, -⟩ := C
  intro H locs ls hP hS hlv
  refine va_iald hx hb hK hP k 0 (view_at hsh (by decide) (cell_int hsh)) rfl (nI_vin hj (shp_small hsh)) hd ?_
  rw [nI_clamp (by have := shp_small hsh; omega)]
  exact kk H locs ls hP hS hlv
theorem aw_zald (C : Cx X G cc own nL d) {n : Nat} {i : Int32} (j : Nat) {x : Int32} (hx : gI q k j = x) (hd : decode cc pc = .ok (.baload, 1)) (hsh : shp k = (2, n)) (hi : i = nI j) (hj : j < n) (kk : AW X G q (pc + 1) lv (.int x :: st)) : AW X G q pc lv (.int i :: rfn G k :: st) := by
  subst hi; subst hx
  obtain ⟨p, l, e, R, s, m, args, below, meth, c, ce, sl, Q⟩ := X
  obtain ⟨hx, hb, hml, hown, hts, hK, hW, -, -, -, -⟩ := C
  intro H locs ls hP hS hlv
  refine va_zald hx hb hK hP k 1 (view_at hsh (by decide) (cell_boo hsh)) rfl (nI_vin hj (shp_small hsh)) hd ?_
  rw [nI_clamp (by have := shp_small hsh; omega)]
  exact kk H locs ls hP hS hlv
theorem aw_cald (C : Cx X G cc own nL d) {n : Nat} {i : Int32} (j : Nat) {x : Int32} (hx : gI q k j = x) (hd : decode cc pc = .ok (.caload, 1)) (hsh : shp k = (3, n)) (hi : i = nI j) (hj : j < n) (kk : AW X G q (pc + 1) lv (.int x :: st)) : AW X G q pc lv (.int i :: rfn G k :: st) := by
  subst hi; subst hx
  obtain ⟨p, l, e, R, s, m, args, below, meth, c, ce, sl, Q⟩ := X
  obtain ⟨hx, hb, hml, hown, hts, hK, hW, -, -, -, -⟩ := C
  intro H locs ls hP hS hlv
  refine va_cald hx hb hK hP k 2 (view_at hsh (by decide) (cell_cha hsh)) rfl (nI_vin hj (shp_small hsh)) hd ?_
  rw [nI_clamp (by have := shp_small hsh; omega)]
  exact kk H locs ls hP hS hlv
theorem aw_lald (C : Cx X G cc own nL d) {n : Nat} {i : Int32} (j : Nat) (hd : decode cc pc = .ok (.laload, 1)) (hsh : shp k = (4, n)) (hi : i = nI j) (hj : j < n) (kk : AW X G q (pc + 1) lv (.long (gL q k j) :: st)) : AW X G q pc lv (.int i :: rfn G k :: st) := by
  subst hi
  obtain ⟨p, l, e, R, s, m, args, below, meth, c, ce, sl, Q⟩ := X
  obtain ⟨hx, hb, hml, hown, hts, hK, hW, -, -, -, -⟩ := C
  intro H locs ls hP hS hlv
  refine va_lald hx hb hK hP k 3 (view_at hsh (by decide) (cell_lon hsh)) rfl (nI_vin hj (shp_small hsh)) hd ?_
  rw [nI_clamp (by have := shp_small hsh; omega)]
  exact kk H locs ls hP hS hlv
theorem aw_pald (C : Cx X G cc own nL d) {n : Nat} {i : Int32} (j : Nat) (hd : decode cc pc = .ok (.aaload, 1)) (hsh : shp k = (5, n)) (hi : i = nI j) (hj : j < n) (kk : AW X G q (pc + 1) lv (rfn G (k + 13 + 2 * j) :: st)) : AW X G q pc lv (.int i :: rfn G k :: st) := by
  subst hi
  obtain ⟨p, l, e, R, s, m, args, below, meth, c, ce, sl, Q⟩ := X
  obtain ⟨hx, hb, hml, hown, hts, hK, hW, -, -, -, -⟩ := C
  intro H locs ls hP hS hlv
  refine va_aldq hx hb hK hP k 4 (view_at hsh (by decide) (cell_per hsh)) rfl (nI_vin hj (shp_small hsh)) hd ?_
  rw [nI_clamp (by have := shp_small hsh; omega)]
  exact kk H locs ls hP hS hlv
theorem aw_yald (C : Cx X G cc own nL d) {n : Nat} {i : Int32} (j : Nat) (hd : decode cc pc = .ok (.aaload, 1)) (hsh : shp k = (6, n)) (hi : i = nI j) (hj : j < n) (kk : AW X G q (pc + 1) lv (rfn G (99 + 3 * j) :: st)) : AW X G q pc lv (.int i :: rfn G k :: st) := by
  subst hi
  obtain ⟨p, l, e, R, s, m, args, below, meth, c, ce, sl, Q⟩ := X
  obtain ⟨hx, hb, hml, hown, hts, hK, hW, -, -, -, -⟩ := C
  intro H locs ls hP hS hlv
  refine va_aldq hx hb hK hP k 5 (view_at hsh (by decide) (cell_cit hsh)) rfl (nI_vin hj (shp_small hsh)) hd ?_
  rw [nI_clamp (by have := shp_small hsh; omega)]
  exact kk H locs ls hP hS hlv
theorem aw_tald (C : Cx X G cc own nL d) {n : Nat} {i : Int32} (j : Nat) (hd : decode cc pc = .ok (.aaload, 1)) (hsh : shp k = (7, n)) (hi : i = nI j) (hj : j < n) (kk : AW X G q (pc + 1) lv (rfn G (117 + 2 * j) :: st)) : AW X G q pc lv (.int i :: rfn G k :: st) := by
  subst hi
  obtain ⟨p, l, e, R, s, m, args, below, meth, c, ce, sl, Q⟩ := X
  obtain ⟨hx, hb, hml, hown, hts, hK, hW, -, -, -, -⟩ := C
  intro H locs ls hP hS hlv
  refine va_aldq hx hb hK hP k 6 (view_at hsh (by decide) (cell_tap hsh)) rfl (nI_vin hj (shp_small hsh)) hd ?_
  rw [nI_clamp (by have := shp_small hsh; omega)]
  exact kk H locs ls hP hS hlv
theorem upd_sI {q : S_} {k j : Nat} {x : Int32} : upd (q.1 k) j x = (sI q k j x).1 k := by
  funext c
  simp [upd, sI]
theorem updL_sL {q : S_} {k j : Nat} {x : Int64} : vp_updL (q.2 k) j x = (sL q k j x).2 k := by
  funext c
  simp [vp_updL, sL]
theorem aw_iast (C : Cx X G cc own nL d) {n : Nat} {i x : Int32} (j : Nat) (hd : decode cc pc = .ok (.iastore, 1)) (hsh : shp k = (1, n)) (hi : i = nI j) (hj : j < n) (kk : AW X G (sI q k j x) (pc + 1) lv st) : AW X G q pc lv (.int x :: .int i :: rfn G k :: st) := by
  subst hi
  obtain ⟨p, l, e, R, s, m, args, below, meth, c, ce, sl, Q⟩ := X
  obtain ⟨hx, hb, hml, hown, hts, hK, hW, -, -, -, -⟩ := C
  intro H locs ls hP hS hlv
  refine va_iast hx hb hK hP (view_D G q) hS k 0 (view_at hsh (by decide) (cell_int hsh)) rfl (nI_vin hj (shp_small hsh)) hd (fun H1 locs1 hP1 _ hS1 => kk H1 locs1 ls ?_ hS1 hlv)
  rw [nI_clamp (by have := shp_small hsh; omega), view_set G q (sI q k j x) (by rw [cell_int hsh, upd_sI]) (fun a ha => cellAt_sI G ha)] at hP1
  exact hP1
theorem aw_zast (C : Cx X G cc own nL d) {n : Nat} {i x : Int32} (j : Nat) (hd : decode cc pc = .ok (.bastore, 1)) (hsh : shp k = (2, n)) (hi : i = nI j) (hj : j < n) (hx01 : vp_nar .boolean x = x) (kk : AW X G (sI q k j x) (pc + 1) lv st) : AW X G q pc lv (.int x :: .int i :: rfn G k :: st) := by
  subst hi
  obtain ⟨p, l, e, R, s, m, args, below, meth, c, ce, sl, Q⟩ := X
  obtain ⟨hx, hb, hml, hown, hts, hK, hW, -, -, -, -⟩ := C
  intro H locs ls hP hS hlv
  refine va_zast hx hb hK hP (view_D G q) hS k 1 (view_at hsh (by decide) (cell_boo hsh)) rfl (nI_vin hj (shp_small hsh)) hd (fun H1 locs1 hP1 _ hS1 => kk H1 locs1 ls ?_ hS1 hlv)
  rw [hx01, nI_clamp (by have := shp_small hsh; omega), view_set G q (sI q k j x) (by rw [cell_boo hsh, upd_sI]) (fun a ha => cellAt_sI G ha)] at hP1
  exact hP1
theorem aw_last (C : Cx X G cc own nL d) {n : Nat} {i : Int32} {x : Int64} (j : Nat) (hd : decode cc pc = .ok (.lastore, 1)) (hsh : shp k = (4, n)) (hi : i = nI j) (hj : j < n) (kk : AW X G (sL q k j x) (pc + 1) lv st) : AW X G q pc lv (.long x :: .int i :: rfn G k :: st) := by
  subst hi
  obtain ⟨p, l, e, R, s, m, args, below, meth, c, ce, sl, Q⟩ := X
  obtain ⟨hx, hb, hml, hown, hts, hK, hW, -, -, -, -⟩ := C
  intro H locs ls hP hS hlv
  refine va_last hx hb hK hP (view_D G q) hS k 3 (view_at hsh (by decide) (cell_lon hsh)) rfl (nI_vin hj (shp_small hsh)) hd (fun H1 locs1 hP1 _ hS1 => kk H1 locs1 ls ?_ hS1 hlv)
  rw [nI_clamp (by have := shp_small hsh; omega), view_set G q (sL q k j x) (by rw [cell_lon hsh, updL_sL]) (fun a ha => cellAt_sL G ha)] at hP1
  exact hP1
theorem aw_alen (C : Cx X G cc own nL d) {n : Nat} (hd : decode cc pc = .ok (.arraylength, 1)) (hsh : shp k = (1, n)) (kk : AW X G q (pc + 1) lv (.int (nI n) :: st)) : AW X G q pc lv (rfn G k :: st) := by
  obtain ⟨p, l, e, R, s, m, args, below, meth, c, ce, sl, Q⟩ := X
  obtain ⟨hx, hb, hml, hown, hts, hK, hW, -, -, -, -⟩ := C
  intro H locs ls hP hS hlv
  exact va_alen hx hb hK hP k 0 (view_at hsh (by decide) (cell_int hsh)) rfl rfl hd (kk H locs ls hP hS hlv)
theorem aw_iret (C : Cx X G cc own nL d) {ret : Option FieldType} {Post : Option Value → S_ → Prop} (hR : Rt X G ret Post) {ty : FieldType} {v : Int32} (hd : decode cc pc = .ok (.ireturn, 1)) (hret : ret = some ty) (hn : narrow ty (.int v) = .int v) (h : Post (some (.int v)) q) : AW X G q pc lv [.int v] := by
  obtain ⟨p, l, e, R, s, m, args, below, meth, c, ce, sl, Q⟩ := X
  obtain ⟨hx, hb, hml, hown, hts, hK, hW, -, -, -, -⟩ := C
  obtain ⟨rfl, rfl, hr, hlk, rfl⟩ := hR
  intro H locs ls hP hS hlv
  exact W.zret (ty := ty) hx hb (by rw [hr, hret]) hn (fun t ht hWt => ⟨⟨_, q, rfl, h, by rw [ht]; exact hP⟩, hS.F ht⟩) hS.2.2 hd hlk
theorem aw_lret (C : Cx X G cc own nL d) {ret : Option FieldType} {Post : Option Value → S_ → Prop} (hR : Rt X G ret Post) {v : Int64} (hd : decode cc pc = .ok (.lreturn, 1)) (hret : ret = some .long) (h : Post (some (.long v)) q) : AW X G q pc lv [.long v] := by
  obtain ⟨p, l, e, R, s, m, args, below, meth, c, ce, sl, Q⟩ := X
  obtain ⟨hx, hb, hml, hown, hts, hK, hW, -, -, -, -⟩ := C
  obtain ⟨rfl, rfl, hr, hlk, rfl⟩ := hR
  intro H locs ls hP hS hlv
  exact W.lret hx hb (by rw [hr, hret]) (fun t ht hWt => ⟨⟨_, q, rfl, h, by rw [ht]; exact hP⟩, hS.F ht⟩) hS.2.2 hd hlk
theorem aw_vret (C : Cx X G cc own nL d) {ret : Option FieldType} {Post : Option Value → S_ → Prop} (hR : Rt X G ret Post) (hd : decode cc pc = .ok (.return_, 1)) (hret : ret = none) (h : Post none q) : AW X G q pc lv [] := by
  obtain ⟨p, l, e, R, s, m, args, below, meth, c, ce, sl, Q⟩ := X
  obtain ⟨hx, hb, hml, hown, hts, hK, hW, -, -, -, -⟩ := C
  obtain ⟨rfl, rfl, hr, hlk, rfl⟩ := hR
  intro H locs ls hP hS hlv
  exact W.vret hx hb (by rw [hr, hret]) (fun t ht hWt => ⟨⟨_, q, rfl, h, by rw [ht]; exact hP⟩, hS.F ht⟩) hS.2.2 hd hlk
theorem aw_above (C : Cx X G cc own nL d) {ix : Nat} (hl : Cond.fieldLink own ix RX8 "ABOVE" "[I" ∈ gtb) (hd : decode cc pc = .ok (.getstatic ix, 3)) (kk : AW X G q (pc + 3) lv (.ref (G.2.2.2.2 20) :: st)) : AW X G q pc lv st := by
  obtain ⟨p, l, e, R, s, m, args, below, meth, c, ce, sl, Q⟩ := X
  obtain ⟨hx, hb, hml, hown, hts, hK, ⟨-, -, -, -, hT⟩, -, -, -, -⟩ := C
  intro H locs ls hP hS hlv
  exact va_gets hx hb hT.2.2.1 hS hown (hts _ hl) (fun _ h => h) hd (kk H locs ls hP hS hlv)
theorem aw_aboveN (C : Cx X G cc RX0 nL d) (hd : decode cc pc = .ok (.getstatic 39, 3)) (kk : AW X G q (pc + 3) lv (.ref (G.2.2.2.2 20) :: st)) : AW X G q pc lv st := by
  obtain ⟨p, l, e, R, s, m, args, below, meth, c, ce, sl, Q⟩ := X
  obtain ⟨hx, hb, hml, hown, hts, hK, ⟨-, -, -, -, hT⟩, -, -, -, -⟩ := C
  intro H locs ls hP hS hlv
  exact va_getsN hx hb hT.2.2.1 hS hown (hT.2.2.2.2.2.2.2.2.2.use rfl) (fun _ h => h) hd (kk H locs ls hP hS hlv)
theorem aw_bodiesN (C : Cx X G cc RX0 nL d) (hd : decode cc pc = .ok (.getstatic 36, 3)) (kk : AW X G q (pc + 3) lv (.ref (G.2.2.2.2 21) :: st)) : AW X G q pc lv st := by
  obtain ⟨p, l, e, R, s, m, args, below, meth, c, ce, sl, Q⟩ := X
  obtain ⟨hx, hb, hml, hown, hts, hK, ⟨-, -, -, -, hT⟩, -, -, -, -⟩ := C
  intro H locs ls hP hS hlv
  exact va_getsN hx hb hT.2.2.2.2.1 hS hown (hT.2.2.2.2.2.2.2.2.1.use rfl) (fun _ h => h) hd (kk H locs ls hP hS hlv)
theorem aw_aboveld (C : Cx X G cc own nL d) {i : Int32} (j : Nat) (hd : decode cc pc = .ok (.iaload, 1)) (hi : i = nI j) (hj : j < 7) (kk : AW X G q (pc + 1) lv (.int (abv j) :: st)) : AW X G q pc lv (.int i :: .ref (G.2.2.2.2 20) :: st) := by
  subst hi
  obtain ⟨p, l, e, R, s, m, args, below, meth, c, ce, sl, Q⟩ := X
  obtain ⟨hx, hb, hml, hown, hts, hK, ⟨-, -, -, -, hT⟩, -, -, -, -⟩ := C
  intro H locs ls hP hS hlv
  exact va_ti hx hb hT.2.2.2.1 hS (nI_vin hj (by decide)) (by rw [nI_clamp (by omega)]) hd (kk H locs ls hP hS hlv)
theorem aw_bodiesld (C : Cx X G cc own nL d) {i : Int32} (j : Nat) (hd : decode cc pc = .ok (.iaload, 1)) (hi : i = nI j) (hj : j < 21) (kk : AW X G q (pc + 1) lv (.int (bds j) :: st)) : AW X G q pc lv (.int i :: .ref (G.2.2.2.2 21) :: st) := by
  subst hi
  obtain ⟨p, l, e, R, s, m, args, below, meth, c, ce, sl, Q⟩ := X
  obtain ⟨hx, hb, hml, hown, hts, hK, ⟨-, -, -, -, hT⟩, -, -, -, -⟩ := C
  intro H locs ls hP hS hlv
  exact va_ti hx hb hT.2.2.2.2.2.1 hS (nI_vin hj (by decide)) (by rw [nI_clamp (by omega)]) hd (kk H locs ls hP hS hlv)
end HEAP
/-! calls -/
theorem Stt.move {G : GT} {s U : State} (hW : s.WarmedH U.vm) (h : Stt G s s.heap) (hq : ∀ a : Nat, a < G.2.2.1 → U.heap[a]? = s.heap[a]?) : Stt G U U.heap := by
  have hv := hW.alike
  have hk : ∀ a : Nat, a < s.heap.size → ¬ G.2.2.1 ≤ a → U.heap[a]? = s.heap[a]? := fun a _ ha => hq a (Nat.not_le.mp ha)
  obtain ⟨h1, h2, h3, h4, h5, h6, h7, h8, h9, h10⟩ := h
  exact ⟨fun i hi => (h1 i hi).warm hW, (h2.moved hv).kept hk, (h3.moved hv).kept hk, (h4.moved hv).kept hk, (h5.moved hv).kept hk, (h6.moved hv).kept hk, (h7.moved hv).kept hk, (h8.moved hv).kept hk, h9.warmF hW, h10.warmF hW⟩
theorem WdS.move {G : GT} {s U : State} (hW : s.WarmedH U.vm) (h : WdS G s) (hz : s.heap.size ≤ U.heap.size) (hq : ∀ a : Nat, a < G.2.2.1 → U.heap[a]? = s.heap[a]?) : WdS G U :=
  ⟨State.WarmedH.trans h.1 hW, fun a ha => (hq a ha).trans (h.2.1 a ha), h.2.2.1, Nat.le_trans h.2.2.2.1 hz, Stt.move hW h.2.2.2.2 hq⟩
theorem WdG.of {G : GT} {q : S_} {s U : State} {H : Heap} {locs : List Loc} (hK : va_K G.1 vwCl (tysG G) s) (h : WdS G s) (hP : va_P G.1 vwCl (view G q) H) (hS : va_S (fun a => G.2.2.1 ≤ a) s.heap H locs) (hU : U.heap = H) (hW : s.WarmedH U.vm) : WdG G q U :=
  ⟨by rw [hU]; exact hP, va_K.moved hW.alike hK, h.move hW (by rw [hU]; exact hS.1) (fun a ha => by rw [hU]; exact hS.2.1 a (Nat.lt_of_lt_of_le ha h.2.2.2.1) (Nat.not_le.mpr ha))⟩
theorem vk_R.vm {own tx : String} {k a : Nat} {u U : State} (hv : U.vm = u.vm) (h : vk_R own k tx a u) : vk_R own k tx a U := vk_R.same hv h
theorem Spec.blind {G : GT} {q : S_} {vs : List Value} : FrameBlind (va_Pc vs (WdG G q)) := by
  intro a U g mk ⟨h1, h2, h3, h4, h5, h6, h7, hs⟩
  have hW : U.WarmedH (U.calling g mk a).vm := by exact State.WarmedH.refl U
  exact ⟨h1, h2, va_K.moved (u := U) (U := U.calling g mk a) (Vm.Alike.refl U.vm) h3, h4, h5, h6, h7, Stt.move hW hs (fun _ _ => rfl)⟩
theorem lw_goodIn {ws : List Cond} (h : ∀ w ∈ ws, w ∈ gtb) : GoodIn gtb ws := fun w hw => ⟨h w hw, good_of_word (gtb_good (h w hw))⟩
section CALLS
variable {X : CT} {G : GT} {q : S_} {cc : ByteArray} {own : String} {nL d pc k : Nat} {lv : List (Option Value)} {st : List Value} {y : MethodName} {cy : ByteArray} {ny np n ix : Nat} {ry : Option FieldType} {Post : Option Value → S_ → Prop}
theorem aw_run {p : Program} {l : Launch} {e : Env} {R : Room} {s : State} {m : MethodId} {args : Array Value} {below : List Frame} {meth : Method} {c : Code} {ce sl : Nat} {Q : State → Prop} {H : Heap} {locs : List Loc} {ls : Array Slot} {st0 : List Value} {a : Array Value} (hS : va_S (fun a => G.2.2.1 ≤ a) s.heap H locs) (hl : lvh ls c.maxLocals lv)
    (hr : va_Run p l e R s m args below meth c H locs ce sl 0 0 (F0 m pc ls st0) st (QcG G Post a) (fun a => G.2.2.1 ≤ a)) (kk : ∀ (v : Option Value) (q' : S_), Post v q' → AW (p, l, e, R, s, m, args, below, meth, c, ce, sl, Q) G q' (pc + 3) lv (v.toList ++ st)) : W p l e R s m args below meth c H locs ce sl Q (F0 m pc ls st0) := by
  intro T hT X
  obtain ⟨v, st₀, t, T', L, h0, X', hL, e1, e2, ⟨⟨v', q', hv, hp, hb⟩, hz, hk⟩, st⟩ := hr T hT X
  cases hv
  rw [h0] at hz hk
  obtain ⟨t2, a1, b1⟩ := kk v q' hp T'.heap (locs ++ L) ls (by rw [e1]; exact hb)
    ⟨Nat.le_trans hS.1 (by rw [e1]; exact hz), fun a h1 h2 => by rw [e1, hk a (Nat.lt_of_lt_of_le h1 hS.1) h2]; exact hS.2.1 a h1 h2, fun z hz => by
      rcases List.mem_append.mp hz with h | h
      · exact hS.2.2 z h
      · exact hL z h⟩ hl T' rfl X'
  exact ⟨t2, st t2 a1, b1⟩
theorem aw_callV (C : Cx X G cc own nL d) {ci : Nat} {vs : List Value} (hsp : Spec G n y cy ny ry (rfn G k :: vs) q Post) (F : MF y cy ny ry np) (V : MV y) (hsh : shp k = (0, ci)) (hci : (vwCl[ci]?).map (fun r => r.1) = some y.cls) (hvs : vs.length = np) (hlink : Cond.methodLink own ix y ∈ gtb) (hd : decode cc pc = .ok (.invokevirtual ix, 3)) (hnd : n + 1 ≤ d) {st0 : List Value} (hst : st0 = vs.reverse ++ rfn G k :: st) (hcat : (st.map fun v => v.category).sum ≤ 8)
    (kk : ∀ (v : Option Value) (q' : S_), Post v q' → AW X G q' (pc + 3) lv (v.toList ++ st)) : AW X G q pc lv st0 := by
  subst hst
  obtain ⟨p, l, e, R, s, m, args, below, meth, c, ce, sl, Q⟩ := X
  obtain ⟨hx, hb, hml, hown, hts, hK, hW, hd1, hd2, hce, hsl⟩ := C
  obtain ⟨F1, F2, F3, F4⟩ := F
  obtain ⟨V1, V2⟩ := V
  intro H locs ls hP hS hlv
  obtain ⟨r, hr, hrc⟩ := Option.map_eq_some_iff.mp hci
  have hG : GoodIn gtb (wsV own ix y.cls y (.code y cy ny ry :: gtb)) := lw_goodIn (fun w hw => by
    unfold wsV at hw
    rcases List.mem_append.mp hw with h | h
    · simp only [List.mem_cons, List.not_mem_nil, or_false] at h
      rcases h with rfl | rfl | rfl | rfl
      · exact hlink
      · exact V1
      · exact V2
      · exact F2
    · rcases List.mem_cons.mp h with rfl | h
      · exact F1
      · exact h)
  have hrec := va_recv hK hP hr (view_at hsh (by decide) (cell_obj (G := G) (q := q) hsh))
  rw [hrc] at hrec
  refine aw_run hS hlv (va_runV (As := vs) (rest := st) ⟨hx, hb, hml, hown, hts⟩ (hsp l (d - 1) (by omega)) (cwV np hts hG rfl rfl rfl ⟨rfl, F3⟩ ⟨by show d - 1 + 1 ≤ _; omega, by show 8 + (ny + 11) + 64 * (d - 1) ≤ _; omega⟩) ⟨Spec.blind, hrec, fun U hU hWU => ⟨rfl, WdG.of hK hW hP hS hU hWU⟩⟩ rfl hvs (by rw [← hml]; exact hlv.1) rfl (lv_room hcat) hd ⟨hce, hsl⟩) kk
theorem aw_callS (C : Cx X G cc own nL d) {vs : List Value} (hsp : Spec G n y cy ny ry vs q Post) (F : MF y cy ny ry np) (hstat : Cond.static y ∈ gtb) (hvs : vs.length = np) (hlink : Cond.methodLink own ix y ∈ gtb) (hd : decode cc pc = .ok (.invokestatic ix, 3)) (hnd : n + 1 ≤ d) {st0 : List Value} (hst : st0 = vs.reverse ++ st) (hcat : (st.map fun v => v.category).sum ≤ 8)
    (kk : ∀ (v : Option Value) (q' : S_), Post v q' → AW X G q' (pc + 3) lv (v.toList ++ st)) : AW X G q pc lv st0 := by
  subst hst
  obtain ⟨p, l, e, R, s, m, args, below, meth, c, ce, sl, Q⟩ := X
  obtain ⟨hx, hb, hml, hown, hts, hK, hW, hd1, hd2, hce, hsl⟩ := C
  obtain ⟨F1, F2, F3, F4⟩ := F
  intro H locs ls hP hS hlv
  have hG : GoodIn gtb (va_wsS own ix y (.code y cy ny ry :: gtb)) := lw_goodIn (fun w hw => by
    unfold va_wsS at hw
    rcases List.mem_append.mp hw with h | h
    · simp only [List.mem_cons, List.not_mem_nil, or_false] at h
      rcases h with rfl | rfl | rfl
      · exact hlink
      · exact hstat
      · exact F2
    · rcases List.mem_cons.mp h with rfl | h
      · exact F1
      · exact h)
  refine aw_run hS hlv (va_runS (As := vs) (rest := st) ⟨hx, hb, hml, hown, hts⟩ (hsp l (d - 1) (by omega)) (va_cwS np hts hG rfl rfl rfl F3 ⟨by show d - 1 + 1 ≤ _; omega, by show 8 + (ny + 11) + 64 * (d - 1) ≤ _; omega⟩) ⟨Spec.blind, fun U hU hWU => ⟨rfl, WdG.of hK hW hP hS hU hWU⟩⟩ rfl hvs (by rw [← hml]; exact hlv.1) rfl (lv_room hcat) hd ⟨hce, hsl⟩) kk
end CALLS
/-- the locals with which a method begins -/
def lve : List Value → List (Option Value)
  | [] => []
  | v :: vs => if v.category = 2 then some v :: none :: lve vs else some v :: lve vs
theorem lve_args : ∀ (vs : List Value) (i : Nat) (v : Value), (lve vs)[i]? = some (some v) → ∀ a, (a + i, v) ∈ lv_args a vs := by
  intro vs
  induction vs with
  | nil => intro i v h; simp [lve] at h
  | cons w vs ih =>
    intro i v h a
    unfold lve at h
    by_cases hw : w.category = 2
    · rw [if_pos hw] at h
      match i, h with
      | 0, h =>
        simp at h
        subst h
        exact List.mem_cons_self
      | 1, h => simp at h
      | i + 2, h =>
        have := ih i v (by simpa using h) (a + 2)
        rw [lv_args, if_pos hw]
        exact List.mem_cons_of_mem _ (by rw [show a + (i + 2) = a + 2 + i by omega]; exact this)
    · rw [if_neg hw] at h
      match i, h with
      | 0, h =>
        simp at h
        subst h
        exact List.mem_cons_self
      | i + 1, h =>
        have := ih i v (by simpa using h) (a + 1)
        rw [lv_args, if_neg hw]
        exact List.mem_cons_of_mem _ (by rw [show a + (i + 1) = a + 1 + i by omega]; exact this)
theorem lve_len (vs : List Value) : (lg_sl vs).length = (lve vs).length := by
  induction vs with
  | nil => rfl
  | cons v vs ih =>
    unfold lve
    rw [lg_sl, List.flatMap_cons, List.length_append, ← lg_sl, ih]
    by_cases h : v.category = 2
    · rw [if_pos h, if_pos h]; simp; omega
    · rw [if_neg h, if_neg h]; simp; omega
theorem Spec.intro {G : GT} {n : Nat} {y : MethodName} {cc : ByteArray} {nL : Nat} {ret : Option FieldType} {vs : List Value} {q : S_} {Post : Option Value → S_ → Prop} (own : String) (hy : plainName y.cls = true) (ho : y.cls = own) (hlen : (lve vs).length ≤ nL) (lv : List (Option Value)) (hlv : lve vs ++ List.replicate (nL - (lve vs).length) none = lv)
    (h : ∀ (X : CT) (d : Nat), n ≤ d → Cx X G cc own nL d → Rt X G ret Post → AW X G q 0 lv []) : Spec G n y cc nL ret vs q Post := by
  intro l d hd
  refine Met.ofW (cc := cc) (maxL := nL) (ret := ret) hy rfl ?_
  intro p e s m args below meth c s₁ B hml hv
  obtain ⟨rfl, hP, hK, hW⟩ := hv
  have hts := atoms_spec (ws := .code y cc nL ret :: gtb) B.pre
  have hown : s.vm.findClass own = some m.cls := by rw [← ho]; exact findClass_of_methodNamed B.named
  have hl0 := lv_entry vs (n := nL) (by rw [lve_len]; exact hlen)
  rw [lg_entry_eq]
  refine h (p, l, e, _, s, m, _, below, meth, c, 0, 0, _) d hd ⟨B.exec, B.bytes, hml, hown, fun w hw => hts w (List.mem_cons_of_mem _ hw), hK, hW, Nat.le_refl d, Nat.le_refl _, Nat.le_refl 0, Nat.le_refl 0⟩ ⟨rfl, rfl, B.returns, B.notSynchronized, rfl⟩ s.heap [] _ hP va_S.rf ?_
  refine ⟨by rw [hml]; exact hl0.1, hl0.2.1, fun i v hi => hl0.2.2 (i, v) ?_⟩
  rw [← hlv] at hi
  have h2 : (lve vs)[i]? = some (some v) := by
    rcases Nat.lt_or_ge i (lve vs).length with z | z
    · rw [List.getElem?_append_left z] at hi
      exact hi
    · rw [List.getElem?_append_right z] at hi
      have := List.mem_of_getElem? hi
      simp [List.mem_replicate] at this
  have := lve_args vs i v h2 0
  rwa [Nat.zero_add] at this
theorem aw_g0_0 {X : CT} {G : GT} {q : S_} {cc : ByteArray} {own : String} {nL d pc ix : Nat} {lv : List (Option Value)} {st : List Value} (C : Cx X G cc own nL d) (hd : decode cc pc = .ok (.getfield ix, 3)) (hl : Cond.fieldLink own ix "BridgePairs$Acts" "bodies" "[I" ∈ gtb) (kk : AW X G q (pc + 3) lv (rfn G 98 :: st)) : AW X G q pc lv (rfn G 97 :: st) := aw_get C (k := 97) 0 0 rfl (gtb_u inX0) (by decide +kernel) (by decide) rfl hl hd kk
theorem aw_g0_1 {X : CT} {G : GT} {q : S_} {cc : ByteArray} {own : String} {nL d pc ix : Nat} {lv : List (Option Value)} {st : List Value} (C : Cx X G cc own nL d) {x : Int32} (hx : (gI q 97 1) = x) (hd : decode cc pc = .ok (.getfield ix, 3)) (hl : Cond.fieldLink own ix "BridgePairs$Acts" "ran" "I" ∈ gtb) (kk : AW X G q (pc + 3) lv (.int x :: st)) : AW X G q pc lv (rfn G 97 :: st) := aw_get C (k := 97) 0 1 rfl (gtb_u inX0) (by decide +kernel) (by decide) rfl hl hd (by rw [hx]; exact kk)
theorem aw_p0_1 {X : CT} {G : GT} {q : S_} {cc : ByteArray} {own : String} {nL d pc ix : Nat} {lv : List (Option Value)} {st : List Value} (C : Cx X G cc own nL d) {x : Int32} (hd : decode cc pc = .ok (.putfield ix, 3)) (hl : Cond.fieldLink own ix "BridgePairs$Acts" "ran" "I" ∈ gtb) (kk : AW X G (sI q 97 1 x) (pc + 3) lv st) : AW X G q pc lv (.int x :: rfn G 97 :: st) := aw_put C (k := 97) 0 1 rfl (gtb_u inX0) tyX0 tyX0_ok nmX0 (by decide +kernel) (by decide) rfl rfl rfl (by simp [flds]) (by simp [flds, gI_sI]) (fun a ha => cellAt_sI G ha) hl hd kk
theorem aw_g0_2 {X : CT} {G : GT} {q : S_} {cc : ByteArray} {own : String} {nL d pc ix : Nat} {lv : List (Option Value)} {st : List Value} (C : Cx X G cc own nL d) {x : Int32} (hx : (gI q 97 2) = x) (hd : decode cc pc = .ok (.getfield ix, 3)) (hl : Cond.fieldLink own ix "BridgePairs$Acts" "kind" "I" ∈ gtb) (kk : AW X G q (pc + 3) lv (.int x :: st)) : AW X G q pc lv (rfn G 97 :: st) := aw_get C (k := 97) 0 2 rfl (gtb_u inX0) (by decide +kernel) (by decide) rfl hl hd (by rw [hx]; exact kk)
theorem aw_p0_2 {X : CT} {G : GT} {q : S_} {cc : ByteArray} {own : String} {nL d pc ix : Nat} {lv : List (Option Value)} {st : List Value} (C : Cx X G cc own nL d) {x : Int32} (hd : decode cc pc = .ok (.putfield ix, 3)) (hl : Cond.fieldLink own ix "BridgePairs$Acts" "kind" "I" ∈ gtb) (kk : AW X G (sI q 97 2 x) (pc + 3) lv st) : AW X G q pc lv (.int x :: rfn G 97 :: st) := aw_put C (k := 97) 0 2 rfl (gtb_u inX0) tyX0 tyX0_ok nmX0 (by decide +kernel) (by decide) rfl rfl rfl (by simp [flds]) (by simp [flds, gI_sI]) (fun a ha => cellAt_sI G ha) hl hd kk
theorem aw_g0_3 {X : CT} {G : GT} {q : S_} {cc : ByteArray} {own : String} {nL d pc ix : Nat} {lv : List (Option Value)} {st : List Value} (C : Cx X G cc own nL d) {x : Int32} (hx : (gI q 97 3) = x) (hd : decode cc pc = .ok (.getfield ix, 3)) (hl : Cond.fieldLink own ix "BridgePairs$Acts" "v" "I" ∈ gtb) (kk : AW X G q (pc + 3) lv (.int x :: st)) : AW X G q pc lv (rfn G 97 :: st) := aw_get C (k := 97) 0 3 rfl (gtb_u inX0) (by decide +kernel) (by decide) rfl hl hd (by rw [hx]; exact kk)
theorem aw_p0_3 {X : CT} {G : GT} {q : S_} {cc : ByteArray} {own : String} {nL d pc ix : Nat} {lv : List (Option Value)} {st : List Value} (C : Cx X G cc own nL d) {x : Int32} (hd : decode cc pc = .ok (.putfield ix, 3)) (hl : Cond.fieldLink own ix "BridgePairs$Acts" "v" "I" ∈ gtb) (kk : AW X G (sI q 97 3 x) (pc + 3) lv st) : AW X G q pc lv (.int x :: rfn G 97 :: st) := aw_put C (k := 97) 0 3 rfl (gtb_u inX0) tyX0 tyX0_ok nmX0 (by decide +kernel) (by decide) rfl rfl rfl (by simp [flds]) (by simp [flds, gI_sI]) (fun a ha => cellAt_sI G ha) hl hd kk
theorem aw_g0_4 {X : CT} {G : GT} {q : S_} {cc : ByteArray} {own : String} {nL d pc ix : Nat} {lv : List (Option Value)} {st : List Value} (C : Cx X G cc own nL d) {x : Int32} (hx : (gI q 97 4) = x) (hd : decode cc pc = .ok (.getfield ix, 3)) (hl : Cond.fieldLink own ix "BridgePairs$Acts" "number" "I" ∈ gtb) (kk : AW X G q (pc + 3) lv (.int x :: st)) : AW X G q pc lv (rfn G 97 :: st) := aw_get C (k := 97) 0 4 rfl (gtb_u inX0) (by decide +kernel) (by decide) rfl hl hd (by rw [hx]; exact kk)
theorem aw_p0_4 {X : CT} {G : GT} {q : S_} {cc : ByteArray} {own : String} {nL d pc ix : Nat} {lv : List (Option Value)} {st : List Value} (C : Cx X G cc own nL d) {x : Int32} (hd : decode cc pc = .ok (.putfield ix, 3)) (hl : Cond.fieldLink own ix "BridgePairs$Acts" "number" "I" ∈ gtb) (kk : AW X G (sI q 97 4 x) (pc + 3) lv st) : AW X G q pc lv (.int x :: rfn G 97 :: st) := aw_put C (k := 97) 0 4 rfl (gtb_u inX0) tyX0 tyX0_ok nmX0 (by decide +kernel) (by decide) rfl rfl rfl (by simp [flds]) (by simp [flds, gI_sI]) (fun a ha => cellAt_sI G ha) hl hd kk
theorem aw_g1_0 {X : CT} {G : GT} {q : S_} {cc : ByteArray} {own : String} {nL d pc ix : Nat} {lv : List (Option Value)} {st : List Value} (C : Cx X G cc own nL d) {k : Nat} {x : Int32} (hx : (gI q k 0) = x) (hd : decode cc pc = .ok (.getfield ix, 3)) (hsh : shp k = (0, 1)) (hl : Cond.fieldLink own ix "BridgePairs$City" "dark" "I" ∈ gtb) (kk : AW X G q (pc + 3) lv (.int x :: st)) : AW X G q pc lv (rfn G k :: st) := aw_get C 1 0 rfl (gtb_u inX1) hsh (by decide) rfl hl hd (by rw [hx]; exact kk)
theorem aw_p1_0 {X : CT} {G : GT} {q : S_} {cc : ByteArray} {own : String} {nL d pc ix : Nat} {lv : List (Option Value)} {st : List Value} (C : Cx X G cc own nL d) {k : Nat} {x : Int32} (hd : decode cc pc = .ok (.putfield ix, 3)) (hsh : shp k = (0, 1)) (hl : Cond.fieldLink own ix "BridgePairs$City" "dark" "I" ∈ gtb) (kk : AW X G (sI q k 0 x) (pc + 3) lv st) : AW X G q pc lv (.int x :: rfn G k :: st) := aw_put C 1 0 rfl (gtb_u inX1) tyX1 tyX1_ok nmX1 hsh (by decide) rfl rfl rfl (by simp [flds]) (by simp [flds, gI_sI]) (fun a ha => cellAt_sI G ha) hl hd kk
theorem aw_g1_1 {X : CT} {G : GT} {q : S_} {cc : ByteArray} {own : String} {nL d pc ix : Nat} {lv : List (Option Value)} {st : List Value} (C : Cx X G cc own nL d) {k : Nat} (hd : decode cc pc = .ok (.getfield ix, 3)) (hsh : shp k = (0, 1)) (hl : Cond.fieldLink own ix "BridgePairs$City" "codes" "[I" ∈ gtb) (kk : AW X G q (pc + 3) lv (rfn G (k + 1) :: st)) : AW X G q pc lv (rfn G k :: st) := aw_get C 1 1 rfl (gtb_u inX1) hsh (by decide) rfl hl hd kk
theorem aw_g1_2 {X : CT} {G : GT} {q : S_} {cc : ByteArray} {own : String} {nL d pc ix : Nat} {lv : List (Option Value)} {st : List Value} (C : Cx X G cc own nL d) {k : Nat} {x : Int32} (hx : (gI q k 2) = x) (hd : decode cc pc = .ok (.getfield ix, 3)) (hsh : shp k = (0, 1)) (hl : Cond.fieldLink own ix "BridgePairs$City" "size" "I" ∈ gtb) (kk : AW X G q (pc + 3) lv (.int x :: st)) : AW X G q pc lv (rfn G k :: st) := aw_get C 1 2 rfl (gtb_u inX1) hsh (by decide) rfl hl hd (by rw [hx]; exact kk)
theorem aw_p1_2 {X : CT} {G : GT} {q : S_} {cc : ByteArray} {own : String} {nL d pc ix : Nat} {lv : List (Option Value)} {st : List Value} (C : Cx X G cc own nL d) {k : Nat} {x : Int32} (hd : decode cc pc = .ok (.putfield ix, 3)) (hsh : shp k = (0, 1)) (hl : Cond.fieldLink own ix "BridgePairs$City" "size" "I" ∈ gtb) (kk : AW X G (sI q k 2 x) (pc + 3) lv st) : AW X G q pc lv (.int x :: rfn G k :: st) := aw_put C 1 2 rfl (gtb_u inX1) tyX1 tyX1_ok nmX1 hsh (by decide) rfl rfl rfl (by simp [flds]) (by simp [flds, gI_sI]) (fun a ha => cellAt_sI G ha) hl hd kk
theorem aw_g1_3 {X : CT} {G : GT} {q : S_} {cc : ByteArray} {own : String} {nL d pc ix : Nat} {lv : List (Option Value)} {st : List Value} (C : Cx X G cc own nL d) {k : Nat} (hd : decode cc pc = .ok (.getfield ix, 3)) (hsh : shp k = (0, 1)) (hl : Cond.fieldLink own ix "BridgePairs$City" "facts" "[I" ∈ gtb) (kk : AW X G q (pc + 3) lv (rfn G (k + 2) :: st)) : AW X G q pc lv (rfn G k :: st) := aw_get C 1 3 rfl (gtb_u inX1) hsh (by decide) rfl hl hd kk
theorem aw_g2_0 {X : CT} {G : GT} {q : S_} {cc : ByteArray} {own : String} {nL d pc ix : Nat} {lv : List (Option Value)} {st : List Value} (C : Cx X G cc own nL d) {k : Nat} {x : Int32} (hx : (gI q k 0) = x) (hd : decode cc pc = .ok (.getfield ix, 3)) (hsh : shp k = (0, 2)) (hl : Cond.fieldLink own ix "BridgePairs$Person" "kind" "I" ∈ gtb) (kk : AW X G q (pc + 3) lv (.int x :: st)) : AW X G q pc lv (rfn G k :: st) := aw_get C 2 0 rfl (gtb_u inX2) hsh (by decide) rfl hl hd (by rw [hx]; exact kk)
theorem aw_p2_0 {X : CT} {G : GT} {q : S_} {cc : ByteArray} {own : String} {nL d pc ix : Nat} {lv : List (Option Value)} {st : List Value} (C : Cx X G cc own nL d) {k : Nat} {x : Int32} (hd : decode cc pc = .ok (.putfield ix, 3)) (hsh : shp k = (0, 2)) (hl : Cond.fieldLink own ix "BridgePairs$Person" "kind" "I" ∈ gtb) (kk : AW X G (sI q k 0 x) (pc + 3) lv st) : AW X G q pc lv (.int x :: rfn G k :: st) := aw_put C 2 0 rfl (gtb_u inX2) tyX2 tyX2_ok nmX2 hsh (by decide) rfl rfl rfl (by simp [flds]) (by simp [flds, gI_sI]) (fun a ha => cellAt_sI G ha) hl hd kk
theorem aw_g2_1 {X : CT} {G : GT} {q : S_} {cc : ByteArray} {own : String} {nL d pc ix : Nat} {lv : List (Option Value)} {st : List Value} (C : Cx X G cc own nL d) {k : Nat} {x : Int32} (hx : (gI q k 1) = x) (hd : decode cc pc = .ok (.getfield ix, 3)) (hsh : shp k = (0, 2)) (hl : Cond.fieldLink own ix "BridgePairs$Person" "v" "I" ∈ gtb) (kk : AW X G q (pc + 3) lv (.int x :: st)) : AW X G q pc lv (rfn G k :: st) := aw_get C 2 1 rfl (gtb_u inX2) hsh (by decide) rfl hl hd (by rw [hx]; exact kk)
theorem aw_p2_1 {X : CT} {G : GT} {q : S_} {cc : ByteArray} {own : String} {nL d pc ix : Nat} {lv : List (Option Value)} {st : List Value} (C : Cx X G cc own nL d) {k : Nat} {x : Int32} (hd : decode cc pc = .ok (.putfield ix, 3)) (hsh : shp k = (0, 2)) (hl : Cond.fieldLink own ix "BridgePairs$Person" "v" "I" ∈ gtb) (kk : AW X G (sI q k 1 x) (pc + 3) lv st) : AW X G q pc lv (.int x :: rfn G k :: st) := aw_put C 2 1 rfl (gtb_u inX2) tyX2 tyX2_ok nmX2 hsh (by decide) rfl rfl rfl (by simp [flds]) (by simp [flds, gI_sI]) (fun a ha => cellAt_sI G ha) hl hd kk
theorem aw_g2_2 {X : CT} {G : GT} {q : S_} {cc : ByteArray} {own : String} {nL d pc ix : Nat} {lv : List (Option Value)} {st : List Value} (C : Cx X G cc own nL d) {k : Nat} {x : Int32} (hx : (gI q k 2) = x) (hd : decode cc pc = .ok (.getfield ix, 3)) (hsh : shp k = (0, 2)) (hl : Cond.fieldLink own ix "BridgePairs$Person" "at" "I" ∈ gtb) (kk : AW X G q (pc + 3) lv (.int x :: st)) : AW X G q pc lv (rfn G k :: st) := aw_get C 2 2 rfl (gtb_u inX2) hsh (by decide) rfl hl hd (by rw [hx]; exact kk)
theorem aw_p2_2 {X : CT} {G : GT} {q : S_} {cc : ByteArray} {own : String} {nL d pc ix : Nat} {lv : List (Option Value)} {st : List Value} (C : Cx X G cc own nL d) {k : Nat} {x : Int32} (hd : decode cc pc = .ok (.putfield ix, 3)) (hsh : shp k = (0, 2)) (hl : Cond.fieldLink own ix "BridgePairs$Person" "at" "I" ∈ gtb) (kk : AW X G (sI q k 2 x) (pc + 3) lv st) : AW X G q pc lv (.int x :: rfn G k :: st) := aw_put C 2 2 rfl (gtb_u inX2) tyX2 tyX2_ok nmX2 hsh (by decide) rfl rfl rfl (by simp [flds]) (by simp [flds, gI_sI]) (fun a ha => cellAt_sI G ha) hl hd kk
theorem aw_g2_3 {X : CT} {G : GT} {q : S_} {cc : ByteArray} {own : String} {nL d pc ix : Nat} {lv : List (Option Value)} {st : List Value} (C : Cx X G cc own nL d) {k : Nat} {x : Int32} (hx : (gI q k 3) = x) (hd : decode cc pc = .ok (.getfield ix, 3)) (hsh : shp k = (0, 2)) (hl : Cond.fieldLink own ix "BridgePairs$Person" "said" "I" ∈ gtb) (kk : AW X G q (pc + 3) lv (.int x :: st)) : AW X G q pc lv (rfn G k :: st) := aw_get C 2 3 rfl (gtb_u inX2) hsh (by decide) rfl hl hd (by rw [hx]; exact kk)
theorem aw_p2_3 {X : CT} {G : GT} {q : S_} {cc : ByteArray} {own : String} {nL d pc ix : Nat} {lv : List (Option Value)} {st : List Value} (C : Cx X G cc own nL d) {k : Nat} {x : Int32} (hd : decode cc pc = .ok (.putfield ix, 3)) (hsh : shp k = (0, 2)) (hl : Cond.fieldLink own ix "BridgePairs$Person" "said" "I" ∈ gtb) (kk : AW X G (sI q k 3 x) (pc + 3) lv st) : AW X G q pc lv (.int x :: rfn G k :: st) := aw_put C 2 3 rfl (gtb_u inX2) tyX2 tyX2_ok nmX2 hsh (by decide) rfl rfl rfl (by simp [flds]) (by simp [flds, gI_sI]) (fun a ha => cellAt_sI G ha) hl hd kk
theorem aw_g2_4 {X : CT} {G : GT} {q : S_} {cc : ByteArray} {own : String} {nL d pc ix : Nat} {lv : List (Option Value)} {st : List Value} (C : Cx X G cc own nL d) {k : Nat} {x : Int32} (hx : (gI q k 4) = x) (hd : decode cc pc = .ok (.getfield ix, 3)) (hsh : shp k = (0, 2)) (hl : Cond.fieldLink own ix "BridgePairs$Person" "errand" "I" ∈ gtb) (kk : AW X G q (pc + 3) lv (.int x :: st)) : AW X G q pc lv (rfn G k :: st) := aw_get C 2 4 rfl (gtb_u inX2) hsh (by decide) rfl hl hd (by rw [hx]; exact kk)
theorem aw_p2_4 {X : CT} {G : GT} {q : S_} {cc : ByteArray} {own : String} {nL d pc ix : Nat} {lv : List (Option Value)} {st : List Value} (C : Cx X G cc own nL d) {k : Nat} {x : Int32} (hd : decode cc pc = .ok (.putfield ix, 3)) (hsh : shp k = (0, 2)) (hl : Cond.fieldLink own ix "BridgePairs$Person" "errand" "I" ∈ gtb) (kk : AW X G (sI q k 4 x) (pc + 3) lv st) : AW X G q pc lv (.int x :: rfn G k :: st) := aw_put C 2 4 rfl (gtb_u inX2) tyX2 tyX2_ok nmX2 hsh (by decide) rfl rfl rfl (by simp [flds]) (by simp [flds, gI_sI]) (fun a ha => cellAt_sI G ha) hl hd kk
theorem aw_g2_5 {X : CT} {G : GT} {q : S_} {cc : ByteArray} {own : String} {nL d pc ix : Nat} {lv : List (Option Value)} {st : List Value} (C : Cx X G cc own nL d) {k : Nat} {x : Int32} (hx : (gI q k 5) = x) (hd : decode cc pc = .ok (.getfield ix, 3)) (hsh : shp k = (0, 2)) (hl : Cond.fieldLink own ix "BridgePairs$Person" "half" "I" ∈ gtb) (kk : AW X G q (pc + 3) lv (.int x :: st)) : AW X G q pc lv (rfn G k :: st) := aw_get C 2 5 rfl (gtb_u inX2) hsh (by decide) rfl hl hd (by rw [hx]; exact kk)
theorem aw_p2_5 {X : CT} {G : GT} {q : S_} {cc : ByteArray} {own : String} {nL d pc ix : Nat} {lv : List (Option Value)} {st : List Value} (C : Cx X G cc own nL d) {k : Nat} {x : Int32} (hd : decode cc pc = .ok (.putfield ix, 3)) (hsh : shp k = (0, 2)) (hl : Cond.fieldLink own ix "BridgePairs$Person" "half" "I" ∈ gtb) (kk : AW X G (sI q k 5 x) (pc + 3) lv st) : AW X G q pc lv (.int x :: rfn G k :: st) := aw_put C 2 5 rfl (gtb_u inX2) tyX2 tyX2_ok nmX2 hsh (by decide) rfl rfl rfl (by simp [flds]) (by simp [flds, gI_sI]) (fun a ha => cellAt_sI G ha) hl hd kk
theorem aw_g2_6 {X : CT} {G : GT} {q : S_} {cc : ByteArray} {own : String} {nL d pc ix : Nat} {lv : List (Option Value)} {st : List Value} (C : Cx X G cc own nL d) {k : Nat} (hd : decode cc pc = .ok (.getfield ix, 3)) (hsh : shp k = (0, 2)) (hl : Cond.fieldLink own ix "BridgePairs$Person" "row" "[I" ∈ gtb) (kk : AW X G q (pc + 3) lv (rfn G (k + 1) :: st)) : AW X G q pc lv (rfn G k :: st) := aw_get C 2 6 rfl (gtb_u inX2) hsh (by decide) rfl hl hd kk
theorem aw_g3_0 {X : CT} {G : GT} {q : S_} {cc : ByteArray} {own : String} {nL d pc ix : Nat} {lv : List (Option Value)} {st : List Value} (C : Cx X G cc own nL d) {k : Nat} (hd : decode cc pc = .ok (.getfield ix, 3)) (hsh : shp k = (0, 3)) (hl : Cond.fieldLink own ix "BridgePairs$Rows" "number" "[I" ∈ gtb) (kk : AW X G q (pc + 3) lv (rfn G (k + 1) :: st)) : AW X G q pc lv (rfn G k :: st) := aw_get C 3 0 rfl (gtb_u inX3) hsh (by decide) rfl hl hd kk
theorem aw_g3_1 {X : CT} {G : GT} {q : S_} {cc : ByteArray} {own : String} {nL d pc ix : Nat} {lv : List (Option Value)} {st : List Value} (C : Cx X G cc own nL d) {k : Nat} (hd : decode cc pc = .ok (.getfield ix, 3)) (hsh : shp k = (0, 3)) (hl : Cond.fieldLink own ix "BridgePairs$Rows" "place" "[I" ∈ gtb) (kk : AW X G q (pc + 3) lv (rfn G (k + 2) :: st)) : AW X G q pc lv (rfn G k :: st) := aw_get C 3 1 rfl (gtb_u inX3) hsh (by decide) rfl hl hd kk
theorem aw_g3_2 {X : CT} {G : GT} {q : S_} {cc : ByteArray} {own : String} {nL d pc ix : Nat} {lv : List (Option Value)} {st : List Value} (C : Cx X G cc own nL d) {k : Nat} (hd : decode cc pc = .ok (.getfield ix, 3)) (hsh : shp k = (0, 3)) (hl : Cond.fieldLink own ix "BridgePairs$Rows" "hours" "[I" ∈ gtb) (kk : AW X G q (pc + 3) lv (rfn G (k + 3) :: st)) : AW X G q pc lv (rfn G k :: st) := aw_get C 3 2 rfl (gtb_u inX3) hsh (by decide) rfl hl hd kk
theorem aw_g3_3 {X : CT} {G : GT} {q : S_} {cc : ByteArray} {own : String} {nL d pc ix : Nat} {lv : List (Option Value)} {st : List Value} (C : Cx X G cc own nL d) {k : Nat} {x : Int32} (hx : (gI q k 3) = x) (hd : decode cc pc = .ok (.getfield ix, 3)) (hsh : shp k = (0, 3)) (hl : Cond.fieldLink own ix "BridgePairs$Rows" "count" "I" ∈ gtb) (kk : AW X G q (pc + 3) lv (.int x :: st)) : AW X G q pc lv (rfn G k :: st) := aw_get C 3 3 rfl (gtb_u inX3) hsh (by decide) rfl hl hd (by rw [hx]; exact kk)
theorem aw_p3_3 {X : CT} {G : GT} {q : S_} {cc : ByteArray} {own : String} {nL d pc ix : Nat} {lv : List (Option Value)} {st : List Value} (C : Cx X G cc own nL d) {k : Nat} {x : Int32} (hd : decode cc pc = .ok (.putfield ix, 3)) (hsh : shp k = (0, 3)) (hl : Cond.fieldLink own ix "BridgePairs$Rows" "count" "I" ∈ gtb) (kk : AW X G (sI q k 3 x) (pc + 3) lv st) : AW X G q pc lv (.int x :: rfn G k :: st) := aw_put C 3 3 rfl (gtb_u inX3) tyX3 tyX3_ok nmX3 hsh (by decide) rfl rfl rfl (by simp [flds]) (by simp [flds, gI_sI]) (fun a ha => cellAt_sI G ha) hl hd kk
theorem aw_g4_0 {X : CT} {G : GT} {q : S_} {cc : ByteArray} {own : String} {nL d pc ix : Nat} {lv : List (Option Value)} {st : List Value} (C : Cx X G cc own nL d) {k : Nat} {x : Int32} (hx : (gI q k 0) = x) (hd : decode cc pc = .ok (.getfield ix, 3)) (hsh : shp k = (0, 4)) (hl : Cond.fieldLink own ix "BridgePairs$Tape" "sort" "I" ∈ gtb) (kk : AW X G q (pc + 3) lv (.int x :: st)) : AW X G q pc lv (rfn G k :: st) := aw_get C 4 0 rfl (gtb_u inX4) hsh (by decide) rfl hl hd (by rw [hx]; exact kk)
theorem aw_p4_0 {X : CT} {G : GT} {q : S_} {cc : ByteArray} {own : String} {nL d pc ix : Nat} {lv : List (Option Value)} {st : List Value} (C : Cx X G cc own nL d) {k : Nat} {x : Int32} (hd : decode cc pc = .ok (.putfield ix, 3)) (hsh : shp k = (0, 4)) (hl : Cond.fieldLink own ix "BridgePairs$Tape" "sort" "I" ∈ gtb) (kk : AW X G (sI q k 0 x) (pc + 3) lv st) : AW X G q pc lv (.int x :: rfn G k :: st) := aw_put C 4 0 rfl (gtb_u inX4) tyX4 tyX4_ok nmX4 hsh (by decide) rfl rfl rfl (by simp [flds]) (by simp [flds, gI_sI]) (fun a ha => cellAt_sI G ha) hl hd kk
theorem aw_g4_1 {X : CT} {G : GT} {q : S_} {cc : ByteArray} {own : String} {nL d pc ix : Nat} {lv : List (Option Value)} {st : List Value} (C : Cx X G cc own nL d) {k : Nat} (hd : decode cc pc = .ok (.getfield ix, 3)) (hsh : shp k = (0, 4)) (hl : Cond.fieldLink own ix "BridgePairs$Tape" "items" "[J" ∈ gtb) (kk : AW X G q (pc + 3) lv (rfn G (k + 1) :: st)) : AW X G q pc lv (rfn G k :: st) := aw_get C 4 1 rfl (gtb_u inX4) hsh (by decide) rfl hl hd kk
theorem aw_g4_2 {X : CT} {G : GT} {q : S_} {cc : ByteArray} {own : String} {nL d pc ix : Nat} {lv : List (Option Value)} {st : List Value} (C : Cx X G cc own nL d) {k : Nat} {x : Int32} (hx : (gI q k 2) = x) (hd : decode cc pc = .ok (.getfield ix, 3)) (hsh : shp k = (0, 4)) (hl : Cond.fieldLink own ix "BridgePairs$Tape" "length" "I" ∈ gtb) (kk : AW X G q (pc + 3) lv (.int x :: st)) : AW X G q pc lv (rfn G k :: st) := aw_get C 4 2 rfl (gtb_u inX4) hsh (by decide) rfl hl hd (by rw [hx]; exact kk)
theorem aw_p4_2 {X : CT} {G : GT} {q : S_} {cc : ByteArray} {own : String} {nL d pc ix : Nat} {lv : List (Option Value)} {st : List Value} (C : Cx X G cc own nL d) {k : Nat} {x : Int32} (hd : decode cc pc = .ok (.putfield ix, 3)) (hsh : shp k = (0, 4)) (hl : Cond.fieldLink own ix "BridgePairs$Tape" "length" "I" ∈ gtb) (kk : AW X G (sI q k 2 x) (pc + 3) lv st) : AW X G q pc lv (.int x :: rfn G k :: st) := aw_put C 4 2 rfl (gtb_u inX4) tyX4 tyX4_ok nmX4 hsh (by decide) rfl rfl rfl (by simp [flds]) (by simp [flds, gI_sI]) (fun a ha => cellAt_sI G ha) hl hd kk
theorem aw_g5_0 {X : CT} {G : GT} {q : S_} {cc : ByteArray} {own : String} {nL d pc ix : Nat} {lv : List (Option Value)} {st : List Value} (C : Cx X G cc own nL d) (hd : decode cc pc = .ok (.getfield ix, 3)) (hl : Cond.fieldLink own ix "BridgePairs$Text" "signs" "[I" ∈ gtb) (kk : AW X G q (pc + 3) lv (rfn G 94 :: st)) : AW X G q pc lv (rfn G 93 :: st) := aw_get C (k := 93) 5 0 rfl (gtb_u inX5) (by decide +kernel) (by decide) rfl hl hd kk
theorem aw_g5_1 {X : CT} {G : GT} {q : S_} {cc : ByteArray} {own : String} {nL d pc ix : Nat} {lv : List (Option Value)} {st : List Value} (C : Cx X G cc own nL d) {x : Int32} (hx : (gI q 93 1) = x) (hd : decode cc pc = .ok (.getfield ix, 3)) (hl : Cond.fieldLink own ix "BridgePairs$Text" "length" "I" ∈ gtb) (kk : AW X G q (pc + 3) lv (.int x :: st)) : AW X G q pc lv (rfn G 93 :: st) := aw_get C (k := 93) 5 1 rfl (gtb_u inX5) (by decide +kernel) (by decide) rfl hl hd (by rw [hx]; exact kk)
theorem aw_p5_1 {X : CT} {G : GT} {q : S_} {cc : ByteArray} {own : String} {nL d pc ix : Nat} {lv : List (Option Value)} {st : List Value} (C : Cx X G cc own nL d) {x : Int32} (hd : decode cc pc = .ok (.putfield ix, 3)) (hl : Cond.fieldLink own ix "BridgePairs$Text" "length" "I" ∈ gtb) (kk : AW X G (sI q 93 1 x) (pc + 3) lv st) : AW X G q pc lv (.int x :: rfn G 93 :: st) := aw_put C (k := 93) 5 1 rfl (gtb_u inX5) tyX5 tyX5_ok nmX5 (by decide +kernel) (by decide) rfl rfl rfl (by simp [flds]) (by simp [flds, gI_sI]) (fun a ha => cellAt_sI G ha) hl hd kk
theorem aw_g5_2 {X : CT} {G : GT} {q : S_} {cc : ByteArray} {own : String} {nL d pc ix : Nat} {lv : List (Option Value)} {st : List Value} (C : Cx X G cc own nL d) {x : Int32} (hx : (gI q 93 2) = x) (hd : decode cc pc = .ok (.getfield ix, 3)) (hl : Cond.fieldLink own ix "BridgePairs$Text" "place" "I" ∈ gtb) (kk : AW X G q (pc + 3) lv (.int x :: st)) : AW X G q pc lv (rfn G 93 :: st) := aw_get C (k := 93) 5 2 rfl (gtb_u inX5) (by decide +kernel) (by decide) rfl hl hd (by rw [hx]; exact kk)
theorem aw_p5_2 {X : CT} {G : GT} {q : S_} {cc : ByteArray} {own : String} {nL d pc ix : Nat} {lv : List (Option Value)} {st : List Value} (C : Cx X G cc own nL d) {x : Int32} (hd : decode cc pc = .ok (.putfield ix, 3)) (hl : Cond.fieldLink own ix "BridgePairs$Text" "place" "I" ∈ gtb) (kk : AW X G (sI q 93 2 x) (pc + 3) lv st) : AW X G q pc lv (.int x :: rfn G 93 :: st) := aw_put C (k := 93) 5 2 rfl (gtb_u inX5) tyX5 tyX5_ok nmX5 (by decide +kernel) (by decide) rfl rfl rfl (by simp [flds]) (by simp [flds, gI_sI]) (fun a ha => cellAt_sI G ha) hl hd kk
theorem aw_g5_3 {X : CT} {G : GT} {q : S_} {cc : ByteArray} {own : String} {nL d pc ix : Nat} {lv : List (Option Value)} {st : List Value} (C : Cx X G cc own nL d) {x : Int32} (hx : (gI q 93 3) = x) (hd : decode cc pc = .ok (.getfield ix, 3)) (hl : Cond.fieldLink own ix "BridgePairs$Text" "number" "I" ∈ gtb) (kk : AW X G q (pc + 3) lv (.int x :: st)) : AW X G q pc lv (rfn G 93 :: st) := aw_get C (k := 93) 5 3 rfl (gtb_u inX5) (by decide +kernel) (by decide) rfl hl hd (by rw [hx]; exact kk)
theorem aw_p5_3 {X : CT} {G : GT} {q : S_} {cc : ByteArray} {own : String} {nL d pc ix : Nat} {lv : List (Option Value)} {st : List Value} (C : Cx X G cc own nL d) {x : Int32} (hd : decode cc pc = .ok (.putfield ix, 3)) (hl : Cond.fieldLink own ix "BridgePairs$Text" "number" "I" ∈ gtb) (kk : AW X G (sI q 93 3 x) (pc + 3) lv st) : AW X G q pc lv (.int x :: rfn G 93 :: st) := aw_put C (k := 93) 5 3 rfl (gtb_u inX5) tyX5 tyX5_ok nmX5 (by decide +kernel) (by decide) rfl rfl rfl (by simp [flds]) (by simp [flds, gI_sI]) (fun a ha => cellAt_sI G ha) hl hd kk
theorem aw_g6_0 {X : CT} {G : GT} {q : S_} {cc : ByteArray} {own : String} {nL d pc ix : Nat} {lv : List (Option Value)} {st : List Value} (C : Cx X G cc own nL d) (hd : decode cc pc = .ok (.getfield ix, 3)) (hl : Cond.fieldLink own ix "BridgePairs$Ways" "queue" "[I" ∈ gtb) (kk : AW X G q (pc + 3) lv (rfn G 89 :: st)) : AW X G q pc lv (rfn G 88 :: st) := aw_get C (k := 88) 6 0 rfl (gtb_u inX6) (by decide +kernel) (by decide) rfl hl hd kk
theorem aw_g6_1 {X : CT} {G : GT} {q : S_} {cc : ByteArray} {own : String} {nL d pc ix : Nat} {lv : List (Option Value)} {st : List Value} (C : Cx X G cc own nL d) (hd : decode cc pc = .ok (.getfield ix, 3)) (hl : Cond.fieldLink own ix "BridgePairs$Ways" "link" "[I" ∈ gtb) (kk : AW X G q (pc + 3) lv (rfn G 90 :: st)) : AW X G q pc lv (rfn G 88 :: st) := aw_get C (k := 88) 6 1 rfl (gtb_u inX6) (by decide +kernel) (by decide) rfl hl hd kk
theorem aw_g6_2 {X : CT} {G : GT} {q : S_} {cc : ByteArray} {own : String} {nL d pc ix : Nat} {lv : List (Option Value)} {st : List Value} (C : Cx X G cc own nL d) (hd : decode cc pc = .ok (.getfield ix, 3)) (hl : Cond.fieldLink own ix "BridgePairs$Ways" "isMet" "[Z" ∈ gtb) (kk : AW X G q (pc + 3) lv (rfn G 91 :: st)) : AW X G q pc lv (rfn G 88 :: st) := aw_get C (k := 88) 6 2 rfl (gtb_u inX6) (by decide +kernel) (by decide) rfl hl hd kk
theorem aw_g6_3 {X : CT} {G : GT} {q : S_} {cc : ByteArray} {own : String} {nL d pc ix : Nat} {lv : List (Option Value)} {st : List Value} (C : Cx X G cc own nL d) (hd : decode cc pc = .ok (.getfield ix, 3)) (hl : Cond.fieldLink own ix "BridgePairs$Ways" "may" "[I" ∈ gtb) (kk : AW X G q (pc + 3) lv (rfn G 92 :: st)) : AW X G q pc lv (rfn G 88 :: st) := aw_get C (k := 88) 6 3 rfl (gtb_u inX6) (by decide +kernel) (by decide) rfl hl hd kk
theorem aw_g6_4 {X : CT} {G : GT} {q : S_} {cc : ByteArray} {own : String} {nL d pc ix : Nat} {lv : List (Option Value)} {st : List Value} (C : Cx X G cc own nL d) {x : Int32} (hx : (gI q 88 4) = x) (hd : decode cc pc = .ok (.getfield ix, 3)) (hl : Cond.fieldLink own ix "BridgePairs$Ways" "tail" "I" ∈ gtb) (kk : AW X G q (pc + 3) lv (.int x :: st)) : AW X G q pc lv (rfn G 88 :: st) := aw_get C (k := 88) 6 4 rfl (gtb_u inX6) (by decide +kernel) (by decide) rfl hl hd (by rw [hx]; exact kk)
theorem aw_p6_4 {X : CT} {G : GT} {q : S_} {cc : ByteArray} {own : String} {nL d pc ix : Nat} {lv : List (Option Value)} {st : List Value} (C : Cx X G cc own nL d) {x : Int32} (hd : decode cc pc = .ok (.putfield ix, 3)) (hl : Cond.fieldLink own ix "BridgePairs$Ways" "tail" "I" ∈ gtb) (kk : AW X G (sI q 88 4 x) (pc + 3) lv st) : AW X G q pc lv (.int x :: rfn G 88 :: st) := aw_put C (k := 88) 6 4 rfl (gtb_u inX6) tyX6 tyX6_ok nmX6 (by decide +kernel) (by decide) rfl rfl rfl (by simp [flds]) (by simp [flds, gI_sI]) (fun a ha => cellAt_sI G ha) hl hd kk
theorem aw_g6_5 {X : CT} {G : GT} {q : S_} {cc : ByteArray} {own : String} {nL d pc ix : Nat} {lv : List (Option Value)} {st : List Value} (C : Cx X G cc own nL d) {x : Int32} (hx : (gI q 88 5) = x) (hd : decode cc pc = .ok (.getfield ix, 3)) (hl : Cond.fieldLink own ix "BridgePairs$Ways" "length" "I" ∈ gtb) (kk : AW X G q (pc + 3) lv (.int x :: st)) : AW X G q pc lv (rfn G 88 :: st) := aw_get C (k := 88) 6 5 rfl (gtb_u inX6) (by decide +kernel) (by decide) rfl hl hd (by rw [hx]; exact kk)
theorem aw_p6_5 {X : CT} {G : GT} {q : S_} {cc : ByteArray} {own : String} {nL d pc ix : Nat} {lv : List (Option Value)} {st : List Value} (C : Cx X G cc own nL d) {x : Int32} (hd : decode cc pc = .ok (.putfield ix, 3)) (hl : Cond.fieldLink own ix "BridgePairs$Ways" "length" "I" ∈ gtb) (kk : AW X G (sI q 88 5 x) (pc + 3) lv st) : AW X G q pc lv (.int x :: rfn G 88 :: st) := aw_put C (k := 88) 6 5 rfl (gtb_u inX6) tyX6 tyX6_ok nmX6 (by decide +kernel) (by decide) rfl rfl rfl (by simp [flds]) (by simp [flds, gI_sI]) (fun a ha => cellAt_sI G ha) hl hd kk
theorem aw_g7_0 {X : CT} {G : GT} {q : S_} {cc : ByteArray} {own : String} {nL d pc ix : Nat} {lv : List (Option Value)} {st : List Value} (C : Cx X G cc own nL d) {k : Nat} {x : Int32} (hx : (gI q k 0) = x) (hd : decode cc pc = .ok (.getfield ix, 3)) (hsh : shp k = (0, 7)) (hl : Cond.fieldLink own ix "BridgePairs$World" "bridges" "I" ∈ gtb) (kk : AW X G q (pc + 3) lv (.int x :: st)) : AW X G q pc lv (rfn G k :: st) := aw_get C 7 0 rfl (gtb_u inX7) hsh (by decide) rfl hl hd (by rw [hx]; exact kk)
theorem aw_p7_0 {X : CT} {G : GT} {q : S_} {cc : ByteArray} {own : String} {nL d pc ix : Nat} {lv : List (Option Value)} {st : List Value} (C : Cx X G cc own nL d) {k : Nat} {x : Int32} (hd : decode cc pc = .ok (.putfield ix, 3)) (hsh : shp k = (0, 7)) (hl : Cond.fieldLink own ix "BridgePairs$World" "bridges" "I" ∈ gtb) (kk : AW X G (sI q k 0 x) (pc + 3) lv st) : AW X G q pc lv (.int x :: rfn G k :: st) := aw_put C 7 0 rfl (gtb_u inX7) tyX7 tyX7_ok nmX7 hsh (by decide) rfl rfl rfl (by simp [flds]) (by simp [flds, gI_sI]) (fun a ha => cellAt_sI G ha) hl hd kk
theorem aw_g7_1 {X : CT} {G : GT} {q : S_} {cc : ByteArray} {own : String} {nL d pc ix : Nat} {lv : List (Option Value)} {st : List Value} (C : Cx X G cc own nL d) {k : Nat} (hd : decode cc pc = .ok (.getfield ix, 3)) (hsh : shp k = (0, 7)) (hl : Cond.fieldLink own ix "BridgePairs$World" "first" "[I" ∈ gtb) (kk : AW X G q (pc + 3) lv (rfn G (k + 1) :: st)) : AW X G q pc lv (rfn G k :: st) := aw_get C 7 1 rfl (gtb_u inX7) hsh (by decide) rfl hl hd kk
theorem aw_g7_2 {X : CT} {G : GT} {q : S_} {cc : ByteArray} {own : String} {nL d pc ix : Nat} {lv : List (Option Value)} {st : List Value} (C : Cx X G cc own nL d) {k : Nat} (hd : decode cc pc = .ok (.getfield ix, 3)) (hsh : shp k = (0, 7)) (hl : Cond.fieldLink own ix "BridgePairs$World" "second" "[I" ∈ gtb) (kk : AW X G q (pc + 3) lv (rfn G (k + 2) :: st)) : AW X G q pc lv (rfn G k :: st) := aw_get C 7 2 rfl (gtb_u inX7) hsh (by decide) rfl hl hd kk
theorem aw_g7_3 {X : CT} {G : GT} {q : S_} {cc : ByteArray} {own : String} {nL d pc ix : Nat} {lv : List (Option Value)} {st : List Value} (C : Cx X G cc own nL d) {k : Nat} (hd : decode cc pc = .ok (.getfield ix, 3)) (hsh : shp k = (0, 7)) (hl : Cond.fieldLink own ix "BridgePairs$World" "sister" "[I" ∈ gtb) (kk : AW X G q (pc + 3) lv (rfn G (k + 3) :: st)) : AW X G q pc lv (rfn G k :: st) := aw_get C 7 3 rfl (gtb_u inX7) hsh (by decide) rfl hl hd kk
theorem aw_g7_4 {X : CT} {G : GT} {q : S_} {cc : ByteArray} {own : String} {nL d pc ix : Nat} {lv : List (Option Value)} {st : List Value} (C : Cx X G cc own nL d) {k : Nat} {x : Int32} (hx : (gI q k 4) = x) (hd : decode cc pc = .ok (.getfield ix, 3)) (hsh : shp k = (0, 7)) (hl : Cond.fieldLink own ix "BridgePairs$World" "lost" "I" ∈ gtb) (kk : AW X G q (pc + 3) lv (.int x :: st)) : AW X G q pc lv (rfn G k :: st) := aw_get C 7 4 rfl (gtb_u inX7) hsh (by decide) rfl hl hd (by rw [hx]; exact kk)
theorem aw_p7_4 {X : CT} {G : GT} {q : S_} {cc : ByteArray} {own : String} {nL d pc ix : Nat} {lv : List (Option Value)} {st : List Value} (C : Cx X G cc own nL d) {k : Nat} {x : Int32} (hd : decode cc pc = .ok (.putfield ix, 3)) (hsh : shp k = (0, 7)) (hl : Cond.fieldLink own ix "BridgePairs$World" "lost" "I" ∈ gtb) (kk : AW X G (sI q k 4 x) (pc + 3) lv st) : AW X G q pc lv (.int x :: rfn G k :: st) := aw_put C 7 4 rfl (gtb_u inX7) tyX7 tyX7_ok nmX7 hsh (by decide) rfl rfl rfl (by simp [flds]) (by simp [flds, gI_sI]) (fun a ha => cellAt_sI G ha) hl hd kk
theorem aw_g7_5 {X : CT} {G : GT} {q : S_} {cc : ByteArray} {own : String} {nL d pc ix : Nat} {lv : List (Option Value)} {st : List Value} (C : Cx X G cc own nL d) {k : Nat} {x : Int32} (hx : (gI q k 5) = x) (hd : decode cc pc = .ok (.getfield ix, 3)) (hsh : shp k = (0, 7)) (hl : Cond.fieldLink own ix "BridgePairs$World" "people" "I" ∈ gtb) (kk : AW X G q (pc + 3) lv (.int x :: st)) : AW X G q pc lv (rfn G k :: st) := aw_get C 7 5 rfl (gtb_u inX7) hsh (by decide) rfl hl hd (by rw [hx]; exact kk)
theorem aw_p7_5 {X : CT} {G : GT} {q : S_} {cc : ByteArray} {own : String} {nL d pc ix : Nat} {lv : List (Option Value)} {st : List Value} (C : Cx X G cc own nL d) {k : Nat} {x : Int32} (hd : decode cc pc = .ok (.putfield ix, 3)) (hsh : shp k = (0, 7)) (hl : Cond.fieldLink own ix "BridgePairs$World" "people" "I" ∈ gtb) (kk : AW X G (sI q k 5 x) (pc + 3) lv st) : AW X G q pc lv (.int x :: rfn G k :: st) := aw_put C 7 5 rfl (gtb_u inX7) tyX7 tyX7_ok nmX7 hsh (by decide) rfl rfl rfl (by simp [flds]) (by simp [flds, gI_sI]) (fun a ha => cellAt_sI G ha) hl hd kk
theorem aw_g7_6 {X : CT} {G : GT} {q : S_} {cc : ByteArray} {own : String} {nL d pc ix : Nat} {lv : List (Option Value)} {st : List Value} (C : Cx X G cc own nL d) {k : Nat} (hd : decode cc pc = .ok (.getfield ix, 3)) (hsh : shp k = (0, 7)) (hl : Cond.fieldLink own ix "BridgePairs$World" "persons" "[LBridgePairs$Person;" ∈ gtb) (kk : AW X G q (pc + 3) lv (rfn G (k + 4) :: st)) : AW X G q pc lv (rfn G k :: st) := aw_get C 7 6 rfl (gtb_u inX7) hsh (by decide) rfl hl hd kk
theorem aw_g7_7 {X : CT} {G : GT} {q : S_} {cc : ByteArray} {own : String} {nL d pc ix : Nat} {lv : List (Option Value)} {st : List Value} (C : Cx X G cc own nL d) {k : Nat} {x : Int32} (hx : (gI q k 7) = x) (hd : decode cc pc = .ok (.getfield ix, 3)) (hsh : shp k = (0, 7)) (hl : Cond.fieldLink own ix "BridgePairs$World" "hour" "I" ∈ gtb) (kk : AW X G q (pc + 3) lv (.int x :: st)) : AW X G q pc lv (rfn G k :: st) := aw_get C 7 7 rfl (gtb_u inX7) hsh (by decide) rfl hl hd (by rw [hx]; exact kk)
theorem aw_p7_7 {X : CT} {G : GT} {q : S_} {cc : ByteArray} {own : String} {nL d pc ix : Nat} {lv : List (Option Value)} {st : List Value} (C : Cx X G cc own nL d) {k : Nat} {x : Int32} (hd : decode cc pc = .ok (.putfield ix, 3)) (hsh : shp k = (0, 7)) (hl : Cond.fieldLink own ix "BridgePairs$World" "hour" "I" ∈ gtb) (kk : AW X G (sI q k 7 x) (pc + 3) lv st) : AW X G q pc lv (.int x :: rfn G k :: st) := aw_put C 7 7 rfl (gtb_u inX7) tyX7 tyX7_ok nmX7 hsh (by decide) rfl rfl rfl (by simp [flds]) (by simp [flds, gI_sI]) (fun a ha => cellAt_sI G ha) hl hd kk
theorem aw_g7_8 {X : CT} {G : GT} {q : S_} {cc : ByteArray} {own : String} {nL d pc ix : Nat} {lv : List (Option Value)} {st : List Value} (C : Cx X G cc own nL d) {k : Nat} (hd : decode cc pc = .ok (.getfield ix, 3)) (hsh : shp k = (0, 7)) (hl : Cond.fieldLink own ix "BridgePairs$World" "city" "LBridgePairs$City;" ∈ gtb) (kk : AW X G q (pc + 3) lv (rv G (gI q k 8) :: st)) : AW X G q pc lv (rfn G k :: st) := aw_get C 7 8 rfl (gtb_u inX7) hsh (by decide) rfl hl hd kk
theorem aw_p7_8 {X : CT} {G : GT} {q : S_} {cc : ByteArray} {own : String} {nL d pc ix : Nat} {lv : List (Option Value)} {st : List Value} (C : Cx X G cc own nL d) {k : Nat} {x : Int32} (hd : decode cc pc = .ok (.putfield ix, 3)) (hsh : shp k = (0, 7)) (hl : Cond.fieldLink own ix "BridgePairs$World" "city" "LBridgePairs$City;" ∈ gtb) (kk : AW X G (sI q k 8 x) (pc + 3) lv st) : AW X G q pc lv (rv G x :: rfn G k :: st) := aw_put C 7 8 rfl (gtb_u inX7) tyX7 tyX7_ok nmX7 hsh (by decide) rfl (by unfold rv; split <;> rfl) (by unfold rv; split <;> rfl) (by simp [flds]) (by simp [flds, gI_sI]) (fun a ha => cellAt_sI G ha) hl hd kk
theorem aw_g7_9 {X : CT} {G : GT} {q : S_} {cc : ByteArray} {own : String} {nL d pc ix : Nat} {lv : List (Option Value)} {st : List Value} (C : Cx X G cc own nL d) {k : Nat} (hd : decode cc pc = .ok (.getfield ix, 3)) (hsh : shp k = (0, 7)) (hl : Cond.fieldLink own ix "BridgePairs$World" "seen" "LBridgePairs$Rows;" ∈ gtb) (kk : AW X G q (pc + 3) lv (rfn G (k + 5) :: st)) : AW X G q pc lv (rfn G k :: st) := aw_get C 7 9 rfl (gtb_u inX7) hsh (by decide) rfl hl hd kk
theorem aw_g7_10 {X : CT} {G : GT} {q : S_} {cc : ByteArray} {own : String} {nL d pc ix : Nat} {lv : List (Option Value)} {st : List Value} (C : Cx X G cc own nL d) {k : Nat} (hd : decode cc pc = .ok (.getfield ix, 3)) (hsh : shp k = (0, 7)) (hl : Cond.fieldLink own ix "BridgePairs$World" "plan" "LBridgePairs$Rows;" ∈ gtb) (kk : AW X G q (pc + 3) lv (rfn G (k + 9) :: st)) : AW X G q pc lv (rfn G k :: st) := aw_get C 7 10 rfl (gtb_u inX7) hsh (by decide) rfl hl hd kk
theorem aw_g7_11 {X : CT} {G : GT} {q : S_} {cc : ByteArray} {own : String} {nL d pc ix : Nat} {lv : List (Option Value)} {st : List Value} (C : Cx X G cc own nL d) {k : Nat} (hd : decode cc pc = .ok (.getfield ix, 3)) (hsh : shp k = (0, 7)) (hl : Cond.fieldLink own ix "BridgePairs$World" "book" "LBridgePairs$Rows;" ∈ gtb) (kk : AW X G q (pc + 3) lv (rfn G (k + 13) :: st)) : AW X G q pc lv (rfn G k :: st) := aw_get C 7 11 rfl (gtb_u inX7) hsh (by decide) rfl hl hd kk
theorem aw_g8_0 {X : CT} {G : GT} {q : S_} {cc : ByteArray} {own : String} {nL d pc ix : Nat} {lv : List (Option Value)} {st : List Value} (C : Cx X G cc own nL d) (hd : decode cc pc = .ok (.getfield ix, 3)) (hl : Cond.fieldLink own ix "BridgePairs" "now" "LBridgePairs$World;" ∈ gtb) (kk : AW X G q (pc + 3) lv (rfn G 1 :: st)) : AW X G q pc lv (rfn G 0 :: st) := aw_get C (k := 0) 8 0 rfl (gtb_u inX8) (by decide +kernel) (by decide) rfl hl hd kk
theorem aw_g8_1 {X : CT} {G : GT} {q : S_} {cc : ByteArray} {own : String} {nL d pc ix : Nat} {lv : List (Option Value)} {st : List Value} (C : Cx X G cc own nL d) (hd : decode cc pc = .ok (.getfield ix, 3)) (hl : Cond.fieldLink own ix "BridgePairs" "kept" "LBridgePairs$World;" ∈ gtb) (kk : AW X G q (pc + 3) lv (rfn G 30 :: st)) : AW X G q pc lv (rfn G 0 :: st) := aw_get C (k := 0) 8 1 rfl (gtb_u inX8) (by decide +kernel) (by decide) rfl hl hd kk
theorem aw_g8_2 {X : CT} {G : GT} {q : S_} {cc : ByteArray} {own : String} {nL d pc ix : Nat} {lv : List (Option Value)} {st : List Value} (C : Cx X G cc own nL d) (hd : decode cc pc = .ok (.getfield ix, 3)) (hl : Cond.fieldLink own ix "BridgePairs" "trial" "LBridgePairs$World;" ∈ gtb) (kk : AW X G q (pc + 3) lv (rfn G 59 :: st)) : AW X G q pc lv (rfn G 0 :: st) := aw_get C (k := 0) 8 2 rfl (gtb_u inX8) (by decide +kernel) (by decide) rfl hl hd kk
theorem aw_g8_3 {X : CT} {G : GT} {q : S_} {cc : ByteArray} {own : String} {nL d pc ix : Nat} {lv : List (Option Value)} {st : List Value} (C : Cx X G cc own nL d) (hd : decode cc pc = .ok (.getfield ix, 3)) (hl : Cond.fieldLink own ix "BridgePairs" "ways" "LBridgePairs$Ways;" ∈ gtb) (kk : AW X G q (pc + 3) lv (rfn G 88 :: st)) : AW X G q pc lv (rfn G 0 :: st) := aw_get C (k := 0) 8 3 rfl (gtb_u inX8) (by decide +kernel) (by decide) rfl hl hd kk
theorem aw_g8_4 {X : CT} {G : GT} {q : S_} {cc : ByteArray} {own : String} {nL d pc ix : Nat} {lv : List (Option Value)} {st : List Value} (C : Cx X G cc own nL d) (hd : decode cc pc = .ok (.getfield ix, 3)) (hl : Cond.fieldLink own ix "BridgePairs" "text" "LBridgePairs$Text;" ∈ gtb) (kk : AW X G q (pc + 3) lv (rfn G 93 :: st)) : AW X G q pc lv (rfn G 0 :: st) := aw_get C (k := 0) 8 4 rfl (gtb_u inX8) (by decide +kernel) (by decide) rfl hl hd kk
theorem aw_g8_5 {X : CT} {G : GT} {q : S_} {cc : ByteArray} {own : String} {nL d pc ix : Nat} {lv : List (Option Value)} {st : List Value} (C : Cx X G cc own nL d) (hd : decode cc pc = .ok (.getfield ix, 3)) (hl : Cond.fieldLink own ix "BridgePairs" "cities" "[LBridgePairs$City;" ∈ gtb) (kk : AW X G q (pc + 3) lv (rfn G 95 :: st)) : AW X G q pc lv (rfn G 0 :: st) := aw_get C (k := 0) 8 5 rfl (gtb_u inX8) (by decide +kernel) (by decide) rfl hl hd kk
theorem aw_g8_6 {X : CT} {G : GT} {q : S_} {cc : ByteArray} {own : String} {nL d pc ix : Nat} {lv : List (Option Value)} {st : List Value} (C : Cx X G cc own nL d) (hd : decode cc pc = .ok (.getfield ix, 3)) (hl : Cond.fieldLink own ix "BridgePairs" "tapes" "[LBridgePairs$Tape;" ∈ gtb) (kk : AW X G q (pc + 3) lv (rfn G 96 :: st)) : AW X G q pc lv (rfn G 0 :: st) := aw_get C (k := 0) 8 6 rfl (gtb_u inX8) (by decide +kernel) (by decide) rfl hl hd kk
theorem aw_g8_7 {X : CT} {G : GT} {q : S_} {cc : ByteArray} {own : String} {nL d pc ix : Nat} {lv : List (Option Value)} {st : List Value} (C : Cx X G cc own nL d) (hd : decode cc pc = .ok (.getfield ix, 3)) (hl : Cond.fieldLink own ix "BridgePairs" "acts" "LBridgePairs$Acts;" ∈ gtb) (kk : AW X G q (pc + 3) lv (rfn G 97 :: st)) : AW X G q pc lv (rfn G 0 :: st) := aw_get C (k := 0) 8 7 rfl (gtb_u inX8) (by decide +kernel) (by decide) rfl hl hd kk
theorem aw_g8_8 {X : CT} {G : GT} {q : S_} {cc : ByteArray} {own : String} {nL d pc ix : Nat} {lv : List (Option Value)} {st : List Value} (C : Cx X G cc own nL d) {x : Int32} (hx : (gI q 0 8) = x) (hd : decode cc pc = .ok (.getfield ix, 3)) (hl : Cond.fieldLink own ix "BridgePairs" "cityCount" "I" ∈ gtb) (kk : AW X G q (pc + 3) lv (.int x :: st)) : AW X G q pc lv (rfn G 0 :: st) := aw_get C (k := 0) 8 8 rfl (gtb_u inX8) (by decide +kernel) (by decide) rfl hl hd (by rw [hx]; exact kk)
theorem aw_p8_8 {X : CT} {G : GT} {q : S_} {cc : ByteArray} {own : String} {nL d pc ix : Nat} {lv : List (Option Value)} {st : List Value} (C : Cx X G cc own nL d) {x : Int32} (hd : decode cc pc = .ok (.putfield ix, 3)) (hl : Cond.fieldLink own ix "BridgePairs" "cityCount" "I" ∈ gtb) (kk : AW X G (sI q 0 8 x) (pc + 3) lv st) : AW X G q pc lv (.int x :: rfn G 0 :: st) := aw_put C (k := 0) 8 8 rfl (gtb_u inX8) tyX8 tyX8_ok nmX8 (by decide +kernel) (by decide) rfl rfl rfl (by simp [flds]) (by simp [flds, gI_sI]) (fun a ha => cellAt_sI G ha) hl hd kk
theorem aw_g8_9 {X : CT} {G : GT} {q : S_} {cc : ByteArray} {own : String} {nL d pc ix : Nat} {lv : List (Option Value)} {st : List Value} (C : Cx X G cc own nL d) {x : Int32} (hx : (gI q 0 9) = x) (hd : decode cc pc = .ok (.getfield ix, 3)) (hl : Cond.fieldLink own ix "BridgePairs" "hasImage" "Z" ∈ gtb) (kk : AW X G q (pc + 3) lv (.int x :: st)) : AW X G q pc lv (rfn G 0 :: st) := aw_get C (k := 0) 8 9 rfl (gtb_u inX8) (by decide +kernel) (by decide) rfl hl hd (by rw [hx]; exact kk)
theorem aw_p8_9 {X : CT} {G : GT} {q : S_} {cc : ByteArray} {own : String} {nL d pc ix : Nat} {lv : List (Option Value)} {st : List Value} (C : Cx X G cc own nL d) {x : Int32} (hd : decode cc pc = .ok (.putfield ix, 3)) (hn : narrow .boolean (.int x) = .int x) (hf : fits .boolean (.int x) = true) (hl : Cond.fieldLink own ix "BridgePairs" "hasImage" "Z" ∈ gtb) (kk : AW X G (sI q 0 9 x) (pc + 3) lv st) : AW X G q pc lv (.int x :: rfn G 0 :: st) := aw_put C (k := 0) 8 9 rfl (gtb_u inX8) tyX8 tyX8_ok nmX8 (by decide +kernel) (by decide) rfl hn hf (by simp [flds]) (by simp [flds, gI_sI]) (fun a ha => cellAt_sI G ha) hl hd kk
theorem aw_g9_0 {X : CT} {G : GT} {q : S_} {cc : ByteArray} {own : String} {nL d pc ix : Nat} {lv : List (Option Value)} {st : List Value} (C : Cx X G cc own nL d) (hd : decode cc pc = .ok (.getfield ix, 3)) (hl : Cond.fieldLink own ix "BridgePairsModel" "now" "[I" ∈ gtb) (kk : AW X G q (pc + 3) lv (rfn G 130 :: st)) : AW X G q pc lv (rfn G 129 :: st) := aw_get C (k := 129) 9 0 rfl (gtb_u inX9) (by decide +kernel) (by decide) rfl hl hd kk
theorem aw_g9_1 {X : CT} {G : GT} {q : S_} {cc : ByteArray} {own : String} {nL d pc ix : Nat} {lv : List (Option Value)} {st : List Value} (C : Cx X G cc own nL d) (hd : decode cc pc = .ok (.getfield ix, 3)) (hl : Cond.fieldLink own ix "BridgePairsModel" "mind" "[I" ∈ gtb) (kk : AW X G q (pc + 3) lv (rfn G 131 :: st)) : AW X G q pc lv (rfn G 129 :: st) := aw_get C (k := 129) 9 1 rfl (gtb_u inX9) (by decide +kernel) (by decide) rfl hl hd kk
theorem aw_g9_2 {X : CT} {G : GT} {q : S_} {cc : ByteArray} {own : String} {nL d pc ix : Nat} {lv : List (Option Value)} {st : List Value} (C : Cx X G cc own nL d) (hd : decode cc pc = .ok (.getfield ix, 3)) (hl : Cond.fieldLink own ix "BridgePairsModel" "then" "[I" ∈ gtb) (kk : AW X G q (pc + 3) lv (rfn G 132 :: st)) : AW X G q pc lv (rfn G 129 :: st) := aw_get C (k := 129) 9 2 rfl (gtb_u inX9) (by decide +kernel) (by decide) rfl hl hd kk
theorem aw_g9_3 {X : CT} {G : GT} {q : S_} {cc : ByteArray} {own : String} {nL d pc ix : Nat} {lv : List (Option Value)} {st : List Value} (C : Cx X G cc own nL d) {x : Int32} (hx : (gI q 129 3) = x) (hd : decode cc pc = .ok (.getfield ix, 3)) (hl : Cond.fieldLink own ix "BridgePairsModel" "kept" "Z" ∈ gtb) (kk : AW X G q (pc + 3) lv (.int x :: st)) : AW X G q pc lv (rfn G 129 :: st) := aw_get C (k := 129) 9 3 rfl (gtb_u inX9) (by decide +kernel) (by decide) rfl hl hd (by rw [hx]; exact kk)
theorem aw_p9_3 {X : CT} {G : GT} {q : S_} {cc : ByteArray} {own : String} {nL d pc ix : Nat} {lv : List (Option Value)} {st : List Value} (C : Cx X G cc own nL d) {x : Int32} (hd : decode cc pc = .ok (.putfield ix, 3)) (hn : narrow .boolean (.int x) = .int x) (hf : fits .boolean (.int x) = true) (hl : Cond.fieldLink own ix "BridgePairsModel" "kept" "Z" ∈ gtb) (kk : AW X G (sI q 129 3 x) (pc + 3) lv st) : AW X G q pc lv (.int x :: rfn G 129 :: st) := aw_put C (k := 129) 9 3 rfl (gtb_u inX9) tyX9 tyX9_ok nmX9 (by decide +kernel) (by decide) rfl hn hf (by simp [flds]) (by simp [flds, gI_sI]) (fun a ha => cellAt_sI G ha) hl hd kk
theorem aw_g9_4 {X : CT} {G : GT} {q : S_} {cc : ByteArray} {own : String} {nL d pc ix : Nat} {lv : List (Option Value)} {st : List Value} (C : Cx X G cc own nL d) (hd : decode cc pc = .ok (.getfield ix, 3)) (hl : Cond.fieldLink own ix "BridgePairsModel" "text" "[I" ∈ gtb) (kk : AW X G q (pc + 3) lv (rfn G 133 :: st)) : AW X G q pc lv (rfn G 129 :: st) := aw_get C (k := 129) 9 4 rfl (gtb_u inX9) (by decide +kernel) (by decide) rfl hl hd kk
theorem aw_g9_5 {X : CT} {G : GT} {q : S_} {cc : ByteArray} {own : String} {nL d pc ix : Nat} {lv : List (Option Value)} {st : List Value} (C : Cx X G cc own nL d) {x : Int32} (hx : (gI q 129 5) = x) (hd : decode cc pc = .ok (.getfield ix, 3)) (hl : Cond.fieldLink own ix "BridgePairsModel" "texted" "I" ∈ gtb) (kk : AW X G q (pc + 3) lv (.int x :: st)) : AW X G q pc lv (rfn G 129 :: st) := aw_get C (k := 129) 9 5 rfl (gtb_u inX9) (by decide +kernel) (by decide) rfl hl hd (by rw [hx]; exact kk)
theorem aw_p9_5 {X : CT} {G : GT} {q : S_} {cc : ByteArray} {own : String} {nL d pc ix : Nat} {lv : List (Option Value)} {st : List Value} (C : Cx X G cc own nL d) {x : Int32} (hd : decode cc pc = .ok (.putfield ix, 3)) (hl : Cond.fieldLink own ix "BridgePairsModel" "texted" "I" ∈ gtb) (kk : AW X G (sI q 129 5 x) (pc + 3) lv st) : AW X G q pc lv (.int x :: rfn G 129 :: st) := aw_put C (k := 129) 9 5 rfl (gtb_u inX9) tyX9 tyX9_ok nmX9 (by decide +kernel) (by decide) rfl rfl rfl (by simp [flds]) (by simp [flds, gI_sI]) (fun a ha => cellAt_sI G ha) hl hd kk
theorem aw_g9_6 {X : CT} {G : GT} {q : S_} {cc : ByteArray} {own : String} {nL d pc ix : Nat} {lv : List (Option Value)} {st : List Value} (C : Cx X G cc own nL d) (hd : decode cc pc = .ok (.getfield ix, 3)) (hl : Cond.fieldLink own ix "BridgePairsModel" "rules" "[I" ∈ gtb) (kk : AW X G q (pc + 3) lv (rfn G 134 :: st)) : AW X G q pc lv (rfn G 129 :: st) := aw_get C (k := 129) 9 6 rfl (gtb_u inX9) (by decide +kernel) (by decide) rfl hl hd kk
theorem aw_g9_7 {X : CT} {G : GT} {q : S_} {cc : ByteArray} {own : String} {nL d pc ix : Nat} {lv : List (Option Value)} {st : List Value} (C : Cx X G cc own nL d) (hd : decode cc pc = .ok (.getfield ix, 3)) (hl : Cond.fieldLink own ix "BridgePairsModel" "sizes" "[I" ∈ gtb) (kk : AW X G q (pc + 3) lv (rfn G 135 :: st)) : AW X G q pc lv (rfn G 129 :: st) := aw_get C (k := 129) 9 7 rfl (gtb_u inX9) (by decide +kernel) (by decide) rfl hl hd kk
theorem aw_g9_8 {X : CT} {G : GT} {q : S_} {cc : ByteArray} {own : String} {nL d pc ix : Nat} {lv : List (Option Value)} {st : List Value} (C : Cx X G cc own nL d) {x : Int32} (hx : (gI q 129 8) = x) (hd : decode cc pc = .ok (.getfield ix, 3)) (hl : Cond.fieldLink own ix "BridgePairsModel" "ruled" "I" ∈ gtb) (kk : AW X G q (pc + 3) lv (.int x :: st)) : AW X G q pc lv (rfn G 129 :: st) := aw_get C (k := 129) 9 8 rfl (gtb_u inX9) (by decide +kernel) (by decide) rfl hl hd (by rw [hx]; exact kk)
theorem aw_p9_8 {X : CT} {G : GT} {q : S_} {cc : ByteArray} {own : String} {nL d pc ix : Nat} {lv : List (Option Value)} {st : List Value} (C : Cx X G cc own nL d) {x : Int32} (hd : decode cc pc = .ok (.putfield ix, 3)) (hl : Cond.fieldLink own ix "BridgePairsModel" "ruled" "I" ∈ gtb) (kk : AW X G (sI q 129 8 x) (pc + 3) lv st) : AW X G q pc lv (.int x :: rfn G 129 :: st) := aw_put C (k := 129) 9 8 rfl (gtb_u inX9) tyX9 tyX9_ok nmX9 (by decide +kernel) (by decide) rfl rfl rfl (by simp [flds]) (by simp [flds, gI_sI]) (fun a ha => cellAt_sI G ha) hl hd kk
theorem aw_g9_9 {X : CT} {G : GT} {q : S_} {cc : ByteArray} {own : String} {nL d pc ix : Nat} {lv : List (Option Value)} {st : List Value} (C : Cx X G cc own nL d) (hd : decode cc pc = .ok (.getfield ix, 3)) (hl : Cond.fieldLink own ix "BridgePairsModel" "read" "[I" ∈ gtb) (kk : AW X G q (pc + 3) lv (rfn G 136 :: st)) : AW X G q pc lv (rfn G 129 :: st) := aw_get C (k := 129) 9 9 rfl (gtb_u inX9) (by decide +kernel) (by decide) rfl hl hd kk
theorem aw_g9_10 {X : CT} {G : GT} {q : S_} {cc : ByteArray} {own : String} {nL d pc ix : Nat} {lv : List (Option Value)} {st : List Value} (C : Cx X G cc own nL d) {x : Int32} (hx : (gI q 129 10) = x) (hd : decode cc pc = .ok (.getfield ix, 3)) (hl : Cond.fieldLink own ix "BridgePairsModel" "size" "I" ∈ gtb) (kk : AW X G q (pc + 3) lv (.int x :: st)) : AW X G q pc lv (rfn G 129 :: st) := aw_get C (k := 129) 9 10 rfl (gtb_u inX9) (by decide +kernel) (by decide) rfl hl hd (by rw [hx]; exact kk)
theorem aw_p9_10 {X : CT} {G : GT} {q : S_} {cc : ByteArray} {own : String} {nL d pc ix : Nat} {lv : List (Option Value)} {st : List Value} (C : Cx X G cc own nL d) {x : Int32} (hd : decode cc pc = .ok (.putfield ix, 3)) (hl : Cond.fieldLink own ix "BridgePairsModel" "size" "I" ∈ gtb) (kk : AW X G (sI q 129 10 x) (pc + 3) lv st) : AW X G q pc lv (.int x :: rfn G 129 :: st) := aw_put C (k := 129) 9 10 rfl (gtb_u inX9) tyX9 tyX9_ok nmX9 (by decide +kernel) (by decide) rfl rfl rfl (by simp [flds]) (by simp [flds, gI_sI]) (fun a ha => cellAt_sI G ha) hl hd kk
theorem aw_g9_11 {X : CT} {G : GT} {q : S_} {cc : ByteArray} {own : String} {nL d pc ix : Nat} {lv : List (Option Value)} {st : List Value} (C : Cx X G cc own nL d) {x : Int32} (hx : (gI q 129 11) = x) (hd : decode cc pc = .ok (.getfield ix, 3)) (hl : Cond.fieldLink own ix "BridgePairsModel" "at" "I" ∈ gtb) (kk : AW X G q (pc + 3) lv (.int x :: st)) : AW X G q pc lv (rfn G 129 :: st) := aw_get C (k := 129) 9 11 rfl (gtb_u inX9) (by decide +kernel) (by decide) rfl hl hd (by rw [hx]; exact kk)
theorem aw_p9_11 {X : CT} {G : GT} {q : S_} {cc : ByteArray} {own : String} {nL d pc ix : Nat} {lv : List (Option Value)} {st : List Value} (C : Cx X G cc own nL d) {x : Int32} (hd : decode cc pc = .ok (.putfield ix, 3)) (hl : Cond.fieldLink own ix "BridgePairsModel" "at" "I" ∈ gtb) (kk : AW X G (sI q 129 11 x) (pc + 3) lv st) : AW X G q pc lv (.int x :: rfn G 129 :: st) := aw_put C (k := 129) 9 11 rfl (gtb_u inX9) tyX9 tyX9_ok nmX9 (by decide +kernel) (by decide) rfl rfl rfl (by simp [flds]) (by simp [flds, gI_sI]) (fun a ha => cellAt_sI G ha) hl hd kk
theorem aw_g9_12 {X : CT} {G : GT} {q : S_} {cc : ByteArray} {own : String} {nL d pc ix : Nat} {lv : List (Option Value)} {st : List Value} (C : Cx X G cc own nL d) {x : Int32} (hx : (gI q 129 12) = x) (hd : decode cc pc = .ok (.getfield ix, 3)) (hl : Cond.fieldLink own ix "BridgePairsModel" "well" "Z" ∈ gtb) (kk : AW X G q (pc + 3) lv (.int x :: st)) : AW X G q pc lv (rfn G 129 :: st) := aw_get C (k := 129) 9 12 rfl (gtb_u inX9) (by decide +kernel) (by decide) rfl hl hd (by rw [hx]; exact kk)
theorem aw_p9_12 {X : CT} {G : GT} {q : S_} {cc : ByteArray} {own : String} {nL d pc ix : Nat} {lv : List (Option Value)} {st : List Value} (C : Cx X G cc own nL d) {x : Int32} (hd : decode cc pc = .ok (.putfield ix, 3)) (hn : narrow .boolean (.int x) = .int x) (hf : fits .boolean (.int x) = true) (hl : Cond.fieldLink own ix "BridgePairsModel" "well" "Z" ∈ gtb) (kk : AW X G (sI q 129 12 x) (pc + 3) lv st) : AW X G q pc lv (.int x :: rfn G 129 :: st) := aw_put C (k := 129) 9 12 rfl (gtb_u inX9) tyX9 tyX9_ok nmX9 (by decide +kernel) (by decide) rfl hn hf (by simp [flds]) (by simp [flds, gI_sI]) (fun a ha => cellAt_sI G ha) hl hd kk
theorem aw_g9_13 {X : CT} {G : GT} {q : S_} {cc : ByteArray} {own : String} {nL d pc ix : Nat} {lv : List (Option Value)} {st : List Value} (C : Cx X G cc own nL d) {x : Int32} (hx : (gI q 129 13) = x) (hd : decode cc pc = .ok (.getfield ix, 3)) (hl : Cond.fieldLink own ix "BridgePairsModel" "within" "I" ∈ gtb) (kk : AW X G q (pc + 3) lv (.int x :: st)) : AW X G q pc lv (rfn G 129 :: st) := aw_get C (k := 129) 9 13 rfl (gtb_u inX9) (by decide +kernel) (by decide) rfl hl hd (by rw [hx]; exact kk)
theorem aw_p9_13 {X : CT} {G : GT} {q : S_} {cc : ByteArray} {own : String} {nL d pc ix : Nat} {lv : List (Option Value)} {st : List Value} (C : Cx X G cc own nL d) {x : Int32} (hd : decode cc pc = .ok (.putfield ix, 3)) (hl : Cond.fieldLink own ix "BridgePairsModel" "within" "I" ∈ gtb) (kk : AW X G (sI q 129 13 x) (pc + 3) lv st) : AW X G q pc lv (.int x :: rfn G 129 :: st) := aw_put C (k := 129) 9 13 rfl (gtb_u inX9) tyX9 tyX9_ok nmX9 (by decide +kernel) (by decide) rfl rfl rfl (by simp [flds]) (by simp [flds, gI_sI]) (fun a ha => cellAt_sI G ha) hl hd kk
theorem aw_g9_14 {X : CT} {G : GT} {q : S_} {cc : ByteArray} {own : String} {nL d pc ix : Nat} {lv : List (Option Value)} {st : List Value} (C : Cx X G cc own nL d) {x : Int32} (hx : (gI q 129 14) = x) (hd : decode cc pc = .ok (.getfield ix, 3)) (hl : Cond.fieldLink own ix "BridgePairsModel" "sum" "I" ∈ gtb) (kk : AW X G q (pc + 3) lv (.int x :: st)) : AW X G q pc lv (rfn G 129 :: st) := aw_get C (k := 129) 9 14 rfl (gtb_u inX9) (by decide +kernel) (by decide) rfl hl hd (by rw [hx]; exact kk)
theorem aw_p9_14 {X : CT} {G : GT} {q : S_} {cc : ByteArray} {own : String} {nL d pc ix : Nat} {lv : List (Option Value)} {st : List Value} (C : Cx X G cc own nL d) {x : Int32} (hd : decode cc pc = .ok (.putfield ix, 3)) (hl : Cond.fieldLink own ix "BridgePairsModel" "sum" "I" ∈ gtb) (kk : AW X G (sI q 129 14 x) (pc + 3) lv st) : AW X G q pc lv (.int x :: rfn G 129 :: st) := aw_put C (k := 129) 9 14 rfl (gtb_u inX9) tyX9 tyX9_ok nmX9 (by decide +kernel) (by decide) rfl rfl rfl (by simp [flds]) (by simp [flds, gI_sI]) (fun a ha => cellAt_sI G ha) hl hd kk
theorem aw_g9_15 {X : CT} {G : GT} {q : S_} {cc : ByteArray} {own : String} {nL d pc ix : Nat} {lv : List (Option Value)} {st : List Value} (C : Cx X G cc own nL d) {x : Int32} (hx : (gI q 129 15) = x) (hd : decode cc pc = .ok (.getfield ix, 3)) (hl : Cond.fieldLink own ix "BridgePairsModel" "dark" "I" ∈ gtb) (kk : AW X G q (pc + 3) lv (.int x :: st)) : AW X G q pc lv (rfn G 129 :: st) := aw_get C (k := 129) 9 15 rfl (gtb_u inX9) (by decide +kernel) (by decide) rfl hl hd (by rw [hx]; exact kk)
theorem aw_p9_15 {X : CT} {G : GT} {q : S_} {cc : ByteArray} {own : String} {nL d pc ix : Nat} {lv : List (Option Value)} {st : List Value} (C : Cx X G cc own nL d) {x : Int32} (hd : decode cc pc = .ok (.putfield ix, 3)) (hl : Cond.fieldLink own ix "BridgePairsModel" "dark" "I" ∈ gtb) (kk : AW X G (sI q 129 15 x) (pc + 3) lv st) : AW X G q pc lv (.int x :: rfn G 129 :: st) := aw_put C (k := 129) 9 15 rfl (gtb_u inX9) tyX9 tyX9_ok nmX9 (by decide +kernel) (by decide) rfl rfl rfl (by simp [flds]) (by simp [flds, gI_sI]) (fun a ha => cellAt_sI G ha) hl hd kk
theorem aw_g9_16 {X : CT} {G : GT} {q : S_} {cc : ByteArray} {own : String} {nL d pc ix : Nat} {lv : List (Option Value)} {st : List Value} (C : Cx X G cc own nL d) (hd : decode cc pc = .ok (.getfield ix, 3)) (hl : Cond.fieldLink own ix "BridgePairsModel" "names" "[I" ∈ gtb) (kk : AW X G q (pc + 3) lv (rfn G 137 :: st)) : AW X G q pc lv (rfn G 129 :: st) := aw_get C (k := 129) 9 16 rfl (gtb_u inX9) (by decide +kernel) (by decide) rfl hl hd kk
theorem aw_g9_17 {X : CT} {G : GT} {q : S_} {cc : ByteArray} {own : String} {nL d pc ix : Nat} {lv : List (Option Value)} {st : List Value} (C : Cx X G cc own nL d) (hd : decode cc pc = .ok (.getfield ix, 3)) (hl : Cond.fieldLink own ix "BridgePairsModel" "letters" "[C" ∈ gtb) (kk : AW X G q (pc + 3) lv (rfn G 138 :: st)) : AW X G q pc lv (rfn G 129 :: st) := aw_get C (k := 129) 9 17 rfl (gtb_u inX9) (by decide +kernel) (by decide) rfl hl hd kk
theorem aw_g9_18 {X : CT} {G : GT} {q : S_} {cc : ByteArray} {own : String} {nL d pc ix : Nat} {lv : List (Option Value)} {st : List Value} (C : Cx X G cc own nL d) (hd : decode cc pc = .ok (.getfield ix, 3)) (hl : Cond.fieldLink own ix "BridgePairsModel" "begins" "[C" ∈ gtb) (kk : AW X G q (pc + 3) lv (rfn G 139 :: st)) : AW X G q pc lv (rfn G 129 :: st) := aw_get C (k := 129) 9 18 rfl (gtb_u inX9) (by decide +kernel) (by decide) rfl hl hd kk
theorem aw_g9_19 {X : CT} {G : GT} {q : S_} {cc : ByteArray} {own : String} {nL d pc ix : Nat} {lv : List (Option Value)} {st : List Value} (C : Cx X G cc own nL d) (hd : decode cc pc = .ok (.getfield ix, 3)) (hl : Cond.fieldLink own ix "BridgePairsModel" "words" "[C" ∈ gtb) (kk : AW X G q (pc + 3) lv (rfn G 140 :: st)) : AW X G q pc lv (rfn G 129 :: st) := aw_get C (k := 129) 9 19 rfl (gtb_u inX9) (by decide +kernel) (by decide) rfl hl hd kk
theorem aw_g9_20 {X : CT} {G : GT} {q : S_} {cc : ByteArray} {own : String} {nL d pc ix : Nat} {lv : List (Option Value)} {st : List Value} (C : Cx X G cc own nL d) (hd : decode cc pc = .ok (.getfield ix, 3)) (hl : Cond.fieldLink own ix "BridgePairsModel" "mays" "[I" ∈ gtb) (kk : AW X G q (pc + 3) lv (rfn G 141 :: st)) : AW X G q pc lv (rfn G 129 :: st) := aw_get C (k := 129) 9 20 rfl (gtb_u inX9) (by decide +kernel) (by decide) rfl hl hd kk
theorem aw_g9_21 {X : CT} {G : GT} {q : S_} {cc : ByteArray} {own : String} {nL d pc ix : Nat} {lv : List (Option Value)} {st : List Value} (C : Cx X G cc own nL d) (hd : decode cc pc = .ok (.getfield ix, 3)) (hl : Cond.fieldLink own ix "BridgePairsModel" "been" "[Z" ∈ gtb) (kk : AW X G q (pc + 3) lv (rfn G 142 :: st)) : AW X G q pc lv (rfn G 129 :: st) := aw_get C (k := 129) 9 21 rfl (gtb_u inX9) (by decide +kernel) (by decide) rfl hl hd kk
theorem aw_g9_22 {X : CT} {G : GT} {q : S_} {cc : ByteArray} {own : String} {nL d pc ix : Nat} {lv : List (Option Value)} {st : List Value} (C : Cx X G cc own nL d) (hd : decode cc pc = .ok (.getfield ix, 3)) (hl : Cond.fieldLink own ix "BridgePairsModel" "come" "[I" ∈ gtb) (kk : AW X G q (pc + 3) lv (rfn G 143 :: st)) : AW X G q pc lv (rfn G 129 :: st) := aw_get C (k := 129) 9 22 rfl (gtb_u inX9) (by decide +kernel) (by decide) rfl hl hd kk
theorem aw_g9_23 {X : CT} {G : GT} {q : S_} {cc : ByteArray} {own : String} {nL d pc ix : Nat} {lv : List (Option Value)} {st : List Value} (C : Cx X G cc own nL d) (hd : decode cc pc = .ok (.getfield ix, 3)) (hl : Cond.fieldLink own ix "BridgePairsModel" "from" "[I" ∈ gtb) (kk : AW X G q (pc + 3) lv (rfn G 144 :: st)) : AW X G q pc lv (rfn G 129 :: st) := aw_get C (k := 129) 9 23 rfl (gtb_u inX9) (by decide +kernel) (by decide) rfl hl hd kk
theorem aw_g9_24 {X : CT} {G : GT} {q : S_} {cc : ByteArray} {own : String} {nL d pc ix : Nat} {lv : List (Option Value)} {st : List Value} (C : Cx X G cc own nL d) (hd : decode cc pc = .ok (.getfield ix, 3)) (hl : Cond.fieldLink own ix "BridgePairsModel" "by" "[I" ∈ gtb) (kk : AW X G q (pc + 3) lv (rfn G 145 :: st)) : AW X G q pc lv (rfn G 129 :: st) := aw_get C (k := 129) 9 24 rfl (gtb_u inX9) (by decide +kernel) (by decide) rfl hl hd kk
theorem aw_g9_25 {X : CT} {G : GT} {q : S_} {cc : ByteArray} {own : String} {nL d pc ix : Nat} {lv : List (Option Value)} {st : List Value} (C : Cx X G cc own nL d) (hd : decode cc pc = .ok (.getfield ix, 3)) (hl : Cond.fieldLink own ix "BridgePairsModel" "far" "[I" ∈ gtb) (kk : AW X G q (pc + 3) lv (rfn G 146 :: st)) : AW X G q pc lv (rfn G 129 :: st) := aw_get C (k := 129) 9 25 rfl (gtb_u inX9) (by decide +kernel) (by decide) rfl hl hd kk
theorem aw_g9_26 {X : CT} {G : GT} {q : S_} {cc : ByteArray} {own : String} {nL d pc ix : Nat} {lv : List (Option Value)} {st : List Value} (C : Cx X G cc own nL d) {x : Int32} (hx : (gI q 129 26) = x) (hd : decode cc pc = .ok (.getfield ix, 3)) (hl : Cond.fieldLink own ix "BridgePairsModel" "comes" "I" ∈ gtb) (kk : AW X G q (pc + 3) lv (.int x :: st)) : AW X G q pc lv (rfn G 129 :: st) := aw_get C (k := 129) 9 26 rfl (gtb_u inX9) (by decide +kernel) (by decide) rfl hl hd (by rw [hx]; exact kk)
theorem aw_p9_26 {X : CT} {G : GT} {q : S_} {cc : ByteArray} {own : String} {nL d pc ix : Nat} {lv : List (Option Value)} {st : List Value} (C : Cx X G cc own nL d) {x : Int32} (hd : decode cc pc = .ok (.putfield ix, 3)) (hl : Cond.fieldLink own ix "BridgePairsModel" "comes" "I" ∈ gtb) (kk : AW X G (sI q 129 26 x) (pc + 3) lv st) : AW X G q pc lv (.int x :: rfn G 129 :: st) := aw_put C (k := 129) 9 26 rfl (gtb_u inX9) tyX9 tyX9_ok nmX9 (by decide +kernel) (by decide) rfl rfl rfl (by simp [flds]) (by simp [flds, gI_sI]) (fun a ha => cellAt_sI G ha) hl hd kk
theorem aw_g9_27 {X : CT} {G : GT} {q : S_} {cc : ByteArray} {own : String} {nL d pc ix : Nat} {lv : List (Option Value)} {st : List Value} (C : Cx X G cc own nL d) (hd : decode cc pc = .ok (.getfield ix, 3)) (hl : Cond.fieldLink own ix "BridgePairsModel" "steps" "[I" ∈ gtb) (kk : AW X G q (pc + 3) lv (rfn G 147 :: st)) : AW X G q pc lv (rfn G 129 :: st) := aw_get C (k := 129) 9 27 rfl (gtb_u inX9) (by decide +kernel) (by decide) rfl hl hd kk
theorem aw_g9_28 {X : CT} {G : GT} {q : S_} {cc : ByteArray} {own : String} {nL d pc ix : Nat} {lv : List (Option Value)} {st : List Value} (C : Cx X G cc own nL d) (hd : decode cc pc = .ok (.getfield ix, 3)) (hl : Cond.fieldLink own ix "BridgePairsModel" "above" "[I" ∈ gtb) (kk : AW X G q (pc + 3) lv (rfn G 148 :: st)) : AW X G q pc lv (rfn G 129 :: st) := aw_get C (k := 129) 9 28 rfl (gtb_u inX9) (by decide +kernel) (by decide) rfl hl hd kk
theorem aw_g9_29 {X : CT} {G : GT} {q : S_} {cc : ByteArray} {own : String} {nL d pc ix : Nat} {lv : List (Option Value)} {st : List Value} (C : Cx X G cc own nL d) (hd : decode cc pc = .ok (.getfield ix, 3)) (hl : Cond.fieldLink own ix "BridgePairsModel" "bodies" "[I" ∈ gtb) (kk : AW X G q (pc + 3) lv (rfn G 149 :: st)) : AW X G q pc lv (rfn G 129 :: st) := aw_get C (k := 129) 9 29 rfl (gtb_u inX9) (by decide +kernel) (by decide) rfl hl hd kk
theorem aw_g9_30 {X : CT} {G : GT} {q : S_} {cc : ByteArray} {own : String} {nL d pc ix : Nat} {lv : List (Option Value)} {st : List Value} (C : Cx X G cc own nL d) (hd : decode cc pc = .ok (.getfield ix, 3)) (hl : Cond.fieldLink own ix "BridgePairsModel" "trace" "[I" ∈ gtb) (kk : AW X G q (pc + 3) lv (rfn G 150 :: st)) : AW X G q pc lv (rfn G 129 :: st) := aw_get C (k := 129) 9 30 rfl (gtb_u inX9) (by decide +kernel) (by decide) rfl hl hd kk
theorem aw_g9_31 {X : CT} {G : GT} {q : S_} {cc : ByteArray} {own : String} {nL d pc ix : Nat} {lv : List (Option Value)} {st : List Value} (C : Cx X G cc own nL d) {x : Int32} (hx : (gI q 129 31) = x) (hd : decode cc pc = .ok (.getfield ix, 3)) (hl : Cond.fieldLink own ix "BridgePairsModel" "ran" "I" ∈ gtb) (kk : AW X G q (pc + 3) lv (.int x :: st)) : AW X G q pc lv (rfn G 129 :: st) := aw_get C (k := 129) 9 31 rfl (gtb_u inX9) (by decide +kernel) (by decide) rfl hl hd (by rw [hx]; exact kk)
theorem aw_p9_31 {X : CT} {G : GT} {q : S_} {cc : ByteArray} {own : String} {nL d pc ix : Nat} {lv : List (Option Value)} {st : List Value} (C : Cx X G cc own nL d) {x : Int32} (hd : decode cc pc = .ok (.putfield ix, 3)) (hl : Cond.fieldLink own ix "BridgePairsModel" "ran" "I" ∈ gtb) (kk : AW X G (sI q 129 31 x) (pc + 3) lv st) : AW X G q pc lv (.int x :: rfn G 129 :: st) := aw_put C (k := 129) 9 31 rfl (gtb_u inX9) tyX9 tyX9_ok nmX9 (by decide +kernel) (by decide) rfl rfl rfl (by simp [flds]) (by simp [flds, gI_sI]) (fun a ha => cellAt_sI G ha) hl hd kk
theorem aw_g9_32 {X : CT} {G : GT} {q : S_} {cc : ByteArray} {own : String} {nL d pc ix : Nat} {lv : List (Option Value)} {st : List Value} (C : Cx X G cc own nL d) (hd : decode cc pc = .ok (.getfield ix, 3)) (hl : Cond.fieldLink own ix "BridgePairsModel" "sorts" "[I" ∈ gtb) (kk : AW X G q (pc + 3) lv (rfn G 151 :: st)) : AW X G q pc lv (rfn G 129 :: st) := aw_get C (k := 129) 9 32 rfl (gtb_u inX9) (by decide +kernel) (by decide) rfl hl hd kk
theorem aw_g9_33 {X : CT} {G : GT} {q : S_} {cc : ByteArray} {own : String} {nL d pc ix : Nat} {lv : List (Option Value)} {st : List Value} (C : Cx X G cc own nL d) (hd : decode cc pc = .ok (.getfield ix, 3)) (hl : Cond.fieldLink own ix "BridgePairsModel" "lengths" "[I" ∈ gtb) (kk : AW X G q (pc + 3) lv (rfn G 152 :: st)) : AW X G q pc lv (rfn G 129 :: st) := aw_get C (k := 129) 9 33 rfl (gtb_u inX9) (by decide +kernel) (by decide) rfl hl hd kk
theorem aw_g9_34 {X : CT} {G : GT} {q : S_} {cc : ByteArray} {own : String} {nL d pc ix : Nat} {lv : List (Option Value)} {st : List Value} (C : Cx X G cc own nL d) (hd : decode cc pc = .ok (.getfield ix, 3)) (hl : Cond.fieldLink own ix "BridgePairsModel" "items" "[J" ∈ gtb) (kk : AW X G q (pc + 3) lv (rfn G 153 :: st)) : AW X G q pc lv (rfn G 129 :: st) := aw_get C (k := 129) 9 34 rfl (gtb_u inX9) (by decide +kernel) (by decide) rfl hl hd kk
theorem aw_g9_35 {X : CT} {G : GT} {q : S_} {cc : ByteArray} {own : String} {nL d pc ix : Nat} {lv : List (Option Value)} {st : List Value} (C : Cx X G cc own nL d) (hd : decode cc pc = .ok (.getfield ix, 3)) (hl : Cond.fieldLink own ix "BridgePairsModel" "moved" "[J" ∈ gtb) (kk : AW X G q (pc + 3) lv (rfn G 154 :: st)) : AW X G q pc lv (rfn G 129 :: st) := aw_get C (k := 129) 9 35 rfl (gtb_u inX9) (by decide +kernel) (by decide) rfl hl hd kk
