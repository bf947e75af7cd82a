/-! THE LAW'S START: what the Statement gives -/
theorem st_KN {args : Array Value} {s : State} (hts : ∀ w ∈ lw_tbl, w.before args s = true) : KN s :=
  ⟨⟨va_Nw.of rfl (hts _ (List.mem_of_getElem? (i := 122) (by decide +kernel))), va_Nw.of rfl (hts _ (List.mem_of_getElem? (i := 218) (by decide +kernel))), va_Nw.of rfl (hts _ (List.mem_of_getElem? (i := 244) (by decide +kernel))), va_Nw.of rfl (hts _ (List.mem_of_getElem? (i := 268) (by decide +kernel))), va_Nw.of rfl (hts _ (List.mem_of_getElem? (i := 291) (by decide +kernel))), va_Nw.of rfl (hts _ (List.mem_of_getElem? (i := 311) (by decide +kernel)))⟩,
    va_AO.of (hts _ (List.mem_of_getElem? (i := 97) (by decide +kernel))), va_AO.of (hts _ (List.mem_of_getElem? (i := 263) (by decide +kernel))), va_AO.of (hts _ (List.mem_of_getElem? (i := 265) (by decide +kernel)))⟩
theorem st_D {args : Array Value} {s : State} (hts : ∀ w ∈ lw_tbl, w.before args s = true) : ∃ D : va_G, ∀ (c : Nat) (q : vw_C), vwCl[c]? = some q → u_Kn s q.1 q.2.1 q.2.2 (D.1 c) (D.2 c) := by
  obtain ⟨c0, i0, h0⟩ := u_known (C := RX0) (T := TX0) (N := 5) (n := 5) hts inX0 (hts _ (List.mem_of_getElem? (i := 267) (by decide +kernel)))
  obtain ⟨c1, i1, h1⟩ := u_known (C := RX1) (T := TX1) (N := 4) (n := 4) hts inX1 (hts _ (List.mem_of_getElem? (i := 290) (by decide +kernel)))
  obtain ⟨c2, i2, h2⟩ := u_known (C := RX2) (T := TX2) (N := 7) (n := 7) hts inX2 (hts _ (List.mem_of_getElem? (i := 121) (by decide +kernel)))
  obtain ⟨c3, i3, h3⟩ := u_known (C := RX3) (T := TX3) (N := 4) (n := 4) hts inX3 (hts _ (List.mem_of_getElem? (i := 99) (by decide +kernel)))
  obtain ⟨c4, i4, h4⟩ := u_known (C := RX4) (T := TX4) (N := 3) (n := 3) hts inX4 (hts _ (List.mem_of_getElem? (i := 310) (by decide +kernel)))
  obtain ⟨c5, i5, h5⟩ := u_known (C := RX5) (T := TX5) (N := 4) (n := 4) hts inX5 (hts _ (List.mem_of_getElem? (i := 243) (by decide +kernel)))
  obtain ⟨c6, i6, h6⟩ := u_known (C := RX6) (T := TX6) (N := 6) (n := 6) hts inX6 (hts _ (List.mem_of_getElem? (i := 217) (by decide +kernel)))
  obtain ⟨c7, i7, h7⟩ := u_known (C := RX7) (T := TX7) (N := 12) (n := 12) hts inX7 (hts _ (List.mem_of_getElem? (i := 91) (by decide +kernel)))
  obtain ⟨c8, i8, h8⟩ := u_known (C := RX8) (T := TX8) (N := 10) (n := 10) hts inX8 (hts _ (List.mem_of_getElem? (i := 83) (by decide +kernel)))
  obtain ⟨c9, i9, h9⟩ := u_known (C := RX9) (T := TX9) (N := 36) (n := 36) hts inX9 (hts _ (List.mem_of_getElem? (i := 895) (by decide +kernel)))
  refine ⟨(fun k => [c0, c1, c2, c3, c4, c5, c6, c7, c8, c9].getD k c0, fun k => [i0, i1, i2, i3, i4, i5, i6, i7, i8, i9].getD k i0), ?_⟩
  intro k q hq
  match k, hq with
    | 0, hq => cases hq; exact h0
    | 1, hq => cases hq; exact h1
    | 2, hq => cases hq; exact h2
    | 3, hq => cases hq; exact h3
    | 4, hq => cases hq; exact h4
    | 5, hq => cases hq; exact h5
    | 6, hq => cases hq; exact h6
    | 7, hq => cases hq; exact h7
    | 8, hq => cases hq; exact h8
    | 9, hq => cases hq; exact h9
    | k + 10, hq => simp [vwCl] at hq
theorem st_prim {args : Array Value} {s : State} {ty : FieldType} (hr : ∀ C : String, ty ≠ .object C) (h : (Cond.arrayClass ty).before args s = true) : ∃ cA : ClassId, ArrOfT s cA ty ∧ va_RA s cA ty := by
  obtain ⟨c, k, comp, h1, h2, h3⟩ := Cond.arrayClass_spec h
  refine ⟨c, fun n z => ⟨fun k h => (by cases h), k, h2, comp, h3⟩, ?_⟩
  cases ty with
  | object C => exact absurd rfl (hr C)
  | _ => exact h1
theorem st_obj {args : Array Value} {s : State} {C : String} (h : (Cond.arrayOver (.object C)).before args s = true) : ∃ cA : ClassId, ArrOfT s cA (.object C) ∧ va_RA s cA (.object C) := by
  obtain ⟨comp, c, k, h1, h2, h3, h4, h5⟩ := Cond.arrayOver_spec h
  exact ⟨c, fun n z => ⟨fun k h => (by cases h), k, h3, comp, h4⟩, k, comp, h3, h4, h1, h5⟩
theorem st_K {args : Array Value} {s : State} (hts : ∀ w ∈ lw_tbl, w.before args s = true) : ∃ (D : va_G) (cA : Nat → ClassId), ∀ (n : Nat) (s2 : State) (ad : Nat → Nat), va_K D vwCl (tysG (D, cA, n, s2, ad)) s := by
  obtain ⟨D, hD⟩ := st_D hts
  obtain ⟨a0, k0⟩ := st_prim (ty := .int) (fun C z => by cases z) (hts _ (List.mem_of_getElem? (i := 120) (by decide +kernel)))
  obtain ⟨a1, k1⟩ := st_prim (ty := .boolean) (fun C z => by cases z) (hts _ (List.mem_of_getElem? (i := 241) (by decide +kernel)))
  obtain ⟨a2, k2⟩ := st_prim (ty := .char) (fun C z => by cases z) (hts _ (List.mem_of_getElem? (i := 1009) (by decide +kernel)))
  obtain ⟨a3, k3⟩ := st_prim (ty := .long) (fun C z => by cases z) (hts _ (List.mem_of_getElem? (i := 327) (by decide +kernel)))
  obtain ⟨a4, k4⟩ := st_obj (C := RX2) (hts _ (List.mem_of_getElem? (i := 97) (by decide +kernel)))
  obtain ⟨a5, k5⟩ := st_obj (C := RX1) (hts _ (List.mem_of_getElem? (i := 263) (by decide +kernel)))
  obtain ⟨a6, k6⟩ := st_obj (C := RX4) (hts _ (List.mem_of_getElem? (i := 265) (by decide +kernel)))
  refine ⟨D, fun k => [a0, a1, a2, a3, a4, a5, a6].getD k a0, fun n s2 ad => ⟨hD, ?_⟩⟩
  intro k q hq
  match k, hq with
    | 0, hq => cases hq; exact k0
    | 1, hq => cases hq; exact k1
    | 2, hq => cases hq; exact k2
    | 3, hq => cases hq; exact k3
    | 4, hq => cases hq; exact k4
    | 5, hq => cases hq; exact k5
    | 6, hq => cases hq; exact k6
    | k + 7, hq => simp [tysG] at hq
def kad (k v : Nat → Nat) (a b : Nat) : Nat → Nat := fun n => if n < 10 then k n else if n < 20 then v (n - 10) else if n = 20 then a else b
abbrev stTm (i : Nat) : Term := .string RX5 (scI.getD i 0)
abbrev stFl : List Cond := flatC (Jvm.Cond.and given_1 narrow_1)
theorem st_i1 : ∀ i, i < 5 → Cond.exactly (stTm i) "java/lang/String" ∈ stFl := by decide +kernel
theorem st_i2 : ∀ i, i < 5 → Cond.eq (.field (stTm i) "java/lang/String" "coder" "B") (.int 0) ∈ stFl := by decide +kernel
theorem st_i3 : ∀ i, i < 5 → Cond.arrayOf (.field (stTm i) "java/lang/String" "value" "[B") .byte ∈ stFl := by decide +kernel
theorem st_i4 : ∀ i, i < 5 → Cond.eq (.length (.field (stTm i) "java/lang/String" "value" "[B")) (.int (Int32.ofNat (scL.getD i 0))) ∈ stFl := by decide +kernel
theorem st_i5 : ∀ i, i < 5 → ∀ j, j < scL.getD i 0 → Cond.eq (.elem (.field (stTm i) "java/lang/String" "value" "[B") (.int (Int32.ofNat j))) (.int ((scB.getD i []).getD j 0)) ∈ stFl := by decide +kernel
theorem st_i6 : ∀ i, i < 5 → ∀ j, j < 5 → i ≠ j → Cond.not (Cond.eq (stTm i) (stTm j)) ∈ stFl ∨ Cond.not (Cond.eq (stTm j) (stTm i)) ∈ stFl := by decide +kernel
theorem st_i7 : ∀ j, j < 7 → Cond.eq (.elem (.static RX8 "ABOVE" "[I") (.int (Int32.ofNat j))) (.int (abv j)) ∈ stFl := by decide +kernel
theorem st_i8 : ∀ j, j < 21 → Cond.eq (.elem (.static RX8 "BODIES" "[I") (.int (Int32.ofNat j))) (.int (bds j)) ∈ stFl := by decide +kernel
theorem st_i9 : Cond.arrayOf (.static RX8 "ABOVE" "[I") .int ∈ stFl ∧ Cond.arrayOf (.static RX8 "BODIES" "[I") .int ∈ stFl ∧ Cond.eq (.length (.static RX8 "ABOVE" "[I")) (.int (Int32.ofNat 7)) ∈ stFl ∧ Cond.eq (.length (.static RX8 "BODIES" "[I")) (.int (Int32.ofNat 21)) ∈ stFl ∧ Cond.eq (.static "java/lang/String" "COMPACT_STRINGS" "Z") (.int 1) ∈ stFl ∧ Cond.isRef (.static "jdk/internal/util/Preconditions" "SIOOBE_FORMATTER" "Ljava/util/function/BiFunction;") ∈ stFl := by decide +kernel
theorem st_w : ∀ i, i < 5 → Cond.stringRef RX5 (scI.getD i 0) (scT.getD i "") ∈ lw_tbl := by decide +kernel
theorem st_S {args : Array Value} {s : State} (hts : ∀ w ∈ lw_tbl, w.before args s = true) (hgv : (Jvm.Cond.and given_1 narrow_1).before args s = true) : ∃ ad : Nat → Nat, ∀ (D : va_G) (cA : Nat → ClassId), Stt (D, cA, s.heap.size, s, ad) s s.heap := by
  have hs := flat_of_before _ hgv
  have hA : ∀ a : Nat, a < s.heap.size → ¬ s.heap.size ≤ a := fun a h => Nat.not_le.mpr h
  have hlen : ∀ i, i < 5 → scL.getD i 0 < 2 ^ 31 := by decide +kernel
  obtain ⟨adK, adV, hV, hE⟩ := vk_Sof (args := args) (s := s) (N := 5) (tm := stTm) (len := scL) (byt := scB) (A := fun a => s.heap.size ≤ a) hlen (fun i hi => hs _ (st_i1 i hi)) (fun i hi => hs _ (st_i2 i hi)) (fun i hi => hs _ (st_i3 i hi)) (fun i hi => hs _ (st_i4 i hi)) (fun i hi j hj => hs _ (st_i5 i hi j hj)) (fun i j hi hj hne => (st_i6 i hi j hj hne).elim (fun z => Or.inl (hs _ z)) (fun z => Or.inr (hs _ z))) hA
  obtain ⟨g1, g2, g3, g4, g5, g6⟩ := st_i9
  obtain ⟨tA, eA, hTA⟩ := va_Tof (args := args) (tm := .static RX8 "ABOVE" "[I") (ty := .int) (N := 7) (f := fun j => .int (abv j)) (A := fun a => s.heap.size ≤ a) (by decide) (hs _ g1) (va_eqt (hs _ g3)) (fun j hj => va_eqt (hs _ (st_i7 j hj))) hA
  obtain ⟨tB, eB, hTB⟩ := va_Tof (args := args) (tm := .static RX8 "BODIES" "[I") (ty := .int) (N := 21) (f := fun j => .int (bds j)) (A := fun a => s.heap.size ≤ a) (by decide) (hs _ g2) (va_eqt (hs _ g4)) (fun j hj => va_eqt (hs _ (st_i8 j hj))) hA
  refine ⟨kad adK adV tA tB, fun D cA => ?_⟩
  have e1 : ∀ i, i < 5 → kad adK adV tA tB i = adK i := fun i hi => if_pos (by omega)
  have e2 : ∀ i, i < 5 → kad adK adV tA tB (10 + i) = adV i := fun i hi => by
    unfold kad
    rw [if_neg (by omega), if_pos (by omega), Nat.add_sub_cancel_left]
  have e3 : kad adK adV tA tB 20 = tA := rfl
  have e4 : kad adK adV tA tB 21 = tB := rfl
  refine ⟨fun i hi => ?_, ⟨fun i hi => ?_, fun i j hi hj e => ?_⟩, ?_, ?_, ?_, ?_, va_Zof (hts _ (List.mem_of_getElem? (i := 577) (by decide +kernel))) (hts _ (List.mem_of_getElem? (i := 77) (by decide +kernel))) (va_eqt (hs _ g5)) hA, va_Zqof (hts _ (List.mem_of_getElem? (i := 593) (by decide +kernel))) (hts _ (List.mem_of_getElem? (i := 79) (by decide +kernel))) (hs _ g6) hA, va_Nw.of rfl (hts _ (List.mem_of_getElem? (i := 838) (by decide +kernel))), va_Nw.of rfl (hts _ (List.mem_of_getElem? (i := 840) (by decide +kernel)))⟩
  · show vk_R RX5 (scI.getD i 0) (scT.getD i "") (kad adK adV tA tB i) s
    rw [e1 i hi]
    exact vk_R.of (hts _ (st_w i hi)) (hE i hi)
  · have h := hV.1 i hi
    show va_O _ (kad adK adV tA tB i) _ _ _ ∧ va_OF _ _ _ _ (kad adK adV tA tB i) _ _ _ ∧ va_OF _ _ _ (.ref (kad adK adV tA tB (10 + i))) (kad adK adV tA tB i) _ _ _ ∧ va_T _ (kad adK adV tA tB (10 + i)) _ _ _ _ _
    rw [e1 i hi, e2 i hi]
    exact h
  · have e' : kad adK adV tA tB i = kad adK adV tA tB j := e
    rw [e1 i hi, e1 j hj] at e'
    exact hV.2 i j hi hj e'
  · show va_Z RX8 "ABOVE" "[I" (.ref (kad adK adV tA tB 20)) _ _ _
    rw [e3]
    exact va_Zof (hts _ (List.mem_of_getElem? (i := 841) (by decide +kernel))) (hts _ (List.mem_of_getElem? (i := 63) (by decide +kernel))) eA hA
  · show va_T .int (kad adK adV tA tB 20) 7 _ _ _ _
    rw [e3]
    exact hTA
  · show va_Z RX8 "BODIES" "[I" (.ref (kad adK adV tA tB 21)) _ _ _
    rw [e4]
    exact va_Zof (hts _ (List.mem_of_getElem? (i := 839) (by decide +kernel))) (hts _ (List.mem_of_getElem? (i := 63) (by decide +kernel))) eB hA
  · show va_T .int (kad adK adV tA tB 21) 21 _ _ _ _
    rw [e4]
    exact hTB
