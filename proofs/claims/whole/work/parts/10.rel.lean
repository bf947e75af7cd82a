/-! THE NUMBERS THAT BOTH SYSTEMS HOLD: the reference's row 'now', as naturals; 99 stands for 'none' of sisters and errands -/
abbrev isOpt (j : Nat) : Prop := (j < 32 ∧ j % 4 = 2) ∨ (32 ≤ j ∧ j < 92 ∧ (j - 32) % 10 = 4)
def cd (j x : Nat) : Int32 := if isOpt j ∧ x = 99 then -1 else nI x
def mu (M : Nat → Nat) (j v : Nat) : Nat → Nat := fun k => if k = j then v else M k
def RelR (q : S_) (M : Nat → Nat) : Prop := ∀ j, j < 146 → gI q 130 j = cd j (M j)
theorem cd_n {j x : Nat} (h : ¬ isOpt j) : cd j x = nI x := if_neg (fun z => h z.1)
theorem cd_v {j x : Nat} (h : x ≠ 99) : cd j x = nI x := if_neg (fun z => h z.2)
theorem cd_m {j : Nat} (h : isOpt j) : cd j 99 = -1 := if_pos ⟨h, rfl⟩
theorem RelR.n {q : S_} {M : Nat → Nat} (h : RelR q M) {j : Nat} (hj : j < 146) (ho : ¬ isOpt j) : gI q 130 j = nI (M j) := (h j hj).trans (cd_n ho)
theorem RelR.v {q : S_} {M : Nat → Nat} (h : RelR q M) {j : Nat} (hj : j < 146) (ho : M j ≠ 99) : gI q 130 j = nI (M j) := (h j hj).trans (cd_v ho)
theorem RelR.m {q : S_} {M : Nat → Nat} (h : RelR q M) {j : Nat} (hj : j < 146) (ho : isOpt j) (h9 : M j = 99) : gI q 130 j = -1 := by
  rw [h j hj, h9]
  exact cd_m ho
theorem RelR.set {q : S_} {M : Nat → Nat} (h : RelR q M) {j v : Nat} {x : Int32} (hx : x = cd j v) : RelR (sI q 130 j x) (mu M j v) := by
  intro a ha
  rw [gI_sI]
  unfold mu
  by_cases e : a = j
  · subst e
    rw [if_pos ⟨rfl, rfl⟩, if_pos rfl, hx]
  · rw [if_neg (fun z => e z.2), if_neg e]
    exact h a ha
theorem m1_ne {n : Nat} (h : n < 2 ^ 31) : ¬ nI n = -1 := by
  intro e
  have a := nI_toInt h
  rw [e] at a
  have b : (-1 : Int32).toInt = -1 := by decide +kernel
  omega
theorem cd_m1 {j x : Nat} (hx : x < 2 ^ 31) : cd j x = -1 ↔ isOpt j ∧ x = 99 := by
  unfold cd
  split
  · next h => exact ⟨fun _ => h, fun _ => rfl⟩
  · next h => exact ⟨fun e => absurd e (m1_ne hx), fun z => absurd z h⟩
/-- what the numbers keep to -/
def WF (M : Nat → Nat) : Prop := (M 93 ≤ 8 ∧ M 92 ≤ 6 ∧ M 94 < 100000 ∧ M 95 ≤ 6 ∧ M 96 ≤ 5 ∧ M 112 ≤ 8 ∧ M 129 ≤ 8) ∧
  (∀ b, b < M 93 → M (4 * b + 0) < 6 ∧ M (4 * b + 1) < 6 ∧ (M (4 * b + 2) = 99 ∨ M (4 * b + 2) < M 93) ∧ M (4 * b + 3) < 2) ∧
  (∀ i, i < M 92 → M (32 + 10 * i + 0) < 7 ∧ M (32 + 10 * i + 1) < 10 ∧ M (32 + 10 * i + 2) < 6 ∧ M (32 + 10 * i + 3) < 6 ∧ (M (32 + 10 * i + 4) = 99 ∨ M (32 + 10 * i + 4) < 6) ∧ M (32 + 10 * i + 5) < 2 ^ M 93 ∧ ∀ r, r < 4 → M (32 + 10 * i + (6 + r)) < 10) ∧
  (∀ r, r < M 96 → M (97 + 3 * r) < M 92 ∧ M (97 + 3 * r + 1) ≤ 8 ∧ M (97 + 3 * r + 2) < 6) ∧
  (∀ r, r < M 112 → M (113 + 2 * r) < 4 ∧ (M (113 + 2 * r) = 1 ∨ M (113 + 2 * r) = 2 → M (114 + 2 * r) < M 93) ∧ (M (113 + 2 * r) = 3 → M (114 + 2 * r) < M 92)) ∧
  (∀ r, r < M 129 → M (130 + 2 * r) < M 92 ∧ M (131 + 2 * r) < 6) ∧ (∀ i, i < 6 → M (32 + 10 * i + 5) < 256)
theorem WF.c {M : Nat → Nat} (h : WF M) : M 93 ≤ 8 ∧ M 92 ≤ 6 ∧ M 94 < 100000 ∧ M 95 ≤ 6 ∧ M 96 ≤ 5 ∧ M 112 ≤ 8 ∧ M 129 ≤ 8 := h.1
theorem WF.b {M : Nat → Nat} (h : WF M) {b : Nat} (hb : b < M 93) : b < 8 ∧ M (4 * b + 0) < 6 ∧ M (4 * b + 1) < 6 ∧ (M (4 * b + 2) = 99 ∨ M (4 * b + 2) < M 93) ∧ M (4 * b + 3) < 2 := ⟨Nat.lt_of_lt_of_le hb h.1.1, h.2.1 b hb⟩
theorem WF.p {M : Nat → Nat} (h : WF M) {i : Nat} (hi : i < M 92) : i < 6 ∧ M (32 + 10 * i + 0) < 7 ∧ M (32 + 10 * i + 1) < 10 ∧ M (32 + 10 * i + 2) < 6 ∧ M (32 + 10 * i + 3) < 6 ∧ (M (32 + 10 * i + 4) = 99 ∨ M (32 + 10 * i + 4) < 6) ∧ M (32 + 10 * i + 5) < 2 ^ M 93 ∧ ∀ r, r < 4 → M (32 + 10 * i + (6 + r)) < 10 := ⟨Nat.lt_of_lt_of_le hi h.1.2.1, h.2.2.1 i hi⟩
theorem pow_nb {n : Nat} (h : n ≤ 8) : 2 ^ n ≤ 256 := Nat.pow_le_pow_right (by decide) h
theorem WF.half {M : Nat → Nat} (h : WF M) {i : Nat} (hi : i < M 92) : M (32 + 10 * i + 5) < 256 := Nat.lt_of_lt_of_le (h.p hi).2.2.2.2.2.2.1 (pow_nb h.c.1)
theorem WF.h6 {M : Nat → Nat} (h : WF M) {i : Nat} (hi : i < 6) : M (32 + 10 * i + 5) < 256 := h.2.2.2.2.2.2 i hi
theorem Spec.mono {G : GT} {q : S_} {n : Nat} {y : MethodName} {cc : ByteArray} {nL : Nat} {ret : Option FieldType} {vs : List Value} {P P2 : Option Value → S_ → Prop} (H : Spec G n y cc nL ret vs q P) (h : ∀ v q2, P v q2 → P2 v q2) : Spec G n y cc nL ret vs q P2 := by
  intro l d hd p e ha hc hk s m args below hf happ hp hK
  obtain ⟨k, o, h1, h2, h3, ⟨⟨v, q2, g1, g2, g3⟩, h5⟩, h6⟩ := H l d hd p e ha hc hk s m args below hf happ hp hK
  exact ⟨k, o, h1, h2, h3, ⟨⟨v, q2, g1, h v q2 g2, g3⟩, h5⟩, h6⟩
theorem Spec.up {G : GT} {q : S_} {n n2 : Nat} {y : MethodName} {cc : ByteArray} {nL : Nat} {ret : Option FieldType} {vs : List Value} {P : Option Value → S_ → Prop} (H : Spec G n y cc nL ret vs q P) (h : n ≤ n2) : Spec G n2 y cc nL ret vs q P := fun l d hd => H l d (Nat.le_trans h hd)
/-- frames -/
def Fr (S : Nat → Nat → Prop) (q q2 : S_) : Prop := q2.2 = q.2 ∧ ∀ k j, ¬ S k j → gI q2 k j = gI q k j
theorem Fr.rf {S : Nat → Nat → Prop} {q : S_} : Fr S q q := ⟨rfl, fun _ _ _ => rfl⟩
theorem Fr.tr {S : Nat → Nat → Prop} {q q2 q3 : S_} (h : Fr S q q2) (h2 : Fr S q2 q3) : Fr S q q3 := ⟨h2.1.trans h.1, fun k j hn => (h2.2 k j hn).trans (h.2 k j hn)⟩
theorem Fr.mono {S S2 : Nat → Nat → Prop} {q q2 : S_} (h : Fr S q q2) (hs : ∀ k j, S k j → S2 k j) : Fr S2 q q2 := ⟨h.1, fun k j hn => h.2 k j (fun z => hn (hs k j z))⟩
theorem Fr.set {S : Nat → Nat → Prop} {q : S_} {k j : Nat} {v : Int32} (h : S k j) : Fr S q (sI q k j v) := ⟨rfl, fun a c hn => by
  rw [gI_sI, if_neg]
  rintro ⟨rfl, rfl⟩
  exact hn h⟩
theorem Fr.put {S : Nat → Nat → Prop} {q q2 : S_} {k j : Nat} {v : Int32} (h : Fr S q q2) (hs : S k j) : Fr S q (sI q2 k j v) := h.tr (Fr.set hs)
theorem Fr.rel {S : Nat → Nat → Prop} {q q2 : S_} {M : Nat → Nat} (h : Fr S q q2) (hs : ∀ j, ¬ S 130 j) (hR : RelR q M) : RelR q2 M := fun j hj => (h.2 130 j (hs j)).trans (hR j hj)
/-- sums of bits -/
def bsum (f : Nat → Prop) [DecidablePred f] : Nat → Nat
  | 0 => 0
  | k + 1 => bsum f k + if f k then 2 ^ k else 0
theorem bsum_lt (f : Nat → Prop) [DecidablePred f] : ∀ k, bsum f k < 2 ^ k := by
  intro k
  induction k with
  | zero => exact Nat.one_pos
  | succ k ih =>
    show bsum f k + _ < 2 ^ (k + 1)
    rw [Nat.pow_succ]
    split <;> omega
theorem or_pow {x k : Nat} (h : x < 2 ^ k) : x ||| 2 ^ k = x + 2 ^ k := by
  have := Nat.two_pow_add_eq_or_of_lt h 1
  rw [Nat.mul_one] at this
  rw [Nat.or_comm, ← this, Nat.add_comm]
/-- one bit turned -/
def xr (h b : Nat) : Nat := if h / 2 ^ b % 2 = 1 then h - 2 ^ b else h + 2 ^ b
theorem xr_I : ∀ h, h < 256 → ∀ b, b < 8 → nI h ^^^ (nI 1 <<< (nI b &&& 31)) = nI (xr h b) := by decide +kernel
theorem xr_off : ∀ h, h < 256 → ∀ b, b < 8 → h / 2 ^ b % 2 = 1 → nI h &&& ((nI 1 <<< (nI b &&& 31)) ^^^ (-1)) = nI (xr h b) := by decide +kernel
theorem xr_lt : ∀ n, n < 9 → ∀ h, h < 2 ^ n → ∀ b, b < n → xr h b < 2 ^ n := by decide +kernel
theorem bit_I : ∀ h, h < 256 → ∀ b, b < 8 → nI h >>> (nI b &&& 31) &&& nI 1 = nI (h / 2 ^ b % 2) := by decide +kernel
/-- HALF behind a bridge -/
def halfM (M : Nat → Nat) (h b : Nat) : Nat := if M (4 * b + 2) ≠ 99 ∧ h / 2 ^ M (4 * b + 2) % 2 = 1 then xr h (M (4 * b + 2)) else xr h b
theorem halfM_lt {M : Nat → Nat} (hW : WF M) {h b : Nat} (hb : b < M 93) (hh : h < 2 ^ M 93) : halfM M h b < 2 ^ M 93 := by
  have a := hW.b hb
  have c := hW.c
  unfold halfM
  split
  · next z => exact xr_lt _ (by omega) h hh _ (by omega)
  · exact xr_lt _ (by omega) h hh _ hb
