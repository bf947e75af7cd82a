/-! ACTS -/
abbrev TR : Type := Nat × (Nat → Int32)
def bdT (j : Nat) : Nat := [10, 11, 12, 0, 20, 0, 30, 0, 0, 0, 0, 40, 50, 51, 0, 0, 0, 60, 71, 70, 0].getD j 0
theorem bdT_k : ∀ j, j < 21 → bds j = nI (bdT j) := by decide +kernel
def homF (a : Nat) : Nat → Nat → Nat
  | 0, k => k
  | m + 1, k => if bdT (3 * k + a) = 0 then homF a m (abN k) else k
def hom (k a : Nat) : Nat := homF a 4 k
theorem hom_s : ∀ k, k < 7 → ∀ a, a < 3 → bdT (3 * k + a) = 0 → hom k a = hom (abN k) a ∧ abN k < 7 ∧ dpk (abN k) < dpk k := by decide +kernel
theorem hom_e : ∀ k, k < 7 → ∀ a, a < 3 → bdT (3 * k + a) ≠ 0 → hom k a = k := by decide +kernel
theorem hom_k : ∀ k, k < 7 → ∀ a, a < 3 → hom k a < 7 ∧ dpk (hom k a) ≤ dpk k ∧ bdT (3 * hom k a + a) ≠ 0 := by decide +kernel
def acB (kd v i : Nat) (R : Nat → Nat → Int32 → TR → Int32 × TR) (h a : Nat) (x : Int32) (s : TR) : Int32 × TR :=
  if bdT (3 * h + a) = 10 then (x + nI i, s) else if bdT (3 * h + a) = 11 then ((R kd 0 x s).1 - nI v, (R kd 0 x s).2) else if bdT (3 * h + a) = 12 then ((R kd 1 x s).1 * nI 2, (R kd 1 x s).2) else if bdT (3 * h + a) = 20 then ((R (abN h) 1 x s).1 ^^^ nI 6, (R (abN h) 1 x s).2) else if bdT (3 * h + a) = 30 then ((R (abN h) 0 (x * nI 3) s).1, (R (abN h) 0 (x * nI 3) s).2) else if bdT (3 * h + a) = 40 then ((R (abN h) 2 x s).1 + (R kd 1 (nI 1) (R (abN h) 2 x s).2).1, (R kd 1 (nI 1) (R (abN h) 2 x s).2).2) else if bdT (3 * h + a) = 50 then (-(R (abN h) 0 x s).1, (R (abN h) 0 x s).2) else if bdT (3 * h + a) = 51 then ((R (abN h) 1 (x + nI 1) s).1, (R (abN h) 1 (x + nI 1) s).2) else if bdT (3 * h + a) = 60 then ((R (abN h) 2 (x - nI i) s).1, (R (abN h) 2 (x - nI i) s).2) else if bdT (3 * h + a) = 70 then ((R (abN h) 1 x s).1 + (R (abN h) 0 (nI 2) (R (abN h) 1 x s).2).1, (R (abN h) 0 (nI 2) (R (abN h) 1 x s).2).2) else ((R (abN h) 0 x s).1 ^^^ nI v, (R (abN h) 0 x s).2)
def cnB (kd : Nat) (C : Nat → Nat → Nat) (h a : Nat) : Nat :=
  if bdT (3 * h + a) = 10 then 1 else if bdT (3 * h + a) = 11 then 1 + C kd 0 else if bdT (3 * h + a) = 12 then 1 + C kd 1 else if bdT (3 * h + a) = 20 then 1 + C (abN h) 1 else if bdT (3 * h + a) = 30 then 1 + C (abN h) 0 else if bdT (3 * h + a) = 40 then 1 + C (abN h) 2 + C kd 1 else if bdT (3 * h + a) = 50 then 1 + C (abN h) 0 else if bdT (3 * h + a) = 51 then 1 + C (abN h) 1 else if bdT (3 * h + a) = 60 then 1 + C (abN h) 2 else if bdT (3 * h + a) = 70 then 1 + C (abN h) 1 + C (abN h) 0 else 1 + C (abN h) 0
def acS (s : TR) (b : Int32) : TR := (s.1 + 1, updN s.2 s.1 b)
def acF (kd v i : Nat) : Nat → Nat → Nat → Int32 → TR → Int32 × TR
  | 0, _, _, _, s => (0, s)
  | F + 1, fk, a, x, s => acB kd v i (acF kd v i F) (hom fk a) a x (acS s (nI (bdT (3 * hom fk a + a))))
def cnF (kd : Nat) : Nat → Nat → Nat → Nat
  | 0, _, _ => 0
  | F + 1, fk, a => cnB kd (cnF kd F) (hom fk a) a
theorem acF_s (kd v i F fk a : Nat) (x : Int32) (s : TR) : acF kd v i (F + 1) fk a x s = acB kd v i (acF kd v i F) (hom fk a) a x (acS s (nI (bdT (3 * hom fk a + a)))) := rfl
theorem cnF_s (kd F fk a : Nat) : cnF kd (F + 1) fk a = cnB kd (cnF kd F) (hom fk a) a := rfl
theorem acF_cn (kd v i : Nat) : ∀ F fk a x s, (acF kd v i F fk a x s).2.1 = s.1 + cnF kd F fk a := by
  intro F
  induction F with
  | zero => intro fk a x s; rfl
  | succ F ih =>
    intro fk a x s
    rw [acF_s, cnF_s]
    unfold acB cnB
    have e : ∀ b, (acS s b).1 = s.1 + 1 := fun _ => rfl
    by_cases h10 : bdT (3 * hom fk a + a) = 10
    · rw [if_pos h10, if_pos h10]
      first | rfl | (simp only [ih, e]; omega)
    rw [if_neg h10, if_neg h10]
    by_cases h11 : bdT (3 * hom fk a + a) = 11
    · rw [if_pos h11, if_pos h11]
      first | rfl | (simp only [ih, e]; omega)
    rw [if_neg h11, if_neg h11]
    by_cases h12 : bdT (3 * hom fk a + a) = 12
    · rw [if_pos h12, if_pos h12]
      first | rfl | (simp only [ih, e]; omega)
    rw [if_neg h12, if_neg h12]
    by_cases h20 : bdT (3 * hom fk a + a) = 20
    · rw [if_pos h20, if_pos h20]
      first | rfl | (simp only [ih, e]; omega)
    rw [if_neg h20, if_neg h20]
    by_cases h30 : bdT (3 * hom fk a + a) = 30
    · rw [if_pos h30, if_pos h30]
      first | rfl | (simp only [ih, e]; omega)
    rw [if_neg h30, if_neg h30]
    by_cases h40 : bdT (3 * hom fk a + a) = 40
    · rw [if_pos h40, if_pos h40]
      first | rfl | (simp only [ih, e]; omega)
    rw [if_neg h40, if_neg h40]
    by_cases h50 : bdT (3 * hom fk a + a) = 50
    · rw [if_pos h50, if_pos h50]
      first | rfl | (simp only [ih, e]; omega)
    rw [if_neg h50, if_neg h50]
    by_cases h51 : bdT (3 * hom fk a + a) = 51
    · rw [if_pos h51, if_pos h51]
      first | rfl | (simp only [ih, e]; omega)
    rw [if_neg h51, if_neg h51]
    by_cases h60 : bdT (3 * hom fk a + a) = 60
    · rw [if_pos h60, if_pos h60]
      first | rfl | (simp only [ih, e]; omega)
    rw [if_neg h60, if_neg h60]
    by_cases h70 : bdT (3 * hom fk a + a) = 70
    · rw [if_pos h70, if_pos h70]
      first | rfl | (simp only [ih, e]; omega)
    rw [if_neg h70, if_neg h70]
    simp only [ih, e]
    omega
theorem cnF_lt : ∀ kd, kd < 7 → ∀ fk, fk < 7 → ∀ a, a < 3 → cnF kd 12 fk a < 1000 := by decide +kernel
def rk (fk a : Nat) : Nat := 4 * a + dpk fk
theorem rk_lt {fk a : Nat} (ha : a < 3) : rk fk a < 12 := by
  have := dpk_4 fk
  unfold rk
  omega

theorem acB_10 {kd v i h a : Nat} {R : Nat → Nat → Int32 → TR → Int32 × TR} {x : Int32} {s : TR} (e : bdT (3 * h + a) = 10) : acB kd v i R h a x s = (x + nI i, s) := by
  unfold acB
  rw [if_pos e]
theorem cnB_10 {kd h a : Nat} {C : Nat → Nat → Nat} (e : bdT (3 * h + a) = 10) : cnB kd C h a = 1 := by
  unfold cnB
  rw [if_pos e]

theorem acB_11 {kd v i h a : Nat} {R : Nat → Nat → Int32 → TR → Int32 × TR} {x : Int32} {s : TR} (e : bdT (3 * h + a) = 11) : acB kd v i R h a x s = ((R kd 0 x s).1 - nI v, (R kd 0 x s).2) := by
  unfold acB
  rw [if_neg (by rw [e]; decide), if_pos e]
theorem cnB_11 {kd h a : Nat} {C : Nat → Nat → Nat} (e : bdT (3 * h + a) = 11) : cnB kd C h a = 1 + C kd 0 := by
  unfold cnB
  rw [if_neg (by rw [e]; decide), if_pos e]

theorem acB_12 {kd v i h a : Nat} {R : Nat → Nat → Int32 → TR → Int32 × TR} {x : Int32} {s : TR} (e : bdT (3 * h + a) = 12) : acB kd v i R h a x s = ((R kd 1 x s).1 * nI 2, (R kd 1 x s).2) := by
  unfold acB
  rw [if_neg (by rw [e]; decide), if_neg (by rw [e]; decide), if_pos e]
theorem cnB_12 {kd h a : Nat} {C : Nat → Nat → Nat} (e : bdT (3 * h + a) = 12) : cnB kd C h a = 1 + C kd 1 := by
  unfold cnB
  rw [if_neg (by rw [e]; decide), if_neg (by rw [e]; decide), if_pos e]

theorem acB_20 {kd v i h a : Nat} {R : Nat → Nat → Int32 → TR → Int32 × TR} {x : Int32} {s : TR} (e : bdT (3 * h + a) = 20) : acB kd v i R h a x s = ((R (abN h) 1 x s).1 ^^^ nI 6, (R (abN h) 1 x s).2) := by
  unfold acB
  rw [if_neg (by rw [e]; decide), if_neg (by rw [e]; decide), if_neg (by rw [e]; decide), if_pos e]
theorem cnB_20 {kd h a : Nat} {C : Nat → Nat → Nat} (e : bdT (3 * h + a) = 20) : cnB kd C h a = 1 + C (abN h) 1 := by
  unfold cnB
  rw [if_neg (by rw [e]; decide), if_neg (by rw [e]; decide), if_neg (by rw [e]; decide), if_pos e]

theorem acB_30 {kd v i h a : Nat} {R : Nat → Nat → Int32 → TR → Int32 × TR} {x : Int32} {s : TR} (e : bdT (3 * h + a) = 30) : acB kd v i R h a x s = ((R (abN h) 0 (x * nI 3) s).1, (R (abN h) 0 (x * nI 3) s).2) := by
  unfold acB
  rw [if_neg (by rw [e]; decide), if_neg (by rw [e]; decide), if_neg (by rw [e]; decide), if_neg (by rw [e]; decide), if_pos e]
theorem cnB_30 {kd h a : Nat} {C : Nat → Nat → Nat} (e : bdT (3 * h + a) = 30) : cnB kd C h a = 1 + C (abN h) 0 := by
  unfold cnB
  rw [if_neg (by rw [e]; decide), if_neg (by rw [e]; decide), if_neg (by rw [e]; decide), if_neg (by rw [e]; decide), if_pos e]

theorem acB_40 {kd v i h a : Nat} {R : Nat → Nat → Int32 → TR → Int32 × TR} {x : Int32} {s : TR} (e : bdT (3 * h + a) = 40) : acB kd v i R h a x s = ((R (abN h) 2 x s).1 + (R kd 1 (nI 1) (R (abN h) 2 x s).2).1, (R kd 1 (nI 1) (R (abN h) 2 x s).2).2) := by
  unfold acB
  rw [if_neg (by rw [e]; decide), if_neg (by rw [e]; decide), if_neg (by rw [e]; decide), if_neg (by rw [e]; decide), if_neg (by rw [e]; decide), if_pos e]
theorem cnB_40 {kd h a : Nat} {C : Nat → Nat → Nat} (e : bdT (3 * h + a) = 40) : cnB kd C h a = 1 + C (abN h) 2 + C kd 1 := by
  unfold cnB
  rw [if_neg (by rw [e]; decide), if_neg (by rw [e]; decide), if_neg (by rw [e]; decide), if_neg (by rw [e]; decide), if_neg (by rw [e]; decide), if_pos e]

theorem acB_50 {kd v i h a : Nat} {R : Nat → Nat → Int32 → TR → Int32 × TR} {x : Int32} {s : TR} (e : bdT (3 * h + a) = 50) : acB kd v i R h a x s = (-(R (abN h) 0 x s).1, (R (abN h) 0 x s).2) := by
  unfold acB
  rw [if_neg (by rw [e]; decide), if_neg (by rw [e]; decide), if_neg (by rw [e]; decide), if_neg (by rw [e]; decide), if_neg (by rw [e]; decide), if_neg (by rw [e]; decide), if_pos e]
theorem cnB_50 {kd h a : Nat} {C : Nat → Nat → Nat} (e : bdT (3 * h + a) = 50) : cnB kd C h a = 1 + C (abN h) 0 := by
  unfold cnB
  rw [if_neg (by rw [e]; decide), if_neg (by rw [e]; decide), if_neg (by rw [e]; decide), if_neg (by rw [e]; decide), if_neg (by rw [e]; decide), if_neg (by rw [e]; decide), if_pos e]

theorem acB_51 {kd v i h a : Nat} {R : Nat → Nat → Int32 → TR → Int32 × TR} {x : Int32} {s : TR} (e : bdT (3 * h + a) = 51) : acB kd v i R h a x s = ((R (abN h) 1 (x + nI 1) s).1, (R (abN h) 1 (x + nI 1) s).2) := by
  unfold acB
  rw [if_neg (by rw [e]; decide), if_neg (by rw [e]; decide), if_neg (by rw [e]; decide), if_neg (by rw [e]; decide), if_neg (by rw [e]; decide), if_neg (by rw [e]; decide), if_neg (by rw [e]; decide), if_pos e]
theorem cnB_51 {kd h a : Nat} {C : Nat → Nat → Nat} (e : bdT (3 * h + a) = 51) : cnB kd C h a = 1 + C (abN h) 1 := by
  unfold cnB
  rw [if_neg (by rw [e]; decide), if_neg (by rw [e]; decide), if_neg (by rw [e]; decide), if_neg (by rw [e]; decide), if_neg (by rw [e]; decide), if_neg (by rw [e]; decide), if_neg (by rw [e]; decide), if_pos e]

theorem acB_60 {kd v i h a : Nat} {R : Nat → Nat → Int32 → TR → Int32 × TR} {x : Int32} {s : TR} (e : bdT (3 * h + a) = 60) : acB kd v i R h a x s = ((R (abN h) 2 (x - nI i) s).1, (R (abN h) 2 (x - nI i) s).2) := by
  unfold acB
  rw [if_neg (by rw [e]; decide), if_neg (by rw [e]; decide), if_neg (by rw [e]; decide), if_neg (by rw [e]; decide), if_neg (by rw [e]; decide), if_neg (by rw [e]; decide), if_neg (by rw [e]; decide), if_neg (by rw [e]; decide), if_pos e]
theorem cnB_60 {kd h a : Nat} {C : Nat → Nat → Nat} (e : bdT (3 * h + a) = 60) : cnB kd C h a = 1 + C (abN h) 2 := by
  unfold cnB
  rw [if_neg (by rw [e]; decide), if_neg (by rw [e]; decide), if_neg (by rw [e]; decide), if_neg (by rw [e]; decide), if_neg (by rw [e]; decide), if_neg (by rw [e]; decide), if_neg (by rw [e]; decide), if_neg (by rw [e]; decide), if_pos e]

theorem acB_70 {kd v i h a : Nat} {R : Nat → Nat → Int32 → TR → Int32 × TR} {x : Int32} {s : TR} (e : bdT (3 * h + a) = 70) : acB kd v i R h a x s = ((R (abN h) 1 x s).1 + (R (abN h) 0 (nI 2) (R (abN h) 1 x s).2).1, (R (abN h) 0 (nI 2) (R (abN h) 1 x s).2).2) := by
  unfold acB
  rw [if_neg (by rw [e]; decide), if_neg (by rw [e]; decide), if_neg (by rw [e]; decide), if_neg (by rw [e]; decide), if_neg (by rw [e]; decide), if_neg (by rw [e]; decide), if_neg (by rw [e]; decide), if_neg (by rw [e]; decide), if_neg (by rw [e]; decide), if_pos e]
theorem cnB_70 {kd h a : Nat} {C : Nat → Nat → Nat} (e : bdT (3 * h + a) = 70) : cnB kd C h a = 1 + C (abN h) 1 + C (abN h) 0 := by
  unfold cnB
  rw [if_neg (by rw [e]; decide), if_neg (by rw [e]; decide), if_neg (by rw [e]; decide), if_neg (by rw [e]; decide), if_neg (by rw [e]; decide), if_neg (by rw [e]; decide), if_neg (by rw [e]; decide), if_neg (by rw [e]; decide), if_neg (by rw [e]; decide), if_pos e]

theorem acB_71 {kd v i h a : Nat} {R : Nat → Nat → Int32 → TR → Int32 × TR} {x : Int32} {s : TR} (e : bdT (3 * h + a) = 71) : acB kd v i R h a x s = ((R (abN h) 0 x s).1 ^^^ nI v, (R (abN h) 0 x s).2) := by
  unfold acB
  rw [if_neg (by rw [e]; decide), if_neg (by rw [e]; decide), if_neg (by rw [e]; decide), if_neg (by rw [e]; decide), if_neg (by rw [e]; decide), if_neg (by rw [e]; decide), if_neg (by rw [e]; decide), if_neg (by rw [e]; decide), if_neg (by rw [e]; decide), if_neg (by rw [e]; decide)]
theorem cnB_71 {kd h a : Nat} {C : Nat → Nat → Nat} (e : bdT (3 * h + a) = 71) : cnB kd C h a = 1 + C (abN h) 0 := by
  unfold cnB
  rw [if_neg (by rw [e]; decide), if_neg (by rw [e]; decide), if_neg (by rw [e]; decide), if_neg (by rw [e]; decide), if_neg (by rw [e]; decide), if_neg (by rw [e]; decide), if_neg (by rw [e]; decide), if_neg (by rw [e]; decide), if_neg (by rw [e]; decide), if_neg (by rw [e]; decide)]

theorem bd_cases : ∀ h, h < 7 → ∀ a, a < 3 → bdT (3 * h + a) ≠ 0 → bdT (3 * h + a) = 10 ∨ bdT (3 * h + a) = 11 ∨ bdT (3 * h + a) = 12 ∨ bdT (3 * h + a) = 20 ∨ bdT (3 * h + a) = 30 ∨ bdT (3 * h + a) = 40 ∨ bdT (3 * h + a) = 50 ∨ bdT (3 * h + a) = 51 ∨ bdT (3 * h + a) = 60 ∨ bdT (3 * h + a) = 70 ∨ bdT (3 * h + a) = 71 := by
  have key : ∀ h, h < 7 → ∀ a, a < 3 → bdT (3 * h + a) ≠ 0 → bdT (3 * h + a) ∈ ([10, 11, 12, 20, 30, 40, 50, 51, 60, 70, 71] : List Nat) := by decide +kernel
  intro h hh a ha hz
  have := key h hh a ha hz
  simpa using this
theorem up_10 : ∀ h, h < 7 → ∀ a, a < 3 → bdT (3 * h + a) = 10 → a = 0 ∧ True := by decide +kernel
theorem up_11 : ∀ h, h < 7 → ∀ a, a < 3 → bdT (3 * h + a) = 11 → a = 1 ∧ True := by decide +kernel
theorem up_12 : ∀ h, h < 7 → ∀ a, a < 3 → bdT (3 * h + a) = 12 → a = 2 ∧ True := by decide +kernel
theorem up_20 : ∀ h, h < 7 → ∀ a, a < 3 → bdT (3 * h + a) = 20 → a = 1 ∧ abN h < 7 ∧ dpk (abN h) < dpk h := by decide +kernel
theorem up_30 : ∀ h, h < 7 → ∀ a, a < 3 → bdT (3 * h + a) = 30 → a = 0 ∧ abN h < 7 ∧ dpk (abN h) < dpk h := by decide +kernel
theorem up_40 : ∀ h, h < 7 → ∀ a, a < 3 → bdT (3 * h + a) = 40 → a = 2 ∧ abN h < 7 ∧ dpk (abN h) < dpk h := by decide +kernel
theorem up_50 : ∀ h, h < 7 → ∀ a, a < 3 → bdT (3 * h + a) = 50 → a = 0 ∧ abN h < 7 ∧ dpk (abN h) < dpk h := by decide +kernel
theorem up_51 : ∀ h, h < 7 → ∀ a, a < 3 → bdT (3 * h + a) = 51 → a = 1 ∧ abN h < 7 ∧ dpk (abN h) < dpk h := by decide +kernel
theorem up_60 : ∀ h, h < 7 → ∀ a, a < 3 → bdT (3 * h + a) = 60 → a = 2 ∧ abN h < 7 ∧ dpk (abN h) < dpk h := by decide +kernel
theorem up_70 : ∀ h, h < 7 → ∀ a, a < 3 → bdT (3 * h + a) = 70 → a = 1 ∧ abN h < 7 ∧ dpk (abN h) < dpk h := by decide +kernel
theorem up_71 : ∀ h, h < 7 → ∀ a, a < 3 → bdT (3 * h + a) = 71 → a = 0 ∧ abN h < 7 ∧ dpk (abN h) < dpk h := by decide +kernel
def TRr (q : S_) (s : TR) : Prop := gI q 129 31 = nI s.1 ∧ ∀ j, j < s.1 → j < 20 → gI q 150 j = s.2 j
def SAk (k j : Nat) : Prop := k = 150 ∨ (k = 129 ∧ j = 31)
def AbB (q : S_) : Prop := (∀ j, j < 7 → gI q 148 j = abv j) ∧ ∀ j, j < 21 → gI q 149 j = bds j
theorem AbB.fr {q q2 : S_} (h : AbB q) (hf : Fr SAk q q2) : AbB q2 := ⟨fun j hj => (hf.2 _ _ (by unfold SAk; omega)).trans (h.1 j hj), fun j hj => (hf.2 _ _ (by unfold SAk; omega)).trans (h.2 j hj)⟩
theorem Fr.relA {q q2 : S_} {M : Nat → Nat} (hf : Fr SAk q q2) (h : RelR q M) : RelR q2 M := hf.rel (fun j z => by unfold SAk at z; omega) h
def PA (z : Int32 × TR) (q : S_) : Int32 → S_ → Prop := fun r q3 => r = z.1 ∧ TRr q3 z.2 ∧ Fr SAk q q3

set_option maxRecDepth 100000 in
set_option maxHeartbeats 4000000 in
theorem s_X9_body {G : GT} {q : S_} (b : Int32) (s : TR) (hT : TRr q s) (hs : s.1 < 2 ^ 20) : Spec G 1 yX9_body cX9_body 2 (some .int) [rfn G 129, .int b] q (PI (fun r q3 => r = b ∧ TRr q3 (acS s b) ∧ Fr SAk q q3)) := by
  refine Spec.intro RX9 (by decide) rfl (Nat.le_of_ble_eq_true rfl) [some (rfn G 129), some (.int b)] rfl ?_
  intro X d hd C hR
  refine aw_aload_0 C dX9_body_0 rfl ?_
  refine aw_g9_31 C hT.1 dX9_body_1 fl_X9_281 ?_
  refine aw_bipush C dX9_body_4 k2_20 ?_
  refine aw_icmp_ge_n C dX9_body_6 (tgt := 19) (by decide) (by omega) (by omega) (fun c_6 => ?_) (fun c_6 => ?_)
  · skip
    refine aw_aload_0 C dX9_body_19 rfl ?_
    refine aw_dup C dX9_body_20 rfl ?_
    refine aw_g9_31 C hT.1 dX9_body_21 fl_X9_281 ?_
    refine aw_iconst C dX9_body_24 k1_1 ?_
    refine aw_iadd_n C dX9_body_25  ?_
    refine aw_p9_31 C dX9_body_26 fl_X9_281 ?_
    refine aw_iload_1 C dX9_body_29 ?_
    refine aw_iretI C hR dX9_body_30 ?_
    refine ⟨rfl, ⟨by rw [gI_sI, if_pos ⟨rfl, rfl⟩]; rfl, fun j hj h20 => ?_⟩, Fr.set (Or.inr ⟨rfl, rfl⟩)⟩
    rw [gI_sI, if_neg (by omega)]
    show _ = updN s.2 s.1 b j
    rw [updN_ne (by omega)]
    exact hT.2 j (by omega) h20
  · skip
    refine aw_aload_0 C dX9_body_9 rfl ?_
    refine aw_g9_30 C dX9_body_10 fl_X9_74 ?_
    refine aw_aload_0 C dX9_body_13 rfl ?_
    refine aw_g9_31 C hT.1 dX9_body_14 fl_X9_281 ?_
    refine aw_iload_1 C dX9_body_17 ?_
    refine aw_iast C _ dX9_body_18 sh_150 rfl (by omega) ?_
    refine aw_aload_0 C dX9_body_19 rfl ?_
    refine aw_dup C dX9_body_20 rfl ?_
    refine aw_g9_31 C (show gI _ 129 31 = nI s.1 from hT.1) dX9_body_21 fl_X9_281 ?_
    refine aw_iconst C dX9_body_24 k1_1 ?_
    refine aw_iadd_n C dX9_body_25  ?_
    refine aw_p9_31 C dX9_body_26 fl_X9_281 ?_
    refine aw_iload_1 C dX9_body_29 ?_
    refine aw_iretI C hR dX9_body_30 ?_
    refine ⟨rfl, ⟨by rw [gI_sI, if_pos ⟨rfl, rfl⟩]; rfl, fun j hj h20 => ?_⟩, (Fr.set (Or.inl rfl)).put (Or.inr ⟨rfl, rfl⟩)⟩
    rw [gI_sI, if_neg (by omega), gI_sI]
    show _ = updN s.2 s.1 b j
    by_cases e : j = s.1
    · rw [if_pos ⟨rfl, e⟩, e, updN_eq]
    · rw [if_neg (fun z => e z.2), updN_ne e]
      exact hT.2 j (by have : j < s.1 + 1 := hj; omega) h20

def RBy (G : GT) (M : Nat → Nat) (i F : Nat) : Prop := ∀ (q : S_) (s : TR) (fk a : Nat) (x : Int32), RelR q M → AbB q → TRr q s → fk < 7 → a < 3 → rk fk a < F → s.1 + cnF (M (32 + 10 * i + 0)) F fk a < 2 ^ 20 → Spec G (2 * F + 3) yX9_byKind cX9_byKind 7 (some .int) [rfn G 129, .int (nI fk), .int (nI i), .int (nI a), .int x] q (PI (PA (acF (M (32 + 10 * i + 0)) (M (32 + 10 * i + 1)) i F fk a x s) q))
def RAl (G : GT) (M : Nat → Nat) (i F : Nat) : Prop := ∀ (q : S_) (s : TR) (a : Nat) (x : Int32), RelR q M → AbB q → TRr q s → a < 3 → rk (M (32 + 10 * i + 0)) a < F → s.1 + cnF (M (32 + 10 * i + 0)) F (M (32 + 10 * i + 0)) a < 2 ^ 20 → Spec G (2 * F + 4) yX9_all cX9_all 4 (some .int) [rfn G 129, .int (nI i), .int (nI a), .int x] q (PI (PA (acF (M (32 + 10 * i + 0)) (M (32 + 10 * i + 1)) i F (M (32 + 10 * i + 0)) a x s) q))

set_option maxRecDepth 100000 in
set_option maxHeartbeats 4000000 in
theorem s_X9_all_s {G : GT} {F i : Nat} {M : Nat → Nat} (HB : RBy G M i F) {q : S_} (s : TR) (a : Nat) (x : Int32) (hM : RelR q M) (hA : AbB q) (hT : TRr q s) (hi : i < 6) (hk : (M (32 + 10 * i + 0)) < 7) (ha : a < 3) (hr : rk (M (32 + 10 * i + 0)) a < F) (hs : s.1 + cnF (M (32 + 10 * i + 0)) F (M (32 + 10 * i + 0)) a < 2 ^ 20) : Spec G (2 * F + 4) yX9_all cX9_all 4 (some .int) [rfn G 129, .int (nI i), .int (nI a), .int x] q (PI (PA (acF (M (32 + 10 * i + 0)) (M (32 + 10 * i + 1)) i F (M (32 + 10 * i + 0)) a x s) q)) := by
  refine Spec.intro RX9 (by decide) rfl (Nat.le_of_ble_eq_true rfl) [some (rfn G 129), some (.int (nI i)), some (.int (nI a)), some (.int x)] rfl ?_
  intro X d hd C hR
  refine aw_aload_0 C dX9_all_0 rfl ?_
  refine aw_aload_0 C dX9_all_1 rfl ?_
  refine aw_iload_1 C dX9_all_2 ?_
  refine aw_iconst C dX9_all_3 k1_0 ?_
  refine aw_cV2IE C (s_X9_oneN hM i 0 rfl (by omega) (by unfold isOpt; omega)) mf_X9_one mv_X9_one (sh_129) rfl ml_X9_102 dX9_all_4 (by omega) (Nat.le_of_ble_eq_true rfl) ?_
  refine aw_iload_1 C dX9_all_7 ?_
  refine aw_iload_2 C dX9_all_8 ?_
  refine aw_iload_3 C dX9_all_9 ?_
  refine aw_cV4I C (HB q s _ a x hM hA hT hk ha hr hs) mf_X9_byKind mv_X9_byKind (sh_129) rfl ml_X9_284 dX9_all_10 (by omega) (Nat.le_of_ble_eq_true rfl) (fun r_10 q_10 h_10 => ?_)
  refine aw_iretI C hR dX9_all_13 ?_
  exact h_10

theorem bdT_lt : ∀ j, j < 21 → bdT j < 100 := by decide +kernel
theorem cn_pos (kd F fk a : Nat) : 0 < cnF kd (F + 1) fk a := by
  rw [cnF_s]
  unfold cnB
  repeat' split
  all_goals omega

set_option maxRecDepth 100000 in
set_option maxHeartbeats 4000000 in
theorem s_X9_byKind_s {G : GT} {F i : Nat} {M : Nat → Nat} (HB : RBy G M i F) (HA : RAl G M i F) {q : S_} (s : TR) (fk a : Nat) (x : Int32) (hM : RelR q M) (hA : AbB q) (hT : TRr q s) (hi : i < 6) (hkd : (M (32 + 10 * i + 0)) < 7) (hfk : fk < 7) (ha : a < 3) (hr : rk fk a < F + 1) (hs : s.1 + cnF (M (32 + 10 * i + 0)) (F + 1) fk a < 2 ^ 20) : Spec G (2 * F + 5) yX9_byKind cX9_byKind 7 (some .int) [rfn G 129, .int (nI fk), .int (nI i), .int (nI a), .int x] q (PI (PA (acF (M (32 + 10 * i + 0)) (M (32 + 10 * i + 1)) i (F + 1) fk a x s) q)) := by
  refine Spec.intro RX9 (by decide) rfl (Nat.le_of_ble_eq_true rfl) [some (rfn G 129), some (.int (nI fk)), some (.int (nI i)), some (.int (nI a)), some (.int x), none, none] rfl ?_
  intro X d hd C hR
  refine aw_iload_1 C dX9_byKind_0 ?_
  refine aw_istore_5 C dX9_byKind_1 (by decide) (fun w h => by cases h <;> rfl) ?_
  have L3 : ∀ (n2 k : Nat), dpk k < n2 → k < 7 → hom fk a = hom k a → AW X G (q) 3 [some (rfn G 129), some (.int (nI fk)), some (.int (nI i)), some (.int (nI a)), some (.int x), some (.int (nI k)), none] [] := by
    refine nat_loop (fun k h1 hk hkh => by omega) (fun n2 ih k h1 hk hkh => ?_)
    refine aw_aload_0 C dX9_byKind_3 rfl ?_
    refine aw_g9_29 C dX9_byKind_4 fl_X9_71 ?_
    refine aw_iconst C dX9_byKind_7 k1_3 ?_
    refine aw_iload_5 C dX9_byKind_8 ?_
    refine aw_imul_n C dX9_byKind_10  ?_
    refine aw_iload_3 C dX9_byKind_11 ?_
    refine aw_iadd_n C dX9_byKind_12  ?_
    refine aw_iald C _ ((hA.2 (3 * k + a) (by omega)).trans (bdT_k _ (by omega))) dX9_byKind_13 sh_149 rfl (by omega) ?_
    refine aw_if_ne C dX9_byKind_14 (tgt := 29) (by decide)  (fun c_14 => ?_) (fun c_14 => ?_)
    · have hnz : bdT (3 * k + a) ≠ 0 := fun z => c_14 (by rw [z]; rfl)
      have hke : hom fk a = k := hkh.trans (hom_e k hk a ha hnz)
      refine aw_aload_0 C dX9_byKind_29 rfl ?_
      refine aw_g9_28 C dX9_byKind_30 fl_X9_68 ?_
      refine aw_iload_5 C dX9_byKind_33 ?_
      refine aw_iald C _ (hA.1 k (by omega)) dX9_byKind_35 sh_148 rfl (by omega) ?_
      rw [ab_k k hk]
      refine aw_istore_6 C dX9_byKind_36 (by decide) (fun w h => by cases h <;> rfl) ?_
      refine aw_aload_0 C dX9_byKind_38 rfl ?_
      refine aw_aload_0 C dX9_byKind_39 rfl ?_
      refine aw_g9_29 C dX9_byKind_40 fl_X9_71 ?_
      refine aw_iconst C dX9_byKind_43 k1_3 ?_
      refine aw_iload_5 C dX9_byKind_44 ?_
      refine aw_imul_n C dX9_byKind_46  ?_
      refine aw_iload_3 C dX9_byKind_47 ?_
      refine aw_iadd_n C dX9_byKind_48  ?_
      refine aw_iald C _ ((hA.2 (3 * k + a) (by omega)).trans (bdT_k _ (by omega))) dX9_byKind_49 sh_149 rfl (by omega) ?_
      refine aw_cV1I C (s_X9_body _ s hT (by have hq := cn_pos (M (32 + 10 * i + 0)) F fk a; omega)) mf_X9_body mv_X9_body (sh_129) rfl ml_X9_288 dX9_byKind_50 (by omega) (Nat.le_of_ble_eq_true rfl) (fun r_50 q_50 h_50 => ?_)
      obtain ⟨rfl, hT1, hF1⟩ := h_50
      have hM1 := hF1.relA hM
      have hA1 := hA.fr hF1
      have hcn := cnF_s (M (32 + 10 * i + 0)) F fk a
      rw [hke] at hcn
      have e1 : (acS s (nI (bdT (3 * k + a)))).1 = s.1 + 1 := rfl
      have hac := acF_s (M (32 + 10 * i + 0)) (M (32 + 10 * i + 1)) i F fk a x s
      rw [hke] at hac
      have hdk := hom_k fk hfk a ha
      rw [hke] at hdk
      rcases bd_cases k hk a ha hnz with e | e | e | e | e | e | e | e | e | e | e
      · rw [e]
        refine aw_lookup C dX9_byKind_53 (by decide +kernel) (off := 91) (by decide +kernel) (tgt := 144) (by decide) ?_
        have hup := up_10 k hk a ha e
        rw [cnB_10 e] at hcn
        rw [acB_10 e] at hac
        refine aw_iload_4 C dX9_byKind_144 ?_
        refine aw_iload_2 C dX9_byKind_146 ?_
        refine aw_iadd C dX9_byKind_147  ?_
        refine aw_iretI C hR dX9_byKind_148 ?_
        rw [hac]
        exact ⟨rfl, hT1, hF1⟩
      · rw [e]
        refine aw_lookup C dX9_byKind_53 (by decide +kernel) (off := 96) (by decide +kernel) (tgt := 149) (by decide) ?_
        have hup := up_11 k hk a ha e
        rw [cnB_11 e] at hcn
        rw [acB_11 e] at hac
        refine aw_aload_0 C dX9_byKind_149 rfl ?_
        refine aw_iload_2 C dX9_byKind_150 ?_
        refine aw_iconst C dX9_byKind_151 k1_0 ?_
        refine aw_iload_4 C dX9_byKind_152 ?_
        refine aw_cV3I C (HA _ _ 0 x hM1 hA1 hT1 (by decide) (by unfold rk at hr ⊢; have := dpk_4 (M (32 + 10 * i + 0)); omega) (by omega)) mf_X9_all mv_X9_all (sh_129) rfl ml_X9_291 dX9_byKind_154 (by omega) (Nat.le_of_ble_eq_true rfl) (fun r_154 q_154 h_154 => ?_)
        obtain ⟨rfl, hT154, hF154⟩ := h_154
        have hM154 := hF154.relA hM1
        have hA154 := hA1.fr hF154
        refine aw_aload_0 C dX9_byKind_157 rfl ?_
        refine aw_iload_2 C dX9_byKind_158 ?_
        refine aw_iconst C dX9_byKind_159 k1_1 ?_
        refine aw_cV2IE C (s_X9_oneN hM154 i 1 rfl (by omega) (by unfold isOpt; omega)) mf_X9_one mv_X9_one (sh_129) rfl ml_X9_102 dX9_byKind_160 (by omega) (Nat.le_of_ble_eq_true rfl) ?_
        refine aw_isub C dX9_byKind_163  ?_
        refine aw_iretI C hR dX9_byKind_164 ?_
        rw [hac]
        exact ⟨rfl, hT154, (hF1.tr hF154)⟩
      · rw [e]
        refine aw_lookup C dX9_byKind_53 (by decide +kernel) (off := 112) (by decide +kernel) (tgt := 165) (by decide) ?_
        have hup := up_12 k hk a ha e
        rw [cnB_12 e] at hcn
        rw [acB_12 e] at hac
        refine aw_aload_0 C dX9_byKind_165 rfl ?_
        refine aw_iload_2 C dX9_byKind_166 ?_
        refine aw_iconst C dX9_byKind_167 k1_1 ?_
        refine aw_iload_4 C dX9_byKind_168 ?_
        refine aw_cV3I C (HA _ _ 1 x hM1 hA1 hT1 (by decide) (by unfold rk at hr ⊢; have := dpk_4 (M (32 + 10 * i + 0)); omega) (by omega)) mf_X9_all mv_X9_all (sh_129) rfl ml_X9_291 dX9_byKind_170 (by omega) (Nat.le_of_ble_eq_true rfl) (fun r_170 q_170 h_170 => ?_)
        obtain ⟨rfl, hT170, hF170⟩ := h_170
        have hM170 := hF170.relA hM1
        have hA170 := hA1.fr hF170
        refine aw_iconst C dX9_byKind_173 k1_2 ?_
        refine aw_imul C dX9_byKind_174  ?_
        refine aw_iretI C hR dX9_byKind_175 ?_
        rw [hac]
        exact ⟨rfl, hT170, (hF1.tr hF170)⟩
      · rw [e]
        refine aw_lookup C dX9_byKind_53 (by decide +kernel) (off := 123) (by decide +kernel) (tgt := 176) (by decide) ?_
        have hup := up_20 k hk a ha e
        rw [cnB_20 e] at hcn
        rw [acB_20 e] at hac
        rw [show cdk (abN k) = nI (abN k) from if_neg (by omega)]
        refine aw_aload_0 C dX9_byKind_176 rfl ?_
        refine aw_iload_6 C dX9_byKind_177 ?_
        refine aw_iload_2 C dX9_byKind_179 ?_
        refine aw_iconst C dX9_byKind_180 k1_1 ?_
        refine aw_iload_4 C dX9_byKind_181 ?_
        refine aw_cV4I C (HB _ _ (abN k) 1 x hM1 hA1 hT1 hup.2.1 (by decide) (by unfold rk at hr ⊢; omega) (by omega)) mf_X9_byKind mv_X9_byKind (sh_129) rfl ml_X9_284 dX9_byKind_183 (by omega) (Nat.le_of_ble_eq_true rfl) (fun r_183 q_183 h_183 => ?_)
        obtain ⟨rfl, hT183, hF183⟩ := h_183
        have hM183 := hF183.relA hM1
        have hA183 := hA1.fr hF183
        refine aw_bipush C dX9_byKind_186 k2_6 ?_
        refine aw_ixor C dX9_byKind_188  ?_
        refine aw_iretI C hR dX9_byKind_189 ?_
        rw [hac]
        exact ⟨rfl, hT183, (hF1.tr hF183)⟩
      · rw [e]
        refine aw_lookup C dX9_byKind_53 (by decide +kernel) (off := 137) (by decide +kernel) (tgt := 190) (by decide) ?_
        have hup := up_30 k hk a ha e
        rw [cnB_30 e] at hcn
        rw [acB_30 e] at hac
        rw [show cdk (abN k) = nI (abN k) from if_neg (by omega)]
        refine aw_aload_0 C dX9_byKind_190 rfl ?_
        refine aw_iload_6 C dX9_byKind_191 ?_
        refine aw_iload_2 C dX9_byKind_193 ?_
        refine aw_iconst C dX9_byKind_194 k1_0 ?_
        refine aw_iload_4 C dX9_byKind_195 ?_
        refine aw_iconst C dX9_byKind_197 k1_3 ?_
        refine aw_imul C dX9_byKind_198  ?_
        refine aw_cV4I C (HB _ _ (abN k) 0 (x * nI 3) hM1 hA1 hT1 hup.2.1 (by decide) (by unfold rk at hr ⊢; omega) (by omega)) mf_X9_byKind mv_X9_byKind (sh_129) rfl ml_X9_284 dX9_byKind_199 (by omega) (Nat.le_of_ble_eq_true rfl) (fun r_199 q_199 h_199 => ?_)
        obtain ⟨rfl, hT199, hF199⟩ := h_199
        have hM199 := hF199.relA hM1
        have hA199 := hA1.fr hF199
        refine aw_iretI C hR dX9_byKind_202 ?_
        rw [hac]
        exact ⟨rfl, hT199, (hF1.tr hF199)⟩
      · rw [e]
        refine aw_lookup C dX9_byKind_53 (by decide +kernel) (off := 150) (by decide +kernel) (tgt := 203) (by decide) ?_
        have hup := up_40 k hk a ha e
        rw [cnB_40 e] at hcn
        rw [acB_40 e] at hac
        rw [show cdk (abN k) = nI (abN k) from if_neg (by omega)]
        refine aw_aload_0 C dX9_byKind_203 rfl ?_
        refine aw_iload_6 C dX9_byKind_204 ?_
        refine aw_iload_2 C dX9_byKind_206 ?_
        refine aw_iconst C dX9_byKind_207 k1_2 ?_
        refine aw_iload_4 C dX9_byKind_208 ?_
        refine aw_cV4I C (HB _ _ (abN k) 2 x hM1 hA1 hT1 hup.2.1 (by decide) (by unfold rk at hr ⊢; omega) (by omega)) mf_X9_byKind mv_X9_byKind (sh_129) rfl ml_X9_284 dX9_byKind_210 (by omega) (Nat.le_of_ble_eq_true rfl) (fun r_210 q_210 h_210 => ?_)
        obtain ⟨rfl, hT210, hF210⟩ := h_210
        have hM210 := hF210.relA hM1
        have hA210 := hA1.fr hF210
        refine aw_aload_0 C dX9_byKind_213 rfl ?_
        refine aw_iload_2 C dX9_byKind_214 ?_
        refine aw_iconst C dX9_byKind_215 k1_1 ?_
        refine aw_iconst C dX9_byKind_216 k1_1 ?_
        refine aw_cV3I C (HA _ _ 1 (nI 1) hM210 hA210 hT210 (by decide) (by unfold rk at hr ⊢; have := dpk_4 (M (32 + 10 * i + 0)); omega) (by rw [acF_cn]; omega)) mf_X9_all mv_X9_all (sh_129) rfl ml_X9_291 dX9_byKind_217 (by omega) (Nat.le_of_ble_eq_true rfl) (fun r_217 q_217 h_217 => ?_)
        obtain ⟨rfl, hT217, hF217⟩ := h_217
        have hM217 := hF217.relA hM210
        have hA217 := hA210.fr hF217
        refine aw_iadd C dX9_byKind_220  ?_
        refine aw_iretI C hR dX9_byKind_221 ?_
        rw [hac]
        exact ⟨rfl, hT217, ((hF1.tr hF210).tr hF217)⟩
      · rw [e]
        refine aw_lookup C dX9_byKind_53 (by decide +kernel) (off := 169) (by decide +kernel) (tgt := 222) (by decide) ?_
        have hup := up_50 k hk a ha e
        rw [cnB_50 e] at hcn
        rw [acB_50 e] at hac
        rw [show cdk (abN k) = nI (abN k) from if_neg (by omega)]
        refine aw_aload_0 C dX9_byKind_222 rfl ?_
        refine aw_iload_6 C dX9_byKind_223 ?_
        refine aw_iload_2 C dX9_byKind_225 ?_
        refine aw_iconst C dX9_byKind_226 k1_0 ?_
        refine aw_iload_4 C dX9_byKind_227 ?_
        refine aw_cV4I C (HB _ _ (abN k) 0 x hM1 hA1 hT1 hup.2.1 (by decide) (by unfold rk at hr ⊢; omega) (by omega)) mf_X9_byKind mv_X9_byKind (sh_129) rfl ml_X9_284 dX9_byKind_229 (by omega) (Nat.le_of_ble_eq_true rfl) (fun r_229 q_229 h_229 => ?_)
        obtain ⟨rfl, hT229, hF229⟩ := h_229
        have hM229 := hF229.relA hM1
        have hA229 := hA1.fr hF229
        refine aw_ineg C dX9_byKind_232 ?_
        refine aw_iretI C hR dX9_byKind_233 ?_
        rw [hac]
        exact ⟨rfl, hT229, (hF1.tr hF229)⟩
      · rw [e]
        refine aw_lookup C dX9_byKind_53 (by decide +kernel) (off := 181) (by decide +kernel) (tgt := 234) (by decide) ?_
        have hup := up_51 k hk a ha e
        rw [cnB_51 e] at hcn
        rw [acB_51 e] at hac
        rw [show cdk (abN k) = nI (abN k) from if_neg (by omega)]
        refine aw_aload_0 C dX9_byKind_234 rfl ?_
        refine aw_iload_6 C dX9_byKind_235 ?_
        refine aw_iload_2 C dX9_byKind_237 ?_
        refine aw_iconst C dX9_byKind_238 k1_1 ?_
        refine aw_iload_4 C dX9_byKind_239 ?_
        refine aw_iconst C dX9_byKind_241 k1_1 ?_
        refine aw_iadd C dX9_byKind_242  ?_
        refine aw_cV4I C (HB _ _ (abN k) 1 (x + nI 1) hM1 hA1 hT1 hup.2.1 (by decide) (by unfold rk at hr ⊢; omega) (by omega)) mf_X9_byKind mv_X9_byKind (sh_129) rfl ml_X9_284 dX9_byKind_243 (by omega) (Nat.le_of_ble_eq_true rfl) (fun r_243 q_243 h_243 => ?_)
        obtain ⟨rfl, hT243, hF243⟩ := h_243
        have hM243 := hF243.relA hM1
        have hA243 := hA1.fr hF243
        refine aw_iretI C hR dX9_byKind_246 ?_
        rw [hac]
        exact ⟨rfl, hT243, (hF1.tr hF243)⟩
      · rw [e]
        refine aw_lookup C dX9_byKind_53 (by decide +kernel) (off := 194) (by decide +kernel) (tgt := 247) (by decide) ?_
        have hup := up_60 k hk a ha e
        rw [cnB_60 e] at hcn
        rw [acB_60 e] at hac
        rw [show cdk (abN k) = nI (abN k) from if_neg (by omega)]
        refine aw_aload_0 C dX9_byKind_247 rfl ?_
        refine aw_iload_6 C dX9_byKind_248 ?_
        refine aw_iload_2 C dX9_byKind_250 ?_
        refine aw_iconst C dX9_byKind_251 k1_2 ?_
        refine aw_iload_4 C dX9_byKind_252 ?_
        refine aw_iload_2 C dX9_byKind_254 ?_
        refine aw_isub C dX9_byKind_255  ?_
        refine aw_cV4I C (HB _ _ (abN k) 2 (x - nI i) hM1 hA1 hT1 hup.2.1 (by decide) (by unfold rk at hr ⊢; omega) (by omega)) mf_X9_byKind mv_X9_byKind (sh_129) rfl ml_X9_284 dX9_byKind_256 (by omega) (Nat.le_of_ble_eq_true rfl) (fun r_256 q_256 h_256 => ?_)
        obtain ⟨rfl, hT256, hF256⟩ := h_256
        have hM256 := hF256.relA hM1
        have hA256 := hA1.fr hF256
        refine aw_iretI C hR dX9_byKind_259 ?_
        rw [hac]
        exact ⟨rfl, hT256, (hF1.tr hF256)⟩
      · rw [e]
        refine aw_lookup C dX9_byKind_53 (by decide +kernel) (off := 207) (by decide +kernel) (tgt := 260) (by decide) ?_
        have hup := up_70 k hk a ha e
        rw [cnB_70 e] at hcn
        rw [acB_70 e] at hac
        rw [show cdk (abN k) = nI (abN k) from if_neg (by omega)]
        refine aw_aload_0 C dX9_byKind_260 rfl ?_
        refine aw_iload_6 C dX9_byKind_261 ?_
        refine aw_iload_2 C dX9_byKind_263 ?_
        refine aw_iconst C dX9_byKind_264 k1_1 ?_
        refine aw_iload_4 C dX9_byKind_265 ?_
        refine aw_cV4I C (HB _ _ (abN k) 1 x hM1 hA1 hT1 hup.2.1 (by decide) (by unfold rk at hr ⊢; omega) (by omega)) mf_X9_byKind mv_X9_byKind (sh_129) rfl ml_X9_284 dX9_byKind_267 (by omega) (Nat.le_of_ble_eq_true rfl) (fun r_267 q_267 h_267 => ?_)
        obtain ⟨rfl, hT267, hF267⟩ := h_267
        have hM267 := hF267.relA hM1
        have hA267 := hA1.fr hF267
        refine aw_aload_0 C dX9_byKind_270 rfl ?_
        refine aw_iload_6 C dX9_byKind_271 ?_
        refine aw_iload_2 C dX9_byKind_273 ?_
        refine aw_iconst C dX9_byKind_274 k1_0 ?_
        refine aw_iconst C dX9_byKind_275 k1_2 ?_
        refine aw_cV4I C (HB _ _ (abN k) 0 (nI 2) hM267 hA267 hT267 hup.2.1 (by decide) (by unfold rk at hr ⊢; omega) (by rw [acF_cn]; omega)) mf_X9_byKind mv_X9_byKind (sh_129) rfl ml_X9_284 dX9_byKind_276 (by omega) (Nat.le_of_ble_eq_true rfl) (fun r_276 q_276 h_276 => ?_)
        obtain ⟨rfl, hT276, hF276⟩ := h_276
        have hM276 := hF276.relA hM267
        have hA276 := hA267.fr hF276
        refine aw_iadd C dX9_byKind_279  ?_
        refine aw_iretI C hR dX9_byKind_280 ?_
        rw [hac]
        exact ⟨rfl, hT276, ((hF1.tr hF267).tr hF276)⟩
      · rw [e]
        refine aw_lookup C dX9_byKind_53 (by decide +kernel) (off := 228) (by decide +kernel) (tgt := 281) (by decide) ?_
        have hup := up_71 k hk a ha e
        rw [cnB_71 e] at hcn
        rw [acB_71 e] at hac
        rw [show cdk (abN k) = nI (abN k) from if_neg (by omega)]
        refine aw_aload_0 C dX9_byKind_281 rfl ?_
        refine aw_iload_6 C dX9_byKind_282 ?_
        refine aw_iload_2 C dX9_byKind_284 ?_
        refine aw_iconst C dX9_byKind_285 k1_0 ?_
        refine aw_iload_4 C dX9_byKind_286 ?_
        refine aw_cV4I C (HB _ _ (abN k) 0 x hM1 hA1 hT1 hup.2.1 (by decide) (by unfold rk at hr ⊢; omega) (by omega)) mf_X9_byKind mv_X9_byKind (sh_129) rfl ml_X9_284 dX9_byKind_288 (by omega) (Nat.le_of_ble_eq_true rfl) (fun r_288 q_288 h_288 => ?_)
        obtain ⟨rfl, hT288, hF288⟩ := h_288
        have hM288 := hF288.relA hM1
        have hA288 := hA1.fr hF288
        refine aw_aload_0 C dX9_byKind_291 rfl ?_
        refine aw_iload_2 C dX9_byKind_292 ?_
        refine aw_iconst C dX9_byKind_293 k1_1 ?_
        refine aw_cV2IE C (s_X9_oneN hM288 i 1 rfl (by omega) (by unfold isOpt; omega)) mf_X9_one mv_X9_one (sh_129) rfl ml_X9_102 dX9_byKind_294 (by omega) (Nat.le_of_ble_eq_true rfl) ?_
        refine aw_ixor C dX9_byKind_297  ?_
        refine aw_iretI C hR dX9_byKind_298 ?_
        rw [hac]
        exact ⟨rfl, hT288, (hF1.tr hF288)⟩
    · have hz : bdT (3 * k + a) = 0 := by
        have hlt : bdT (3 * k + a) < 100 := bdT_lt _ (by omega)
        exact (nI_eq (by omega) (by decide)).mp c_14
      have hss := hom_s k hk a ha hz
      refine aw_aload_0 C dX9_byKind_17 rfl ?_
      refine aw_g9_28 C dX9_byKind_18 fl_X9_68 ?_
      refine aw_iload_5 C dX9_byKind_21 ?_
      refine aw_iald C _ (hA.1 k (by omega)) dX9_byKind_23 sh_148 rfl (by omega) ?_
      rw [ab_k k hk, show cdk (abN k) = nI (abN k) from if_neg (by omega)]
      refine aw_istore_5 C dX9_byKind_24 (by decide) (fun w h => by cases h <;> rfl) ?_
      refine aw_goto C dX9_byKind_26 (tgt := 3) (by decide) ?_
      exact ih (abN k) (by omega) hss.2.1 (hkh.trans hss.1)
  exact L3 4 fk (dpk_4 fk) hfk rfl

theorem RBy_all (G : GT) (M : Nat → Nat) (i : Nat) (hi : i < 6) (hk : (M (32 + 10 * i + 0)) < 7) : ∀ F, RBy G M i F := by
  intro F
  induction F with
  | zero => intro q s fk a x _ _ _ _ _ h; exact absurd h (Nat.not_lt_zero _)
  | succ F ih => exact fun q s fk a x hM hA hT hfk ha hr hs => s_X9_byKind_s ih (fun q s a x hM hA hT ha hr hs => s_X9_all_s ih s a x hM hA hT hi hk ha hr hs) s fk a x hM hA hT hi hk hfk ha hr hs
theorem RR.acts {q q2 : S_} {g : GS} {z : TR} (h : RR q g) (hf : Fr SAk q q2) (hT : TRr q2 z) : RR q2 (gM g, gK g, gJ g, gC g, gN g, gT g, gS g, gE g, gX g, z.1, z.2) := by
  obtain ⟨a1, a2, a3, a4, a5, a6, a7, a8, a9, a10, a11, a12⟩ := h
  have e : ∀ k j, ¬ SAk k j → gI q2 k j = gI q k j := hf.2
  have a2b := a2.w hf (fun k j e z => by unfold SAk at z; omega)
  unfold SAk at e
  refine ⟨hf.relA a1, a2b, (e _ _ (by omega)).trans a3, (e _ _ (by omega)).trans a4, fun hk j hj => (e _ _ (by omega)).trans (a5 hk j hj), (e _ _ (by omega)).trans a6, fun j hj => (e _ _ (by omega)).trans (a7 j hj), fun t ht => ?_, fun j hj => (e _ _ (by omega)).trans (a9 j hj), fun j hj => (e _ _ (by omega)).trans (a10 j hj), hT.1, hT.2⟩
  obtain ⟨b1, b2, b3⟩ := a8 t ht
  refine ⟨(e _ _ (by omega)).trans b1, (e _ _ (by omega)).trans b2, fun j hj => ?_⟩
  rw [← b3 j hj]
  show q2.2 _ _ = q.2 _ _
  rw [hf.1]
def actZ (g : GS) (p a : Nat) (x : Int32) : Int32 × TR := acF (gM g (32 + 10 * p + 0)) (gM g (32 + 10 * p + 1)) p 12 (gM g (32 + 10 * p + 0)) a x (0, gV g)
def f_act (g : GS) (p a x : Int32) : Int32 × GS := if inN p (gM g 92) ∧ inN a 3 then ((actZ g (u32 p) (u32 a) x).1, (gM g, gK g, gJ g, gC g, gN g, gT g, gS g, gE g, gX g, (actZ g (u32 p) (u32 a) x).2.1, (actZ g (u32 p) (u32 a) x).2.2)) else (nI 0, (gM g, gK g, gJ g, gC g, gN g, gT g, gS g, gE g, gX g, 0, gV g))

set_option maxRecDepth 100000 in
set_option maxHeartbeats 4000000 in
theorem s_X9_act {G : GT} {q : S_} {g : GS} (p : Int32) (a : Int32) (x : Int32) (hg : GOK g) (hRR : RR q g) : Spec G 29 yX9_act cX9_act 4 (some .int) [rfn G 129, .int p, .int a, .int x] q (PI (PG (f_act g p a x) q)) := by
  refine Spec.intro RX9 (by decide) rfl (Nat.le_of_ble_eq_true rfl) [some (rfn G 129), some (.int p), some (.int a), some (.int x)] rfl ?_
  intro X d hd C hR
  obtain ⟨hW, hCy, h95, hN6, h94, hK, hT1, hT2, hTp, hR1, hSy, hSyJ⟩ := id hg
  obtain ⟨hM, hE, hNr, hKp, hIm, hTl, hTx, hTs, hAb, hBd, hRn, hTr⟩ := id hRR
  have hc := hW.c
  have hG : Goo (gM g) (gC g) := fun k hk => hCy k (by omega)
  refine aw_aload_0 C dX9_act_0 rfl ?_
  refine aw_iconst C dX9_act_1 k1_0 ?_
  refine aw_p9_31 C dX9_act_2 fl_X9_281 ?_
  have hF0 : Fr SAk q (sI q 129 31 (nI 0)) := Fr.set (Or.inr ⟨rfl, rfl⟩)
  have hT0 : TRr (sI q 129 31 (nI 0)) (0, gV g) := ⟨by rw [gI_sI, if_pos ⟨rfl, rfl⟩], fun j hj => absurd hj (Nat.not_lt_zero j)⟩
  have hM0 := hF0.relA hM
  have hA0 : AbB (sI q 129 31 (nI 0)) := (show AbB q from ⟨hAb, hBd⟩).fr hF0
  refine aw_aload_0 C dX9_act_5 rfl ?_
  refine aw_iload_1 C dX9_act_6 ?_
  refine aw_cV1IE C (s_X9_isOne _ (hM0.n (by omega) (by decide)) (by omega)) mf_X9_isOne mv_X9_isOne (sh_129) rfl ml_X9_114 dX9_act_7 (by omega) (Nat.le_of_ble_eq_true rfl) ?_
  refine aw_if_eq_b C dX9_act_10 (tgt := 32) (by decide)  (fun c_10 => ?_) (fun c_10 => ?_)
  · skip
    refine aw_iconst C dX9_act_32 k1_0 ?_
    refine aw_iretI C hR dX9_act_33 ?_
    exact ⟨by unfold f_act; rw [if_neg (fun z => c_10 z.1)], by unfold f_act; rw [if_neg (fun z => c_10 z.1)]; exact RR.acts hRR hF0 hT0, hF0.m (fun k j z => by unfold SAk at z; omega)⟩
  · obtain ⟨p, hp1, hp2, rfl⟩ := inN_of c_10
    have hu : u32 (nI p) = p := nI_clamp hp2
    have hp := hW.p hp1
    refine aw_iload_2 C dX9_act_13 ?_
    refine aw_iconst C dX9_act_14 k1_0 ?_
    refine aw_iconst C dX9_act_15 k1_2 ?_
    refine aw_cS3IE C (s_X9_isIn _ _ _) mf_X9_isIn ms_X9_isIn ml_X9_98 dX9_act_16 (by omega) (Nat.le_of_ble_eq_true rfl) ?_
    refine aw_if_eq_b C dX9_act_19 (tgt := 32) (by decide)  (fun c_19 => ?_) (fun c_19 => ?_)
    · skip
      refine aw_iconst C dX9_act_32 k1_0 ?_
      refine aw_iretI C hR dX9_act_33 ?_
      exact ⟨by unfold f_act; rw [if_neg (fun z => c_19 ((inN_le (by omega)).mpr z.2))], by unfold f_act; rw [if_neg (fun z => c_19 ((inN_le (by omega)).mpr z.2))]; exact RR.acts hRR hF0 hT0, hF0.m (fun k j z => by unfold SAk at z; omega)⟩
    · have c19 := (inN_le (by omega)).mp c_19
      obtain ⟨a, ha1, ha2, rfl⟩ := inN_of c19
      have hua : u32 (nI a) = a := nI_clamp ha2
      refine aw_aload_0 C dX9_act_22 rfl ?_
      refine aw_iload_1 C dX9_act_23 ?_
      refine aw_iload_2 C dX9_act_24 ?_
      refine aw_iload_3 C dX9_act_25 ?_
      refine aw_cV3I C (s_X9_all_s (RBy_all G (gM g) p hp.1 hp.2.1 12) (0, gV g) a x hM0 hA0 hT0 hp.1 hp.2.1 ha1 (rk_lt ha1) (by have := cnF_lt _ hp.2.1 _ hp.2.1 a ha1; omega)) mf_X9_all mv_X9_all (sh_129) rfl ml_X9_291 dX9_act_26 (by omega) (Nat.le_of_ble_eq_true rfl) (fun r_26 q_26 h_26 => ?_)
      obtain ⟨rfl, hT2, hF2⟩ := h_26
      refine aw_goto C dX9_act_29 (tgt := 33) (by decide) ?_
      refine aw_iretI C hR dX9_act_33 ?_
      exact ⟨by unfold f_act; rw [if_pos ⟨c_10, c19⟩, hu, hua]; rfl, by unfold f_act; rw [if_pos ⟨c_10, c19⟩, hu, hua]; exact RR.acts hRR (hF0.tr hF2) hT2, (hF0.tr hF2).m (fun k j z => by unfold SAk at z; omega)⟩
