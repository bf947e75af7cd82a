/-! EXPRESSIONS: the reference's reading needs no more than so much; the class's goes by one loop -/
theorem pr_fuel {ch : Nat → Nat} {n : Nat} (ho : ∀ j, n ≤ j → ch j = 1000) : ∀ (F : Nat), (∀ p wi, 6 * (n + 1 - p) + 1 < F → pr ch F 0 p wi = pr ch (F + 1) 0 p wi) ∧ (∀ p wi, 6 * (n + 1 - p) + 2 < F → pr ch F 1 p wi = pr ch (F + 1) 1 p wi ∧ pr ch F 2 p wi = pr ch (F + 1) 2 p wi) ∧ (∀ p wi, 6 * (n + 1 - p) + 3 < F → pr ch F 3 p wi = pr ch (F + 1) 3 p wi ∧ pr ch F 4 p wi = pr ch (F + 1) 4 p wi) := by
  have hlt : ∀ j c, ch j = c → c < 1000 → j < n := fun j c e hc => by
    rcases Nat.lt_or_ge j n with z | z
    · exact z
    · have := ho j z
      omega
  intro F
  induction F with
  | zero => exact ⟨fun p wi h => by omega, fun p wi h => by omega, fun p wi h => by omega⟩
  | succ F ih =>
    obtain ⟨i0, i1, i3⟩ := ih
    refine ⟨fun p wi h => ?_, fun p wi h => ?_, fun p wi h => ?_⟩
    · rw [pr_e0 ch F, pr_e0 ch (F + 1)]
      by_cases e1 : wi < 4 ∧ ch p = 33
      · have := hlt p 33 e1.2 (by decide)
        rw [if_pos e1, if_pos e1, i0 (p + 1) (wi + 1) (by omega)]
      · rw [if_neg e1, if_neg e1]
        by_cases e2 : wi < 4 ∧ ch p = 40
        · have := hlt p 40 e2.2 (by decide)
          rw [if_pos e2, if_pos e2, (i3 (p + 1) (wi + 1) (by omega)).1]
        · rw [if_neg e2, if_neg e2]
    · have e0 := i0 p wi (by omega)
      have hge := pr_ge ch (F + 1) 0 p wi
      refine ⟨?_, ?_⟩
      · rw [pr_e1 ch F, pr_e1 ch (F + 1), e0]
        by_cases e1 : (pr ch (F + 1) 0 p wi).1 = true ∧ ch (pr ch (F + 1) 0 p wi).2.1 = 38
        · have := hlt _ 38 e1.2 (by decide)
          rw [if_pos e1, if_pos e1, (i1 ((pr ch (F + 1) 0 p wi).2.1 + 1) wi (by omega)).2]
        · rw [if_neg e1, if_neg e1]
      · rw [pr_e2 ch F, pr_e2 ch (F + 1), e0]
        by_cases e1 : (pr ch (F + 1) 0 p wi).1 = true ∧ ch (pr ch (F + 1) 0 p wi).2.1 = 38
        · have := hlt _ 38 e1.2 (by decide)
          rw [if_pos e1, if_pos e1, (i1 ((pr ch (F + 1) 0 p wi).2.1 + 1) wi (by omega)).2]
        · rw [if_neg e1, if_neg e1]
    · have e0 := (i1 p wi (by omega)).1
      have hge := pr_ge ch (F + 1) 1 p wi
      refine ⟨?_, ?_⟩
      · rw [pr_e3 ch F, pr_e3 ch (F + 1), e0]
        by_cases e1 : (pr ch (F + 1) 1 p wi).1 = true ∧ ch (pr ch (F + 1) 1 p wi).2.1 = 124
        · have := hlt _ 124 e1.2 (by decide)
          rw [if_pos e1, if_pos e1, (i3 ((pr ch (F + 1) 1 p wi).2.1 + 1) wi (by omega)).2]
        · rw [if_neg e1, if_neg e1]
      · rw [show (4 : Nat) = 0 + 4 from rfl, pr_e4 ch F 0, pr_e4 ch (F + 1) 0, e0]
        by_cases e1 : (pr ch (F + 1) 1 p wi).1 = true ∧ ch (pr ch (F + 1) 1 p wi).2.1 = 124
        · have := hlt _ 124 e1.2 (by decide)
          rw [if_pos e1, if_pos e1, (i3 ((pr ch (F + 1) 1 p wi).2.1 + 1) wi (by omega)).2]
        · rw [if_neg e1, if_neg e1]
abbrev Z3 : Type := Bool × Nat × List Nat
def addc (z : Z3) (c : Nat) : Z3 := (z.1, z.2.1, z.2.2 ++ [c])
def pre (l : List Nat) (z : Z3) : Z3 := (z.1, z.2.1, l ++ z.2.2)
def prX (ch : Nat → Nat) (m p wi : Nat) : Z3 := pr ch 1000 m p wi
def c1 (ch : Nat → Nat) (wi : Nat) (z : Z3) : Z3 := if z.1 = true ∧ ch z.2.1 = 38 then pre z.2.2 (prX ch 2 (z.2.1 + 1) wi) else z
def d1 (ch : Nat → Nat) (wi : Nat) (z : Z3) : Z3 := if z.1 = true ∧ ch z.2.1 = 124 then pre z.2.2 (prX ch 4 (z.2.1 + 1) wi) else z
theorem pre_pre (a b : List Nat) (z : Z3) : pre a (pre b z) = pre (a ++ b) z := by unfold pre; simp
theorem pre_nil (z : Z3) : pre [] z = z := rfl
theorem addc_pre (l : List Nat) (z : Z3) (c : Nat) : addc (pre l z) c = pre l (addc z c) := by unfold addc pre; simp
theorem c1_pre (ch : Nat → Nat) (wi : Nat) (l : List Nat) (z : Z3) : c1 ch wi (pre l z) = pre l (c1 ch wi z) := by
  unfold c1
  by_cases e : z.1 = true ∧ ch z.2.1 = 38
  · rw [if_pos e, if_pos (show (pre l z).1 = true ∧ ch (pre l z).2.1 = 38 from e), pre_pre]
    rfl
  · rw [if_neg e, if_neg (show ¬ ((pre l z).1 = true ∧ ch (pre l z).2.1 = 38) from e)]
theorem d1_pre (ch : Nat → Nat) (wi : Nat) (l : List Nat) (z : Z3) : d1 ch wi (pre l z) = pre l (d1 ch wi z) := by
  unfold d1
  by_cases e : z.1 = true ∧ ch z.2.1 = 124
  · rw [if_pos e, if_pos (show (pre l z).1 = true ∧ ch (pre l z).2.1 = 124 from e), pre_pre]
    rfl
  · rw [if_neg e, if_neg (show ¬ ((pre l z).1 = true ∧ ch (pre l z).2.1 = 124) from e)]
section EQS
variable {ch : Nat → Nat} {n : Nat}
theorem hltX (ho : ∀ j, n ≤ j → ch j = 1000) {j c : Nat} (e : ch j = c) (hc : c < 1000) : j < n := by
  rcases Nat.lt_or_ge j n with z | z
  · exact z
  · have := ho j z
    omega
theorem prX_0a (ho : ∀ j, n ≤ j → ch j = 1000) (hn : n ≤ 100) {p wi : Nat} (h : wi < 4 ∧ ch p = 33) : prX ch 0 p wi = addc (prX ch 0 (p + 1) (wi + 1)) 3003 := by
  have := hltX ho h.2 (by decide)
  unfold prX addc
  rw [pr_e0 ch 999, if_pos h, (pr_fuel ho 999).1 (p + 1) (wi + 1) (by omega)]
theorem prX_0b (ho : ∀ j, n ≤ j → ch j = 1000) (hn : n ≤ 100) {p wi : Nat} (h : wi < 4 ∧ ch p = 40) : prX ch 0 p wi = ((tk ch (prX ch 3 (p + 1) (wi + 1)).1 (prX ch 3 (p + 1) (wi + 1)).2.1 41).1, (tk ch (prX ch 3 (p + 1) (wi + 1)).1 (prX ch 3 (p + 1) (wi + 1)).2.1 41).2, (prX ch 3 (p + 1) (wi + 1)).2.2) := by
  have := hltX ho h.2 (by decide)
  unfold prX
  rw [pr_e0 ch 999, if_neg (fun z => by have a := z.2; have b := h.2; omega), if_pos h, ((pr_fuel ho 999).2.2 (p + 1) (wi + 1) (by omega)).1]
theorem prX_0c {p wi : Nat} (h1 : ¬ (wi < 4 ∧ ch p = 33)) (h2 : ¬ (wi < 4 ∧ ch p = 40)) : prX ch 0 p wi = tsC ch p := by
  unfold prX
  rw [pr_e0 ch 999, if_neg h1, if_neg h2]
  rfl
theorem prX_1 (ho : ∀ j, n ≤ j → ch j = 1000) (hn : n ≤ 100) (p wi : Nat) : prX ch 1 p wi = c1 ch wi (prX ch 0 p wi) := by
  unfold prX c1
  rw [pr_e1 ch 999, (pr_fuel ho 999).1 p wi (by omega)]
  have hge := pr_ge ch 1000 0 p wi
  show _ = if (pr ch 1000 0 p wi).1 = true ∧ ch (pr ch 1000 0 p wi).2.1 = 38 then _ else _
  by_cases e : (pr ch 1000 0 p wi).1 = true ∧ ch (pr ch 1000 0 p wi).2.1 = 38
  · have := hltX ho e.2 (by decide)
    rw [if_pos e, if_pos e, ((pr_fuel ho 999).2.1 ((pr ch 1000 0 p wi).2.1 + 1) wi (by omega)).2]
    rfl
  · rw [if_neg e, if_neg e]
theorem prX_2 (ho : ∀ j, n ≤ j → ch j = 1000) (hn : n ≤ 100) (p wi : Nat) : prX ch 2 p wi = c1 ch wi (addc (prX ch 0 p wi) 3001) := by
  unfold prX c1
  rw [pr_e2 ch 999, (pr_fuel ho 999).1 p wi (by omega)]
  have hge := pr_ge ch 1000 0 p wi
  show _ = if (pr ch 1000 0 p wi).1 = true ∧ ch (pr ch 1000 0 p wi).2.1 = 38 then _ else _
  by_cases e : (pr ch 1000 0 p wi).1 = true ∧ ch (pr ch 1000 0 p wi).2.1 = 38
  · have := hltX ho e.2 (by decide)
    rw [if_pos e, if_pos e, ((pr_fuel ho 999).2.1 ((pr ch 1000 0 p wi).2.1 + 1) wi (by omega)).2]
    unfold pre addc prX
    simp
  · rw [if_neg e, if_neg e]
    rfl
theorem prX_3 (ho : ∀ j, n ≤ j → ch j = 1000) (hn : n ≤ 100) (p wi : Nat) : prX ch 3 p wi = d1 ch wi (prX ch 1 p wi) := by
  unfold prX d1
  rw [pr_e3 ch 999, ((pr_fuel ho 999).2.1 p wi (by omega)).1]
  have hge := pr_ge ch 1000 1 p wi
  show _ = if (pr ch 1000 1 p wi).1 = true ∧ ch (pr ch 1000 1 p wi).2.1 = 124 then _ else _
  by_cases e : (pr ch 1000 1 p wi).1 = true ∧ ch (pr ch 1000 1 p wi).2.1 = 124
  · have := hltX ho e.2 (by decide)
    rw [if_pos e, if_pos e, ((pr_fuel ho 999).2.2 ((pr ch 1000 1 p wi).2.1 + 1) wi (by omega)).2]
    rfl
  · rw [if_neg e, if_neg e]
theorem prX_4 (ho : ∀ j, n ≤ j → ch j = 1000) (hn : n ≤ 100) (p wi : Nat) : prX ch 4 p wi = d1 ch wi (addc (prX ch 1 p wi) 3002) := by
  unfold prX d1
  rw [show (4 : Nat) = 0 + 4 from rfl, pr_e4 ch 999 0, ((pr_fuel ho 999).2.1 p wi (by omega)).1]
  have hge := pr_ge ch 1000 1 p wi
  show _ = if (pr ch 1000 1 p wi).1 = true ∧ ch (pr ch 1000 1 p wi).2.1 = 124 then _ else _
  by_cases e : (pr ch 1000 1 p wi).1 = true ∧ ch (pr ch 1000 1 p wi).2.1 = 124
  · have := hltX ho e.2 (by decide)
    rw [if_pos e, if_pos e, ((pr_fuel ho 999).2.2 ((pr ch 1000 1 p wi).2.1 + 1) wi (by omega)).2]
    unfold pre addc prX
    simp
  · rw [if_neg e, if_neg e]
    rfl
end EQS
theorem tk_w {ch : Nat → Nat} {w : Bool} {p c : Nat} (h : (tk ch w p c).1 = true) : w = true ∧ ch p = c ∧ (tk ch w p c).2 = p + 1 := by
  unfold tk at h ⊢
  by_cases e : w = true ∧ ch p = c
  · rw [if_pos e]
    exact ⟨e.1, e.2, rfl⟩
  · rw [if_neg e] at h
    cases h
theorem numM_w {ch : Nat → Nat} {w : Bool} {p : Nat} (h : (numM ch w p).1 = true) : w = true ∧ p + 1 ≤ (numM ch w p).2.1 := by
  unfold numM at h ⊢
  by_cases e : dg ch w p
  · rw [if_pos e]
    refine ⟨e.1, ?_⟩
    split
    · show p + 1 ≤ p + 2; omega
    · exact Nat.le_refl _
  · rw [if_neg e] at h
    cases h
theorem tstM_w {ch : Nat → Nat} {p : Nat} (h : (tstM ch true p).1 = true) : p + 1 ≤ (tstM ch true p).2.1 := by
  by_cases e : li (ch p) < 6
  · rw [tstM_t e] at h ⊢
    have h2 := numM_w h
    have h3 := tk_w h2.1
    have := h3.2.2
    show p + 1 ≤ (numM ch _ _).2.1
    omega
  · rw [tstM_f (fun z => e z.2)] at h
    cases h
theorem pr_len (ch : Nat → Nat) : ∀ F, (∀ p wi, (pr ch F 0 p wi).1 = true → p + (pr ch F 0 p wi).2.2.length ≤ (pr ch F 0 p wi).2.1) ∧ (∀ p wi, (pr ch F 1 p wi).1 = true → p + (pr ch F 1 p wi).2.2.length ≤ (pr ch F 1 p wi).2.1) ∧ (∀ p wi, (pr ch F 2 p wi).1 = true → p + (pr ch F 2 p wi).2.2.length ≤ (pr ch F 2 p wi).2.1 + 1) ∧ (∀ p wi, (pr ch F 3 p wi).1 = true → p + (pr ch F 3 p wi).2.2.length ≤ (pr ch F 3 p wi).2.1) ∧ (∀ p wi, (pr ch F 4 p wi).1 = true → p + (pr ch F 4 p wi).2.2.length ≤ (pr ch F 4 p wi).2.1 + 1) := by
  intro F
  induction F with
  | zero => refine ⟨?_, ?_, ?_, ?_, ?_⟩ <;> (intro p wi h; cases h)
  | succ F ih =>
    obtain ⟨i0, i1, i2, i3, i4⟩ := ih
    refine ⟨fun p wi h => ?_, fun p wi h => ?_, fun p wi h => ?_, fun p wi h => ?_, fun p wi h => ?_⟩
    · rw [pr_e0] at h ⊢
      by_cases e1 : wi < 4 ∧ ch p = 33
      · rw [if_pos e1] at h ⊢
        have := i0 (p + 1) (wi + 1) h
        simp only [List.length_append, List.length_singleton]
        omega
      · rw [if_neg e1] at h ⊢
        by_cases e2 : wi < 4 ∧ ch p = 40
        · rw [if_pos e2] at h ⊢
          have h2 := tk_w h
          have := i3 (p + 1) (wi + 1) h2.1
          have := h2.2.2
          simp only
          omega
        · rw [if_neg e2] at h ⊢
          exact tstM_w h
    · rw [pr_e1] at h ⊢
      by_cases e1 : (pr ch F 0 p wi).1 = true ∧ ch (pr ch F 0 p wi).2.1 = 38
      · rw [if_pos e1] at h ⊢
        have := i0 p wi e1.1
        have := i2 _ wi h
        simp only [List.length_append]
        omega
      · rw [if_neg e1] at h ⊢
        exact i0 p wi h
    · rw [pr_e2] at h ⊢
      by_cases e1 : (pr ch F 0 p wi).1 = true ∧ ch (pr ch F 0 p wi).2.1 = 38
      · rw [if_pos e1] at h ⊢
        have := i0 p wi e1.1
        have := i2 _ wi h
        simp only [List.length_append, List.length_cons]
        omega
      · rw [if_neg e1] at h ⊢
        have := i0 p wi h
        simp only [List.length_append, List.length_singleton]
        omega
    · rw [pr_e3] at h ⊢
      by_cases e1 : (pr ch F 1 p wi).1 = true ∧ ch (pr ch F 1 p wi).2.1 = 124
      · rw [if_pos e1] at h ⊢
        have := i1 p wi e1.1
        have := i4 _ wi h
        simp only [List.length_append]
        omega
      · rw [if_neg e1] at h ⊢
        exact i1 p wi h
    · rw [show (4 : Nat) = 0 + 4 from rfl, pr_e4] at h ⊢
      by_cases e1 : (pr ch F 1 p wi).1 = true ∧ ch (pr ch F 1 p wi).2.1 = 124
      · rw [if_pos e1] at h ⊢
        have := i1 p wi e1.1
        have := i4 _ wi h
        simp only [List.length_append, List.length_cons]
        omega
      · rw [if_neg e1] at h ⊢
        have := i1 p wi h
        simp only [List.length_append, List.length_singleton]
        omega
def rst (ch : Nat → Nat) (wi : Nat) (jT jE : Bool) (p : Nat) : Z3 := d1 ch wi (if jE = true then addc (c1 ch wi (if jT = true then addc (prX ch 0 p wi) 3001 else prX ch 0 p wi)) 3002 else c1 ch wi (if jT = true then addc (prX ch 0 p wi) 3001 else prX ch 0 p wi))
def zT (ch : Nat → Nat) (wi p : Nat) (jT : Bool) : Z3 := if jT = true then addc (prX ch 0 p wi) 3001 else prX ch 0 p wi
theorem zT_1 (ch : Nat → Nat) (wi p : Nat) (jT : Bool) : (zT ch wi p jT).1 = (prX ch 0 p wi).1 ∧ (zT ch wi p jT).2.1 = (prX ch 0 p wi).2.1 := by
  unfold zT
  split <;> exact ⟨rfl, rfl⟩
theorem rst_bad {ch : Nat → Nat} {wi p : Nat} {jT jE : Bool} (h : (prX ch 0 p wi).1 = false) : (rst ch wi jT jE p).1 = false ∧ (rst ch wi jT jE p).2.1 = (prX ch 0 p wi).2.1 := by
  have e := zT_1 ch wi p jT
  have hc : c1 ch wi (zT ch wi p jT) = zT ch wi p jT := if_neg (fun z => by have := z.1; rw [e.1, h] at this; cases this)
  have hd : rst ch wi jT jE p = (if jE = true then addc (zT ch wi p jT) 3002 else zT ch wi p jT) := by
    show d1 ch wi (if jE = true then addc (c1 ch wi (zT ch wi p jT)) 3002 else c1 ch wi (zT ch wi p jT)) = _
    rw [hc]
    refine if_neg (fun z => ?_)
    have := z.1
    revert this
    split
    · intro y
      rw [show (addc (zT ch wi p jT) 3002).1 = (zT ch wi p jT).1 from rfl, e.1, h] at y
      cases y
    · intro y
      rw [e.1, h] at y
      cases y
  rw [hd]
  split
  · exact ⟨e.1.trans h, e.2⟩
  · exact ⟨e.1.trans h, e.2⟩
theorem rst_and {ch : Nat → Nat} {n wi p : Nat} {jT jE : Bool} (ho : ∀ j, n ≤ j → ch j = 1000) (hn : n ≤ 100) (h : (prX ch 0 p wi).1 = true) (h2 : ch (prX ch 0 p wi).2.1 = 38) : rst ch wi jT jE p = pre (zT ch wi p jT).2.2 (rst ch wi true jE ((prX ch 0 p wi).2.1 + 1)) := by
  have e := zT_1 ch wi p jT
  have hc : c1 ch wi (zT ch wi p jT) = pre (zT ch wi p jT).2.2 (prX ch 2 ((prX ch 0 p wi).2.1 + 1) wi) := by
    unfold c1
    rw [if_pos ⟨e.1.trans h, by rw [e.2]; exact h2⟩, e.2]
  show d1 ch wi (if jE = true then addc (c1 ch wi (zT ch wi p jT)) 3002 else c1 ch wi (zT ch wi p jT)) = _
  rw [hc, prX_2 ho hn]
  unfold rst
  rw [if_pos rfl]
  cases jE with
  | true => rw [if_pos rfl, if_pos rfl, addc_pre, d1_pre]
  | false => rw [if_neg (by decide), if_neg (by decide), d1_pre]
def zE (ch : Nat → Nat) (wi p : Nat) (jT jE : Bool) : Z3 := if jE = true then addc (zT ch wi p jT) 3002 else zT ch wi p jT
theorem zE_1 (ch : Nat → Nat) (wi p : Nat) (jT jE : Bool) : (zE ch wi p jT jE).1 = (prX ch 0 p wi).1 ∧ (zE ch wi p jT jE).2.1 = (prX ch 0 p wi).2.1 := by
  have e := zT_1 ch wi p jT
  unfold zE
  split
  · exact e
  · exact e
theorem rst_no {ch : Nat → Nat} {wi p : Nat} {jT jE : Bool} (h2 : ch (prX ch 0 p wi).2.1 ≠ 38) : rst ch wi jT jE p = d1 ch wi (zE ch wi p jT jE) := by
  have e := zT_1 ch wi p jT
  have hc : c1 ch wi (zT ch wi p jT) = zT ch wi p jT := if_neg (fun z => h2 (by rw [← e.2]; exact z.2))
  show d1 ch wi (if jE = true then addc (c1 ch wi (zT ch wi p jT)) 3002 else c1 ch wi (zT ch wi p jT)) = _
  rw [hc]
  rfl
theorem rst_or {ch : Nat → Nat} {n wi p : Nat} {jT jE : Bool} (ho : ∀ j, n ≤ j → ch j = 1000) (hn : n ≤ 100) (h : (prX ch 0 p wi).1 = true) (h2 : ch (prX ch 0 p wi).2.1 = 124) : rst ch wi jT jE p = pre (zE ch wi p jT jE).2.2 (rst ch wi false true ((prX ch 0 p wi).2.1 + 1)) := by
  have e := zE_1 ch wi p jT jE
  rw [rst_no (by omega)]
  unfold d1
  rw [if_pos ⟨e.1.trans h, by rw [e.2]; exact h2⟩, e.2, prX_4 ho hn, prX_1 ho hn]
  rfl
theorem rst_end {ch : Nat → Nat} {wi p : Nat} {jT jE : Bool} (h2 : ch (prX ch 0 p wi).2.1 ≠ 38) (h3 : ch (prX ch 0 p wi).2.1 ≠ 124) : rst ch wi jT jE p = zE ch wi p jT jE := by
  have e := zE_1 ch wi p jT jE
  rw [rst_no h2]
  exact if_neg (fun z => h3 (by rw [← e.2]; exact z.2))
theorem rst_0 {ch : Nat → Nat} {n wi p : Nat} (ho : ∀ j, n ≤ j → ch j = 1000) (hn : n ≤ 100) : rst ch wi false false p = prX ch 3 p wi := by
  rw [prX_3 ho hn, prX_1 ho hn]
  rfl
def dC (wi : Nat) : Nat := 7 + 2 * (4 - wi)
def CFac (G : GT) (F : Nat) : Prop := ∀ (q : S_) (ch : Nat → Nat) (n p wi c : Nat) (cs : List Nat), TX q ch n p → shC c → 99 ≤ c → CitC q c cs → cs.length < p → wi ≤ 4 → 6 * (n + 1 - p) + 1 < F → Spec G (dC wi) yX5_readFactor cX5_readFactor 4 (some .boolean) [rfn G 93, rfn G c, .int (nI wi)] q (PI (PRD ch n c cs q (prX ch 0 p wi)))
def CExp (G : GT) (F : Nat) : Prop := ∀ (q : S_) (ch : Nat → Nat) (n p wi c : Nat) (cs : List Nat), TX q ch n p → shC c → 99 ≤ c → CitC q c cs → cs.length < p → wi ≤ 4 → 6 * (n + 1 - p) + 3 < F → Spec G (dC wi + 1) yX5_readExpression cX5_readExpression 6 (some .boolean) [rfn G 93, rfn G c, .int (nI wi)] q (PI (PRD ch n c cs q (prX ch 3 p wi)))

set_option maxRecDepth 100000 in
set_option maxHeartbeats 4000000 in
theorem s_X5_readDenied_s {G : GT} {F : Nat} (HF : CFac G F) {q : S_} {ch : Nat → Nat} {n p wi : Nat} {cs : List Nat} (c : Nat) (h : TX q ch n p) (hc : shC c) (hc9 : 99 ≤ c) (hC : CitC q c cs) (hl : cs.length < p) (hwi : wi ≤ 4) (hf : 6 * (n + 1 - p) + 1 < F) : Spec G (dC wi + 1) yX5_readDenied cX5_readDenied 3 (some .boolean) [rfn G 93, rfn G c, .int (nI wi)] q (PI (PRD ch n c cs q (addc (prX ch 0 p wi) 3003))) := by
  refine Spec.intro RX5 (by decide) rfl (Nat.le_of_ble_eq_true rfl) [some (rfn G 93), some (rfn G c), some (.int (nI wi))] rfl ?_
  intro X d hd C hR
  have hb := h.bd
  have hpl := (pr_len ch 1000).1 p wi
  have hdc : 7 ≤ dC wi := Nat.le_add_right _ _
  refine aw_aload_0 C dX5_readDenied_0 rfl ?_
  refine aw_aload_1 C dX5_readDenied_1 rfl ?_
  refine aw_iload_2 C dX5_readDenied_2 ?_
  refine aw_cV2I C (HF q ch n p wi c cs h hc hc9 hC hl hwi hf) mf_X5_readFactor mv_X5_readFactor (sh_93) rfl ml_X5_67 dX5_readDenied_3 (by omega) (Nat.le_of_ble_eq_true rfl) (fun r_3 q_3 h_3 => ?_)
  obtain ⟨rfl, h2, h3, h4, hF3⟩ := h_3
  have hb2 := h2.bd
  refine aw_if_ne_b C dX5_readDenied_6 (tgt := 11) (by decide)  (fun c_6 => ?_) (fun c_6 => ?_)
  · skip
    have hCa := h3 c_6
    have hpl2 : p + (prX ch 0 p wi).2.2.length ≤ (prX ch 0 p wi).2.1 := hpl c_6
    refine aw_aload_1 C dX5_readDenied_11 rfl ?_
    refine aw_bipush C dX5_readDenied_12 k2_m3 ?_
    rw [show (-3 : Int32) = cK 3003 from by decide +kernel]
    refine aw_cV1V C (s_X1_add c 3003 hc hCa) mf_X1_add mv_X1_add hc.1 rfl ml_X5_63 dX5_readDenied_14 (by omega) (Nat.le_of_ble_eq_true rfl) (fun q_14 h_14 => ?_)
    obtain ⟨hC14, hF14⟩ := h_14
    rw [if_pos (by rw [List.length_append]; omega)] at hC14
    have hT14 : TX q_14 ch n (prX ch 0 p wi).2.1 := h2.fr (fun k i z => hF14.2 k i (by omega)) ((hF14.2 93 2 (by omega)).trans h2.2.1) h2.bd.2
    refine aw_iconst C dX5_readDenied_17 k1_1 ?_
    refine aw_iretZ C hR dX5_readDenied_18 (by first | rfl | exact bP_nar) ?_
    exact PRD.yes (p := (prX ch 0 p wi).2.1) (l := (prX ch 0 p wi).2.2 ++ [3003]) (by unfold addc; rw [c_6]) rfl hT14 (by rw [← List.append_assoc]; exact hC14) (hF3.tr (hF14.mono (fun k i z => Or.inr z)))
  · skip
    refine aw_iconst C dX5_readDenied_9 k1_0 ?_
    refine aw_iretZ C hR dX5_readDenied_10 (by first | rfl | exact bP_nar) ?_
    exact PRD.no (z := addc (prX ch 0 p wi) 3003) (Bool.eq_false_iff.mpr c_6) rfl rfl h2 h4 hF3

set_option maxRecDepth 100000 in
set_option maxHeartbeats 4000000 in
theorem s_X5_readFactor_s {G : GT} {F : Nat} (HF : CFac G F) (HE : CExp G F) {q : S_} {ch : Nat → Nat} {n p wi : Nat} {cs : List Nat} (c : Nat) (h : TX q ch n p) (hc : shC c) (hc9 : 99 ≤ c) (hC : CitC q c cs) (hl : cs.length < p) (hwi : wi ≤ 4) (hf : 6 * (n + 1 - p) + 1 < F + 1) : Spec G (dC wi) yX5_readFactor cX5_readFactor 4 (some .boolean) [rfn G 93, rfn G c, .int (nI wi)] q (PI (PRD ch n c cs q (prX ch 0 p wi))) := by
  refine Spec.intro RX5 (by decide) rfl (Nat.le_of_ble_eq_true rfl) [some (rfn G 93), some (rfn G c), some (.int (nI wi)), none] rfl ?_
  intro X d hd C hR
  have hb := h.bd
  have hch := h.ch p
  have ho : ∀ j, n ≤ j → ch j = 1000 := h.2.2.2.2.2
  unfold dC at hd
  refine aw_aload_0 C dX5_readFactor_0 rfl ?_
  refine aw_cV0IE C (s_X5_sign h) mf_X5_sign mv_X5_sign (sh_93) rfl ml_X5_35 dX5_readFactor_1 (by omega) (Nat.le_of_ble_eq_true rfl) ?_
  refine aw_istore_3 C dX5_readFactor_4 (by decide) (fun w h => by cases h <;> rfl) ?_
  refine aw_iload_3 C dX5_readFactor_5 ?_
  refine aw_bipush C dX5_readFactor_6 k2_33 ?_
  refine aw_icmp_eq C dX5_readFactor_8 (tgt := 23) (by decide)  (fun c_8 => ?_) (fun c_8 => ?_)
  · have c8 := (sgn_eq (by decide) hch).mp c_8
    refine aw_iload_2 C dX5_readFactor_23 ?_
    refine aw_iconst C dX5_readFactor_24 k1_4 ?_
    refine aw_icmp_lt_n C dX5_readFactor_25 (tgt := 30) (by decide) (by omega) (by omega) (fun c_25 => ?_) (fun c_25 => ?_)
    · have hlt : p < n := h.lt (by omega)
      have h1 := h.at (p2 := p + 1) (by omega)
      have hF1 : Fr ST3 q (sI q 93 2 (nI (p + 1))) := Fr.set ⟨rfl, Or.inl rfl⟩
      have hC1 := hF1.cit hc9 hC
      refine aw_aload_0 C dX5_readFactor_30 rfl ?_
      refine aw_dup C dX5_readFactor_31 rfl ?_
      refine aw_g5_2 C h.2.1 dX5_readFactor_32 fl_X5_24 ?_
      refine aw_iconst C dX5_readFactor_35 k1_1 ?_
      refine aw_iadd_n C dX5_readFactor_36  ?_
      refine aw_p5_2 C dX5_readFactor_37 fl_X5_24 ?_
      refine aw_iload_3 C dX5_readFactor_40 ?_
      refine aw_bipush C dX5_readFactor_41 k2_33 ?_
      refine aw_icmp_ne C dX5_readFactor_43 (tgt := 55) (by decide)  (fun c_43 => absurd c_43 (fun z => z c_8)) (fun c_43 => ?_)
      refine aw_aload_0 C dX5_readFactor_46 rfl ?_
      refine aw_aload_1 C dX5_readFactor_47 rfl ?_
      refine aw_iload_2 C dX5_readFactor_48 ?_
      refine aw_iconst C dX5_readFactor_49 k1_1 ?_
      refine aw_iadd_n C dX5_readFactor_50  ?_
      refine aw_cV2I C (s_X5_readDenied_s HF (wi := wi + 1) c h1 hc hc9 hC1 (by omega) (by omega) (by omega)) mf_X5_readDenied mv_X5_readDenied (sh_93) rfl ml_X5_73 dX5_readFactor_51 (by unfold dC; omega) (Nat.le_of_ble_eq_true rfl) (fun r_51 q_51 h_51 => ?_)
      refine aw_iretZ C hR dX5_readFactor_54 (by obtain ⟨e, -⟩ := h_51; rw [e]; exact bP_nar) ?_
      obtain ⟨e1, e2, e3, e4, e5⟩ := h_51
      rw [prX_0a ho hb.1 ⟨by omega, c8⟩]
      exact ⟨e1, e2, e3, e4, hF1.rd.tr e5⟩
    · skip
      refine aw_iconst C dX5_readFactor_28 k1_0 ?_
      refine aw_iretZ C hR dX5_readFactor_29 (by first | rfl | exact bP_nar) ?_
      rw [prX_0c (fun z => by omega) (fun z => by omega)]
      have hli : ¬ li (ch p) < 6 := by rw [c8]; decide
      exact PRD.no (by unfold tsC; rw [tstM_f (fun z => hli z.2)]) (by unfold tsC; rw [tstM_f (fun z => hli z.2)]) rfl h ⟨cs, hC⟩ Fr.rf
  · have c8 : ch p ≠ 33 := fun z => c_8 ((sgn_eq (by decide) hch).mpr z)
    refine aw_iload_3 C dX5_readFactor_11 ?_
    refine aw_bipush C dX5_readFactor_12 k2_40 ?_
    refine aw_icmp_eq C dX5_readFactor_14 (tgt := 23) (by decide)  (fun c_14 => ?_) (fun c_14 => ?_)
    · have c14 := (sgn_eq (by decide) hch).mp c_14
      refine aw_iload_2 C dX5_readFactor_23 ?_
      refine aw_iconst C dX5_readFactor_24 k1_4 ?_
      refine aw_icmp_lt_n C dX5_readFactor_25 (tgt := 30) (by decide) (by omega) (by omega) (fun c_25 => ?_) (fun c_25 => ?_)
      · have hlt : p < n := h.lt (by omega)
        have h1 := h.at (p2 := p + 1) (by omega)
        have hF1 : Fr ST3 q (sI q 93 2 (nI (p + 1))) := Fr.set ⟨rfl, Or.inl rfl⟩
        have hC1 := hF1.cit hc9 hC
        refine aw_aload_0 C dX5_readFactor_30 rfl ?_
        refine aw_dup C dX5_readFactor_31 rfl ?_
        refine aw_g5_2 C h.2.1 dX5_readFactor_32 fl_X5_24 ?_
        refine aw_iconst C dX5_readFactor_35 k1_1 ?_
        refine aw_iadd_n C dX5_readFactor_36  ?_
        refine aw_p5_2 C dX5_readFactor_37 fl_X5_24 ?_
        refine aw_iload_3 C dX5_readFactor_40 ?_
        refine aw_bipush C dX5_readFactor_41 k2_33 ?_
        refine aw_icmp_ne C dX5_readFactor_43 (tgt := 55) (by decide)  (fun c_43 => ?_) (fun c_43 => absurd c_43 (fun z => c_8 z))
        refine aw_aload_0 C dX5_readFactor_55 rfl ?_
        refine aw_aload_1 C dX5_readFactor_56 rfl ?_
        refine aw_iload_2 C dX5_readFactor_57 ?_
        refine aw_iconst C dX5_readFactor_58 k1_1 ?_
        refine aw_iadd_n C dX5_readFactor_59  ?_
        refine aw_cV2I C (HE _ ch n (p + 1) (wi + 1) c cs h1 hc hc9 hC1 (by omega) (by omega) (by omega)) mf_X5_readExpression mv_X5_readExpression (sh_93) rfl ml_X5_59 dX5_readFactor_60 (by unfold dC; omega) (Nat.le_of_ble_eq_true rfl) (fun r_60 q_60 h_60 => ?_)
        obtain ⟨rfl, h2, h3, h4, hF3⟩ := h_60
        have hz := prX_0b (wi := wi) ho hb.1 ⟨by omega, c14⟩
        refine aw_if_eq_b C dX5_readFactor_63 (tgt := 79) (by decide)  (fun c_63 => ?_) (fun c_63 => ?_)
        · skip
          refine aw_iconst C dX5_readFactor_79 k1_0 ?_
          refine aw_iretZ C hR dX5_readFactor_80 (by first | rfl | exact bP_nar) ?_
          have hzf : (prX ch 3 (p + 1) (wi + 1)).1 = false := Bool.eq_false_iff.mpr c_63
          have htk : tk ch false (prX ch 3 (p + 1) (wi + 1)).2.1 41 = (false, (prX ch 3 (p + 1) (wi + 1)).2.1) := if_neg (fun z => by cases z.1)
          rw [hzf, htk] at hz
          exact PRD.no (by rw [hz]) (by rw [hz]) rfl h2 h4 (hF1.rd.tr hF3)
        · skip
          refine aw_aload_0 C dX5_readFactor_66 rfl ?_
          refine aw_bipush C dX5_readFactor_67 k2_41 ?_
          refine aw_cV1I C (s_X5_takes 41 h2 (by decide)) mf_X5_takes mv_X5_takes (sh_93) rfl ml_X5_31 dX5_readFactor_69 (by omega) (Nat.le_of_ble_eq_true rfl) (fun r_69 q_69 h_69 => ?_)
          obtain ⟨rfl, h5, hF5⟩ := h_69
          have hCz := h3 c_63
          rw [c_63] at hz
          have hF6 := (hF1.rd.tr hF3).tr hF5.s3.rd
          refine aw_if_eq_b C dX5_readFactor_72 (tgt := 79) (by decide)  (fun c_72 => ?_) (fun c_72 => ?_)
          · skip
            refine aw_iconst C dX5_readFactor_79 k1_0 ?_
            refine aw_iretZ C hR dX5_readFactor_80 (by first | rfl | exact bP_nar) ?_
            exact PRD.no (by rw [hz]; exact Bool.eq_false_iff.mpr c_72) (by rw [hz]) rfl h5 ⟨_, hF5.s3.cit hc9 hCz⟩ hF6
          · skip
            refine aw_iconst C dX5_readFactor_75 k1_1 ?_
            refine aw_goto C dX5_readFactor_76 (tgt := 80) (by decide) ?_
            refine aw_iretZ C hR dX5_readFactor_80 (by first | rfl | exact bP_nar) ?_
            exact PRD.yes (by rw [hz, c_72]) rfl h5 (hF5.s3.cit hc9 hCz) hF6
      · skip
        refine aw_iconst C dX5_readFactor_28 k1_0 ?_
        refine aw_iretZ C hR dX5_readFactor_29 (by first | rfl | exact bP_nar) ?_
        rw [prX_0c (fun z => by omega) (fun z => by omega)]
        have hli : ¬ li (ch p) < 6 := by rw [c14]; decide
        exact PRD.no (by unfold tsC; rw [tstM_f (fun z => hli z.2)]) (by unfold tsC; rw [tstM_f (fun z => hli z.2)]) rfl h ⟨cs, hC⟩ Fr.rf
    · have c14 : ch p ≠ 40 := fun z => c_14 ((sgn_eq (by decide) hch).mpr z)
      refine aw_aload_0 C dX5_readFactor_17 rfl ?_
      refine aw_aload_1 C dX5_readFactor_18 rfl ?_
      refine aw_cV1I C (s_X5_readTest c h hc hc9 hC (by omega) (by omega)) mf_X5_readTest mv_X5_readTest (sh_93) rfl ml_X5_70 dX5_readFactor_19 (by omega) (Nat.le_of_ble_eq_true rfl) (fun r_19 q_19 h_19 => ?_)
      refine aw_iretZ C hR dX5_readFactor_22 (by obtain ⟨e, -⟩ := h_19; rw [e]; exact bP_nar) ?_
      rw [prX_0c (fun z => c8 z.2) (fun z => c14 z.2)]
      exact h_19

set_option maxRecDepth 100000 in
set_option maxHeartbeats 4000000 in
theorem s_X5_readExpression_s {G : GT} {F : Nat} (HF : CFac G F) {q : S_} {ch : Nat → Nat} {n p wi : Nat} {cs : List Nat} (c : Nat) (h : TX q ch n p) (hc : shC c) (hc9 : 99 ≤ c) (hC : CitC q c cs) (hl : cs.length < p) (hwi : wi ≤ 4) (hf : 6 * (n + 1 - p) + 3 < F + 1) : Spec G (dC wi + 1) yX5_readExpression cX5_readExpression 6 (some .boolean) [rfn G 93, rfn G c, .int (nI wi)] q (PI (PRD ch n c cs q (prX ch 3 p wi))) := by
  refine Spec.intro RX5 (by decide) rfl (Nat.le_of_ble_eq_true rfl) [some (rfn G 93), some (rfn G c), some (.int (nI wi)), none, none, none] rfl ?_
  intro X d hd C hR
  have hb := h.bd
  have ho : ∀ j, n ≤ j → ch j = 1000 := h.2.2.2.2.2
  have hdc : 7 ≤ dC wi := Nat.le_add_right _ _
  refine aw_iconst C dX5_readExpression_0 k1_0 ?_
  refine aw_istore_3 C dX5_readExpression_1 (by decide) (fun w h => by cases h <;> rfl) ?_
  refine aw_iconst C dX5_readExpression_2 k1_0 ?_
  refine aw_istore_4 C dX5_readExpression_3 (by decide) (fun w h => by cases h <;> rfl) ?_
  refine aw_iconst C dX5_readExpression_5 k1_0 ?_
  refine aw_istore_5 C dX5_readExpression_6 (by decide) (fun w h => by cases h <;> rfl) ?_
  have L8 : ∀ (n2 k p1 : Nat) (a : List Nat) (jT jE : Bool) (q1 : S_), 100 < k + n2 → p + k ≤ p1 → prX ch 3 p wi = pre a (rst ch wi jT jE p1) → TX q1 ch n p1 → CitC q1 c (cs ++ a) → (cs ++ a).length + (if jT = true then 1 else 0) + (if jE = true then 1 else 0) < p1 → Fr (SRD c) q q1 → AW X G (q1) 8 [some (rfn G 93), some (rfn G c), some (.int (nI wi)), some (.int (bP (jT = true))), some (.int (bP (jE = true))), some (.int (nI k))] [] := by
    refine nat_loop (fun k p1 a jT jE q1 g1 g2 hZ h1 hC1 hlen hF1 => by have := h1.bd; omega) (fun n2 ih k p1 a jT jE q1 g1 g2 hZ h1 hC1 hlen hF1 => ?_)
    have hb1 := h1.bd
    refine aw_iload_5 C dX5_readExpression_8 ?_
    refine aw_bipush C dX5_readExpression_10 k2_100 ?_
    refine aw_icmp_gt_n C dX5_readExpression_12 (tgt := 81) (by decide) (by omega) (by omega) (fun c_12 => absurd c_12 (by omega)) (fun c_12 => ?_)
    refine aw_aload_0 C dX5_readExpression_15 rfl ?_
    refine aw_aload_1 C dX5_readExpression_16 rfl ?_
    refine aw_iload_2 C dX5_readExpression_17 ?_
    refine aw_cV2I C (HF q1 ch n p1 wi c (cs ++ a) h1 hc hc9 hC1 (by omega) hwi (by omega)) mf_X5_readFactor mv_X5_readFactor (sh_93) rfl ml_X5_67 dX5_readExpression_18 (by omega) (Nat.le_of_ble_eq_true rfl) (fun r_18 q_18 h_18 => ?_)
    obtain ⟨rfl, h2, h3, h4, hF3⟩ := h_18
    have hge : p1 ≤ (prX ch 0 p1 wi).2.1 := pr_ge ch 1000 0 p1 wi
    refine aw_if_ne_b C dX5_readExpression_21 (tgt := 26) (by decide)  (fun c_21 => ?_) (fun c_21 => ?_)
    · skip
      have hw0 := c_21
      have hpl : p1 + (prX ch 0 p1 wi).2.2.length ≤ (prX ch 0 p1 wi).2.1 := (pr_len ch 1000).1 p1 wi c_21
      have hCa := h3 c_21
      have hFa := hF1.tr hF3
      have hb2 := h2.bd
      rw [List.append_assoc] at hCa
      refine aw_iload_3 C dX5_readExpression_26 ?_
      refine aw_if_eq_b C dX5_readExpression_27 (tgt := 35) (by decide)  (fun c_27 => ?_) (fun c_27 => ?_)
      · obtain rfl : jT = false := Bool.eq_false_iff.mpr c_27
        have hT2 := h2
        have hC2 : CitC q_18 c (cs ++ (a ++ (zT ch wi p1 false).2.2)) := hCa
        have hF2 := hFa
        have hl2 : (zT ch wi p1 false).2.2.length = (prX ch 0 p1 wi).2.2.length := rfl
        refine aw_aload_0 C dX5_readExpression_35 rfl ?_
        refine aw_bipush C dX5_readExpression_36 k2_38 ?_
        refine aw_cV1I C (s_X5_takes 38 hT2 (by decide)) mf_X5_takes mv_X5_takes (sh_93) rfl ml_X5_31 dX5_readExpression_38 (by omega) (Nat.le_of_ble_eq_true rfl) (fun r_38 q_38 h_38 => ?_)
        obtain ⟨rfl, hT3, hF3b⟩ := h_38
        have hC3 := hF3b.s3.cit hc9 hC2
        have hF4 := hF2.tr hF3b.s3.rd
        refine aw_istore_3 C dX5_readExpression_41 (by decide) (fun w h => by cases h <;> rfl) ?_
        refine aw_iload_3 C dX5_readExpression_42 ?_
        refine aw_if_eq_b C dX5_readExpression_43 (tgt := 49) (by decide)  (fun c_43 => ?_) (fun c_43 => ?_)
        · have e38 : ch (prX ch 0 p1 wi).2.1 ≠ 38 := fun z => c_43 (by rw [show tk ch true (prX ch 0 p1 wi).2.1 38 = (true, (prX ch 0 p1 wi).2.1 + 1) from if_pos ⟨rfl, z⟩])
          rw [show tk ch true (prX ch 0 p1 wi).2.1 38 = (false, (prX ch 0 p1 wi).2.1) from if_neg (fun z => e38 z.2)] at hT3
          have e43 : (tk ch true (prX ch 0 p1 wi).2.1 38).1 = false := Bool.eq_false_iff.mpr c_43
          refine aw_iload_4 C dX5_readExpression_49 ?_
          refine aw_if_eq_b C dX5_readExpression_51 (tgt := 60) (by decide)  (fun c_51 => ?_) (fun c_51 => ?_)
          · obtain rfl : jE = false := Bool.eq_false_iff.mpr c_51
            have hT4 := hT3
            have hC4 : CitC q_38 c (cs ++ (a ++ (zE ch wi p1 false false).2.2)) := hC3
            have hF5 := hF4
            have hl4 : (zE ch wi p1 false false).2.2.length = (zT ch wi p1 false).2.2.length := rfl
            refine aw_aload_0 C dX5_readExpression_60 rfl ?_
            refine aw_bipush C dX5_readExpression_61 k2_124 ?_
            refine aw_cV1I C (s_X5_takes 124 hT4 (by decide)) mf_X5_takes mv_X5_takes (sh_93) rfl ml_X5_31 dX5_readExpression_63 (by omega) (Nat.le_of_ble_eq_true rfl) (fun r_63 q_63 h_63 => ?_)
            obtain ⟨rfl, hT5, hF6⟩ := h_63
            have hC5 := hF6.s3.cit hc9 hC4
            have hF7 := hF5.tr hF6.s3.rd
            refine aw_istore_4 C dX5_readExpression_66 (by decide) (fun w h => by cases h <;> rfl) ?_
            refine aw_iload_4 C dX5_readExpression_68 ?_
            refine aw_if_ne_b C dX5_readExpression_70 (tgt := 75) (by decide)  (fun c_70 => ?_) (fun c_70 => ?_)
            · have e124 := (tk_w c_70)
              have hor := rst_or (jT := false) (jE := false) ho hb.1 hw0 e124.2.1
              rw [e124.2.2] at hT5
              have hb5 := hT5.bd
              refine aw_iinc_5 C dX5_readExpression_75 (by decide) (fun w h => by cases h <;> rfl) (show _ + Int32.ofInt 1 = _ by rw [k1_1, nI_add]) ?_
              refine aw_goto C dX5_readExpression_78 (tgt := 8) (by decide) ?_
              rw [show bP ((tk ch true (prX ch 0 p1 wi).2.1 38).1 = true) = bP (false = true) from bP_iff ⟨fun y => by rw [e43] at y; exact y, fun y => by cases y⟩, show bP ((tk ch true (prX ch 0 p1 wi).2.1 124).1 = true) = bP (true = true) from bP_iff ⟨fun _ => rfl, fun _ => c_70⟩]
              exact ih (k + 1) ((prX ch 0 p1 wi).2.1 + 1) (a ++ (zE ch wi p1 false false).2.2) false true q_63 (by omega) (by omega) (by rw [hZ, hor, pre_pre]) hT5 hC5 (by simp only [List.length_append] at hlen ⊢; simp at hlen ⊢; omega) hF7
            · have e124 : ch (prX ch 0 p1 wi).2.1 ≠ 124 := fun z => c_70 (by rw [show tk ch true (prX ch 0 p1 wi).2.1 124 = (true, (prX ch 0 p1 wi).2.1 + 1) from if_pos ⟨rfl, z⟩])
              rw [show tk ch true (prX ch 0 p1 wi).2.1 124 = (false, (prX ch 0 p1 wi).2.1) from if_neg (fun z => e124 z.2)] at hT5
              have hend := rst_end (jT := false) (jE := false) e38 e124
              have hz1 := zE_1 ch wi p1 false false
              refine aw_iconst C dX5_readExpression_73 k1_1 ?_
              refine aw_iretZ C hR dX5_readExpression_74 (by first | rfl | exact bP_nar) ?_
              rw [hZ, hend]
              exact PRD.yes (z := pre a (zE ch wi p1 false false)) (p := (prX ch 0 p1 wi).2.1) (l := a ++ (zE ch wi p1 false false).2.2) (by unfold pre; rw [hz1.1, hz1.2, hw0]) rfl hT5 hC5 hF7
          · obtain rfl : jE = true := c_51
            simp only [if_pos] at hlen
            refine aw_aload_1 C dX5_readExpression_54 rfl ?_
            refine aw_bipush C dX5_readExpression_55 k2_m2 ?_
            rw [show (-2 : Int32) = cK 3002 from by decide +kernel]
            refine aw_cV1V C (s_X1_add c 3002 hc hC3) mf_X1_add mv_X1_add hc.1 rfl ml_X5_63 dX5_readExpression_57 (by omega) (Nat.le_of_ble_eq_true rfl) (fun q_57 h_57 => ?_)
            obtain ⟨hC57, hF57⟩ := h_57
            rw [if_pos (by simp only [List.length_append] at hlen hl2 ⊢; omega)] at hC57
            have hT57 : TX q_57 ch n (prX ch 0 p1 wi).2.1 := hT3.fr (fun k i z => hF57.2 k i (by omega)) ((hF57.2 93 2 (by omega)).trans hT3.2.1) hT3.bd.2
            have hT4 := hT57
            have hC4 : CitC q_57 c (cs ++ (a ++ (zE ch wi p1 false true).2.2)) := by
              have e : cs ++ (a ++ (zE ch wi p1 false true).2.2) = cs ++ (a ++ (zT ch wi p1 false).2.2) ++ [3002] := by
                show cs ++ (a ++ ((zT ch wi p1 false).2.2 ++ [3002])) = _
                simp
              rw [e]
              exact hC57
            have hF5 := hF4.tr (hF57.mono (fun k i z => Or.inr z))
            have hl4 : (zE ch wi p1 false true).2.2.length = (zT ch wi p1 false).2.2.length + 1 := by
              show ((zT ch wi p1 false).2.2 ++ [3002]).length = _
              simp
            refine aw_aload_0 C dX5_readExpression_60 rfl ?_
            refine aw_bipush C dX5_readExpression_61 k2_124 ?_
            refine aw_cV1I C (s_X5_takes 124 hT4 (by decide)) mf_X5_takes mv_X5_takes (sh_93) rfl ml_X5_31 dX5_readExpression_63 (by omega) (Nat.le_of_ble_eq_true rfl) (fun r_63 q_63 h_63 => ?_)
            obtain ⟨rfl, hT5, hF6⟩ := h_63
            have hC5 := hF6.s3.cit hc9 hC4
            have hF7 := hF5.tr hF6.s3.rd
            refine aw_istore_4 C dX5_readExpression_66 (by decide) (fun w h => by cases h <;> rfl) ?_
            refine aw_iload_4 C dX5_readExpression_68 ?_
            refine aw_if_ne_b C dX5_readExpression_70 (tgt := 75) (by decide)  (fun c_70 => ?_) (fun c_70 => ?_)
            · have e124 := (tk_w c_70)
              have hor := rst_or (jT := false) (jE := true) ho hb.1 hw0 e124.2.1
              rw [e124.2.2] at hT5
              have hb5 := hT5.bd
              refine aw_iinc_5 C dX5_readExpression_75 (by decide) (fun w h => by cases h <;> rfl) (show _ + Int32.ofInt 1 = _ by rw [k1_1, nI_add]) ?_
              refine aw_goto C dX5_readExpression_78 (tgt := 8) (by decide) ?_
              rw [show bP ((tk ch true (prX ch 0 p1 wi).2.1 38).1 = true) = bP (false = true) from bP_iff ⟨fun y => by rw [e43] at y; exact y, fun y => by cases y⟩, show bP ((tk ch true (prX ch 0 p1 wi).2.1 124).1 = true) = bP (true = true) from bP_iff ⟨fun _ => rfl, fun _ => c_70⟩]
              exact ih (k + 1) ((prX ch 0 p1 wi).2.1 + 1) (a ++ (zE ch wi p1 false true).2.2) false true q_63 (by omega) (by omega) (by rw [hZ, hor, pre_pre]) hT5 hC5 (by simp only [List.length_append] at hlen ⊢; simp at hlen ⊢; omega) hF7
            · have e124 : ch (prX ch 0 p1 wi).2.1 ≠ 124 := fun z => c_70 (by rw [show tk ch true (prX ch 0 p1 wi).2.1 124 = (true, (prX ch 0 p1 wi).2.1 + 1) from if_pos ⟨rfl, z⟩])
              rw [show tk ch true (prX ch 0 p1 wi).2.1 124 = (false, (prX ch 0 p1 wi).2.1) from if_neg (fun z => e124 z.2)] at hT5
              have hend := rst_end (jT := false) (jE := true) e38 e124
              have hz1 := zE_1 ch wi p1 false true
              refine aw_iconst C dX5_readExpression_73 k1_1 ?_
              refine aw_iretZ C hR dX5_readExpression_74 (by first | rfl | exact bP_nar) ?_
              rw [hZ, hend]
              exact PRD.yes (z := pre a (zE ch wi p1 false true)) (p := (prX ch 0 p1 wi).2.1) (l := a ++ (zE ch wi p1 false true).2.2) (by unfold pre; rw [hz1.1, hz1.2, hw0]) rfl hT5 hC5 hF7
        · have e38 := (tk_w c_43)
          have hand := rst_and (jT := false) (jE := jE) ho hb.1 hw0 e38.2.1
          rw [e38.2.2] at hT3
          have hb3 := hT3.bd
          refine aw_goto C dX5_readExpression_46 (tgt := 75) (by decide) ?_
          refine aw_iinc_5 C dX5_readExpression_75 (by decide) (fun w h => by cases h <;> rfl) (show _ + Int32.ofInt 1 = _ by rw [k1_1, nI_add]) ?_
          refine aw_goto C dX5_readExpression_78 (tgt := 8) (by decide) ?_
          rw [show bP ((tk ch true (prX ch 0 p1 wi).2.1 38).1 = true) = bP (true = true) from bP_iff ⟨fun _ => rfl, fun _ => c_43⟩]
          exact ih (k + 1) ((prX ch 0 p1 wi).2.1 + 1) (a ++ (zT ch wi p1 false).2.2) true jE q_38 (by omega) (by omega) (by rw [hZ, hand, pre_pre]) hT3 hC3 (by simp only [List.length_append] at hlen ⊢; simp at hlen ⊢; omega) hF4
      · obtain rfl : jT = true := c_27
        simp only [if_pos] at hlen
        refine aw_aload_1 C dX5_readExpression_30 rfl ?_
        refine aw_iconst C dX5_readExpression_31 k1_m1 ?_
        rw [show (-1 : Int32) = cK 3001 from by decide +kernel]
        refine aw_cV1V C (s_X1_add c 3001 hc hCa) mf_X1_add mv_X1_add hc.1 rfl ml_X5_63 dX5_readExpression_32 (by omega) (Nat.le_of_ble_eq_true rfl) (fun q_32 h_32 => ?_)
        obtain ⟨hC32, hF32⟩ := h_32
        rw [if_pos (by simp only [List.length_append] at hlen ⊢; omega)] at hC32
        have hT32 : TX q_32 ch n (prX ch 0 p1 wi).2.1 := h2.fr (fun k i z => hF32.2 k i (by omega)) ((hF32.2 93 2 (by omega)).trans h2.2.1) h2.bd.2
        have hT2 := hT32
        have hC2 : CitC q_32 c (cs ++ (a ++ (zT ch wi p1 true).2.2)) := by
          have e : cs ++ (a ++ (zT ch wi p1 true).2.2) = cs ++ (a ++ (prX ch 0 p1 wi).2.2) ++ [3001] := by
            show cs ++ (a ++ ((prX ch 0 p1 wi).2.2 ++ [3001])) = _
            simp
          rw [e]
          exact hC32
        have hF2 := hFa.tr (hF32.mono (fun k i z => Or.inr z))
        have hl2 : (zT ch wi p1 true).2.2.length = (prX ch 0 p1 wi).2.2.length + 1 := by
          show ((prX ch 0 p1 wi).2.2 ++ [3001]).length = _
          simp
        refine aw_aload_0 C dX5_readExpression_35 rfl ?_
        refine aw_bipush C dX5_readExpression_36 k2_38 ?_
        refine aw_cV1I C (s_X5_takes 38 hT2 (by decide)) mf_X5_takes mv_X5_takes (sh_93) rfl ml_X5_31 dX5_readExpression_38 (by omega) (Nat.le_of_ble_eq_true rfl) (fun r_38 q_38 h_38 => ?_)
        obtain ⟨rfl, hT3, hF3b⟩ := h_38
        have hC3 := hF3b.s3.cit hc9 hC2
        have hF4 := hF2.tr hF3b.s3.rd
        refine aw_istore_3 C dX5_readExpression_41 (by decide) (fun w h => by cases h <;> rfl) ?_
        refine aw_iload_3 C dX5_readExpression_42 ?_
        refine aw_if_eq_b C dX5_readExpression_43 (tgt := 49) (by decide)  (fun c_43 => ?_) (fun c_43 => ?_)
        · have e38 : ch (prX ch 0 p1 wi).2.1 ≠ 38 := fun z => c_43 (by rw [show tk ch true (prX ch 0 p1 wi).2.1 38 = (true, (prX ch 0 p1 wi).2.1 + 1) from if_pos ⟨rfl, z⟩])
          rw [show tk ch true (prX ch 0 p1 wi).2.1 38 = (false, (prX ch 0 p1 wi).2.1) from if_neg (fun z => e38 z.2)] at hT3
          have e43 : (tk ch true (prX ch 0 p1 wi).2.1 38).1 = false := Bool.eq_false_iff.mpr c_43
          refine aw_iload_4 C dX5_readExpression_49 ?_
          refine aw_if_eq_b C dX5_readExpression_51 (tgt := 60) (by decide)  (fun c_51 => ?_) (fun c_51 => ?_)
          · obtain rfl : jE = false := Bool.eq_false_iff.mpr c_51
            have hT4 := hT3
            have hC4 : CitC q_38 c (cs ++ (a ++ (zE ch wi p1 true false).2.2)) := hC3
            have hF5 := hF4
            have hl4 : (zE ch wi p1 true false).2.2.length = (zT ch wi p1 true).2.2.length := rfl
            refine aw_aload_0 C dX5_readExpression_60 rfl ?_
            refine aw_bipush C dX5_readExpression_61 k2_124 ?_
            refine aw_cV1I C (s_X5_takes 124 hT4 (by decide)) mf_X5_takes mv_X5_takes (sh_93) rfl ml_X5_31 dX5_readExpression_63 (by omega) (Nat.le_of_ble_eq_true rfl) (fun r_63 q_63 h_63 => ?_)
            obtain ⟨rfl, hT5, hF6⟩ := h_63
            have hC5 := hF6.s3.cit hc9 hC4
            have hF7 := hF5.tr hF6.s3.rd
            refine aw_istore_4 C dX5_readExpression_66 (by decide) (fun w h => by cases h <;> rfl) ?_
            refine aw_iload_4 C dX5_readExpression_68 ?_
            refine aw_if_ne_b C dX5_readExpression_70 (tgt := 75) (by decide)  (fun c_70 => ?_) (fun c_70 => ?_)
            · have e124 := (tk_w c_70)
              have hor := rst_or (jT := true) (jE := false) ho hb.1 hw0 e124.2.1
              rw [e124.2.2] at hT5
              have hb5 := hT5.bd
              refine aw_iinc_5 C dX5_readExpression_75 (by decide) (fun w h => by cases h <;> rfl) (show _ + Int32.ofInt 1 = _ by rw [k1_1, nI_add]) ?_
              refine aw_goto C dX5_readExpression_78 (tgt := 8) (by decide) ?_
              rw [show bP ((tk ch true (prX ch 0 p1 wi).2.1 38).1 = true) = bP (false = true) from bP_iff ⟨fun y => by rw [e43] at y; exact y, fun y => by cases y⟩, show bP ((tk ch true (prX ch 0 p1 wi).2.1 124).1 = true) = bP (true = true) from bP_iff ⟨fun _ => rfl, fun _ => c_70⟩]
              exact ih (k + 1) ((prX ch 0 p1 wi).2.1 + 1) (a ++ (zE ch wi p1 true false).2.2) false true q_63 (by omega) (by omega) (by rw [hZ, hor, pre_pre]) hT5 hC5 (by simp only [List.length_append] at hlen ⊢; simp at hlen ⊢; omega) hF7
            · have e124 : ch (prX ch 0 p1 wi).2.1 ≠ 124 := fun z => c_70 (by rw [show tk ch true (prX ch 0 p1 wi).2.1 124 = (true, (prX ch 0 p1 wi).2.1 + 1) from if_pos ⟨rfl, z⟩])
              rw [show tk ch true (prX ch 0 p1 wi).2.1 124 = (false, (prX ch 0 p1 wi).2.1) from if_neg (fun z => e124 z.2)] at hT5
              have hend := rst_end (jT := true) (jE := false) e38 e124
              have hz1 := zE_1 ch wi p1 true false
              refine aw_iconst C dX5_readExpression_73 k1_1 ?_
              refine aw_iretZ C hR dX5_readExpression_74 (by first | rfl | exact bP_nar) ?_
              rw [hZ, hend]
              exact PRD.yes (z := pre a (zE ch wi p1 true false)) (p := (prX ch 0 p1 wi).2.1) (l := a ++ (zE ch wi p1 true false).2.2) (by unfold pre; rw [hz1.1, hz1.2, hw0]) rfl hT5 hC5 hF7
          · obtain rfl : jE = true := c_51
            simp only [if_pos] at hlen
            refine aw_aload_1 C dX5_readExpression_54 rfl ?_
            refine aw_bipush C dX5_readExpression_55 k2_m2 ?_
            rw [show (-2 : Int32) = cK 3002 from by decide +kernel]
            refine aw_cV1V C (s_X1_add c 3002 hc hC3) mf_X1_add mv_X1_add hc.1 rfl ml_X5_63 dX5_readExpression_57 (by omega) (Nat.le_of_ble_eq_true rfl) (fun q_57 h_57 => ?_)
            obtain ⟨hC57, hF57⟩ := h_57
            rw [if_pos (by simp only [List.length_append] at hlen hl2 ⊢; omega)] at hC57
            have hT57 : TX q_57 ch n (prX ch 0 p1 wi).2.1 := hT3.fr (fun k i z => hF57.2 k i (by omega)) ((hF57.2 93 2 (by omega)).trans hT3.2.1) hT3.bd.2
            have hT4 := hT57
            have hC4 : CitC q_57 c (cs ++ (a ++ (zE ch wi p1 true true).2.2)) := by
              have e : cs ++ (a ++ (zE ch wi p1 true true).2.2) = cs ++ (a ++ (zT ch wi p1 true).2.2) ++ [3002] := by
                show cs ++ (a ++ ((zT ch wi p1 true).2.2 ++ [3002])) = _
                simp
              rw [e]
              exact hC57
            have hF5 := hF4.tr (hF57.mono (fun k i z => Or.inr z))
            have hl4 : (zE ch wi p1 true true).2.2.length = (zT ch wi p1 true).2.2.length + 1 := by
              show ((zT ch wi p1 true).2.2 ++ [3002]).length = _
              simp
            refine aw_aload_0 C dX5_readExpression_60 rfl ?_
            refine aw_bipush C dX5_readExpression_61 k2_124 ?_
            refine aw_cV1I C (s_X5_takes 124 hT4 (by decide)) mf_X5_takes mv_X5_takes (sh_93) rfl ml_X5_31 dX5_readExpression_63 (by omega) (Nat.le_of_ble_eq_true rfl) (fun r_63 q_63 h_63 => ?_)
            obtain ⟨rfl, hT5, hF6⟩ := h_63
            have hC5 := hF6.s3.cit hc9 hC4
            have hF7 := hF5.tr hF6.s3.rd
            refine aw_istore_4 C dX5_readExpression_66 (by decide) (fun w h => by cases h <;> rfl) ?_
            refine aw_iload_4 C dX5_readExpression_68 ?_
            refine aw_if_ne_b C dX5_readExpression_70 (tgt := 75) (by decide)  (fun c_70 => ?_) (fun c_70 => ?_)
            · have e124 := (tk_w c_70)
              have hor := rst_or (jT := true) (jE := true) ho hb.1 hw0 e124.2.1
              rw [e124.2.2] at hT5
              have hb5 := hT5.bd
              refine aw_iinc_5 C dX5_readExpression_75 (by decide) (fun w h => by cases h <;> rfl) (show _ + Int32.ofInt 1 = _ by rw [k1_1, nI_add]) ?_
              refine aw_goto C dX5_readExpression_78 (tgt := 8) (by decide) ?_
              rw [show bP ((tk ch true (prX ch 0 p1 wi).2.1 38).1 = true) = bP (false = true) from bP_iff ⟨fun y => by rw [e43] at y; exact y, fun y => by cases y⟩, show bP ((tk ch true (prX ch 0 p1 wi).2.1 124).1 = true) = bP (true = true) from bP_iff ⟨fun _ => rfl, fun _ => c_70⟩]
              exact ih (k + 1) ((prX ch 0 p1 wi).2.1 + 1) (a ++ (zE ch wi p1 true true).2.2) false true q_63 (by omega) (by omega) (by rw [hZ, hor, pre_pre]) hT5 hC5 (by simp only [List.length_append] at hlen ⊢; simp at hlen ⊢; omega) hF7
            · have e124 : ch (prX ch 0 p1 wi).2.1 ≠ 124 := fun z => c_70 (by rw [show tk ch true (prX ch 0 p1 wi).2.1 124 = (true, (prX ch 0 p1 wi).2.1 + 1) from if_pos ⟨rfl, z⟩])
              rw [show tk ch true (prX ch 0 p1 wi).2.1 124 = (false, (prX ch 0 p1 wi).2.1) from if_neg (fun z => e124 z.2)] at hT5
              have hend := rst_end (jT := true) (jE := true) e38 e124
              have hz1 := zE_1 ch wi p1 true true
              refine aw_iconst C dX5_readExpression_73 k1_1 ?_
              refine aw_iretZ C hR dX5_readExpression_74 (by first | rfl | exact bP_nar) ?_
              rw [hZ, hend]
              exact PRD.yes (z := pre a (zE ch wi p1 true true)) (p := (prX ch 0 p1 wi).2.1) (l := a ++ (zE ch wi p1 true true).2.2) (by unfold pre; rw [hz1.1, hz1.2, hw0]) rfl hT5 hC5 hF7
        · have e38 := (tk_w c_43)
          have hand := rst_and (jT := true) (jE := jE) ho hb.1 hw0 e38.2.1
          rw [e38.2.2] at hT3
          have hb3 := hT3.bd
          refine aw_goto C dX5_readExpression_46 (tgt := 75) (by decide) ?_
          refine aw_iinc_5 C dX5_readExpression_75 (by decide) (fun w h => by cases h <;> rfl) (show _ + Int32.ofInt 1 = _ by rw [k1_1, nI_add]) ?_
          refine aw_goto C dX5_readExpression_78 (tgt := 8) (by decide) ?_
          rw [show bP ((tk ch true (prX ch 0 p1 wi).2.1 38).1 = true) = bP (true = true) from bP_iff ⟨fun _ => rfl, fun _ => c_43⟩]
          exact ih (k + 1) ((prX ch 0 p1 wi).2.1 + 1) (a ++ (zT ch wi p1 true).2.2) true jE q_38 (by omega) (by omega) (by rw [hZ, hand, pre_pre]) hT3 hC3 (by simp only [List.length_append] at hlen ⊢; simp at hlen ⊢; omega) hF4
    · skip
      refine aw_iconst C dX5_readExpression_24 k1_0 ?_
      refine aw_iretZ C hR dX5_readExpression_25 (by first | rfl | exact bP_nar) ?_
      have hbad := rst_bad (jT := jT) (jE := jE) (Bool.eq_false_iff.mpr c_21)
      exact PRD.no (by rw [hZ]; exact hbad.1) (by rw [hZ]; exact hbad.2) rfl h2 h4 (hF1.tr hF3)
  have h8 := L8 101 0 p [] false false q (by omega) (by omega) (by rw [pre_nil, rst_0 ho hb.1]) h (by rw [List.append_nil]; exact hC) (by simp; exact hl) Fr.rf
  rw [show bP (false = true) = nI 0 from bP_f (by decide)] at h8
  exact h8

theorem CAll (G : GT) : ∀ F, (∀ F2, F2 ≤ F → CFac G F2) ∧ (∀ F2, F2 ≤ F → CExp G F2) := by
  intro F
  induction F with
  | zero => refine ⟨?_, ?_⟩ <;> (intro F2 h q ch n p wi c cs h1 h2 h3 h4 h5 h6 hf; omega)
  | succ F ih =>
    obtain ⟨i1, i2⟩ := ih
    refine ⟨fun F2 h => ?_, fun F2 h => ?_⟩
    · rcases Nat.lt_or_ge F2 (F + 1) with z | z
      · exact i1 F2 (by omega)
      · obtain rfl : F2 = F + 1 := by omega
        exact fun q ch n p wi c cs h1 h2 h3 h4 h5 h6 hf => s_X5_readFactor_s (i1 F (Nat.le_refl F)) (i2 F (Nat.le_refl F)) c h1 h2 h3 h4 h5 h6 hf
    · rcases Nat.lt_or_ge F2 (F + 1) with z | z
      · exact i2 F2 (by omega)
      · obtain rfl : F2 = F + 1 := by omega
        exact fun q ch n p wi c cs h1 h2 h3 h4 h5 h6 hf => s_X5_readExpression_s (i1 F (Nat.le_refl F)) c h1 h2 h3 h4 h5 h6 hf
theorem s_X5_readExpression {G : GT} {q : S_} {ch : Nat → Nat} {n p : Nat} {cs : List Nat} (c : Nat) (h : TX q ch n p) (hc : shC c) (hc9 : 99 ≤ c) (hC : CitC q c cs) (hl : cs.length < p) : Spec G 16 yX5_readExpression cX5_readExpression 6 (some .boolean) [rfn G 93, rfn G c, .int (nI 0)] q (PI (PRD ch n c cs q (prX ch 3 p 0))) := (CAll G 1000).2 1000 (Nat.le_refl _) q ch n p 0 c cs h hc hc9 hC hl (by decide) (by have := h.bd; omega)
