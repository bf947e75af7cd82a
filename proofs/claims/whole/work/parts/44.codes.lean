/-! A CITY AS CODES -/
def cK (x : Nat) : Int32 := if 3000 < x then -(nI (x - 3000)) else nI x
abbrev vcd (x : Nat) : Prop := x < 1800 ∨ (2000 ≤ x ∧ x < 2200) ∨ (3001 ≤ x ∧ x ≤ 3003)
theorem cK_cases {x : Nat} (h : vcd x) : (x < 2200 ∧ cK x = nI x) ∨ (x = 3001 ∧ cK x = -1) ∨ (x = 3002 ∧ cK x = -2) ∨ (x = 3003 ∧ cK x = -3) := by
  by_cases e : 3000 < x
  · have : x = 3001 ∨ x = 3002 ∨ x = 3003 := by omega
    rcases this with rfl | rfl | rfl
    · exact Or.inr (Or.inl ⟨rfl, by decide +kernel⟩)
    · exact Or.inr (Or.inr (Or.inl ⟨rfl, by decide +kernel⟩))
    · exact Or.inr (Or.inr (Or.inr ⟨rfl, by decide +kernel⟩))
  · exact Or.inl ⟨by omega, if_neg e⟩
theorem cK_b {x : Nat} (h : vcd x) (h1 : ¬ cK x < nI 2100) : 2100 ≤ x ∧ x < 2200 ∧ cK x = nI x := by
  rcases cK_cases h with ⟨a, b⟩ | ⟨-, b⟩ | ⟨-, b⟩ | ⟨-, b⟩
  · rw [b, nI_ltI (by omega) (by decide)] at h1
    exact ⟨by omega, a, b⟩
  all_goals (rw [b] at h1; exact absurd (by decide +kernel) h1)
theorem cK_g {x : Nat} (h : vcd x) (h2 : cK x < nI 2100) (h1 : ¬ cK x < nI 2000) : 2000 ≤ x ∧ x < 2100 ∧ cK x = nI x := by
  rcases cK_cases h with ⟨a, b⟩ | ⟨-, b⟩ | ⟨-, b⟩ | ⟨-, b⟩
  · rw [b, nI_ltI (by omega) (by decide)] at h1 h2
    exact ⟨by omega, by omega, b⟩
  all_goals (rw [b] at h1; exact absurd (by decide +kernel) h1)
theorem cK_t {x : Nat} (h : vcd x) (h2 : cK x < nI 2000) (h1 : ¬ cK x < 0) : x < 1800 ∧ cK x = nI x := by
  rcases cK_cases h with ⟨a, b⟩ | ⟨-, b⟩ | ⟨-, b⟩ | ⟨-, b⟩
  · rw [b, nI_ltI (by omega) (by decide)] at h2
    exact ⟨by omega, b⟩
  all_goals (rw [b] at h1; exact absurd (by decide +kernel) h1)
theorem cK_3 {x : Nat} (h : vcd x) (h1 : cK x < 0) (h2 : cK x = -3) : x = 3003 := by
  rcases cK_cases h with ⟨a, b⟩ | ⟨-, b⟩ | ⟨-, b⟩ | ⟨e, -⟩
  · rw [b] at h1
    exact absurd h1 (nI_pos (by omega))
  · rw [b] at h2
    exact absurd h2 (by decide)
  · rw [b] at h2
    exact absurd h2 (by decide)
  · exact e
theorem cK_1 {x : Nat} (h : vcd x) (h1 : cK x < 0) (h2 : cK x = -1) : x = 3001 := by
  rcases cK_cases h with ⟨a, b⟩ | ⟨e, -⟩ | ⟨-, b⟩ | ⟨-, b⟩
  · rw [b] at h1
    exact absurd h1 (nI_pos (by omega))
  · exact e
  · rw [b] at h2
    exact absurd h2 (by decide)
  · rw [b] at h2
    exact absurd h2 (by decide)
theorem cK_2 {x : Nat} (h : vcd x) (h1 : cK x < 0) (h2 : cK x ≠ -3) (h3 : cK x ≠ -1) : x = 3002 := by
  rcases cK_cases h with ⟨a, b⟩ | ⟨-, b⟩ | ⟨e, -⟩ | ⟨-, b⟩
  · rw [b] at h1
    exact absurd h1 (nI_pos (by omega))
  · exact absurd b h3
  · exact e
  · exact absurd b h2
theorem pr_v (ch : Nat → Nat) (F m p wi : Nat) : ∀ c ∈ (pr ch F m p wi).2.2, vcd c := fun c hc => by
  have h1 := pr_ex ch F m p wi c hc
  have h2 := pr_ok ch F m p wi c hc
  unfold isEx at h1
  unfold okc at h2
  omega
theorem clM_v (ch : Nat → Nat) (p dk : Nat) : ∀ c ∈ (clM ch p dk).2.2.1, vcd c := by
  have hv : (clN ch p).2.2 < 100 := numM_lt _ _ _
  have hk := wk_le (ch p)
  unfold clM
  split
  · intro c hc; cases hc
  · split
    · intro c hc; cases hc
    · intro c hc
      rcases List.mem_append.mp hc with h | h
      · have hcl : c ∈ (clE ch p).2.2 := h
        unfold clE at hcl
        split at hcl
        · exact pr_v _ _ _ _ _ c hcl
        · cases hcl
      · rw [List.mem_singleton.mp h]
        omega
theorem clsM_v (ch : Nat → Nat) : ∀ (m p dk : Nat), ∀ c ∈ (clsM ch m p dk).2.2.1, vcd c := by
  intro m
  induction m with
  | zero => intro p dk; exact clM_v ch p dk
  | succ m ih =>
    intro p dk
    unfold clsM
    split
    · intro c hc
      rcases List.mem_append.mp (show c ∈ (clM ch p dk).2.2.1 ++ (clsM ch m ((clM ch p dk).2.1 + 1) (clM ch p dk).2.2.2).2.2.1 from hc) with h | h
      · exact clM_v ch p dk c h
      · exact ih _ _ c h
    · exact clM_v ch p dk
/-- how many truths stand open, and whether there are enough -/
def okR : List Nat → Nat → Prop
  | [], _ => True
  | c :: cs, n => if 3003 < c then False else if c = 3003 then 1 ≤ n ∧ okR cs n else if 3000 < c then 2 ≤ n ∧ okR cs (n - 1) else if c < 2000 then n < 20 ∧ okR cs (n + 1) else okR cs 0
def lnR : List Nat → Nat → Nat
  | [], n => n
  | c :: cs, n => if c = 3003 then lnR cs n else if 3000 < c then lnR cs (n - 1) else if c < 2000 then lnR cs (n + 1) else lnR cs 0
theorem okR_app : ∀ (a b : List Nat) (n : Nat), okR a n → okR b (lnR a n) → okR (a ++ b) n := by
  intro a
  induction a with
  | nil => intro b n _ h; exact h
  | cons c a ih =>
    intro b n h1 h2
    show okR (c :: (a ++ b)) n
    unfold okR at h1 ⊢
    unfold lnR at h2
    by_cases e0 : 3003 < c
    · rw [if_pos e0] at h1
      exact h1.elim
    · rw [if_neg e0] at h1 ⊢
      by_cases e1 : c = 3003
      · rw [if_pos e1] at h1 h2 ⊢
        exact ⟨h1.1, ih b n h1.2 h2⟩
      · rw [if_neg e1] at h1 h2 ⊢
        by_cases e2 : 3000 < c
        · rw [if_pos e2] at h1 h2 ⊢
          exact ⟨h1.1, ih b _ h1.2 h2⟩
        · rw [if_neg e2] at h1 h2 ⊢
          by_cases e3 : c < 2000
          · rw [if_pos e3] at h1 h2 ⊢
            exact ⟨h1.1, ih b _ h1.2 h2⟩
          · rw [if_neg e3] at h1 h2 ⊢
            exact ih b _ h1 h2
theorem lnR_c (c : Nat) (cs : List Nat) (n : Nat) : lnR (c :: cs) n = if c = 3003 then lnR cs n else if 3000 < c then lnR cs (n - 1) else if c < 2000 then lnR cs (n + 1) else lnR cs 0 := rfl
theorem lnR_app : ∀ (a b : List Nat) (n : Nat), lnR (a ++ b) n = lnR b (lnR a n) := by
  intro a
  induction a with
  | nil => intro b n; rfl
  | cons c a ih =>
    intro b n
    show lnR (c :: (a ++ b)) n = _
    rw [lnR_c, lnR_c]
    by_cases e1 : c = 3003
    · rw [if_pos e1, if_pos e1, ih]
    · rw [if_neg e1, if_neg e1]
      by_cases e2 : 3000 < c
      · rw [if_pos e2, if_pos e2, ih]
      · rw [if_neg e2, if_neg e2]
        by_cases e3 : c < 2000
        · rw [if_pos e3, if_pos e3, ih]
        · rw [if_neg e3, if_neg e3, ih]
theorem okR_3003 {n : Nat} (h : 1 ≤ n) : okR [3003] n ∧ lnR [3003] n = n := ⟨⟨h, trivial⟩, rfl⟩
theorem okR_3001 {cs : List Nat} {n : Nat} (h : 2 ≤ n) (h2 : okR cs (n - 1)) : okR (3001 :: cs) n ∧ lnR (3001 :: cs) n = lnR cs (n - 1) := ⟨⟨h, h2⟩, rfl⟩
theorem okR_3002 {cs : List Nat} {n : Nat} (h : 2 ≤ n) (h2 : okR cs (n - 1)) : okR (3002 :: cs) n ∧ lnR (3002 :: cs) n = lnR cs (n - 1) := ⟨⟨h, h2⟩, rfl⟩
theorem okR_t {c n : Nat} (hc : c < 1800) (h : n < 20) : okR [c] n ∧ lnR [c] n = n + 1 := by
  unfold okR lnR
  rw [if_neg (by omega), if_neg (by omega), if_neg (by omega), if_pos (by omega), if_neg (by omega), if_neg (by omega), if_pos (by omega)]
  exact ⟨⟨h, trivial⟩, rfl⟩
/-- the most that stand open: factor, both, any -/
def hgt (m wi : Nat) : Nat := 2 * (4 - wi) + (if m = 0 then 1 else if m ≤ 2 then 2 else 3)
theorem pr_okR (ch : Nat → Nat) : ∀ (F : Nat), (∀ p wi n, (pr ch F 0 p wi).1 = true → n + hgt 0 wi ≤ 20 → okR (pr ch F 0 p wi).2.2 n ∧ lnR (pr ch F 0 p wi).2.2 n = n + 1) ∧ (∀ p wi n, (pr ch F 1 p wi).1 = true → n + hgt 1 wi ≤ 20 → okR (pr ch F 1 p wi).2.2 n ∧ lnR (pr ch F 1 p wi).2.2 n = n + 1) ∧
    (∀ p wi n, (pr ch F 2 p wi).1 = true → n + hgt 2 wi ≤ 20 → okR (pr ch F 2 p wi).2.2 (n + 1) ∧ lnR (pr ch F 2 p wi).2.2 (n + 1) = n + 1) ∧ (∀ p wi n, (pr ch F 3 p wi).1 = true → n + hgt 3 wi ≤ 20 → okR (pr ch F 3 p wi).2.2 n ∧ lnR (pr ch F 3 p wi).2.2 n = n + 1) ∧
    (∀ p wi n, (pr ch F 4 p wi).1 = true → n + hgt 4 wi ≤ 20 → okR (pr ch F 4 p wi).2.2 (n + 1) ∧ lnR (pr ch F 4 p wi).2.2 (n + 1) = n + 1) := by
  have h0 : ∀ wi, hgt 0 wi = 2 * (4 - wi) + 1 := fun _ => rfl
  have h1 : ∀ wi, hgt 1 wi = 2 * (4 - wi) + 2 := fun _ => rfl
  have h2 : ∀ wi, hgt 2 wi = 2 * (4 - wi) + 2 := fun _ => rfl
  have h3 : ∀ wi, hgt 3 wi = 2 * (4 - wi) + 3 := fun _ => rfl
  have h4 : ∀ wi, hgt 4 wi = 2 * (4 - wi) + 3 := fun _ => rfl
  intro F
  induction F with
  | zero =>
    refine ⟨?_, ?_, ?_, ?_, ?_⟩ <;> (intro p wi n h; cases h)
  | succ F ih =>
    obtain ⟨i0, i1, i2, i3, i4⟩ := ih
    refine ⟨fun p wi n hw hn => ?_, fun p wi n hw hn => ?_, fun p wi n hw hn => ?_, fun p wi n hw hn => ?_, fun p wi n hw hn => ?_⟩
    · rw [pr_e0] at hw ⊢
      have hh := h0 wi
      by_cases e1 : wi < 4 ∧ ch p = 33
      · rw [if_pos e1] at hw ⊢
        have := h0 (wi + 1)
        obtain ⟨a, b⟩ := i0 (p + 1) (wi + 1) n hw (by omega)
        have c := okR_3003 (n := n + 1) (by omega)
        exact ⟨okR_app _ _ _ a (by rw [b]; exact c.1), by rw [lnR_app, b]; exact c.2⟩
      · rw [if_neg e1] at hw ⊢
        by_cases e2 : wi < 4 ∧ ch p = 40
        · rw [if_pos e2] at hw ⊢
          have := h3 (wi + 1)
          have hw2 : (pr ch F 3 (p + 1) (wi + 1)).1 = true := by
            revert hw
            unfold tk
            split
            · next z => exact fun _ => z.1
            · intro z; cases z
          exact i3 (p + 1) (wi + 1) n hw2 (by omega)
        · rw [if_neg e2] at hw ⊢
          exact okR_t tst_code (by omega)
    · rw [pr_e1] at hw ⊢
      have hh := h1 wi
      have := h0 wi
      have := h2 wi
      by_cases e1 : (pr ch F 0 p wi).1 = true ∧ ch (pr ch F 0 p wi).2.1 = 38
      · rw [if_pos e1] at hw ⊢
        obtain ⟨a, b⟩ := i0 p wi n e1.1 (by omega)
        obtain ⟨c, d⟩ := i2 ((pr ch F 0 p wi).2.1 + 1) wi n hw (by omega)
        exact ⟨okR_app _ _ _ a (by rw [b]; exact c), by rw [lnR_app, b]; exact d⟩
      · rw [if_neg e1] at hw ⊢
        exact i0 p wi n hw (by omega)
    · rw [pr_e2] at hw ⊢
      have hh := h2 wi
      have := h0 wi
      by_cases e1 : (pr ch F 0 p wi).1 = true ∧ ch (pr ch F 0 p wi).2.1 = 38
      · rw [if_pos e1] at hw ⊢
        obtain ⟨a, b⟩ := i0 p wi (n + 1) e1.1 (by omega)
        obtain ⟨c, d⟩ := i2 ((pr ch F 0 p wi).2.1 + 1) wi n hw (by omega)
        have k := okR_3001 (cs := (pr ch F 2 ((pr ch F 0 p wi).2.1 + 1) wi).2.2) (n := n + 1 + 1) (by omega) c
        exact ⟨okR_app _ _ _ a (by rw [b]; exact k.1), by rw [lnR_app, b, k.2]; exact d⟩
      · rw [if_neg e1] at hw ⊢
        obtain ⟨a, b⟩ := i0 p wi (n + 1) hw (by omega)
        have k := okR_3001 (cs := []) (n := n + 1 + 1) (by omega) trivial
        exact ⟨okR_app _ _ _ a (by rw [b]; exact k.1), by rw [lnR_app, b, k.2]; rfl⟩
    · rw [pr_e3] at hw ⊢
      have hh := h3 wi
      have := h1 wi
      have := h4 wi
      by_cases e1 : (pr ch F 1 p wi).1 = true ∧ ch (pr ch F 1 p wi).2.1 = 124
      · rw [if_pos e1] at hw ⊢
        obtain ⟨a, b⟩ := i1 p wi n e1.1 (by omega)
        obtain ⟨c, d⟩ := i4 ((pr ch F 1 p wi).2.1 + 1) wi n hw (by omega)
        exact ⟨okR_app _ _ _ a (by rw [b]; exact c), by rw [lnR_app, b]; exact d⟩
      · rw [if_neg e1] at hw ⊢
        exact i1 p wi n hw (by omega)
    · rw [show (4 : Nat) = 0 + 4 from rfl, pr_e4] at hw ⊢
      have hh := h4 wi
      have := h1 wi
      by_cases e1 : (pr ch F 1 p wi).1 = true ∧ ch (pr ch F 1 p wi).2.1 = 124
      · rw [if_pos e1] at hw ⊢
        obtain ⟨a, b⟩ := i1 p wi (n + 1) e1.1 (by omega)
        obtain ⟨c, d⟩ := i4 ((pr ch F 1 p wi).2.1 + 1) wi n hw (by omega)
        have k := okR_3002 (cs := (pr ch F 4 ((pr ch F 1 p wi).2.1 + 1) wi).2.2) (n := n + 1 + 1) (by omega) c
        exact ⟨okR_app _ _ _ a (by rw [b]; exact k.1), by rw [lnR_app, b, k.2]; exact d⟩
      · rw [if_neg e1] at hw ⊢
        obtain ⟨a, b⟩ := i1 p wi (n + 1) hw (by omega)
        have k := okR_3002 (cs := []) (n := n + 1 + 1) (by omega) trivial
        exact ⟨okR_app _ _ _ a (by rw [b]; exact k.1), by rw [lnR_app, b, k.2]; rfl⟩
theorem okR_r {c n : Nat} (h1 : 2000 ≤ c) (h2 : c < 2200) : okR [c] n ∧ lnR [c] n = 0 := by
  unfold okR lnR
  rw [if_neg (by omega), if_neg (by omega), if_neg (by omega), if_neg (by omega), if_neg (by omega), if_neg (by omega), if_neg (by omega)]
  exact ⟨trivial, rfl⟩
theorem clM_okR (ch : Nat → Nat) (p dk : Nat) (hw : (clM ch p dk).1 = true) : okR (clM ch p dk).2.2.1 0 ∧ lnR (clM ch p dk).2.2.1 0 = 0 := by
  have hv : (clN ch p).2.2 < 100 := numM_lt _ _ _
  have hk := wk_le (ch p)
  unfold clM at hw ⊢
  split
  · next e => rw [if_pos e] at hw; cases hw
  · next e =>
    rw [if_neg e] at hw
    split
    · exact ⟨trivial, rfl⟩
    · next e2 =>
      rw [if_neg e2] at hw
      have k := okR_r (c := 2000 + 100 * wk (ch p) + (clN ch p).2.2) (n := 1) (by omega) (by omega)
      have hw2 : (clE ch p).1 = true := hw
      unfold clE at hw2 ⊢
      split
      · next e3 =>
        rw [if_pos e3] at hw2
        obtain ⟨a, b⟩ := (pr_okR ch 1000).2.2.2.1 _ 0 0 hw2 (by decide)
        exact ⟨okR_app _ _ _ a (by rw [b]; exact k.1), by rw [lnR_app, b]; exact k.2⟩
      · next e3 =>
        rw [if_neg e3] at hw2
        cases hw2
theorem clsM_okR (ch : Nat → Nat) : ∀ (m p dk : Nat), (clsM ch m p dk).1 = true → okR (clsM ch m p dk).2.2.1 0 ∧ lnR (clsM ch m p dk).2.2.1 0 = 0 := by
  intro m
  induction m with
  | zero => intro p dk h; exact clM_okR ch p dk h
  | succ m ih =>
    intro p dk h
    unfold clsM at h ⊢
    split
    · next e =>
      rw [if_pos e] at h
      obtain ⟨a, b⟩ := clM_okR ch p dk e.1
      obtain ⟨c, d⟩ := ih _ _ (show (clsM ch m ((clM ch p dk).2.1 + 1) (clM ch p dk).2.2.2).1 = true from h)
      exact ⟨okR_app _ _ _ a (by rw [b]; exact c), by
        show lnR ((clM ch p dk).2.2.1 ++ (clsM ch m ((clM ch p dk).2.1 + 1) (clM ch p dk).2.2.2).2.2.1) 0 = 0
        rw [lnR_app, b]; exact d⟩
    · next e =>
      rw [if_neg e] at h
      exact clM_okR ch p dk h
/-- the truths that stand open, as bits -/
def stk : List Bool → Nat
  | [] => 0
  | b :: t => (if b = true then 1 else 0) + 2 * stk t
theorem stk_lt : ∀ (st : List Bool), stk st < 2 ^ st.length := by
  intro st
  induction st with
  | nil => exact Nat.one_pos
  | cons b t ih =>
    show (if b = true then 1 else 0) + 2 * stk t < 2 ^ (t.length + 1)
    rw [Nat.pow_succ]
    split <;> omega
theorem stk_20 {st : List Bool} (h : st.length ≤ 20) : stk st < 2 ^ 20 := Nat.lt_of_lt_of_le (stk_lt st) (Nat.pow_le_pow_right (by decide) h)
theorem stk_top (st : List Bool) : stk st % 2 = if st.headD false = true then 1 else 0 := by
  cases st with
  | nil => rfl
  | cons b t =>
    show ((if b = true then 1 else 0) + 2 * stk t) % 2 = if b = true then 1 else 0
    split <;> omega
theorem stk_push (b : Bool) (st : List Bool) : (stk st * 2 ^ 1 ||| (if b = true then 1 else 0)) = stk (b :: st) := by
  show _ = (if b = true then 1 else 0) + 2 * stk st
  cases b with
  | true =>
    rw [if_pos rfl, Nat.mul_comm, ← Nat.two_pow_add_eq_or_of_lt (i := 1) (b := 1) (by decide) (stk st)]
    omega
  | false =>
    rw [if_neg (by decide), Nat.or_zero]
    omega
theorem xor1 (m : Nat) (b : Bool) : ((if b = true then 1 else 0) + 2 * m) ^^^ 1 = (if b = true then 0 else 1) + 2 * m := by
  apply Nat.eq_of_testBit_eq
  intro j
  cases j with
  | zero =>
    rw [Nat.testBit_xor, Nat.testBit_zero, Nat.testBit_zero, Nat.testBit_zero]
    cases b <;> simp <;> omega
  | succ j =>
    rw [Nat.testBit_xor, Nat.testBit_succ, Nat.testBit_succ, Nat.testBit_succ]
    have e : ((if b = true then 0 else 1) + 2 * m) / 2 = m := by split <;> omega
    have e2 : ((if b = true then 1 else 0) + 2 * m) / 2 = m := by split <;> omega
    rw [e, e2, show 1 / 2 = 0 from rfl, Nat.zero_testBit, Bool.xor_false]
theorem stk_not (b : Bool) (t : List Bool) : stk (b :: t) ^^^ 1 = stk ((!b) :: t) := by
  show ((if b = true then 1 else 0) + 2 * stk t) ^^^ 1 = (if (!b) = true then 1 else 0) + 2 * stk t
  rw [xor1]
  cases b <;> rfl
theorem stk_half (b : Bool) (t : List Bool) : stk (b :: t) / 2 ^ 1 = stk t := by
  show ((if b = true then 1 else 0) + 2 * stk t) / 2 ^ 1 = stk t
  split <;> omega
theorem stk_or (b a : Bool) (t : List Bool) : (stk (a :: t) ||| (if b = true then 1 else 0)) = stk ((a || b) :: t) := by
  show (((if a = true then 1 else 0) + 2 * stk t) ||| (if b = true then 1 else 0)) = (if (a || b) = true then 1 else 0) + 2 * stk t
  cases b with
  | false => cases a <;> simp
  | true =>
    rw [if_pos rfl, Bool.or_true, if_pos rfl]
    apply Nat.eq_of_testBit_eq
    intro j
    cases j with
    | zero =>
      rw [Nat.testBit_or, Nat.testBit_zero, Nat.testBit_zero, Nat.testBit_zero]
      cases a <;> simp <;> omega
    | succ j =>
      rw [Nat.testBit_or, Nat.testBit_succ, Nat.testBit_succ, Nat.testBit_succ]
      have e : ((if a = true then 1 else 0) + 2 * stk t) / 2 = stk t := by split <;> omega
      have e2 : (1 + 2 * stk t) / 2 = stk t := by omega
      rw [e, e2, show 1 / 2 = 0 from rfl, Nat.zero_testBit, Bool.or_false]
/-- the truths below the newest stay, the newest but one stays where the newest is -/
theorem and_m2 {s : Nat} (h : s < 2 ^ 31) (t : Nat) (ht : t < 2) : nI s &&& (nI t ||| (-2)) = nI (if t = 1 then s else s - s % 2) := by
  have : t = 0 ∨ t = 1 := by omega
  rcases this with rfl | rfl
  · rw [if_neg (by decide), show nI 0 ||| (-2 : Int32) = (-2 : Int32) from by decide +kernel]
    apply Int32.toBitVec_inj.mp
    show BitVec.ofNat 32 s &&& (-2 : Int32).toBitVec = BitVec.ofNat 32 (s - s % 2)
    apply BitVec.eq_of_getLsbD_eq
    intro i hi
    rw [BitVec.getLsbD_and, BitVec.getLsbD_ofNat, BitVec.getLsbD_ofNat]
    have key : ∀ i, i < 32 → (-2 : Int32).toBitVec.getLsbD i = decide (i ≠ 0) := by decide +kernel
    rw [key i hi]
    cases i with
    | zero =>
      rw [Nat.testBit_zero]
      have : (s - s % 2) % 2 = 0 := by omega
      simp [this]
    | succ i =>
      rw [Nat.testBit_succ, Nat.testBit_succ]
      have : (s - s % 2) / 2 = s / 2 := by omega
      simp [this]
  · rw [if_pos rfl, show nI 1 ||| (-2 : Int32) = (-1 : Int32) from by decide +kernel]
    exact Int32.and_neg_one
theorem stk_and (b a : Bool) (t : List Bool) : (if (if b = true then 1 else 0) = 1 then stk (a :: t) else stk (a :: t) - stk (a :: t) % 2) = stk ((a && b) :: t) := by
  show (if (if b = true then 1 else 0) = 1 then (if a = true then 1 else 0) + 2 * stk t else (if a = true then 1 else 0) + 2 * stk t - ((if a = true then 1 else 0) + 2 * stk t) % 2) = (if (a && b) = true then 1 else 0) + 2 * stk t
  cases a <;> cases b <;> simp <;> omega
