/-! the reading of expressions: mode 0 a factor, 1 factors with & between, 2 the same behind a &, 3 terms with | between, 4 the same behind a |; the codes stand each behind what it joins (3001 &, 3002 |, 3003 !) -/
def pr (ch : Nat → Nat) : Nat → Nat → Nat → Nat → Bool × Nat × List Nat
  | 0, _, p, _ => (false, p, [])
  | F + 1, 0, p, wi => if wi < 4 ∧ ch p = 33 then ((pr ch F 0 (p + 1) (wi + 1)).1, (pr ch F 0 (p + 1) (wi + 1)).2.1, (pr ch F 0 (p + 1) (wi + 1)).2.2 ++ [3003])
      else if wi < 4 ∧ ch p = 40 then ((tk ch (pr ch F 3 (p + 1) (wi + 1)).1 (pr ch F 3 (p + 1) (wi + 1)).2.1 41).1, (tk ch (pr ch F 3 (p + 1) (wi + 1)).1 (pr ch F 3 (p + 1) (wi + 1)).2.1 41).2, (pr ch F 3 (p + 1) (wi + 1)).2.2)
      else ((tstM ch true p).1, (tstM ch true p).2.1, [(tstM ch true p).2.2])
  | F + 1, 1, p, wi => if (pr ch F 0 p wi).1 = true ∧ ch (pr ch F 0 p wi).2.1 = 38 then ((pr ch F 2 ((pr ch F 0 p wi).2.1 + 1) wi).1, (pr ch F 2 ((pr ch F 0 p wi).2.1 + 1) wi).2.1, (pr ch F 0 p wi).2.2 ++ (pr ch F 2 ((pr ch F 0 p wi).2.1 + 1) wi).2.2) else pr ch F 0 p wi
  | F + 1, 2, p, wi => if (pr ch F 0 p wi).1 = true ∧ ch (pr ch F 0 p wi).2.1 = 38 then ((pr ch F 2 ((pr ch F 0 p wi).2.1 + 1) wi).1, (pr ch F 2 ((pr ch F 0 p wi).2.1 + 1) wi).2.1, (pr ch F 0 p wi).2.2 ++ 3001 :: (pr ch F 2 ((pr ch F 0 p wi).2.1 + 1) wi).2.2) else ((pr ch F 0 p wi).1, (pr ch F 0 p wi).2.1, (pr ch F 0 p wi).2.2 ++ [3001])
  | F + 1, 3, p, wi => if (pr ch F 1 p wi).1 = true ∧ ch (pr ch F 1 p wi).2.1 = 124 then ((pr ch F 4 ((pr ch F 1 p wi).2.1 + 1) wi).1, (pr ch F 4 ((pr ch F 1 p wi).2.1 + 1) wi).2.1, (pr ch F 1 p wi).2.2 ++ (pr ch F 4 ((pr ch F 1 p wi).2.1 + 1) wi).2.2) else pr ch F 1 p wi
  | F + 1, _, p, wi => if (pr ch F 1 p wi).1 = true ∧ ch (pr ch F 1 p wi).2.1 = 124 then ((pr ch F 4 ((pr ch F 1 p wi).2.1 + 1) wi).1, (pr ch F 4 ((pr ch F 1 p wi).2.1 + 1) wi).2.1, (pr ch F 1 p wi).2.2 ++ 3002 :: (pr ch F 4 ((pr ch F 1 p wi).2.1 + 1) wi).2.2) else ((pr ch F 1 p wi).1, (pr ch F 1 p wi).2.1, (pr ch F 1 p wi).2.2 ++ [3002])
theorem pr_e0 (ch : Nat → Nat) (F p wi : Nat) : pr ch (F + 1) 0 p wi = if wi < 4 ∧ ch p = 33 then ((pr ch F 0 (p + 1) (wi + 1)).1, (pr ch F 0 (p + 1) (wi + 1)).2.1, (pr ch F 0 (p + 1) (wi + 1)).2.2 ++ [3003])
      else if wi < 4 ∧ ch p = 40 then ((tk ch (pr ch F 3 (p + 1) (wi + 1)).1 (pr ch F 3 (p + 1) (wi + 1)).2.1 41).1, (tk ch (pr ch F 3 (p + 1) (wi + 1)).1 (pr ch F 3 (p + 1) (wi + 1)).2.1 41).2, (pr ch F 3 (p + 1) (wi + 1)).2.2)
      else ((tstM ch true p).1, (tstM ch true p).2.1, [(tstM ch true p).2.2]) := rfl
theorem pr_e1 (ch : Nat → Nat) (F p wi : Nat) : pr ch (F + 1) 1 p wi = if (pr ch F 0 p wi).1 = true ∧ ch (pr ch F 0 p wi).2.1 = 38 then ((pr ch F 2 ((pr ch F 0 p wi).2.1 + 1) wi).1, (pr ch F 2 ((pr ch F 0 p wi).2.1 + 1) wi).2.1, (pr ch F 0 p wi).2.2 ++ (pr ch F 2 ((pr ch F 0 p wi).2.1 + 1) wi).2.2) else pr ch F 0 p wi := rfl
theorem pr_e2 (ch : Nat → Nat) (F p wi : Nat) : pr ch (F + 1) 2 p wi = if (pr ch F 0 p wi).1 = true ∧ ch (pr ch F 0 p wi).2.1 = 38 then ((pr ch F 2 ((pr ch F 0 p wi).2.1 + 1) wi).1, (pr ch F 2 ((pr ch F 0 p wi).2.1 + 1) wi).2.1, (pr ch F 0 p wi).2.2 ++ 3001 :: (pr ch F 2 ((pr ch F 0 p wi).2.1 + 1) wi).2.2) else ((pr ch F 0 p wi).1, (pr ch F 0 p wi).2.1, (pr ch F 0 p wi).2.2 ++ [3001]) := rfl
theorem pr_e3 (ch : Nat → Nat) (F p wi : Nat) : pr ch (F + 1) 3 p wi = if (pr ch F 1 p wi).1 = true ∧ ch (pr ch F 1 p wi).2.1 = 124 then ((pr ch F 4 ((pr ch F 1 p wi).2.1 + 1) wi).1, (pr ch F 4 ((pr ch F 1 p wi).2.1 + 1) wi).2.1, (pr ch F 1 p wi).2.2 ++ (pr ch F 4 ((pr ch F 1 p wi).2.1 + 1) wi).2.2) else pr ch F 1 p wi := rfl
theorem pr_e4 (ch : Nat → Nat) (F m p wi : Nat) : pr ch (F + 1) (m + 4) p wi = if (pr ch F 1 p wi).1 = true ∧ ch (pr ch F 1 p wi).2.1 = 124 then ((pr ch F 4 ((pr ch F 1 p wi).2.1 + 1) wi).1, (pr ch F 4 ((pr ch F 1 p wi).2.1 + 1) wi).2.1, (pr ch F 1 p wi).2.2 ++ 3002 :: (pr ch F 4 ((pr ch F 1 p wi).2.1 + 1) wi).2.2) else ((pr ch F 1 p wi).1, (pr ch F 1 p wi).2.1, (pr ch F 1 p wi).2.2 ++ [3002]) := rfl
theorem tk_ge (ch : Nat → Nat) (w : Bool) (p c : Nat) : p ≤ (tk ch w p c).2 := by
  unfold tk
  split <;> simp only <;> omega
theorem numM_ge (ch : Nat → Nat) (w : Bool) (p : Nat) : p ≤ (numM ch w p).2.1 := by
  unfold numM
  repeat' split
  all_goals simp only
  all_goals omega
theorem tstM_ge (ch : Nat → Nat) (w : Bool) (p : Nat) : p ≤ (tstM ch w p).2.1 := by
  unfold tstM
  split
  · simp only
    have h1 := numM_ge ch (tk ch true (p + 1) (relC (ch (p + 1)))).1 (tk ch true (p + 1) (relC (ch (p + 1)))).2
    have h2 := tk_ge ch true (p + 1) (relC (ch (p + 1)))
    omega
  · exact Nat.le_refl p
theorem pr_ge (ch : Nat → Nat) : ∀ (F m p wi : Nat), p ≤ (pr ch F m p wi).2.1 := by
  intro F
  induction F with
  | zero => intro m p wi; exact Nat.le_refl p
  | succ F ih =>
    intro m p wi
    match m with
    | 0 =>
      rw [pr_e0]
      split
      · have := ih 0 (p + 1) (wi + 1); simp only; omega
      · split
        · have := ih 3 (p + 1) (wi + 1)
          have h2 := tk_ge ch (pr ch F 3 (p + 1) (wi + 1)).1 (pr ch F 3 (p + 1) (wi + 1)).2.1 41
          simp only; omega
        · exact tstM_ge ch true p
    | 1 =>
      rw [pr_e1]
      have h1 := ih 0 p wi
      split
      · have := ih 2 ((pr ch F 0 p wi).2.1 + 1) wi; simp only; omega
      · exact h1
    | 2 =>
      rw [pr_e2]
      have h1 := ih 0 p wi
      split
      · have := ih 2 ((pr ch F 0 p wi).2.1 + 1) wi; simp only; omega
      · exact h1
    | 3 =>
      rw [pr_e3]
      have h1 := ih 1 p wi
      split
      · have := ih 4 ((pr ch F 1 p wi).2.1 + 1) wi; simp only; omega
      · exact h1
    | m + 4 =>
      rw [pr_e4]
      have h1 := ih 1 p wi
      split
      · have := ih 4 ((pr ch F 1 p wi).2.1 + 1) wi; simp only; omega
      · exact h1
/-- running codes over a stack of truths -/
def ev1 (nm : Nat → Int32) (c : Nat) (st : List Bool) : List Bool := if c = 3001 then (match st with
    | b :: a :: t => (a && b) :: t
    | t => t) else if c = 3002 then (match st with
    | b :: a :: t => (a || b) :: t
    | t => t) else if c = 3003 then (match st with
    | b :: t => (!b) :: t
    | t => t) else tvB nm c :: st
def ev (nm : Nat → Int32) : List Nat → List Bool → List Bool
  | [], st => st
  | c :: cs, st => ev nm cs (ev1 nm c st)
theorem ev_app (nm : Nat → Int32) : ∀ (a b : List Nat) (st : List Bool), ev nm (a ++ b) st = ev nm b (ev nm a st) := by
  intro a
  induction a with
  | nil => intro b st; rfl
  | cons c a ih => intro b st; exact ih b _
/-- what a reading of an expression says -/
def PE (ch : Nat → Nat) (n wi : Nat) (q : S_) (z : Bool × Nat × List Nat) (r : Int32) (q3 : S_) : Prop := PS q3 ch n z.2.1 z.1 wi ∧ Fr SPk q q3 ∧ (r = nI 0 ∨ r = nI 1) ∧ (z.1 = true → ∃ b : Bool, (∀ st, ev (gI q 137) z.2.2 st = b :: st) ∧ r = bP (b = true))
theorem tst_code {ch : Nat → Nat} {p : Nat} : (tstM ch true p).2.2 < 1800 := by
  unfold tstM
  have h1 := numM_lt ch (tk ch true (p + 1) (relC (ch (p + 1)))).1 (tk ch true (p + 1) (relC (ch (p + 1)))).2
  have h2 : relN (ch (p + 1)) ≤ 2 := by unfold relN; repeat' split
                                        all_goals omega
  split
  · next h => simp only; have := h.2; omega
  · show 0 < 1800
    decide
theorem ev_tst {nm : Nat → Int32} {c : Nat} (h : c < 1800) (st : List Bool) : ev nm [c] st = tvB nm c :: st := by
  show ev1 nm c st = _
  unfold ev1
  rw [if_neg (by omega), if_neg (by omega), if_neg (by omega)]
theorem bP_01 {p : Prop} [Decidable p] : bP p = nI 0 ∨ bP p = nI 1 := by
  unfold bP
  split
  · exact Or.inr rfl
  · exact Or.inl rfl
theorem nI10 : ¬ nI 1 = 0 := by decide +kernel
theorem r01 {r : Int32} (h : r = nI 0 ∨ r = nI 1) : narrow .boolean (.int r) = .int r := by rcases h with rfl | rfl <;> rfl
theorem bP_b {b : Bool} (h : bP (b = true) = 0) : b = false := by
  cases b
  · rfl
  · exact absurd rfl (bP_z.mp h)
theorem bP_b1 {b : Bool} (h : ¬ bP (b = true) = 0) : b = true := by
  cases b
  · exact absurd (bP_z.mpr (by decide)) h
  · rfl

set_option maxRecDepth 100000 in
set_option maxHeartbeats 4000000 in
theorem s_X9_factor_f {G : GT} {q : S_} {ch : Nat → Nat} {n p wi : Nat}  (hP : PS q ch n p false wi) (hL : LetC q) : Spec G 4 yX9_factor cX9_factor 2 (some .boolean) [rfn G 129] q (PI (fun r q3 => PS q3 ch n p false wi ∧ Fr SPk q q3 ∧ (r = nI 0 ∨ r = nI 1))) := by
  refine Spec.intro RX9 (by decide) rfl (Nat.le_of_ble_eq_true rfl) [some (rfn G 129), none] rfl ?_
  intro X d hd C hR
  have hb := hP.bd
  refine aw_aload_0 C dX9_factor_0 rfl ?_
  refine aw_g9_13 C hP.2.2.2.1 dX9_factor_1 fl_X9_178 ?_
  refine aw_iconst C dX9_factor_4 k1_4 ?_
  refine aw_icmp_ge_n C dX9_factor_5 (tgt := 63) (by decide) (by omega) (by omega) (fun c_5 => ?_) (fun c_5 => ?_)
  · skip
    refine aw_aload_0 C dX9_factor_63 rfl ?_
    refine aw_g9_13 C hP.2.2.2.1 dX9_factor_64 fl_X9_178 ?_
    refine aw_iconst C dX9_factor_67 k1_4 ?_
    refine aw_icmp_ge_n C dX9_factor_68 (tgt := 124) (by decide) (by omega) (by omega) (fun c_68 => ?_) (fun c_68 => absurd c_68 (by omega))
    refine aw_aload_0 C dX9_factor_124 rfl ?_
    refine aw_cV0I C (s_X9_test hP hL) mf_X9_test mv_X9_test (sh_129) rfl ml_X9_187 dX9_factor_125 (by omega) (Nat.le_of_ble_eq_true rfl) (fun r_125 q_125 h_125 => ?_)
    obtain ⟨hP2, hF, h01, -⟩ := h_125
    rw [tstM_f (fun z => by cases z.1)] at hP2
    refine aw_istore_1 C dX9_factor_128 (by decide) (fun w h => by cases h <;> rfl) ?_
    refine aw_iload_1 C dX9_factor_129 ?_
    refine aw_iretZ C hR dX9_factor_130 (r01 h01) ?_
    exact ⟨hP2, hF, h01⟩
  · skip
    refine aw_aload_0 C dX9_factor_8 rfl ?_
    refine aw_bipush C dX9_factor_9 k2_33 ?_
    refine aw_cV1IE C (s_X9_isAt _ hP (by omega)) mf_X9_isAt mv_X9_isAt (sh_129) rfl ml_X9_163 dX9_factor_11 (by omega) (Nat.le_of_ble_eq_true rfl) ?_
    refine aw_if_eq_b C dX9_factor_14 (tgt := 63) (by decide)  (fun c_14 => ?_) (fun c_14 => absurd c_14 (fun z => by cases z.1))
    refine aw_aload_0 C dX9_factor_63 rfl ?_
    refine aw_g9_13 C hP.2.2.2.1 dX9_factor_64 fl_X9_178 ?_
    refine aw_iconst C dX9_factor_67 k1_4 ?_
    refine aw_icmp_ge_n C dX9_factor_68 (tgt := 124) (by decide) (by omega) (by omega) (fun c_68 => absurd c_68 (by omega)) (fun c_68 => ?_)
    refine aw_aload_0 C dX9_factor_71 rfl ?_
    refine aw_bipush C dX9_factor_72 k2_40 ?_
    refine aw_cV1IE C (s_X9_isAt _ hP (by omega)) mf_X9_isAt mv_X9_isAt (sh_129) rfl ml_X9_163 dX9_factor_74 (by omega) (Nat.le_of_ble_eq_true rfl) ?_
    refine aw_if_eq_b C dX9_factor_77 (tgt := 124) (by decide)  (fun c_77 => ?_) (fun c_77 => absurd c_77 (fun z => by cases z.1))
    refine aw_aload_0 C dX9_factor_124 rfl ?_
    refine aw_cV0I C (s_X9_test hP hL) mf_X9_test mv_X9_test (sh_129) rfl ml_X9_187 dX9_factor_125 (by omega) (Nat.le_of_ble_eq_true rfl) (fun r_125 q_125 h_125 => ?_)
    obtain ⟨hP2, hF, h01, -⟩ := h_125
    rw [tstM_f (fun z => by cases z.1)] at hP2
    refine aw_istore_1 C dX9_factor_128 (by decide) (fun w h => by cases h <;> rfl) ?_
    refine aw_iload_1 C dX9_factor_129 ?_
    refine aw_iretZ C hR dX9_factor_130 (r01 h01) ?_
    exact ⟨hP2, hF, h01⟩

set_option maxRecDepth 100000 in
set_option maxHeartbeats 4000000 in
theorem s_X9_both_f {G : GT} {q : S_} {ch : Nat → Nat} {n p wi : Nat}  (hP : PS q ch n p false wi) (hL : LetC q) : Spec G 5 yX9_both cX9_both 3 (some .boolean) [rfn G 129] q (PI (fun r q3 => PS q3 ch n p false wi ∧ Fr SPk q q3 ∧ (r = nI 0 ∨ r = nI 1))) := by
  refine Spec.intro RX9 (by decide) rfl (Nat.le_of_ble_eq_true rfl) [some (rfn G 129), none, none] rfl ?_
  intro X d hd C hR
  have hb := hP.bd
  refine aw_aload_0 C dX9_both_0 rfl ?_
  refine aw_cV0I C (s_X9_factor_f hP hL) mf_X9_factor mv_X9_factor (sh_129) rfl ml_X9_181 dX9_both_1 (by omega) (Nat.le_of_ble_eq_true rfl) (fun r_1 q_1 h_1 => ?_)
  obtain ⟨hP2, hF, h01⟩ := h_1
  refine aw_istore_1 C dX9_both_4 (by decide) (fun w h => by cases h <;> rfl) ?_
  refine aw_aload_0 C dX9_both_5 rfl ?_
  refine aw_bipush C dX9_both_6 k2_38 ?_
  refine aw_cV1IE C (s_X9_isAt _ hP2 (by omega)) mf_X9_isAt mv_X9_isAt (sh_129) rfl ml_X9_163 dX9_both_8 (by omega) (Nat.le_of_ble_eq_true rfl) ?_
  refine aw_if_eq_b C dX9_both_11 (tgt := 46) (by decide)  (fun c_11 => ?_) (fun c_11 => absurd c_11 (fun z => by cases z.1))
  refine aw_iload_1 C dX9_both_46 ?_
  refine aw_iretZ C hR dX9_both_47 (r01 h01) ?_
  exact ⟨hP2, hF, h01⟩

set_option maxRecDepth 100000 in
set_option maxHeartbeats 4000000 in
theorem s_X9_any_f {G : GT} {q : S_} {ch : Nat → Nat} {n p wi : Nat}  (hP : PS q ch n p false wi) (hL : LetC q) : Spec G 6 yX9_any cX9_any 3 (some .boolean) [rfn G 129] q (PI (fun r q3 => PS q3 ch n p false wi ∧ Fr SPk q q3 ∧ (r = nI 0 ∨ r = nI 1))) := by
  refine Spec.intro RX9 (by decide) rfl (Nat.le_of_ble_eq_true rfl) [some (rfn G 129), none, none] rfl ?_
  intro X d hd C hR
  have hb := hP.bd
  refine aw_aload_0 C dX9_any_0 rfl ?_
  refine aw_cV0I C (s_X9_both_f hP hL) mf_X9_both mv_X9_both (sh_129) rfl ml_X9_190 dX9_any_1 (by omega) (Nat.le_of_ble_eq_true rfl) (fun r_1 q_1 h_1 => ?_)
  obtain ⟨hP2, hF, h01⟩ := h_1
  refine aw_istore_1 C dX9_any_4 (by decide) (fun w h => by cases h <;> rfl) ?_
  refine aw_aload_0 C dX9_any_5 rfl ?_
  refine aw_bipush C dX9_any_6 k2_124 ?_
  refine aw_cV1IE C (s_X9_isAt _ hP2 (by omega)) mf_X9_isAt mv_X9_isAt (sh_129) rfl ml_X9_163 dX9_any_8 (by omega) (Nat.le_of_ble_eq_true rfl) ?_
  refine aw_if_eq_b C dX9_any_11 (tgt := 46) (by decide)  (fun c_11 => ?_) (fun c_11 => absurd c_11 (fun z => by cases z.1))
  refine aw_iload_1 C dX9_any_46 ?_
  refine aw_iretZ C hR dX9_any_47 (r01 h01) ?_
  exact ⟨hP2, hF, h01⟩

def dfx (wi : Nat) : Nat := 4 + 3 * (4 - wi)
def RFac (G : GT) (F : Nat) : Prop := ∀ (q : S_) (ch : Nat → Nat) (n p wi : Nat), PS q ch n p true wi → LetC q → 6 * (n + 1 - p) + 1 < F → Spec G (dfx wi) yX9_factor cX9_factor 2 (some .boolean) [rfn G 129] q (PI (PE ch n wi q (pr ch F 0 p wi)))
def RBot (G : GT) (F : Nat) : Prop := ∀ (q : S_) (ch : Nat → Nat) (n p wi : Nat), PS q ch n p true wi → LetC q → 6 * (n + 1 - p) + 2 < F → Spec G (dfx wi + 1) yX9_both cX9_both 3 (some .boolean) [rfn G 129] q (PI (PE ch n wi q (pr ch F 1 p wi)))
def RAny (G : GT) (F : Nat) : Prop := ∀ (q : S_) (ch : Nat → Nat) (n p wi : Nat), PS q ch n p true wi → LetC q → 6 * (n + 1 - p) + 3 < F → Spec G (dfx wi + 2) yX9_any cX9_any 3 (some .boolean) [rfn G 129] q (PI (PE ch n wi q (pr ch F 3 p wi)))

set_option maxRecDepth 100000 in
set_option maxHeartbeats 4000000 in
theorem s_X9_factor_s {G : GT} {F : Nat} (HF : RFac G F) (HA : RAny G F) {q : S_} {ch : Nat → Nat} {n p wi : Nat}  (hP : PS q ch n p true wi) (hL : LetC q) (hf : 6 * (n + 1 - p) + 1 < F + 1) : Spec G (dfx wi) yX9_factor cX9_factor 2 (some .boolean) [rfn G 129] q (PI (PE ch n wi q (pr ch (F + 1) 0 p wi))) := by
  refine Spec.intro RX9 (by decide) rfl (Nat.le_of_ble_eq_true rfl) [some (rfn G 129), none] rfl ?_
  intro X d hd C hR
  have hb := hP.bd
  unfold dfx at hd
  refine aw_aload_0 C dX9_factor_0 rfl ?_
  refine aw_g9_13 C hP.2.2.2.1 dX9_factor_1 fl_X9_178 ?_
  refine aw_iconst C dX9_factor_4 k1_4 ?_
  refine aw_icmp_ge_n C dX9_factor_5 (tgt := 63) (by decide) (by omega) (by omega) (fun c_5 => ?_) (fun c_5 => ?_)
  · skip
    refine aw_aload_0 C dX9_factor_63 rfl ?_
    refine aw_g9_13 C hP.2.2.2.1 dX9_factor_64 fl_X9_178 ?_
    refine aw_iconst C dX9_factor_67 k1_4 ?_
    refine aw_icmp_ge_n C dX9_factor_68 (tgt := 124) (by decide) (by omega) (by omega) (fun c_68 => ?_) (fun c_68 => absurd c_68 (by omega))
    refine aw_aload_0 C dX9_factor_124 rfl ?_
    refine aw_cV0I C (s_X9_test hP hL) mf_X9_test mv_X9_test (sh_129) rfl ml_X9_187 dX9_factor_125 (by omega) (Nat.le_of_ble_eq_true rfl) (fun r_125 q_125 h_125 => ?_)
    obtain ⟨hP2, hF, h01, hv⟩ := h_125
    refine aw_istore_1 C dX9_factor_128 (by decide) (fun w h => by cases h <;> rfl) ?_
    refine aw_iload_1 C dX9_factor_129 ?_
    refine aw_iretZ C hR dX9_factor_130 (r01 h01) ?_
    have hn33 : ¬ (wi < 4 ∧ ch p = 33) := fun z => by first | omega | exact c_14 ⟨rfl, z.2⟩
    have hn40 : ¬ (wi < 4 ∧ ch p = 40) := fun z => by first | omega | exact c_77 ⟨rfl, z.2⟩
    have hz : pr ch (F + 1) 0 p wi = ((tstM ch true p).1, (tstM ch true p).2.1, [(tstM ch true p).2.2]) := by rw [pr_e0, if_neg hn33, if_neg hn40]
    rw [hz]
    exact ⟨hP2, hF, h01, fun ht => ⟨_, fun st => ev_tst tst_code st, hv ht⟩⟩
  · skip
    refine aw_aload_0 C dX9_factor_8 rfl ?_
    refine aw_bipush C dX9_factor_9 k2_33 ?_
    refine aw_cV1IE C (s_X9_isAt _ hP (by omega)) mf_X9_isAt mv_X9_isAt (sh_129) rfl ml_X9_163 dX9_factor_11 (by omega) (Nat.le_of_ble_eq_true rfl) ?_
    refine aw_if_eq_b C dX9_factor_14 (tgt := 63) (by decide)  (fun c_14 => ?_) (fun c_14 => ?_)
    · skip
      refine aw_aload_0 C dX9_factor_63 rfl ?_
      refine aw_g9_13 C hP.2.2.2.1 dX9_factor_64 fl_X9_178 ?_
      refine aw_iconst C dX9_factor_67 k1_4 ?_
      refine aw_icmp_ge_n C dX9_factor_68 (tgt := 124) (by decide) (by omega) (by omega) (fun c_68 => absurd c_68 (by omega)) (fun c_68 => ?_)
      refine aw_aload_0 C dX9_factor_71 rfl ?_
      refine aw_bipush C dX9_factor_72 k2_40 ?_
      refine aw_cV1IE C (s_X9_isAt _ hP (by omega)) mf_X9_isAt mv_X9_isAt (sh_129) rfl ml_X9_163 dX9_factor_74 (by omega) (Nat.le_of_ble_eq_true rfl) ?_
      refine aw_if_eq_b C dX9_factor_77 (tgt := 124) (by decide)  (fun c_77 => ?_) (fun c_77 => ?_)
      · skip
        refine aw_aload_0 C dX9_factor_124 rfl ?_
        refine aw_cV0I C (s_X9_test hP hL) mf_X9_test mv_X9_test (sh_129) rfl ml_X9_187 dX9_factor_125 (by omega) (Nat.le_of_ble_eq_true rfl) (fun r_125 q_125 h_125 => ?_)
        obtain ⟨hP2, hF, h01, hv⟩ := h_125
        refine aw_istore_1 C dX9_factor_128 (by decide) (fun w h => by cases h <;> rfl) ?_
        refine aw_iload_1 C dX9_factor_129 ?_
        refine aw_iretZ C hR dX9_factor_130 (r01 h01) ?_
        have hn33 : ¬ (wi < 4 ∧ ch p = 33) := fun z => by first | omega | exact c_14 ⟨rfl, z.2⟩
        have hn40 : ¬ (wi < 4 ∧ ch p = 40) := fun z => by first | omega | exact c_77 ⟨rfl, z.2⟩
        have hz : pr ch (F + 1) 0 p wi = ((tstM ch true p).1, (tstM ch true p).2.1, [(tstM ch true p).2.2]) := by rw [pr_e0, if_neg hn33, if_neg hn40]
        rw [hz]
        exact ⟨hP2, hF, h01, fun ht => ⟨_, fun st => ev_tst tst_code st, hv ht⟩⟩
      · have hlt := hP.lt (j := p) (by omega)
        have hP1 := hP.at (p2 := p + 1) (by omega)
        have hP2 := hP1.wi (w2 := wi + 1) (by omega)
        have hF1 : Fr SPk q (sI (sI q 129 11 (nI (p + 1))) 129 13 (nI (wi + 1))) := (Fr.set (by unfold SPk; omega)).put (by unfold SPk; omega)
        refine aw_aload_0 C dX9_factor_80 rfl ?_
        refine aw_dup C dX9_factor_81 rfl ?_
        refine aw_g9_11 C hP.2.1 dX9_factor_82 fl_X9_157 ?_
        refine aw_iconst C dX9_factor_85 k1_1 ?_
        refine aw_iadd_n C dX9_factor_86  ?_
        refine aw_p9_11 C dX9_factor_87 fl_X9_157 ?_
        refine aw_aload_0 C dX9_factor_90 rfl ?_
        refine aw_dup C dX9_factor_91 rfl ?_
        refine aw_g9_13 C hP1.2.2.2.1 dX9_factor_92 fl_X9_178 ?_
        refine aw_iconst C dX9_factor_95 k1_1 ?_
        refine aw_iadd_n C dX9_factor_96  ?_
        refine aw_p9_13 C dX9_factor_97 fl_X9_178 ?_
        refine aw_aload_0 C dX9_factor_100 rfl ?_
        refine aw_cV0I C (HA _ ch n (p + 1) (wi + 1) hP2 (hF1.let' hL) (by omega)) mf_X9_any mv_X9_any (sh_129) rfl ml_X9_184 dX9_factor_101 (by unfold dfx; omega) (Nat.le_of_ble_eq_true rfl) (fun r_101 q_101 h_101 => ?_)
        obtain ⟨hP3, hF3, h01, hv⟩ := h_101
        have hb3 := hP3.bd
        refine aw_istore_1 C dX9_factor_104 (by decide) (fun w h => by cases h <;> rfl) ?_
        refine aw_aload_0 C dX9_factor_105 rfl ?_
        refine aw_dup C dX9_factor_106 rfl ?_
        refine aw_g9_13 C hP3.2.2.2.1 dX9_factor_107 fl_X9_178 ?_
        refine aw_iconst C dX9_factor_110 k1_1 ?_
        refine aw_isub_n C dX9_factor_111 (by omega) ?_
        refine aw_p9_13 C dX9_factor_112 fl_X9_178 ?_
        refine aw_aload_0 C dX9_factor_115 rfl ?_
        refine aw_bipush C dX9_factor_116 k2_41 ?_
        have hP4 := hP3.wi (w2 := wi) (by omega)
        refine aw_cV1V C (s_X9_takes _ hP4 (by omega)) mf_X9_takes mv_X9_takes (sh_129) rfl ml_X9_170 dX9_factor_118 (by omega) (Nat.le_of_ble_eq_true rfl) (fun q_118 h_118 => ?_)
        obtain ⟨hP5, hF5⟩ := h_118
        refine aw_goto C dX9_factor_121 (tgt := 129) (by decide) ?_
        refine aw_iload_1 C dX9_factor_129 ?_
        refine aw_iretZ C hR dX9_factor_130 (r01 h01) ?_
        have hn33 : ¬ (wi < 4 ∧ ch p = 33) := fun z => by have := c_77.2; omega
        have hz : pr ch (F + 1) 0 p wi = ((tk ch (pr ch F 3 (p + 1) (wi + 1)).1 (pr ch F 3 (p + 1) (wi + 1)).2.1 41).1, (tk ch (pr ch F 3 (p + 1) (wi + 1)).1 (pr ch F 3 (p + 1) (wi + 1)).2.1 41).2, (pr ch F 3 (p + 1) (wi + 1)).2.2) := by rw [pr_e0, if_neg hn33, if_pos ⟨by omega, c_77.2⟩]
        rw [hz]
        refine ⟨hP5, ((hF1.tr hF3).put (by unfold SPk; omega)).tr hF5, h01, fun ht => ?_⟩
        refine hv ?_
        revert ht
        unfold tk
        split
        · next h => exact fun _ => h.1
        · intro h
          cases h
    · have hlt := hP.lt (j := p) (by omega)
      have hP1 := hP.at (p2 := p + 1) (by omega)
      have hP2 := hP1.wi (w2 := wi + 1) (by omega)
      have hF1 : Fr SPk q (sI (sI q 129 11 (nI (p + 1))) 129 13 (nI (wi + 1))) := (Fr.set (by unfold SPk; omega)).put (by unfold SPk; omega)
      refine aw_aload_0 C dX9_factor_17 rfl ?_
      refine aw_dup C dX9_factor_18 rfl ?_
      refine aw_g9_11 C hP.2.1 dX9_factor_19 fl_X9_157 ?_
      refine aw_iconst C dX9_factor_22 k1_1 ?_
      refine aw_iadd_n C dX9_factor_23  ?_
      refine aw_p9_11 C dX9_factor_24 fl_X9_157 ?_
      refine aw_aload_0 C dX9_factor_27 rfl ?_
      refine aw_dup C dX9_factor_28 rfl ?_
      refine aw_g9_13 C hP1.2.2.2.1 dX9_factor_29 fl_X9_178 ?_
      refine aw_iconst C dX9_factor_32 k1_1 ?_
      refine aw_iadd_n C dX9_factor_33  ?_
      refine aw_p9_13 C dX9_factor_34 fl_X9_178 ?_
      refine aw_aload_0 C dX9_factor_37 rfl ?_
      refine aw_cV0I C (HF _ ch n (p + 1) (wi + 1) hP2 (hF1.let' hL) (by omega)) mf_X9_factor mv_X9_factor (sh_129) rfl ml_X9_181 dX9_factor_38 (by unfold dfx; omega) (Nat.le_of_ble_eq_true rfl) (fun r_38 q_38 h_38 => ?_)
      obtain ⟨hP3, hF3, h01, hv⟩ := h_38
      refine aw_if_ne C dX9_factor_41 (tgt := 48) (by decide)  (fun c_41 => ?_) (fun c_41 => ?_)
      · skip
        refine aw_iconst C dX9_factor_48 k1_0 ?_
        refine aw_istore_1 C dX9_factor_49 (by decide) (fun w h => by cases h <;> rfl) ?_
        refine aw_aload_0 C dX9_factor_50 rfl ?_
        refine aw_dup C dX9_factor_51 rfl ?_
        refine aw_g9_13 C hP3.2.2.2.1 dX9_factor_52 fl_X9_178 ?_
        refine aw_iconst C dX9_factor_55 k1_1 ?_
        refine aw_isub_n C dX9_factor_56 (by omega) ?_
        refine aw_p9_13 C dX9_factor_57 fl_X9_178 ?_
        refine aw_goto C dX9_factor_60 (tgt := 129) (by decide) ?_
        refine aw_iload_1 C dX9_factor_129 ?_
        refine aw_iretZ C hR dX9_factor_130 rfl ?_
        have hz : pr ch (F + 1) 0 p wi = ((pr ch F 0 (p + 1) (wi + 1)).1, (pr ch F 0 (p + 1) (wi + 1)).2.1, (pr ch F 0 (p + 1) (wi + 1)).2.2 ++ [3003]) := by rw [pr_e0, if_pos ⟨by omega, c_14.2⟩]
        rw [hz]
        refine ⟨hP3.wi (by omega), (hF1.tr hF3).put (by unfold SPk; omega), Or.inl rfl, fun ht => ?_⟩
        obtain ⟨b, hb1, rfl⟩ := hv ht
        refine ⟨!b, fun st => ?_, ?_⟩
        · rw [show gI q 137 = gI (sI (sI q 129 11 (nI (p + 1))) 129 13 (nI (wi + 1))) 137 from rfl, ev_app, hb1]
          rfl
        · rw [bP_b1 c_41]
          rfl
      · skip
        refine aw_iconst C dX9_factor_44 k1_1 ?_
        refine aw_goto C dX9_factor_45 (tgt := 49) (by decide) ?_
        refine aw_istore_1 C dX9_factor_49 (by decide) (fun w h => by cases h <;> rfl) ?_
        refine aw_aload_0 C dX9_factor_50 rfl ?_
        refine aw_dup C dX9_factor_51 rfl ?_
        refine aw_g9_13 C hP3.2.2.2.1 dX9_factor_52 fl_X9_178 ?_
        refine aw_iconst C dX9_factor_55 k1_1 ?_
        refine aw_isub_n C dX9_factor_56 (by omega) ?_
        refine aw_p9_13 C dX9_factor_57 fl_X9_178 ?_
        refine aw_goto C dX9_factor_60 (tgt := 129) (by decide) ?_
        refine aw_iload_1 C dX9_factor_129 ?_
        refine aw_iretZ C hR dX9_factor_130 rfl ?_
        have hz : pr ch (F + 1) 0 p wi = ((pr ch F 0 (p + 1) (wi + 1)).1, (pr ch F 0 (p + 1) (wi + 1)).2.1, (pr ch F 0 (p + 1) (wi + 1)).2.2 ++ [3003]) := by rw [pr_e0, if_pos ⟨by omega, c_14.2⟩]
        rw [hz]
        refine ⟨hP3.wi (by omega), (hF1.tr hF3).put (by unfold SPk; omega), Or.inr rfl, fun ht => ?_⟩
        obtain ⟨b, hb1, rfl⟩ := hv ht
        refine ⟨!b, fun st => ?_, ?_⟩
        · rw [show gI q 137 = gI (sI (sI q 129 11 (nI (p + 1))) 129 13 (nI (wi + 1))) 137 from rfl, ev_app, hb1]
          rfl
        · rw [bP_b c_41]
          rfl

/-- behind a part: what comes of it -/
def cont1 (ch : Nat → Nat) (F wi : Nat) (z : Bool × Nat × List Nat) : Bool × Nat × List Nat := if z.1 = true ∧ ch z.2.1 = 38 then ((pr ch F 2 (z.2.1 + 1) wi).1, (pr ch F 2 (z.2.1 + 1) wi).2.1, z.2.2 ++ (pr ch F 2 (z.2.1 + 1) wi).2.2) else z
theorem cont1_0 (ch : Nat → Nat) (F p wi : Nat) : pr ch (F + 1) 1 p wi = cont1 ch F wi (pr ch F 0 p wi) := rfl
theorem cont1_s (ch : Nat → Nat) (F wi : Nat) (z : Bool × Nat × List Nat) (h : z.1 = true ∧ ch z.2.1 = 38) : cont1 ch (F + 1) wi z = cont1 ch F wi ((pr ch F 0 (z.2.1 + 1) wi).1, (pr ch F 0 (z.2.1 + 1) wi).2.1, z.2.2 ++ ((pr ch F 0 (z.2.1 + 1) wi).2.2 ++ [3001])) := by
  unfold cont1
  rw [if_pos h, pr_e2]
  by_cases h2 : (pr ch F 0 (z.2.1 + 1) wi).1 = true ∧ ch (pr ch F 0 (z.2.1 + 1) wi).2.1 = 38
  · simp [h2]
  · simp [h2]

set_option maxRecDepth 100000 in
set_option maxHeartbeats 4000000 in
theorem s_X9_both_s {G : GT} {F : Nat} (HF : ∀ F2, F2 ≤ F → RFac G F2) {q : S_} {ch : Nat → Nat} {n p wi : Nat}  (hP : PS q ch n p true wi) (hL : LetC q) (hf : 6 * (n + 1 - p) + 2 < F + 1) : Spec G (dfx wi + 1) yX9_both cX9_both 3 (some .boolean) [rfn G 129] q (PI (PE ch n wi q (pr ch (F + 1) 1 p wi))) := by
  refine Spec.intro RX9 (by decide) rfl (Nat.le_of_ble_eq_true rfl) [some (rfn G 129), none, none] rfl ?_
  intro X d hd C hR
  have hb := hP.bd
  have hdx : 4 ≤ dfx wi := Nat.le_add_right _ _
  refine aw_aload_0 C dX9_both_0 rfl ?_
  refine aw_cV0I C (HF F (Nat.le_refl F) q ch n p wi hP hL (by omega)) mf_X9_factor mv_X9_factor (sh_129) rfl ml_X9_181 dX9_both_1 (by omega) (Nat.le_of_ble_eq_true rfl) (fun r_1 q_1 h_1 => ?_)
  obtain ⟨hP2, hF2, h01, hv⟩ := h_1
  refine aw_istore_1 C dX9_both_4 (by decide) (fun w h => by cases h <;> rfl) ?_
  have L5 : ∀ (F2 : Nat) (z : Bool × Nat × List Nat) (r : Int32) (q1 : S_), F2 ≤ F → PS q1 ch n z.2.1 z.1 wi → Fr SPk q q1 → (r = nI 0 ∨ r = nI 1) → (z.1 = true → ∃ b : Bool, (∀ st, ev (gI q 137) z.2.2 st = b :: st) ∧ r = bP (b = true)) → pr ch (F + 1) 1 p wi = cont1 ch F2 wi z → 6 * (n + 1 - (z.2.1 + 1)) + 2 < F2 → ∀ x2 : Option Value, (∀ w, x2 = some w → w.category = 1) → AW X G q1 5 [some (rfn G 129), some (.int r), x2] [] := by
    refine nat_loop (fun z r q1 h0 hP1 hF1 h01 hv hz hlt x2 hx2 => by omega) (fun F2 ih z r q1 h0 hP1 hF1 h01 hv hz hlt x2 hx2 => ?_)
    have hb1 := hP1.bd
    refine aw_aload_0 C dX9_both_5 rfl ?_
    refine aw_bipush C dX9_both_6 k2_38 ?_
    refine aw_cV1IE C (s_X9_isAt _ hP1 (by omega)) mf_X9_isAt mv_X9_isAt (sh_129) rfl ml_X9_163 dX9_both_8 (by omega) (Nat.le_of_ble_eq_true rfl) ?_
    refine aw_if_eq_b C dX9_both_11 (tgt := 46) (by decide)  (fun c_11 => ?_) (fun c_11 => ?_)
    · skip
      refine aw_iload_1 C dX9_both_46 ?_
      refine aw_iretZ C hR dX9_both_47 (r01 h01) ?_
      rw [hz, show cont1 ch (F2 + 1) wi z = z from if_neg c_11]
      exact ⟨hP1, hF1, h01, hv⟩
    · have hlt2 := hP1.lt (j := z.2.1) (by omega)
      have hP3 := hP1.at (p2 := z.2.1 + 1) (by omega)
      obtain ⟨b, hb2, rfl⟩ := hv c_11.1
      have hF3 : Fr SPk q (sI q1 129 11 (nI (z.2.1 + 1))) := hF1.put (by unfold SPk; omega)
      rw [c_11.1] at hP3
      refine aw_aload_0 C dX9_both_14 rfl ?_
      refine aw_dup C dX9_both_15 rfl ?_
      refine aw_g9_11 C hP1.2.1 dX9_both_16 fl_X9_157 ?_
      refine aw_iconst C dX9_both_19 k1_1 ?_
      refine aw_iadd_n C dX9_both_20  ?_
      refine aw_p9_11 C dX9_both_21 fl_X9_157 ?_
      refine aw_aload_0 C dX9_both_24 rfl ?_
      refine aw_cV0I C (HF F2 (by omega) _ ch n (z.2.1 + 1) wi hP3 (hF3.let' hL) (by omega)) mf_X9_factor mv_X9_factor (sh_129) rfl ml_X9_181 dX9_both_25 (by omega) (Nat.le_of_ble_eq_true rfl) (fun r_25 q_25 h_25 => ?_)
      obtain ⟨hP4, hF4, h014, hv4⟩ := h_25
      have hge := pr_ge ch F2 0 (z.2.1 + 1) wi
      refine aw_istore_2 C dX9_both_28 (by decide) (fun w h => by cases h <;> rfl) ?_
      refine aw_iload_1 C dX9_both_29 ?_
      refine aw_if_eq C dX9_both_30 (tgt := 41) (by decide)  (fun c_30 => ?_) (fun c_30 => ?_)
      · skip
        refine aw_iconst C dX9_both_41 k1_0 ?_
        refine aw_istore_1 C dX9_both_42 (by decide) (fun w h => by cases h <;> rfl) ?_
        refine aw_goto C dX9_both_43 (tgt := 5) (by decide) ?_
        have hzz := hz.trans (cont1_s ch F2 wi z c_11)
        refine ih ((pr ch F2 0 (z.2.1 + 1) wi).1, (pr ch F2 0 (z.2.1 + 1) wi).2.1, z.2.2 ++ ((pr ch F2 0 (z.2.1 + 1) wi).2.2 ++ [3001])) _ _ (by omega) hP4 (hF3.tr hF4) (Or.inl rfl) (fun ht => ?_) hzz (by simp only; omega) _ (fun w h => by cases h; rfl)
        obtain ⟨b4, hb4, rfl⟩ := hv4 ht
        rw [show gI (sI q1 129 11 (nI (z.2.1 + 1))) 137 = gI q 137 from funext fun j => hF3.2 137 j (by unfold SPk; omega)] at hb4
        refine ⟨b && b4, fun st => by rw [ev_app, ev_app, hb2, hb4]; rfl, ?_⟩
        rw [bP_b c_30]
        rfl
      · skip
        refine aw_iload_2 C dX9_both_33 ?_
        refine aw_if_eq C dX9_both_34 (tgt := 41) (by decide)  (fun c_34 => ?_) (fun c_34 => ?_)
        · skip
          refine aw_iconst C dX9_both_41 k1_0 ?_
          refine aw_istore_1 C dX9_both_42 (by decide) (fun w h => by cases h <;> rfl) ?_
          refine aw_goto C dX9_both_43 (tgt := 5) (by decide) ?_
          have hzz := hz.trans (cont1_s ch F2 wi z c_11)
          refine ih ((pr ch F2 0 (z.2.1 + 1) wi).1, (pr ch F2 0 (z.2.1 + 1) wi).2.1, z.2.2 ++ ((pr ch F2 0 (z.2.1 + 1) wi).2.2 ++ [3001])) _ _ (by omega) hP4 (hF3.tr hF4) (Or.inl rfl) (fun ht => ?_) hzz (by simp only; omega) _ (fun w h => by cases h; rfl)
          obtain ⟨b4, hb4, rfl⟩ := hv4 ht
          rw [show gI (sI q1 129 11 (nI (z.2.1 + 1))) 137 = gI q 137 from funext fun j => hF3.2 137 j (by unfold SPk; omega)] at hb4
          refine ⟨b && b4, fun st => by rw [ev_app, ev_app, hb2, hb4]; rfl, ?_⟩
          rw [bP_b c_34, Bool.and_false]
          rfl
        · skip
          refine aw_iconst C dX9_both_37 k1_1 ?_
          refine aw_goto C dX9_both_38 (tgt := 42) (by decide) ?_
          refine aw_istore_1 C dX9_both_42 (by decide) (fun w h => by cases h <;> rfl) ?_
          refine aw_goto C dX9_both_43 (tgt := 5) (by decide) ?_
          have hzz := hz.trans (cont1_s ch F2 wi z c_11)
          refine ih ((pr ch F2 0 (z.2.1 + 1) wi).1, (pr ch F2 0 (z.2.1 + 1) wi).2.1, z.2.2 ++ ((pr ch F2 0 (z.2.1 + 1) wi).2.2 ++ [3001])) _ _ (by omega) hP4 (hF3.tr hF4) (Or.inr rfl) (fun ht => ?_) hzz (by simp only; omega) _ (fun w h => by cases h; rfl)
          obtain ⟨b4, hb4, rfl⟩ := hv4 ht
          rw [show gI (sI q1 129 11 (nI (z.2.1 + 1))) 137 = gI q 137 from funext fun j => hF3.2 137 j (by unfold SPk; omega)] at hb4
          refine ⟨b && b4, fun st => by rw [ev_app, ev_app, hb2, hb4]; rfl, ?_⟩
          rw [bP_b1 c_30, bP_b1 c_34]
          rfl
  have hge := pr_ge ch F 0 p wi
  exact L5 F _ r_1 q_1 (Nat.le_refl F) hP2 hF2 h01 hv rfl (by omega) _ (fun w h => by cases h)

/-- behind a part: what comes of it -/
def cont3 (ch : Nat → Nat) (F wi : Nat) (z : Bool × Nat × List Nat) : Bool × Nat × List Nat := if z.1 = true ∧ ch z.2.1 = 124 then ((pr ch F 4 (z.2.1 + 1) wi).1, (pr ch F 4 (z.2.1 + 1) wi).2.1, z.2.2 ++ (pr ch F 4 (z.2.1 + 1) wi).2.2) else z
theorem cont3_0 (ch : Nat → Nat) (F p wi : Nat) : pr ch (F + 1) 3 p wi = cont3 ch F wi (pr ch F 1 p wi) := rfl
theorem cont3_s (ch : Nat → Nat) (F wi : Nat) (z : Bool × Nat × List Nat) (h : z.1 = true ∧ ch z.2.1 = 124) : cont3 ch (F + 1) wi z = cont3 ch F wi ((pr ch F 1 (z.2.1 + 1) wi).1, (pr ch F 1 (z.2.1 + 1) wi).2.1, z.2.2 ++ ((pr ch F 1 (z.2.1 + 1) wi).2.2 ++ [3002])) := by
  unfold cont3
  rw [if_pos h, pr_e4 ch F 0]
  by_cases h2 : (pr ch F 1 (z.2.1 + 1) wi).1 = true ∧ ch (pr ch F 1 (z.2.1 + 1) wi).2.1 = 124
  · simp [h2]
  · simp [h2]

set_option maxRecDepth 100000 in
set_option maxHeartbeats 4000000 in
theorem s_X9_any_s {G : GT} {F : Nat} (HF : ∀ F2, F2 ≤ F → RBot G F2) {q : S_} {ch : Nat → Nat} {n p wi : Nat}  (hP : PS q ch n p true wi) (hL : LetC q) (hf : 6 * (n + 1 - p) + 3 < F + 1) : Spec G (dfx wi + 2) yX9_any cX9_any 3 (some .boolean) [rfn G 129] q (PI (PE ch n wi q (pr ch (F + 1) 3 p wi))) := by
  refine Spec.intro RX9 (by decide) rfl (Nat.le_of_ble_eq_true rfl) [some (rfn G 129), none, none] rfl ?_
  intro X d hd C hR
  have hb := hP.bd
  have hdx : 4 ≤ dfx wi := Nat.le_add_right _ _
  refine aw_aload_0 C dX9_any_0 rfl ?_
  refine aw_cV0I C (HF F (Nat.le_refl F) q ch n p wi hP hL (by omega)) mf_X9_both mv_X9_both (sh_129) rfl ml_X9_190 dX9_any_1 (by omega) (Nat.le_of_ble_eq_true rfl) (fun r_1 q_1 h_1 => ?_)
  obtain ⟨hP2, hF2, h01, hv⟩ := h_1
  refine aw_istore_1 C dX9_any_4 (by decide) (fun w h => by cases h <;> rfl) ?_
  have L5 : ∀ (F2 : Nat) (z : Bool × Nat × List Nat) (r : Int32) (q1 : S_), F2 ≤ F → PS q1 ch n z.2.1 z.1 wi → Fr SPk q q1 → (r = nI 0 ∨ r = nI 1) → (z.1 = true → ∃ b : Bool, (∀ st, ev (gI q 137) z.2.2 st = b :: st) ∧ r = bP (b = true)) → pr ch (F + 1) 3 p wi = cont3 ch F2 wi z → 6 * (n + 1 - (z.2.1 + 1)) + 3 < F2 → ∀ x2 : Option Value, (∀ w, x2 = some w → w.category = 1) → AW X G q1 5 [some (rfn G 129), some (.int r), x2] [] := by
    refine nat_loop (fun z r q1 h0 hP1 hF1 h01 hv hz hlt x2 hx2 => by omega) (fun F2 ih z r q1 h0 hP1 hF1 h01 hv hz hlt x2 hx2 => ?_)
    have hb1 := hP1.bd
    refine aw_aload_0 C dX9_any_5 rfl ?_
    refine aw_bipush C dX9_any_6 k2_124 ?_
    refine aw_cV1IE C (s_X9_isAt _ hP1 (by omega)) mf_X9_isAt mv_X9_isAt (sh_129) rfl ml_X9_163 dX9_any_8 (by omega) (Nat.le_of_ble_eq_true rfl) ?_
    refine aw_if_eq_b C dX9_any_11 (tgt := 46) (by decide)  (fun c_11 => ?_) (fun c_11 => ?_)
    · skip
      refine aw_iload_1 C dX9_any_46 ?_
      refine aw_iretZ C hR dX9_any_47 (r01 h01) ?_
      rw [hz, show cont3 ch (F2 + 1) wi z = z from if_neg c_11]
      exact ⟨hP1, hF1, h01, hv⟩
    · have hlt2 := hP1.lt (j := z.2.1) (by omega)
      have hP3 := hP1.at (p2 := z.2.1 + 1) (by omega)
      obtain ⟨b, hb2, rfl⟩ := hv c_11.1
      have hF3 : Fr SPk q (sI q1 129 11 (nI (z.2.1 + 1))) := hF1.put (by unfold SPk; omega)
      rw [c_11.1] at hP3
      refine aw_aload_0 C dX9_any_14 rfl ?_
      refine aw_dup C dX9_any_15 rfl ?_
      refine aw_g9_11 C hP1.2.1 dX9_any_16 fl_X9_157 ?_
      refine aw_iconst C dX9_any_19 k1_1 ?_
      refine aw_iadd_n C dX9_any_20  ?_
      refine aw_p9_11 C dX9_any_21 fl_X9_157 ?_
      refine aw_aload_0 C dX9_any_24 rfl ?_
      refine aw_cV0I C (HF F2 (by omega) _ ch n (z.2.1 + 1) wi hP3 (hF3.let' hL) (by omega)) mf_X9_both mv_X9_both (sh_129) rfl ml_X9_190 dX9_any_25 (by omega) (Nat.le_of_ble_eq_true rfl) (fun r_25 q_25 h_25 => ?_)
      obtain ⟨hP4, hF4, h014, hv4⟩ := h_25
      have hge := pr_ge ch F2 1 (z.2.1 + 1) wi
      refine aw_istore_2 C dX9_any_28 (by decide) (fun w h => by cases h <;> rfl) ?_
      refine aw_iload_1 C dX9_any_29 ?_
      refine aw_if_ne C dX9_any_30 (tgt := 37) (by decide)  (fun c_30 => ?_) (fun c_30 => ?_)
      · skip
        refine aw_iconst C dX9_any_37 k1_1 ?_
        refine aw_goto C dX9_any_38 (tgt := 42) (by decide) ?_
        refine aw_istore_1 C dX9_any_42 (by decide) (fun w h => by cases h <;> rfl) ?_
        refine aw_goto C dX9_any_43 (tgt := 5) (by decide) ?_
        have hzz := hz.trans (cont3_s ch F2 wi z c_11)
        refine ih ((pr ch F2 1 (z.2.1 + 1) wi).1, (pr ch F2 1 (z.2.1 + 1) wi).2.1, z.2.2 ++ ((pr ch F2 1 (z.2.1 + 1) wi).2.2 ++ [3002])) _ _ (by omega) hP4 (hF3.tr hF4) (Or.inr rfl) (fun ht => ?_) hzz (by simp only; omega) _ (fun w h => by cases h; rfl)
        obtain ⟨b4, hb4, rfl⟩ := hv4 ht
        rw [show gI (sI q1 129 11 (nI (z.2.1 + 1))) 137 = gI q 137 from funext fun j => hF3.2 137 j (by unfold SPk; omega)] at hb4
        refine ⟨b || b4, fun st => by rw [ev_app, ev_app, hb2, hb4]; rfl, ?_⟩
        rw [bP_b1 c_30]
        rfl
      · skip
        refine aw_iload_2 C dX9_any_33 ?_
        refine aw_if_eq C dX9_any_34 (tgt := 41) (by decide)  (fun c_34 => ?_) (fun c_34 => ?_)
        · skip
          refine aw_iconst C dX9_any_41 k1_0 ?_
          refine aw_istore_1 C dX9_any_42 (by decide) (fun w h => by cases h <;> rfl) ?_
          refine aw_goto C dX9_any_43 (tgt := 5) (by decide) ?_
          have hzz := hz.trans (cont3_s ch F2 wi z c_11)
          refine ih ((pr ch F2 1 (z.2.1 + 1) wi).1, (pr ch F2 1 (z.2.1 + 1) wi).2.1, z.2.2 ++ ((pr ch F2 1 (z.2.1 + 1) wi).2.2 ++ [3002])) _ _ (by omega) hP4 (hF3.tr hF4) (Or.inl rfl) (fun ht => ?_) hzz (by simp only; omega) _ (fun w h => by cases h; rfl)
          obtain ⟨b4, hb4, rfl⟩ := hv4 ht
          rw [show gI (sI q1 129 11 (nI (z.2.1 + 1))) 137 = gI q 137 from funext fun j => hF3.2 137 j (by unfold SPk; omega)] at hb4
          refine ⟨b || b4, fun st => by rw [ev_app, ev_app, hb2, hb4]; rfl, ?_⟩
          rw [bP_b c_30, bP_b c_34]
          rfl
        · skip
          refine aw_iconst C dX9_any_37 k1_1 ?_
          refine aw_goto C dX9_any_38 (tgt := 42) (by decide) ?_
          refine aw_istore_1 C dX9_any_42 (by decide) (fun w h => by cases h <;> rfl) ?_
          refine aw_goto C dX9_any_43 (tgt := 5) (by decide) ?_
          have hzz := hz.trans (cont3_s ch F2 wi z c_11)
          refine ih ((pr ch F2 1 (z.2.1 + 1) wi).1, (pr ch F2 1 (z.2.1 + 1) wi).2.1, z.2.2 ++ ((pr ch F2 1 (z.2.1 + 1) wi).2.2 ++ [3002])) _ _ (by omega) hP4 (hF3.tr hF4) (Or.inr rfl) (fun ht => ?_) hzz (by simp only; omega) _ (fun w h => by cases h; rfl)
          obtain ⟨b4, hb4, rfl⟩ := hv4 ht
          rw [show gI (sI q1 129 11 (nI (z.2.1 + 1))) 137 = gI q 137 from funext fun j => hF3.2 137 j (by unfold SPk; omega)] at hb4
          refine ⟨b || b4, fun st => by rw [ev_app, ev_app, hb2, hb4]; rfl, ?_⟩
          rw [bP_b1 c_34, Bool.or_true]
          rfl
  have hge := pr_ge ch F 1 p wi
  exact L5 F _ r_1 q_1 (Nat.le_refl F) hP2 hF2 h01 hv rfl (by omega) _ (fun w h => by cases h)

theorem RAll (G : GT) : ∀ F, (∀ F2, F2 ≤ F → RFac G F2) ∧ (∀ F2, F2 ≤ F → RBot G F2) ∧ (∀ F2, F2 ≤ F → RAny G F2) := by
  intro F
  induction F with
  | zero =>
    refine ⟨?_, ?_, ?_⟩ <;> (intro F2 h q ch n p wi hP hL hf; omega)
  | succ F ih =>
    obtain ⟨i1, i2, i3⟩ := ih
    refine ⟨fun F2 h => ?_, fun F2 h => ?_, fun F2 h => ?_⟩
    · rcases Nat.lt_or_ge F2 (F + 1) with z | z
      · exact i1 F2 (by omega)
      · obtain rfl : F2 = F + 1 := by omega
        exact fun q ch n p wi hP hL hf => s_X9_factor_s (i1 F (Nat.le_refl F)) (i3 F (Nat.le_refl F)) hP hL hf
    · rcases Nat.lt_or_ge F2 (F + 1) with z | z
      · exact i2 F2 (by omega)
      · obtain rfl : F2 = F + 1 := by omega
        exact fun q ch n p wi hP hL hf => s_X9_both_s i1 hP hL hf
    · rcases Nat.lt_or_ge F2 (F + 1) with z | z
      · exact i3 F2 (by omega)
      · obtain rfl : F2 = F + 1 := by omega
        exact fun q ch n p wi hP hL hf => s_X9_any_s i2 hP hL hf

theorem s_X9_any {G : GT} {q : S_} {ch : Nat → Nat} {n p wi : Nat} {w : Bool} (hP : PS q ch n p w wi) (hL : LetC q) : Spec G (dfx wi + 2) yX9_any cX9_any 3 (some .boolean) [rfn G 129] q (PI (PE ch n wi q (if w = true then pr ch 1000 3 p wi else (false, p, [])))) := by
  have hb := hP.bd
  cases w with
  | true =>
    rw [if_pos rfl]
    exact (RAll G 1000).2.2 1000 (Nat.le_refl _) q ch n p wi hP hL (by omega)
  | false =>
    rw [if_neg (by decide)]
    refine ((s_X9_any_f hP hL).up (by unfold dfx; omega)).mono ?_
    rintro v q2 ⟨r, rfl, h1, h2, h3⟩
    exact ⟨r, rfl, h1, h2, h3, fun z => by cases z⟩
