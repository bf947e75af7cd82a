/-! THE ORDER STAYS -/
def LST (M : Nat → Nat) : Prop := M 93 % 2 = 1 → M (4 * (M 93 - 1) + 2) = 99
def GOK2 (g : GS) : Prop := GOK g ∧ LST (gM g) ∧ (gK g = true → LST (gJ g))
theorem GOK2.m {g : GS} {M2 : Nat → Nat} (h : GOK2 g) (hW : WF M2) (h95 : M2 95 = gM g 95) (h94 : M2 94 ≤ 9999) (hS : SYM M2) (hL : LST M2) : GOK2 (M2, g.2) := by
  obtain ⟨⟨hW0, hCy, h95', hN6, h94', hK, hT1, hT2, hTp, hR1, hSy, hSyJ⟩, hL0, hLJ⟩ := h
  exact ⟨⟨hW, hCy, Nat.le_trans (Nat.le_of_eq h95) h95', hN6, h94, hK, hT1, hT2, hTp, hR1, hS, hSyJ⟩, hL, hLJ⟩
theorem SYM.of {M M2 : Nat → Nat} (h : SYM M) (hW : WF M) (e93 : M2 93 = M 93) (e : ∀ b, b < M 93 → M2 (4 * b + 2) = M (4 * b + 2)) : SYM M2 := by
  intro b hb hn
  rw [e93] at hb
  rw [e b hb] at hn ⊢
  have hh := h b hb hn
  have hw := hW.b hb
  rw [e (M (4 * b + 2)) (by omega)]
  exact hh
theorem LST.of {M M2 : Nat → Nat} (h : LST M) (e93 : M2 93 = M 93) (e : ∀ b, b < M 93 → M2 (4 * b + 2) = M (4 * b + 2)) : LST M2 := by
  intro ho
  rw [e93] at ho ⊢
  rw [e _ (by omega)]
  exact h ho
/-- only numbers behind the bridges', the hour aside -/
theorem GOK2.p {g : GS} {M2 : Nat → Nat} (h : GOK2 g) (hW : WF M2) (e : ∀ j, (j < 32 ∧ j % 4 = 2) ∨ (93 ≤ j ∧ j ≤ 95) → M2 j = gM g j) : GOK2 (M2, g.2) := by
  have hc := h.1.1.c
  refine h.m hW (e 95 (by omega)) ?_ (h.1.2.2.2.2.2.2.2.2.2.2.1.of h.1.1 (e 93 (by omega)) (fun b hb => e _ (by omega))) (h.2.1.of (e 93 (by omega)) (fun b hb => e _ (by omega)))
  rw [e 94 (by omega)]
  exact h.1.2.2.2.2.1
theorem pow_le2 {a b : Nat} (h : a ≤ b) : 2 ^ a ≤ 2 ^ b := Nat.pow_le_pow_right (by decide) h
theorem addB_o {M : Nat → Nat} {x y j : Nat} (h8 : M 93 < 8) (h1 : 32 ≤ j) (h2 : j ≠ 93) : addB M x y j = M j := by
  unfold addB
  rw [mu_ne h2]
  unfold addB3
  split
  · rw [mu_ne (by omega)]
    unfold addB2
    rw [mu_ne (by omega), mu_ne (by omega), mu_ne (by omega), mu_ne (by omega)]
  · unfold addB2
    rw [mu_ne (by omega), mu_ne (by omega), mu_ne (by omega), mu_ne (by omega)]
theorem addB_93 {M : Nat → Nat} {x y : Nat} (h8 : M 93 < 8) : addB M x y 93 = M 93 + 1 := by
  unfold addB
  rw [mu_eq]
  unfold addB3
  split
  · rw [mu_ne (by omega)]
    unfold addB2
    rw [mu_ne (by omega), mu_ne (by omega), mu_ne (by omega), mu_ne (by omega)]
  · unfold addB2
    rw [mu_ne (by omega), mu_ne (by omega), mu_ne (by omega), mu_ne (by omega)]
theorem addB_b {M : Nat → Nat} {x y b w : Nat} (h8 : M 93 < 8) (hb : b ≤ M 93) (hw : w < 4) : addB M x y (4 * b + w) = if b = M 93 then (if w = 0 then x else if w = 1 then y else if w = 2 then (if M 93 % 2 = 1 then M 93 - 1 else 99) else 0) else if w = 2 ∧ b + 1 = M 93 ∧ M 93 % 2 = 1 then M 93 else M (4 * b + w) := by
  unfold addB
  rw [mu_ne (by omega)]
  unfold addB3
  by_cases ho : M 93 % 2 = 1
  · rw [if_pos ho, if_pos ho]
    unfold addB2
    rw [if_pos ho]
    unfold mu
    repeat' split
    all_goals first | rfl | omega
  · rw [if_neg ho, if_neg ho]
    unfold addB2
    rw [if_neg ho]
    unfold mu
    repeat' split
    all_goals first | rfl | omega
theorem addB_WF {M : Nat → Nat} {x y : Nat} (hW : WF M) (h8 : M 93 < 8) (hx : x < 6) (hy : y < 6) : WF (addB M x y) := by
  have e : ∀ j, 32 ≤ j → j ≠ 93 → addB M x y j = M j := fun j => addB_o h8
  have e93 : addB M x y 93 = M 93 + 1 := addB_93 h8
  have eb : ∀ b w, b ≤ M 93 → w < 4 → _ := fun b w => addB_b (M := M) (x := x) (y := y) (b := b) (w := w) h8
  have hc := hW.c
  refine ⟨?_, fun b hb => ?_, fun i hi => ?_, fun r hr => ?_, fun r hr => ?_, fun r hr => ?_, fun i hi => ?_⟩
  · rw [e93, e 92 (by omega) (by omega), e 94 (by omega) (by omega), e 95 (by omega) (by omega), e 96 (by omega) (by omega), e 112 (by omega) (by omega), e 129 (by omega) (by omega)]
    omega
  · rw [e93] at hb ⊢
    rw [eb b 0 (by omega) (by omega), eb b 1 (by omega) (by omega), eb b 2 (by omega) (by omega), eb b 3 (by omega) (by omega)]
    by_cases ez : b = M 93
    · simp only [if_pos ez]
      refine ⟨by simpa using hx, by simpa using hy, ?_, by simp⟩
      simp only [if_neg (show ¬ (2 : Nat) = 0 by decide), if_neg (show ¬ (2 : Nat) = 1 by decide), if_pos (show (2 : Nat) = 2 from rfl)]
      by_cases ho : M 93 % 2 = 1
      · simp only [if_pos ho]
        right
        show M 93 - 1 < M 93 + 1
        omega
      · simp only [if_neg ho]
        exact Or.inl rfl
    · have a := hW.b (show b < M 93 by omega)
      simp only [if_neg ez]
      refine ⟨?_, ?_, ?_, ?_⟩
      · rw [if_neg (by omega)]; exact a.2.1
      · rw [if_neg (by omega)]; exact a.2.2.1
      · split <;> omega
      · rw [if_neg (by omega)]; exact a.2.2.2.2
  · rw [e 92 (by omega) (by omega)] at hi
    have a := hW.p hi
    rw [e (32 + 10 * i + 0) (by omega) (by omega), e (32 + 10 * i + 1) (by omega) (by omega), e (32 + 10 * i + 2) (by omega) (by omega), e (32 + 10 * i + 3) (by omega) (by omega), e (32 + 10 * i + 4) (by omega) (by omega), e (32 + 10 * i + 5) (by omega) (by omega), e93]
    have hp := pow_le2 (show M 93 ≤ M 93 + 1 by omega)
    exact ⟨a.2.1, a.2.2.1, a.2.2.2.1, a.2.2.2.2.1, a.2.2.2.2.2.1, by have := a.2.2.2.2.2.2.1; omega, fun r hr => by rw [e _ (by omega) (by omega)]; exact a.2.2.2.2.2.2.2 r hr⟩
  · rw [e 96 (by omega) (by omega)] at hr
    rw [e 92 (by omega) (by omega), e _ (by omega) (by omega), e _ (by omega) (by omega), e _ (by omega) (by omega)]
    exact hW.2.2.2.1 r hr
  · rw [e 112 (by omega) (by omega)] at hr
    have a := hW.2.2.2.2.1 r hr
    rw [e 92 (by omega) (by omega), e93, e _ (by omega) (by omega), e _ (by omega) (by omega)]
    exact ⟨a.1, fun z => by have := a.2.1 z; omega, a.2.2⟩
  · rw [e 129 (by omega) (by omega)] at hr
    rw [e 92 (by omega) (by omega), e _ (by omega) (by omega), e _ (by omega) (by omega)]
    exact hW.2.2.2.2.2.1 r hr
  · rw [e _ (by omega) (by omega)]
    exact hW.2.2.2.2.2.2 i hi
theorem addB_s {M : Nat → Nat} {x y b : Nat} (h8 : M 93 < 8) (hb : b ≤ M 93) : addB M x y (4 * b + 2) = if b = M 93 then (if M 93 % 2 = 1 then M 93 - 1 else 99) else if b + 1 = M 93 ∧ M 93 % 2 = 1 then M 93 else M (4 * b + 2) := by
  rw [addB_b h8 hb (by decide)]
  simp
theorem addB_SL {M : Nat → Nat} {x y : Nat} (hW : WF M) (hS : SYM M) (hL : LST M) (h8 : M 93 < 8) : SYM (addB M x y) ∧ LST (addB M x y) := by
  have hc := hW.c
  have es : ∀ b, b ≤ M 93 → _ := fun b => addB_s (M := M) (x := x) (y := y) (b := b) h8
  constructor
  · intro b hb hn
    rw [addB_93 h8] at hb
    have e1 := es b (by omega)
    rw [e1] at hn ⊢
    by_cases ez : b = M 93
    · rw [if_pos ez] at hn ⊢
      by_cases ho : M 93 % 2 = 1
      · rw [if_pos ho] at hn ⊢
        rw [es _ (by omega), if_neg (by omega), if_pos ⟨by omega, ho⟩]
        omega
      · rw [if_neg ho] at hn
        exact absurd rfl hn
    · rw [if_neg ez] at hn ⊢
      by_cases e2 : b + 1 = M 93 ∧ M 93 % 2 = 1
      · rw [if_pos e2] at hn ⊢
        rw [es _ (by omega), if_pos rfl, if_pos e2.2]
        omega
      · rw [if_neg e2] at hn ⊢
        have h1 := hS b (by omega) hn
        have h2 := hW.b (show b < M 93 by omega)
        rw [es _ (by omega), if_neg (by omega)]
        by_cases e3 : M (4 * b + 2) + 1 = M 93 ∧ M 93 % 2 = 1
        · exfalso
          have h3 := hL e3.2
          rw [show M 93 - 1 = M (4 * b + 2) by omega, h1.2] at h3
          omega
        · rw [if_neg e3]
          exact h1
  · intro ho
    rw [addB_93 h8] at ho ⊢
    rw [Nat.add_sub_cancel, es _ (Nat.le_refl _), if_pos rfl, if_neg (by omega)]
theorem ok_bridge {g : GS} (h : GOK2 g) (x y : Int32) : GOK2 (f_bridge g x y).2 := by
  unfold f_bridge
  split
  · exact h
  · next h1 =>
    split
    · exact h
    · split
      · exact h
      · next h3 =>
        obtain ⟨hx, hy⟩ := Decidable.not_not.mp h1
        have hc := h.1.1.c
        have h8 : gM g 93 < 8 := by omega
        have hSL := addB_SL (x := u32 x) (y := u32 y) h.1.1 h.1.2.2.2.2.2.2.2.2.2.2.1 h.2.1 h8
        exact h.m (addB_WF h.1.1 h8 hx.2 hy.2) (addB_o h8 (by omega) (by omega)) (by rw [addB_o h8 (by omega) (by omega)]; exact h.1.2.2.2.2.1) hSL.1 hSL.2
theorem addP_v {M : Nat → Nat} {k v x j : Nat} (h6 : M 92 < 6) : addP M k v x j = if j = 92 then M 92 + 1 else if j = 32 + 10 * M 92 + 4 then 99 else if j = 32 + 10 * M 92 + 3 then x else if j = 32 + 10 * M 92 + 2 then x else if j = 32 + 10 * M 92 + 1 then v else if j = 32 + 10 * M 92 + 0 then k else if 32 + 10 * M 92 ≤ j ∧ j < 32 + 10 * M 92 + 10 then 0 else M j := by
  have hz : zM M (M 92) 10 j = if 32 + 10 * M 92 ≤ j ∧ j < 32 + 10 * M 92 + 10 then 0 else M j := by
    have key : ∀ n, n ≤ 10 → zM M (M 92) n j = if 32 + 10 * M 92 ≤ j ∧ j < 32 + 10 * M 92 + n then 0 else M j := by
      intro n
      induction n with
      | zero => intro _; exact (if_neg (by omega)).symm
      | succ n ih =>
        intro hn
        show mu (zM M (M 92) n) (32 + 10 * M 92 + n) 0 j = _
        unfold mu
        rw [ih (by omega)]
        repeat' split
        all_goals first | rfl | omega
    exact key 10 (Nat.le_refl _)
  unfold addP
  unfold mu
  rw [hz]
theorem addP_o {M : Nat → Nat} {k v x j : Nat} (h6 : M 92 < 6) (hj : ¬ (32 + 10 * M 92 ≤ j ∧ j < 32 + 10 * M 92 + 10)) (h92 : j ≠ 92) : addP M k v x j = M j := by
  rw [addP_v h6, if_neg h92, if_neg (by omega), if_neg (by omega), if_neg (by omega), if_neg (by omega), if_neg (by omega), if_neg hj]
theorem addP_92 {M : Nat → Nat} {k v x : Nat} (h6 : M 92 < 6) : addP M k v x 92 = M 92 + 1 := by rw [addP_v h6, if_pos rfl]
theorem addP_WF {M : Nat → Nat} {k v x : Nat} (hW : WF M) (h6 : M 92 < 6) (hk : k < 7) (hv : v < 10) (hx : x < 6) : WF (addP M k v x) := by
  have e : ∀ j, ¬ (32 + 10 * M 92 ≤ j ∧ j < 32 + 10 * M 92 + 10) → j ≠ 92 → addP M k v x j = M j := fun j => addP_o h6
  have e92 : addP M k v x 92 = M 92 + 1 := addP_92 h6
  have hc := hW.c
  have hpw : 0 < 2 ^ M 93 := Nat.pow_pos (by decide)
  refine ⟨?_, fun b hb => ?_, fun i hi => ?_, fun r hr => ?_, fun r hr => ?_, fun r hr => ?_, fun i hi => ?_⟩
  · rw [e92, e 93 (by omega) (by omega), e 94 (by omega) (by omega), e 95 (by omega) (by omega), e 96 (by omega) (by omega), e 112 (by omega) (by omega), e 129 (by omega) (by omega)]
    omega
  · rw [e 93 (by omega) (by omega)] at hb ⊢
    rw [e _ (by omega) (by omega), e _ (by omega) (by omega), e _ (by omega) (by omega), e _ (by omega) (by omega)]
    exact hW.2.1 b hb
  · rw [e92] at hi
    rw [e 93 (by omega) (by omega)]
    by_cases ez : i = M 92
    · subst ez
      have p : ∀ w, addP M k v x (32 + 10 * M 92 + w) = _ := fun w => addP_v h6
      refine ⟨?_, ?_, ?_, ?_, ?_, ?_, fun r hr => ?_⟩
      · rw [p, if_neg (by omega), if_neg (by omega), if_neg (by omega), if_neg (by omega), if_neg (by omega), if_pos rfl]; exact hk
      · rw [p, if_neg (by omega), if_neg (by omega), if_neg (by omega), if_neg (by omega), if_pos rfl]; exact hv
      · rw [p, if_neg (by omega), if_neg (by omega), if_neg (by omega), if_pos rfl]; exact hx
      · rw [p, if_neg (by omega), if_neg (by omega), if_pos rfl]; exact hx
      · rw [p, if_neg (by omega), if_pos rfl]; exact Or.inl rfl
      · rw [p, if_neg (by omega), if_neg (by omega), if_neg (by omega), if_neg (by omega), if_neg (by omega), if_neg (by omega), if_pos (by omega)]; exact hpw
      · rw [p, if_neg (by omega), if_neg (by omega), if_neg (by omega), if_neg (by omega), if_neg (by omega), if_neg (by omega), if_pos (by omega)]; decide
    · have a := hW.p (show i < M 92 by omega)
      rw [e (32 + 10 * i + 0) (by omega) (by omega), e (32 + 10 * i + 1) (by omega) (by omega), e (32 + 10 * i + 2) (by omega) (by omega), e (32 + 10 * i + 3) (by omega) (by omega), e (32 + 10 * i + 4) (by omega) (by omega), e (32 + 10 * i + 5) (by omega) (by omega)]
      exact ⟨a.2.1, a.2.2.1, a.2.2.2.1, a.2.2.2.2.1, a.2.2.2.2.2.1, a.2.2.2.2.2.2.1, fun r hr => by rw [e _ (by omega) (by omega)]; exact a.2.2.2.2.2.2.2 r hr⟩
  · rw [e 96 (by omega) (by omega)] at hr
    have a := hW.2.2.2.1 r hr
    rw [e92, e _ (by omega) (by omega), e _ (by omega) (by omega), e _ (by omega) (by omega)]
    omega
  · rw [e 112 (by omega) (by omega)] at hr
    have a := hW.2.2.2.2.1 r hr
    rw [e92, e 93 (by omega) (by omega), e _ (by omega) (by omega), e _ (by omega) (by omega)]
    exact ⟨a.1, a.2.1, fun z => by have := a.2.2 z; omega⟩
  · rw [e 129 (by omega) (by omega)] at hr
    have a := hW.2.2.2.2.2.1 r hr
    rw [e92, e _ (by omega) (by omega), e _ (by omega) (by omega)]
    omega
  · by_cases ez : i = M 92
    · subst ez
      rw [addP_v h6, if_neg (by omega), if_neg (by omega), if_neg (by omega), if_neg (by omega), if_neg (by omega), if_neg (by omega), if_pos (by omega)]
      decide
    · rw [e _ (by omega) (by omega)]
      exact hW.2.2.2.2.2.2 i hi
theorem ok_one {g : GS} (h : GOK2 g) (k v x : Int32) : GOK2 (f_one g k v x).2 := by
  unfold f_one
  split
  · exact h
  · next h1 =>
    split
    · exact h
    · next h2 =>
      split
      · exact h
      · next h3 =>
        obtain ⟨hk, hx⟩ := Decidable.not_not.mp h1
        have hv := Decidable.not_not.mp h2
        have hc := h.1.1.c
        have h6 : gM g 92 < 6 := by omega
        exact h.p (addP_WF h.1.1 h6 hk.2 hv.2 hx.2) (fun j hj => addP_o h6 (by omega) (by omega))
theorem oN_ok {x : Int32} (h : x = -1 ∨ inN x 6) : oN x = 99 ∨ oN x < 6 := by
  unfold oN
  split
  · exact Or.inl rfl
  · next e => exact Or.inr (h.resolve_left e).2
theorem ok_errand {g : GS} (h : GOK2 g) (p x : Int32) : GOK2 (f_errand g p x).2 := by
  unfold f_errand
  split
  · next h1 =>
    have hp := (h.1.1.p h1.1.2).1
    exact h.p (h.1.1.per h1.1.2 (by omega) (by omega) (by omega) (by omega) (by omega) (fun _ => oN_ok h1.2) (by omega) (by omega)) (fun j hj => mu_ne (by omega))
  · exact h
theorem ok_lose {g : GS} (h : GOK2 g) (b : Int32) (z : Bool) : GOK2 (f_lose g b z).2 := by
  unfold f_lose
  split
  · next h1 =>
    have hb : u32 b < 8 := (h.1.1.b h1.2).1
    exact h.p (h.1.1.lost h1.2 (by split <;> decide)) (fun j hj => mu_ne (by omega))
  · exact h
theorem ok_swap {g : GS} (h : GOK2 g) (a b : Int32) : GOK2 (f_swap g a b).2 := by
  unfold f_swap
  split
  · exact h
  · next h1 =>
    split
    · exact h
    · next h2 =>
      obtain ⟨ha, hb⟩ := Decidable.not_not.mp h1
      have hp := Decidable.not_not.mp h2
      have hS := h.1.2.2.2.2.2.2.2.2.2.2.1
      have hc := h.1.1.c
      have h3 := swM_WF h.1.1 hS ha.2 hb.2 hp
      have ho := swM_o h.1.1 hS ha.2 hb.2 hp
      refine h.m h3.1 (ho 95 (by omega)) (by rw [ho 94 (by omega)]; exact h.1.2.2.2.2.1) h3.2 (fun hodd => ?_)
      rw [ho 93 (by omega)] at hodd ⊢
      have hl := h.2.1 hodd
      obtain ⟨m, t, e1, e2, hm, ht, f1, f2, d1, d2, d3, d4, d5, d6⟩ := sw_facts h.1.1 hS ha.2 hb.2 hp
      have ha2 := ha.2
      have hb2 := hb.2
      have q1 : gM g 93 - 1 ≠ u32 a := fun z => by rw [z, e1] at hl; omega
      have q2 : gM g 93 - 1 ≠ u32 b := fun z => by rw [z, e2] at hl; omega
      have q3 : gM g 93 - 1 ≠ m := fun z => by rw [z, f1] at hl; omega
      have q4 : gM g 93 - 1 ≠ t := fun z => by rw [z, f2] at hl; omega
      unfold swM
      rw [e1, e2, mu_ne (by omega), mu_ne (by omega), mu_ne (by omega), mu_ne (by omega)]
      exact hl
theorem ok_row {g : GS} (h : GOK2 g) (p k n : Int32) : GOK2 (f_row g p k n).2 := by
  unfold f_row
  split
  · exact h
  · next h1 =>
    split
    · exact h
    · next h2 =>
      split
      · obtain ⟨hp, hk⟩ := Decidable.not_not.mp h1
        have hn := (Decidable.not_not.mp h2).2
        have hk2 : u32 k < 4 := hk.2
        have hp1 : u32 p < 6 := (h.1.1.p hp.2).1
        exact h.p (h.1.1.per hp.2 (by omega) (by omega) (by omega) (by omega) (by omega) (by omega) (by omega) (fun _ => hn)) (fun j hj => mu_ne (by omega))
      · exact h
theorem ok_cross {g : GS} (h : GOK2 g) (p b : Int32) : GOK2 (f_cross g p b).2 := by
  unfold f_cross
  split
  · exact h
  · next h1 =>
    split
    · exact h
    · next h2 =>
      obtain ⟨hp, hb⟩ := Decidable.not_not.mp h1
      have hp1 := (h.1.1.p hp.2).1
      exact h.p (crossM_WF h.1.1 hp.2 hb.2 (Decidable.not_not.mp h2).1) (fun j hj => crossM_hi hp1 (by omega))
theorem ok_pass {g : GS} (h : GOK2 g) (n : Int32) : GOK2 (f_pass g n).2 := by
  unfold f_pass
  split
  · exact h
  · next h1 =>
    split
    · exact h
    · next h2 =>
      have hn := (Decidable.not_not.mp h1).2
      have h9 := h.1.2.2.2.2.1
      have ho := hoursM_ok (cts := gC g) h.1.1 (u32 n) (by omega)
      have hc := h.1.1.c
      exact h.m ho.1 (ho.2.2 95 (by omega)) (by rw [ho.2.1]; omega) (h.1.2.2.2.2.2.2.2.2.2.2.1.of h.1.1 (ho.2.2 93 (by omega)) (fun b hb => ho.2.2 _ (by omega))) (h.2.1.of (ho.2.2 93 (by omega)) (fun b hb => ho.2.2 _ (by omega)))
/-- numbers from 96 on that keep to what is told -/
theorem WF.told {M M2 : Nat → Nat} (h : WF M) (e : ∀ j, j < 96 → M2 j = M j) (h96 : M2 96 ≤ 5) (h112 : M2 112 ≤ 8) (h129 : M2 129 ≤ 8)
    (hs : ∀ r, r < M2 96 → M2 (97 + 3 * r) < M 92 ∧ M2 (97 + 3 * r + 1) ≤ 8 ∧ M2 (97 + 3 * r + 2) < 6)
    (hp : ∀ r, r < M2 112 → M2 (113 + 2 * r) < 4 ∧ (M2 (113 + 2 * r) = 1 ∨ M2 (113 + 2 * r) = 2 → M2 (114 + 2 * r) < M 93) ∧ (M2 (113 + 2 * r) = 3 → M2 (114 + 2 * r) < M 92))
    (hb : ∀ r, r < M2 129 → M2 (130 + 2 * r) < M 92 ∧ M2 (131 + 2 * r) < 6) : WF M2 := by
  have hc := h.c
  refine ⟨?_, fun b hb => ?_, fun i hi => ?_, ?_, ?_, ?_, fun i hi => ?_⟩
  · rw [e 93 (by omega), e 92 (by omega), e 94 (by omega), e 95 (by omega)]
    omega
  · rw [e 93 (by omega)] at hb ⊢
    rw [e _ (by omega), e _ (by omega), e _ (by omega), e _ (by omega)]
    exact h.2.1 b hb
  · rw [e 92 (by omega)] at hi
    have a := h.p hi
    rw [e (32 + 10 * i + 0) (by omega), e (32 + 10 * i + 1) (by omega), e (32 + 10 * i + 2) (by omega), e (32 + 10 * i + 3) (by omega), e (32 + 10 * i + 4) (by omega), e (32 + 10 * i + 5) (by omega), e 93 (by omega)]
    exact ⟨a.2.1, a.2.2.1, a.2.2.2.1, a.2.2.2.2.1, a.2.2.2.2.2.1, a.2.2.2.2.2.2.1, fun r hr => by rw [e _ (by omega)]; exact a.2.2.2.2.2.2.2 r hr⟩
  · rw [e 92 (by omega)]; exact hs
  · rw [e 92 (by omega), e 93 (by omega)]; exact hp
  · rw [e 92 (by omega)]; exact hb
  · rw [e _ (by omega)]
    exact h.2.2.2.2.2.2 i hi
theorem ok_see {g : GS} (h : GOK2 g) (p n x : Int32) : GOK2 (f_see g p n x).2 := by
  have hW := h.1.1
  have hc := hW.c
  unfold f_see
  split
  · exact h.p (hW.told (fun j hj => mu_ne (by omega)) (by rw [mu_eq]; decide) (by rw [mu_ne (by omega)]; omega) (by rw [mu_ne (by omega)]; omega) (fun r hr => by rw [mu_eq] at hr; omega) (fun r hr => by rw [mu_ne (by omega)] at hr; rw [mu_ne (by omega), mu_ne (by omega)]; exact hW.2.2.2.2.1 r hr) (fun r hr => by rw [mu_ne (by omega)] at hr; rw [mu_ne (by omega), mu_ne (by omega)]; exact hW.2.2.2.2.2.1 r hr)) (fun j hj => mu_ne (by omega))
  · split
    · exact h
    · next h1 =>
      split
      · exact h
      · next h2 =>
        split
        · exact h
        · next h3 =>
          obtain ⟨hp, hx⟩ := Decidable.not_not.mp h1
          have hn := (Decidable.not_not.mp h2).2
          have ev : ∀ j, mu (mu (mu (mu (gM g) (97 + 3 * gM g 96) (u32 p)) (97 + 3 * gM g 96 + 1) (u32 n)) (97 + 3 * gM g 96 + 2) (u32 x)) 96 (gM g 96 + 1) j = if j = 96 then gM g 96 + 1 else if j = 97 + 3 * gM g 96 + 2 then u32 x else if j = 97 + 3 * gM g 96 + 1 then u32 n else if j = 97 + 3 * gM g 96 then u32 p else gM g j := fun j => rfl
          generalize mu (mu (mu (mu (gM g) (97 + 3 * gM g 96) (u32 p)) (97 + 3 * gM g 96 + 1) (u32 n)) (97 + 3 * gM g 96 + 2) (u32 x)) 96 (gM g 96 + 1) = M2 at ev
          have eo : ∀ j, ¬ (96 ≤ j ∧ j ≤ 111) → M2 j = gM g j := fun j hj => by rw [ev, if_neg (by omega), if_neg (by omega), if_neg (by omega), if_neg (by omega)]
          have e96 : M2 96 = gM g 96 + 1 := by rw [ev, if_pos rfl]
          refine h.p (hW.told (fun j hj => eo j (by omega)) (by rw [e96]; omega) (by rw [eo 112 (by omega)]; omega) (by rw [eo 129 (by omega)]; omega) (fun r hr => ?_) (fun r hr => ?_) (fun r hr => ?_)) (fun j hj => eo j (by omega))
          · rw [e96] at hr
            by_cases ez : r = gM g 96
            · subst ez
              rw [ev (97 + 3 * gM g 96), if_neg (by omega), if_neg (by omega), if_neg (by omega), if_pos rfl, ev (97 + 3 * gM g 96 + 1), if_neg (by omega), if_neg (by omega), if_pos rfl, ev (97 + 3 * gM g 96 + 2), if_neg (by omega), if_pos rfl]
              exact ⟨hp.2, Nat.le_of_lt_succ hn, hx.2⟩
            · rw [ev (97 + 3 * r), if_neg (by omega), if_neg (by omega), if_neg (by omega), if_neg (by omega), ev (97 + 3 * r + 1), if_neg (by omega), if_neg (by omega), if_neg (by omega), if_neg (by omega), ev (97 + 3 * r + 2), if_neg (by omega), if_neg (by omega), if_neg (by omega), if_neg (by omega)]
              exact hW.2.2.2.1 r (by omega)
          · rw [eo 112 (by omega)] at hr
            rw [eo _ (by omega), eo _ (by omega)]
            exact hW.2.2.2.2.1 r hr
          · rw [eo 129 (by omega)] at hr
            rw [eo _ (by omega), eo _ (by omega)]
            exact hW.2.2.2.2.2.1 r hr
theorem nI_ne {a b : Nat} (ha : a < 2 ^ 31) (hb : b < 2 ^ 31) (h : a ≠ b) : nI a ≠ nI b := fun z => h ((nI_eq ha hb).mp z)
theorem ok_plan {g : GS} (h : GOK2 g) (w n : Int32) : GOK2 (f_plan g w n).2 := by
  have hW := h.1.1
  have hc := hW.c
  unfold f_plan
  split
  · exact h.p (hW.told (fun j hj => mu_ne (by omega)) (by rw [mu_ne (by omega)]; omega) (by rw [mu_eq]; decide) (by rw [mu_ne (by omega)]; omega) (fun r hr => by rw [mu_ne (by omega)] at hr; rw [mu_ne (by omega), mu_ne (by omega), mu_ne (by omega)]; exact hW.2.2.2.1 r hr) (fun r hr => by rw [mu_eq] at hr; omega) (fun r hr => by rw [mu_ne (by omega)] at hr; rw [mu_ne (by omega), mu_ne (by omega)]; exact hW.2.2.2.2.2.1 r hr)) (fun j hj => mu_ne (by omega))
  · split
    · exact h
    · next h1 =>
      split
      · exact h
      · next h3 =>
        have hpl := Decidable.not_not.mp h1
        obtain ⟨k, hk, ek⟩ := hpl.k
        have huk : u32 w = k := by rw [ek]; exact nI_clamp (by omega)
        have hpl2 : (k = 1 ∨ k = 2 → inN n (gM g 93)) ∧ (k = 3 → inN n (gM g 92)) := by
          refine ⟨fun hz => ?_, fun hz => ?_⟩
          · rcases hpl with y | ⟨-, y⟩ | ⟨y, -⟩
            · exact absurd (ek.symm.trans (y.trans nI_0.symm)) (nI_ne (by omega) (by decide) (by omega))
            · exact y
            · exact absurd (ek.symm.trans y) (nI_ne (by omega) (by decide) (by omega))
          · rcases hpl with y | ⟨y | y, -⟩ | ⟨-, y⟩
            · exact absurd (ek.symm.trans (y.trans nI_0.symm)) (nI_ne (by omega) (by decide) (by omega))
            · exact absurd (ek.symm.trans y) (nI_ne (by omega) (by decide) (by omega))
            · exact absurd (ek.symm.trans y) (nI_ne (by omega) (by decide) (by omega))
            · exact y
        rw [huk]
        have hwn : ∀ m, m < 2 ^ 31 → inN n m → w32 n < m := fun m hm hz => by
          obtain ⟨y, hy1, hy2, rfl⟩ := inN_of hz
          have : w32 (nI y) = y := by
            unfold w32 nI
            simp
            omega
          omega
        have ev : ∀ j, mu (mu (mu (gM g) (113 + 2 * gM g 112) k) (114 + 2 * gM g 112) (w32 n)) 112 (gM g 112 + 1) j = if j = 112 then gM g 112 + 1 else if j = 114 + 2 * gM g 112 then w32 n else if j = 113 + 2 * gM g 112 then k else gM g j := fun j => rfl
        generalize mu (mu (mu (gM g) (113 + 2 * gM g 112) k) (114 + 2 * gM g 112) (w32 n)) 112 (gM g 112 + 1) = M2 at ev
        have eo : ∀ j, ¬ (112 ≤ j ∧ j ≤ 128) → M2 j = gM g j := fun j hj => by rw [ev, if_neg (by omega), if_neg (by omega), if_neg (by omega)]
        have e112 : M2 112 = gM g 112 + 1 := by rw [ev, if_pos rfl]
        refine h.p (hW.told (fun j hj => eo j (by omega)) (by rw [eo 96 (by omega)]; omega) (by rw [e112]; omega) (by rw [eo 129 (by omega)]; omega) (fun r hr => ?_) (fun r hr => ?_) (fun r hr => ?_)) (fun j hj => eo j (by omega))
        · rw [eo 96 (by omega)] at hr
          rw [eo _ (by omega), eo _ (by omega), eo _ (by omega)]
          exact hW.2.2.2.1 r hr
        · rw [e112] at hr
          by_cases ez : r = gM g 112
          · subst ez
            rw [ev (113 + 2 * gM g 112), if_neg (by omega), if_neg (by omega), if_pos rfl, ev (114 + 2 * gM g 112), if_neg (by omega), if_pos rfl]
            exact ⟨hk, fun z => hwn _ (by omega) (hpl2.1 z), fun z => hwn _ (by omega) (hpl2.2 z)⟩
          · rw [ev (113 + 2 * r), if_neg (by omega), if_neg (by omega), if_neg (by omega), ev (114 + 2 * r), if_neg (by omega), if_neg (by omega), if_neg (by omega)]
            exact hW.2.2.2.2.1 r (by omega)
        · rw [eo 129 (by omega)] at hr
          rw [eo _ (by omega), eo _ (by omega)]
          exact hW.2.2.2.2.2.1 r hr
theorem ok_book {g : GS} (h : GOK2 g) (p x : Int32) : GOK2 (f_book g p x).2 := by
  have hW := h.1.1
  have hc := hW.c
  unfold f_book
  split
  · exact h.p (hW.told (fun j hj => mu_ne (by omega)) (by rw [mu_ne (by omega)]; omega) (by rw [mu_ne (by omega)]; omega) (by rw [mu_eq]; decide) (fun r hr => by rw [mu_ne (by omega)] at hr; rw [mu_ne (by omega), mu_ne (by omega), mu_ne (by omega)]; exact hW.2.2.2.1 r hr) (fun r hr => by rw [mu_ne (by omega)] at hr; rw [mu_ne (by omega), mu_ne (by omega)]; exact hW.2.2.2.2.1 r hr) (fun r hr => by rw [mu_eq] at hr; omega)) (fun j hj => mu_ne (by omega))
  · split
    · exact h
    · next h1 =>
      split
      · exact h
      · next h3 =>
        obtain ⟨hp, hx⟩ := Decidable.not_not.mp h1
        have ev : ∀ j, mu (mu (mu (gM g) (130 + 2 * gM g 129) (u32 p)) (131 + 2 * gM g 129) (u32 x)) 129 (gM g 129 + 1) j = if j = 129 then gM g 129 + 1 else if j = 131 + 2 * gM g 129 then u32 x else if j = 130 + 2 * gM g 129 then u32 p else gM g j := fun j => rfl
        generalize mu (mu (mu (gM g) (130 + 2 * gM g 129) (u32 p)) (131 + 2 * gM g 129) (u32 x)) 129 (gM g 129 + 1) = M2 at ev
        have eo : ∀ j, j < 129 → M2 j = gM g j := fun j hj => by rw [ev, if_neg (by omega), if_neg (by omega), if_neg (by omega)]
        have e129 : M2 129 = gM g 129 + 1 := by rw [ev, if_pos rfl]
        refine h.p (hW.told (fun j hj => eo j (by omega)) (by rw [eo 96 (by omega)]; omega) (by rw [eo 112 (by omega)]; omega) (by rw [e129]; omega) (fun r hr => ?_) (fun r hr => ?_) (fun r hr => ?_)) (fun j hj => eo j (by omega))
        · rw [eo 96 (by omega)] at hr
          rw [eo _ (by omega), eo _ (by omega), eo _ (by omega)]
          exact hW.2.2.2.1 r hr
        · rw [eo 112 (by omega)] at hr
          rw [eo _ (by omega), eo _ (by omega)]
          exact hW.2.2.2.2.1 r hr
        · rw [e129] at hr
          by_cases ez : r = gM g 129
          · subst ez
            rw [ev (130 + 2 * gM g 129), if_neg (by omega), if_neg (by omega), if_pos rfl, ev (131 + 2 * gM g 129), if_neg (by omega), if_pos rfl]
            exact ⟨hp.2, hx.2⟩
          · rw [ev (130 + 2 * r), if_neg (by omega), if_neg (by omega), if_neg (by omega), ev (131 + 2 * r), if_neg (by omega), if_neg (by omega), if_neg (by omega)]
            exact hW.2.2.2.2.2.1 r (by omega)
theorem ok_feed {g : GS} (h : GOK2 g) (c : Int32) : GOK2 (f_feed g c).2 := by
  unfold f_feed
  split
  · exact h
  · next h1 =>
    split
    · exact h
    · next h2 =>
      have hcc := (Decidable.not_not.mp h1).2
      obtain ⟨⟨hW0, hCy, h95', hN6, h94', hK, hT1, hT2, hTp, hR1, hSy, hSyJ⟩, hL0, hLJ⟩ := h
      refine ⟨⟨hW0, hCy, h95', hN6, h94', hK, ?_, fun j hj => ?_, hTp, hR1, hSy, hSyJ⟩, hL0, hLJ⟩
      · show (gT g ++ [u32 c]).length ≤ 100
        rw [List.length_append]
        show (gT g).length + 1 ≤ 100
        omega
      · have hj2 : j < (gT g ++ [u32 c]).length := hj
        rw [List.length_append] at hj2
        have hj3 : j < (gT g).length + 1 := hj2
        show chO (gT g ++ [u32 c]) j < 128
        rw [chO_app]
        split
        · next z => exact hT2 j z
        · rw [if_pos (by omega)]
          exact hcc
theorem ok_city {g : GS} (h : GOK2 g) : GOK2 (f_city g).2 := by
  unfold f_city
  obtain ⟨⟨hW0, hCy, h95', hN6, h94', hK, hT1, hT2, hTp, hR1, hSy, hSyJ⟩, hL0, hLJ⟩ := h
  split
  · exact ⟨⟨hW0, hCy, h95', hN6, h94', hK, hT1, hT2, hTp, hR1, hSy, hSyJ⟩, hL0, hLJ⟩
  · next h1 =>
    split
    · next h2 =>
      have e : ∀ j, j ≠ 95 → mu (gM g) 95 (gN g + 1) j = gM g j := fun j hj => mu_ne hj
      have hc := hW0.c
      refine ⟨⟨?_, fun k hk => ?_, ?_, by show gN g + 1 ≤ 6; omega, ?_, fun hk => ?_, Nat.zero_le _, fun j hj => absurd hj (Nat.not_lt_zero j), hTp, hR1, ?_, hSyJ⟩, ?_, hLJ⟩
      · show WF (mu (gM g) 95 (gN g + 1))
        refine ⟨?_, fun b hb => ?_, fun i hi => ?_, fun r hr => ?_, fun r hr => ?_, fun r hr => ?_, fun i hi => ?_⟩
        · rw [mu_eq, e 93 (by omega), e 92 (by omega), e 94 (by omega), e 96 (by omega), e 112 (by omega), e 129 (by omega)]
          omega
        · rw [e 93 (by omega)] at hb ⊢
          have a := hW0.b hb
          rw [e (4 * b + 0) (by omega), e (4 * b + 1) (by omega), e (4 * b + 2) (by omega), e (4 * b + 3) (by omega)]
          exact a.2
        · rw [e 92 (by omega)] at hi
          have a := hW0.p hi
          rw [e (32 + 10 * i + 0) (by omega), e (32 + 10 * i + 1) (by omega), e (32 + 10 * i + 2) (by omega), e (32 + 10 * i + 3) (by omega), e (32 + 10 * i + 4) (by omega), e (32 + 10 * i + 5) (by omega), e 93 (by omega)]
          exact ⟨a.2.1, a.2.2.1, a.2.2.2.1, a.2.2.2.2.1, a.2.2.2.2.2.1, a.2.2.2.2.2.2.1, fun r hr => by rw [e _ (by omega)]; exact a.2.2.2.2.2.2.2 r hr⟩
        · rw [e 96 (by omega)] at hr
          rw [e 92 (by omega), e _ (by omega), e _ (by omega), e _ (by omega)]
          exact hW0.2.2.2.1 r hr
        · rw [e 112 (by omega)] at hr
          rw [e 92 (by omega), e 93 (by omega), e _ (by omega), e _ (by omega)]
          exact hW0.2.2.2.2.1 r hr
        · rw [e 129 (by omega)] at hr
          rw [e 92 (by omega), e _ (by omega), e _ (by omega)]
          exact hW0.2.2.2.2.2.1 r hr
        · rw [e _ (by omega)]
          exact hW0.2.2.2.2.2.2 i hi
      · show isC (updN (gC g) (gN g) (gT g) k)
        by_cases ez : k = gN g
        · rw [ez, updN_eq]
          exact h2
        · rw [updN_ne ez]
          exact hCy k (by have hk2 : k < gN g + 1 := hk; omega)
      · show mu (gM g) 95 (gN g + 1) 95 ≤ gN g + 1
        rw [mu_eq]
        exact Nat.le_refl _
      · show mu (gM g) 95 (gN g + 1) 94 ≤ 9999
        rw [e 94 (by omega)]
        exact h94'
      · obtain ⟨k1, k2, k3⟩ := hK hk
        exact ⟨k1, by show gJ g 95 ≤ gN g + 1; omega, k3⟩
      · show SYM (mu (gM g) 95 (gN g + 1))
        exact hSy.of hW0 (e 93 (by omega)) (fun b hb => e _ (by omega))
      · show LST (mu (gM g) 95 (gN g + 1))
        exact hL0.of (e 93 (by omega)) (fun b hb => e _ (by omega))
    · exact ⟨⟨hW0, hCy, h95', hN6, h94', hK, Nat.zero_le _, fun j hj => absurd hj (Nat.not_lt_zero j), hTp, hR1, hSy, hSyJ⟩, hL0, hLJ⟩
theorem ok_image {g : GS} (h : GOK2 g) : GOK2 (f_image g).2 := by
  obtain ⟨⟨hW0, hCy, h95', hN6, h94', hK, hT1, hT2, hTp, hR1, hSy, hSyJ⟩, hL0, hLJ⟩ := h
  exact ⟨⟨hW0, hCy, h95', hN6, h94', fun _ => ⟨hW0, h95', h94'⟩, hT1, hT2, hTp, hR1, hSy, fun _ => hSy⟩, hL0, fun _ => hL0⟩
theorem ok_undo {g : GS} (h : GOK2 g) : GOK2 (f_undo g).2 := by
  unfold f_undo
  split
  · next hk =>
    obtain ⟨⟨hW0, hCy, h95', hN6, h94', hK, hT1, hT2, hTp, hR1, hSy, hSyJ⟩, hL0, hLJ⟩ := h
    obtain ⟨k1, k2, k3⟩ := hK hk
    exact ⟨⟨k1, hCy, k2, hN6, k3, hK, hT1, hT2, hTp, hR1, hSyJ hk, hSyJ⟩, hLJ hk, hLJ⟩
  · exact h
theorem ok_tape {g : GS} (h : GOK2 g) (t s n : Int32) : GOK2 (f_tape g t s n).2 := by
  unfold f_tape
  split
  · exact h
  · next h1 =>
    split
    · exact h
    · next h2 =>
      split
      · exact h
      · next h3 =>
        obtain ⟨⟨hW0, hCy, h95', hN6, h94', hK, hT1, hT2, hTp, hR1, hSy, hSyJ⟩, hL0, hLJ⟩ := h
        refine ⟨⟨hW0, hCy, h95', hN6, h94', hK, hT1, hT2, fun a ha => ?_, hR1, hSy, hSyJ⟩, hL0, hLJ⟩
        show (updN (gS g) (u32 t) (sN s) a = 9 ∨ updN (gS g) (u32 t) (sN s) a < 5) ∧ updN (gE g) (u32 t) (if s = -1 then 0 else u32 n) a ≤ 60 ∧ (updN (gS g) (u32 t) (sN s) a = 9 → updN (gE g) (u32 t) (if s = -1 then 0 else u32 n) a = 0)
        by_cases ez : a = u32 t
        · rw [ez, updN_eq, updN_eq]
          by_cases es : s = -1
          · rw [if_pos es]
            exact ⟨Or.inl (if_pos es), by decide, fun _ => rfl⟩
          · have hs5 : inN s 5 := (Decidable.not_not.mp (fun z => h2 (Or.inl z))).resolve_left es
            have hn : n ≤ nI 60 := Decidable.not_not.mp (fun z => h2 (Or.inr ⟨es, z⟩))
            have hn0 : ¬ n < 0 := fun z => h3 ⟨es, z⟩
            obtain ⟨m, hm, rfl⟩ := nI_of hn0
            have hm2 := (nI_leI hm (by decide)).mp hn
            rw [if_neg es, show u32 (nI m) = m from nI_clamp hm]
            have e9 : sN s = u32 s := if_neg es
            have := hs5.2
            have h5 : u32 s < 5 := hs5.2
            exact ⟨Or.inr (by rw [e9]; exact h5), hm2, fun z => by rw [e9] at z; omega⟩
        · rw [updN_ne ez, updN_ne ez]
          exact hTp a ha
  
theorem ok_item {g : GS} (h : GOK2 g) (t i : Int32) (v : Int64) : GOK2 (f_item g t i v).2 := by
  unfold f_item
  split
  · exact h
  · split
    · exact h
    · split
      · exact h
      · exact h
theorem ok_shift {g : GS} (h : GOK2 g) (t i o j n : Int32) : GOK2 (f_shift g t i o j n).2 := by
  unfold f_shift
  split
  · exact h
  · split
    · exact h
    · split
      · exact h
      · split
        · exact h
        · exact h
theorem ok_act {g : GS} (h : GOK2 g) (p a x : Int32) : GOK2 (f_act g p a x).2 := by
  unfold f_act
  obtain ⟨⟨hW0, hCy, h95', hN6, h94', hK, hT1, hT2, hTp, hR1, hSy, hSyJ⟩, hL0, hLJ⟩ := h
  split
  · next h1 =>
    refine ⟨⟨hW0, hCy, h95', hN6, h94', hK, hT1, hT2, hTp, ?_, hSy, hSyJ⟩, hL0, hLJ⟩
    show (actZ g (u32 p) (u32 a) x).2.1 < 1000
    unfold actZ
    rw [acF_cn]
    have hp := hW0.p (i := u32 p) h1.1.2
    have := cnF_lt _ hp.2.1 _ hp.2.1 (u32 a) h1.2.2
    show 0 + _ < 1000
    rw [Nat.zero_add]
    exact this
  · exact ⟨⟨hW0, hCy, h95', hN6, h94', hK, hT1, hT2, hTp, by show 0 < 1000; decide, hSy, hSyJ⟩, hL0, hLJ⟩
