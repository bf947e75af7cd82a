theorem WF.sis {M M2 : Nat → Nat} (h : WF M) (e : ∀ j, ¬ (j < 32 ∧ j % 4 = 2) → M2 j = M j) (hs : ∀ b, b < M 93 → M2 (4 * b + 2) = 99 ∨ M2 (4 * b + 2) < M 93) : WF M2 := by
  have hc := h.c
  refine ⟨?_, fun b hb => ?_, fun i hi => ?_, fun r hr => ?_, fun r hr => ?_, fun r hr => ?_, fun i hi => ?_⟩
  · rw [e 93 (by omega), e 92 (by omega), e 94 (by omega), e 95 (by omega), e 96 (by omega), e 112 (by omega), e 129 (by omega)]
    exact hc
  · rw [e 93 (by omega)] at hb ⊢
    rw [e (4 * b + 0) (by omega), e (4 * b + 1) (by omega), e (4 * b + 3) (by omega)]
    have a := h.b hb
    exact ⟨a.2.1, a.2.2.1, hs b hb, a.2.2.2.2⟩
  · rw [e 92 (by omega)] at hi
    have a := h.p hi
    rw [e (32 + 10 * i + 0) (by omega), e (32 + 10 * i + 1) (by omega), e (32 + 10 * i + 2) (by omega), e (32 + 10 * i + 3) (by omega), e (32 + 10 * i + 4) (by omega), e (32 + 10 * i + 5) (by omega), e 93 (by omega)]
    exact ⟨a.2.1, a.2.2.1, a.2.2.2.1, a.2.2.2.2.1, a.2.2.2.2.2.1, a.2.2.2.2.2.2.1, fun r hr => by rw [e _ (by omega)]; exact a.2.2.2.2.2.2.2 r hr⟩
  · rw [e 96 (by omega)] at hr
    rw [e _ (by omega), e _ (by omega), e _ (by omega), e _ (by omega)]
    exact h.2.2.2.1 r hr
  · rw [e 112 (by omega)] at hr
    rw [e _ (by omega), e _ (by omega), e _ (by omega), e _ (by omega)]
    exact h.2.2.2.2.1 r hr
  · rw [e 129 (by omega)] at hr
    rw [e _ (by omega), e _ (by omega), e _ (by omega)]
    exact h.2.2.2.2.2.1 r hr
  · rw [e _ (by omega)]
    exact h.2.2.2.2.2.2 i hi
theorem sw_facts {M : Nat → Nat} {a b : Nat} (hW : WF M) (hS : SYM M) (ha : a < M 93) (hb : b < M 93) (hp : swP M a b) : ∃ m t, M (4 * a + 2) = m ∧ M (4 * b + 2) = t ∧ m < M 93 ∧ t < M 93 ∧ M (4 * m + 2) = a ∧ M (4 * t + 2) = b ∧ a ≠ b ∧ m ≠ a ∧ m ≠ b ∧ t ≠ a ∧ t ≠ b ∧ m ≠ t := by
  obtain ⟨h1, h2, h3, h4⟩ := hp
  have x := hS a ha h2
  have y := hS b hb h3
  have z := hW.b ha
  have w := hW.b hb
  have hc := hW.c
  refine ⟨_, _, rfl, rfl, by omega, by omega, x.2, y.2, h1, x.1, h4, fun e => ?_, y.1, fun e => ?_⟩
  · have := y.2
    rw [e] at this
    exact h4 this
  · have := y.2
    rw [← e, x.2] at this
    exact h1 this
theorem swM_o {M : Nat → Nat} {a b : Nat} (hW : WF M) (hS : SYM M) (ha : a < M 93) (hb : b < M 93) (hp : swP M a b) (j : Nat) (hj : ¬ (j < 32 ∧ j % 4 = 2)) : swM M a b j = M j := by
  obtain ⟨m, t, e1, e2, hm, ht, f1, f2, d1, d2, d3, d4, d5, d6⟩ := sw_facts hW hS ha hb hp
  have hc := hW.c
  unfold swM
  rw [e1, e2]
  rw [mu_ne (by omega), mu_ne (by omega), mu_ne (by omega), mu_ne (by omega)]
theorem sw_back {M : Nat → Nat} {a b : Nat} (hW : WF M) (hS : SYM M) (ha : a < M 93) (hb : b < M 93) (hp : swP M a b) : swM (swM M a b) a b = M := by
  obtain ⟨m, t, e1, e2, hm, ht, f1, f2, d1, d2, d3, d4, d5, d6⟩ := sw_facts hW hS ha hb hp
  have g1 : swM M a b (4 * a + 2) = t := by
    unfold swM
    rw [e1, e2, mu_ne (by omega), mu_ne (by omega), mu_ne (by omega), mu_eq]
  have g2 : swM M a b (4 * b + 2) = m := by
    unfold swM
    rw [e1, e2, mu_ne (by omega), mu_eq]
  have g3 : ∀ j, swM (swM M a b) a b j = mu (mu (mu (mu (swM M a b) (4 * a + 2) m) (4 * m + 2) a) (4 * b + 2) t) (4 * t + 2) b j := fun j => by
    rw [swM, g1, g2]
  funext j
  rw [g3]
  unfold swM
  rw [e1, e2]
  unfold mu
  have k1 : j = 4 * a + 2 → M j = m := fun e => by rw [e]; exact e1
  have k2 : j = 4 * b + 2 → M j = t := fun e => by rw [e]; exact e2
  have k3 : j = 4 * m + 2 → M j = a := fun e => by rw [e]; exact f1
  have k4 : j = 4 * t + 2 → M j = b := fun e => by rw [e]; exact f2
  repeat' split
  all_goals omega
theorem swM_WF {M : Nat → Nat} {a b : Nat} (hW : WF M) (hS : SYM M) (ha : a < M 93) (hb : b < M 93) (hp : swP M a b) : WF (swM M a b) ∧ SYM (swM M a b) := by
  have ho := swM_o hW hS ha hb hp
  obtain ⟨m, t, e1, e2, hm, ht, f1, f2, d1, d2, d3, d4, d5, d6⟩ := sw_facts hW hS ha hb hp
  have hv : ∀ c, swM M a b (4 * c + 2) = if c = m then b else if c = b then m else if c = t then a else if c = a then t else M (4 * c + 2) := by
    intro c
    unfold swM
    rw [e1, e2]
    unfold mu
    repeat' split
    all_goals omega
  have h93 : swM M a b 93 = M 93 := ho 93 (by omega)
  refine ⟨hW.sis ho (fun c hc => ?_), fun c hc hn => ?_⟩
  · rw [hv]
    have := (hW.b hc).2.2.2.1
    repeat' split
    all_goals omega
  · rw [h93] at hc
    have hx : M (4 * c + 2) ≠ 99 → M (4 * c + 2) ≠ c ∧ M (4 * M (4 * c + 2) + 2) = c := hS c hc
    have hcc := hW.c
    have hvc := hv c
    by_cases c1 : c = m
    · subst c1
      rw [hvc, if_pos rfl, hv, if_neg (by omega), if_pos rfl]
      exact ⟨by omega, rfl⟩
    · by_cases c2 : c = b
      · subst c2
        rw [hvc, if_neg c1, if_pos rfl, hv, if_pos rfl]
        exact ⟨by omega, rfl⟩
      · by_cases c3 : c = t
        · subst c3
          rw [hvc, if_neg c1, if_neg c2, if_pos rfl, hv, if_neg (by omega), if_neg (by omega), if_neg (by omega), if_pos rfl]
          exact ⟨by omega, rfl⟩
        · by_cases c4 : c = a
          · subst c4
            rw [hvc, if_neg c1, if_neg c2, if_neg c3, if_pos rfl, hv, if_neg (by omega), if_neg (by omega), if_pos rfl]
            exact ⟨by omega, rfl⟩
          · rw [hvc, if_neg c1, if_neg c2, if_neg c3, if_neg c4] at hn ⊢
            obtain ⟨z1, z2⟩ := hx hn
            have n1 : M (4 * c + 2) ≠ m := fun e => by rw [e, f1] at z2; exact c4 z2.symm
            have n2 : M (4 * c + 2) ≠ b := fun e => by rw [e, e2] at z2; exact c3 z2.symm
            have n3 : M (4 * c + 2) ≠ t := fun e => by rw [e, f2] at z2; exact c2 z2.symm
            have n4 : M (4 * c + 2) ≠ a := fun e => by rw [e, e1] at z2; exact c1 z2.symm
            rw [hv, if_neg n1, if_neg n2, if_neg n3, if_neg n4]
            exact ⟨z1, z2⟩
