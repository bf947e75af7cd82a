/-! HOURS IN A WORLD, for some people alone -/
theorem isW1 : isW 1 := Or.inl rfl
theorem isW30 : isW 30 := Or.inr (Or.inl rfl)
theorem isW59 : isW 59 := Or.inr (Or.inr rfl)
def goW (wh : Nat → Bool) (M : Nat → Nat) (cts : Nat → List Nat) (i : Nat) : Nat → Nat := if wh i = true then go1 M cts i else M
def pplW (wh : Nat → Bool) (M : Nat → Nat) (cts : Nat → List Nat) : Nat → Nat → Nat
  | 0 => M
  | k + 1 => goW wh (pplW wh M cts k) cts k
def hourW (wh : Nat → Bool) (M : Nat → Nat) (cts : Nat → List Nat) : Nat → Nat := mu (if M 94 % 10 < darkM M cts then M else pplW wh M cts (M 92)) 94 (M 94 + 1)
def hoursW (wh : Nat → Bool) (M : Nat → Nat) (cts : Nat → List Nat) : Nat → Nat → Nat
  | 0 => M
  | n + 1 => hourW wh (hoursW wh M cts n) cts
theorem goW_hi {wh : Nat → Bool} {M : Nat → Nat} {cts : Nat → List Nat} {i j : Nat} (hi : i < 6) (h : j < 32 ∨ 92 ≤ j) : goW wh M cts i j = M j := by
  unfold goW
  split
  · exact go1_hi hi h
  · rfl
theorem pplW_hi {wh : Nat → Bool} {M : Nat → Nat} {cts : Nat → List Nat} {j : Nat} (h : j < 32 ∨ 92 ≤ j) : ∀ k, k ≤ 6 → pplW wh M cts k j = M j := by
  intro k
  induction k with
  | zero => intro _; rfl
  | succ k ih =>
    intro hk
    show goW wh (pplW wh M cts k) cts k j = M j
    rw [goW_hi (by omega) h, ih (by omega)]
theorem pplW_WF {wh : Nat → Bool} {M : Nat → Nat} {cts : Nat → List Nat} (hW : WF M) : ∀ k, k ≤ M 92 → WF (pplW wh M cts k) := by
  intro k
  have hc := hW.c
  induction k with
  | zero => intro _; exact hW
  | succ k ih =>
    intro hk
    show WF (goW wh (pplW wh M cts k) cts k)
    unfold goW
    split
    · exact go1_WF (ih (by omega)) (by rw [pplW_hi (by omega) k (by omega)]; omega)
    · exact ih (by omega)
theorem hourW_WF {wh : Nat → Bool} {M : Nat → Nat} {cts : Nat → List Nat} (hW : WF M) (h : M 94 + 1 < 100000) : WF (hourW wh M cts) := by
  unfold hourW
  refine WF.hour ?_ h
  split
  · exact hW
  · exact pplW_WF hW _ (Nat.le_refl _)
theorem hourW_hi {wh : Nat → Bool} {M : Nat → Nat} {cts : Nat → List Nat} (hW : WF M) {j : Nat} (h : j < 32 ∨ (92 ≤ j ∧ j ≠ 94)) : hourW wh M cts j = M j := by
  have hc := hW.c
  unfold hourW
  rw [mu_ne (by omega)]
  split
  · rfl
  · exact pplW_hi (by omega) _ (by omega)
theorem hoursW_ok {wh : Nat → Bool} {M : Nat → Nat} {cts : Nat → List Nat} (hW : WF M) : ∀ n, M 94 + n < 100000 → WF (hoursW wh M cts n) ∧ hoursW wh M cts n 94 = M 94 + n ∧ ∀ j, j < 32 ∨ (92 ≤ j ∧ j ≠ 94) → hoursW wh M cts n j = M j := by
  intro n
  induction n with
  | zero => intro _; exact ⟨hW, rfl, fun _ _ => rfl⟩
  | succ n ih =>
    intro h
    obtain ⟨a, b, c⟩ := ih (by omega)
    refine ⟨hourW_WF a (by omega), ?_, fun j hj => ?_⟩
    · show hourW wh _ cts 94 = _
      unfold hourW
      rw [mu_eq, b]
      omega
    · show hourW wh _ cts j = _
      rw [hourW_hi a hj, c j hj]
theorem pplW_all (M : Nat → Nat) (cts : Nat → List Nat) : ∀ k, pplW (fun _ => true) M cts k = pplM M cts k := by
  intro k
  induction k with
  | zero => rfl
  | succ k ih =>
    show goW (fun _ => true) (pplW (fun _ => true) M cts k) cts k = go1 (pplM M cts k) cts k
    rw [ih]
    exact if_pos rfl
theorem hoursW_all (M : Nat → Nat) (cts : Nat → List Nat) : ∀ n, hoursW (fun _ => true) M cts n = hoursM M cts n := by
  intro n
  induction n with
  | zero => rfl
  | succ n ih =>
    show hourW (fun _ => true) (hoursW (fun _ => true) M cts n) cts = hourM (hoursM M cts n) cts
    rw [ih]
    unfold hourW hourM
    rw [pplW_all]
/-- two rows of numbers that tell alike of one and of all but people -/
def Agr (p : Nat) (M M2 : Nat → Nat) : Prop := (∀ j, ¬ (32 ≤ j ∧ j < 92) → M2 j = M j) ∧ ∀ j, 32 + 10 * p ≤ j → j < 42 + 10 * p → M2 j = M j
theorem leaveX_agr {p b n : Nat} {M M2 : Nat → Nat} {cts : Nat → List Nat} (h : Agr p M M2) : leaveX M2 cts p b n = leaveX M cts p b n := by
  unfold leaveX sumX
  have e : nmv M2 p b n = nmv M p b n := by
    funext j
    unfold nmv
    rw [h.2 (32 + 10 * p + 0) (by omega) (by omega), h.2 (32 + 10 * p + 1) (by omega) (by omega), h.1 94 (by omega)]
  rw [e, h.2 (32 + 10 * p + 0) (by omega) (by omega), h.2 (32 + 10 * p + 1) (by omega) (by omega), h.2 (32 + 10 * p + (6 + b % 4)) (by omega) (by omega), h.1 95 (by omega)]
theorem halfM_agr {p hf b : Nat} {M M2 : Nat → Nat} (h : Agr p M M2) (hb : b < 7 ∨ b = 7) : halfM M2 hf b = halfM M hf b := by
  unfold halfM
  rw [h.1 (4 * b + 2) (by omega)]
theorem procB_agr {p : Nat} {M M2 : Nat → Nat} {cts : Nat → List Nat} (h : Agr p M M2) (L : List E4) (k : Nat) : ∀ b, b ≤ 8 → procB M2 cts p L k b = procB M cts p L k b := by
  intro b
  induction b with
  | zero => intro _; rfl
  | succ b ih =>
    intro hb
    rw [procB_s, procB_s, ih (by omega)]
    have e0 := h.1 (4 * b + 0) (by omega)
    have e1 := h.1 (4 * b + 1) (by omega)
    have e3 := h.1 (4 * b + 3) (by omega)
    have ek := h.2 (32 + 10 * p + 0) (by omega) (by omega)
    have en : nxtS M2 (ent L k).1 b = nxtS M (ent L k).1 b := by
      unfold nxtS
      rw [e0, e1, halfM_agr h (by omega)]
    have es : stepC M2 cts p (ent L k).1 b ↔ stepC M cts p (ent L k).1 b := by
      unfold stepC adjP mayX
      rw [e0, e1, e3, ek, leaveX_agr h]
    rw [en]
    by_cases z : (ent L k).2.2.2 < 12 ∧ stepC M cts p (ent L k).1 b
    · rw [if_pos z, if_pos ⟨z.1, es.mpr z.2⟩]
    · rw [if_neg z, if_neg (fun y => z ⟨y.1, es.mp y.2⟩)]
theorem bfsF_agr {p : Nat} {M M2 : Nat → Nat} {cts : Nat → List Nat} (h : Agr p M M2) (h8 : M 93 ≤ 8) : bfsF M2 cts p = bfsF M cts p := by
  have key : ∀ n, bfsL M2 cts p n = bfsL M cts p n := by
    intro n
    induction n with
    | zero =>
      show [(256 * M2 (32 + 10 * p + 2) + M2 (32 + 10 * p + 5), 0, 0, 0)] = [(256 * M (32 + 10 * p + 2) + M (32 + 10 * p + 5), 0, 0, 0)]
      rw [h.2 (32 + 10 * p + 2) (by omega) (by omega), h.2 (32 + 10 * p + 5) (by omega) (by omega)]
    | succ n ih =>
      show (if n < (bfsL M2 cts p n).length then procB M2 cts p (bfsL M2 cts p n) n (M2 93) else bfsL M2 cts p n) = (if n < (bfsL M cts p n).length then procB M cts p (bfsL M cts p n) n (M 93) else bfsL M cts p n)
      rw [ih, h.1 93 (by omega), procB_agr h _ _ _ h8]
  rw [bfsF_eq, bfsF_eq, key]
theorem crossM_o {M : Nat → Nat} {i b j : Nat} (h : ¬ (j = 32 + 10 * i + 2 ∨ j = 32 + 10 * i + 3 ∨ j = 32 + 10 * i + 5)) : crossM M i b j = M j := by
  unfold crossM
  split
  · rw [mu_ne (by omega), mu_ne (by omega), mu_ne (by omega)]
  · rw [mu_ne (by omega), mu_ne (by omega)]
theorem go1_o {M : Nat → Nat} {cts : Nat → List Nat} {i j : Nat} (h : ¬ (j = 32 + 10 * i + 2 ∨ j = 32 + 10 * i + 3 ∨ j = 32 + 10 * i + 5)) : go1 M cts i j = M j := by
  unfold go1
  split
  · exact crossM_o h
  · rfl
theorem crossM_agr {p b : Nat} {M M2 : Nat → Nat} (h : Agr p M M2) (hb : b < 8) : Agr p (crossM M p b) (crossM M2 p b) := by
  have e5 := h.2 (32 + 10 * p + 5) (by omega) (by omega)
  have e2 := h.2 (32 + 10 * p + 2) (by omega) (by omega)
  have k0 := h.1 (4 * b + 0) (by omega)
  have k1 := h.1 (4 * b + 1) (by omega)
  have eh : halfM M2 (M2 (32 + 10 * p + 5)) b = halfM M (M (32 + 10 * p + 5)) b := by rw [e5, halfM_agr h (by omega)]
  have hv : ∀ j, (M2 j = M j) → crossM M2 p b j = crossM M p b j := by
    intro j hj
    unfold crossM
    rw [eh, e2, k0, k1]
    split
    · unfold mu
      rw [hj]
    · unfold mu
      rw [hj]
  exact ⟨fun j hj => hv j (h.1 j hj), fun j h1 h2 => hv j (h.2 j h1 h2)⟩
theorem go1_agr {p : Nat} {M M2 : Nat → Nat} {cts : Nat → List Nat} (h : Agr p M M2) (hW : WF M) (hp : p < M 92) : Agr p (go1 M cts p) (go1 M2 cts p) := by
  have hc := hW.c
  have e4 := h.2 (32 + 10 * p + 4) (by omega) (by omega)
  have e2 := h.2 (32 + 10 * p + 2) (by omega) (by omega)
  have e5 := h.2 (32 + 10 * p + 5) (by omega) (by omega)
  have el : ∀ t, longM M2 cts p t = longM M cts p t := fun t => by unfold longM; rw [bfsF_agr h hc.1]
  have est : ∀ t j, stepM M2 cts p t j = stepM M cts p t j := fun t j => by unfold stepM; rw [bfsF_agr h hc.1]
  have eg : goesP M2 cts p ↔ goesP M cts p := by
    unfold goesP
    rw [e4, e2, e5, el]
  unfold go1
  by_cases z : goesP M cts p
  · rw [if_pos z, if_pos (eg.mpr z), e4, est]
    have hs := step_ok (cts := cts) hW hp (j := 0) z.2.2.1 (by have := z.2.2.2; omega)
    exact crossM_agr h (by omega)
  · rw [if_neg z, if_neg (fun y => z (eg.mp y))]
    exact h
theorem Agr.o {p k : Nat} {M M2 : Nat → Nat} {cts : Nat → List Nat} (h : Agr p M M2) (hk : k < 6) (hne : k ≠ p) : Agr p (go1 M cts k) M2 := by
  refine ⟨fun j hj => ?_, fun j h1 h2 => ?_⟩
  · rw [go1_o (by omega)]
    exact h.1 j hj
  · rw [go1_o (by omega)]
    exact h.2 j h1 h2
abbrev only (p : Nat) : Nat → Bool := fun k => decide (k = p)
theorem pplW_agr {p : Nat} {M M2 : Nat → Nat} {cts : Nat → List Nat} (h : Agr p M M2) (hW : WF M) (hp : p < M 92) : ∀ k, k ≤ M 92 → Agr p (pplM M cts k) (pplW (only p) M2 cts k) := by
  have hc := hW.c
  intro k
  induction k with
  | zero => intro _; exact h
  | succ k ih =>
    intro hk
    have i1 := ih (by omega)
    show Agr p (go1 (pplM M cts k) cts k) (goW (only p) (pplW (only p) M2 cts k) cts k)
    unfold goW
    by_cases e : k = p
    · rw [if_pos (decide_eq_true e), e]
      rw [e] at i1
      exact go1_agr i1 (pplM_WF hW p (by omega)) (by rw [pplM_hi (by omega) p (by omega)]; exact hp)
    · rw [if_neg (by simp [e])]
      exact i1.o (by omega) e
theorem hoursW_agr {p : Nat} {M : Nat → Nat} {cts : Nat → List Nat} (hW : WF M) (hp : p < M 92) : ∀ n, M 94 + n < 100000 → Agr p (hoursM M cts n) (hoursW (only p) M cts n) := by
  have hc := hW.c
  intro n
  induction n with
  | zero => intro _; exact ⟨fun _ _ => rfl, fun _ _ _ => rfl⟩
  | succ n ih =>
    intro hn
    have i1 := ih (by omega)
    have ho := hoursM_ok (cts := cts) hW n (by omega)
    show Agr p (hourM (hoursM M cts n) cts) (hourW (only p) (hoursW (only p) M cts n) cts)
    have e94 := i1.1 94 (by omega)
    have e92 := i1.1 92 (by omega)
    have ed : darkM (hoursW (only p) M cts n) cts = darkM (hoursM M cts n) cts := by
      unfold darkM
      rw [i1.1 95 (by omega)]
    have h92 := ho.2.2 92 (by omega)
    unfold hourM hourW
    rw [ed, e94, e92]
    have key : Agr p (if hoursM M cts n 94 % 10 < darkM (hoursM M cts n) cts then hoursM M cts n else pplM (hoursM M cts n) cts (hoursM M cts n 92)) (if hoursM M cts n 94 % 10 < darkM (hoursM M cts n) cts then hoursW (only p) M cts n else pplW (only p) (hoursW (only p) M cts n) cts (hoursM M cts n 92)) := by
      by_cases z : hoursM M cts n 94 % 10 < darkM (hoursM M cts n) cts
      · rw [if_pos z, if_pos z]
        exact i1
      · rw [if_neg z, if_neg z]
        exact pplW_agr i1 ho.1 (by rw [h92]; exact hp) _ (Nat.le_refl _)
    refine ⟨fun j hj => ?_, fun j h1 h2 => ?_⟩
    · by_cases e : j = 94
      · rw [e, mu_eq, mu_eq]
      · rw [mu_ne e, mu_ne e]
        exact key.1 j hj
    · rw [mu_ne (by omega), mu_ne (by omega)]
      exact key.2 j h1 h2
def SHo (w k j : Nat) : Prop := (w ≤ k ∧ k < w + 29) ∨ SWs k j

set_option maxRecDepth 100000 in
set_option maxHeartbeats 4000000 in
theorem s_X8_hoursGo {G : GT} {q : S_} {M : Nat → Nat} {cts : Nat → List Nat} {N : Nat} {who : Int32} (wh : Nat → Bool) (w n : Nat) (hw : isW w) (h : RelW q w M) (hW : WF M) (hC : CyR q cts N) (hN : M 95 ≤ N) (hN6 : N ≤ 6) (hG : Goo M cts) (hQ : ∃ L, WQ q L) (hwho : ∀ p, p < 6 → (who >>> (nI p &&& 31)) &&& nI 1 = (if wh p = true then nI 1 else nI 0)) (hn : M 94 + n < 100000) : Spec G 5 yX8_hoursGo cX8_hoursGo 9 none [rfn G 0, rfn G w, .int (nI n), .int who] q (PV (fun q3 => RelW q3 w (hoursW wh M cts n) ∧ (∃ L, WQ q3 L) ∧ CyR q3 cts N ∧ Fr (SHo w) q q3)) := by
  refine Spec.intro RX8 (by decide) rfl (Nat.le_of_ble_eq_true rfl) [some (rfn G 0), some (rfn G w), some (.int (nI n)), some (.int who), none, none, none, none, none] rfl ?_
  intro X d hd C hR
  have hc := hW.c
  have hwb := hw.b
  refine aw_iconst C dX8_hoursGo_0 k1_0 ?_
  refine aw_istore_4 C dX8_hoursGo_1 (by decide) (fun w h => by cases h <;> rfl) ?_
  have L3 : ∀ (n2 k : Nat) (q1 : S_), k ≤ n → n < k + n2 → RelW q1 w (hoursW wh M cts k) → (∃ L, WQ q1 L) → CyR q1 cts N → Fr (SHo w) q q1 → AW X G (q1) 3 [some (rfn G 0), some (rfn G w), some (.int (nI n)), some (.int who), some (.int (nI k)), none, none, none, none] [] := by
    refine nat_loop (fun k q1 g1 g2 hR1 hQ1 hC1 hF1 => by omega) (fun n2 ih k q1 g1 g2 hR1 hQ1 hC1 hF1 => ?_)
    have ho := hoursW_ok (wh := wh) (cts := cts) hW k (by omega)
    refine aw_iload_4 C dX8_hoursGo_3 ?_
    refine aw_iload_2 C dX8_hoursGo_5 ?_
    refine aw_icmp_ge_n C dX8_hoursGo_6 (tgt := 149) (by decide) (by omega) (by omega) (fun c_6 => ?_) (fun c_6 => ?_)
    · skip
      refine aw_vretV C hR dX8_hoursGo_149 ?_
      rw [show n = k by omega]
      exact ⟨hR1, hQ1, hC1, hF1⟩
    · skip
      refine aw_aload_1 C dX8_hoursGo_9 rfl ?_
      refine aw_g7_7 C hR1.2.2.2.1 dX8_hoursGo_10 (shW0 hw) fl_X8_164 ?_
      refine aw_bipush C dX8_hoursGo_13 k2_10 ?_
      refine aw_irem_n C dX8_hoursGo_15 (by omega) (by omega) (by omega) ?_
      refine aw_aload_1 C dX8_hoursGo_16 rfl ?_
      refine aw_cV0IE C (s_X7_dark w hw hR1 ho.1 hC1 (by rw [ho.2.2 95 (by omega)]; exact hN) hN6 (hG.of (ho.2.2 95 (by omega)))) mf_X7_dark mv_X7_dark (shW0 hw) rfl ml_X8_167 dX8_hoursGo_17 (by omega) (Nat.le_of_ble_eq_true rfl) ?_
      obtain ⟨Mk, hMk⟩ : ∃ z, (hoursW wh M cts k) = z := ⟨_, rfl⟩
      have hdl := darkM_lt Mk cts
      rw [hMk] at ho hR1
      rw [hMk]
      have hck := ho.1.c
      refine aw_icmp_ge_n C dX8_hoursGo_20 (tgt := 27) (by decide) (by omega) (by omega) (fun c_20 => ?_) (fun c_20 => ?_)
      · skip
        refine aw_iconst C dX8_hoursGo_27 k1_0 ?_
        refine aw_istore_5 C dX8_hoursGo_28 (by decide) (fun w h => by cases h <;> rfl) ?_
        refine aw_iconst C dX8_hoursGo_30 k1_0 ?_
        refine aw_istore_6 C dX8_hoursGo_31 (by decide) (fun w h => by cases h <;> rfl) ?_
        have L33 : ∀ (n3 m : Nat) (q2 : S_) (L2 : List E4), m ≤ Mk 92 → Mk 92 < m + n3 → RelW q2 w (pplW wh Mk cts m) → WQ q2 L2 → CyR q2 cts N → Fr (SHo w) q q2 → AW X G (q2) 33 [some (rfn G 0), some (rfn G w), some (.int (nI n)), some (.int who), some (.int (nI k)), some (.int (nI 0)), some (.int (nI m)), none, none] [] := by
          refine nat_loop (fun m q2 L2 g3 g4 hR2 hQ2 hC2 hF2 => by omega) (fun n3 ih2 m q2 L2 g3 g4 hR2 hQ2 hC2 hF2 => ?_)
          have hc1 := ho.1.c
          have hW2 := pplW_WF (wh := wh) (cts := cts) ho.1 m g3
          have hpp := fun j (hj : j < 32 ∨ 92 ≤ j) => pplW_hi (wh := wh) (M := Mk) (cts := cts) hj m (by omega)
          obtain ⟨Mm, hMm⟩ : ∃ z, pplW wh Mk cts m = z := ⟨_, rfl⟩
          rw [hMm] at hR2 hW2 hpp
          refine aw_iload_6 C dX8_hoursGo_33 ?_
          refine aw_aload_1 C dX8_hoursGo_35 rfl ?_
          refine aw_g7_5 C (hR2.2.2.1.1.trans (by rw [hpp 92 (by omega)])) dX8_hoursGo_36 (shW0 hw) fl_X8_222 ?_
          refine aw_icmp_ge_n C dX8_hoursGo_39 (tgt := 133) (by decide) (by omega) (by omega) (fun c_39 => ?_) (fun c_39 => ?_)
          · skip
            have hW9 := hW2
            have hR9 := hR2
            have hC9 := hC2
            have hF9 := hF2
            have hMM : hourW wh Mk cts = mu Mm 94 (Mk 94 + 1) := by unfold hourW; rw [if_neg (by omega), ← hMm, show m = Mk 92 by omega]
            have hQ9 : ∃ L, WQ q2 L := ⟨_, hQ2⟩
            obtain ⟨q9, hq9⟩ : ∃ z, q2 = z := ⟨_, rfl⟩
            obtain ⟨M9, hM9⟩ : ∃ z, Mm = z := ⟨_, rfl⟩
            rw [hq9] at hR9 hC9 hQ9 hF9
            have h94 : M9 94 = Mk 94 := by rw [← hM9, hpp 94 (by omega)]
            rw [hM9] at hR9 hW9
            rw [hq9]
            refine aw_aload_1 C dX8_hoursGo_133 rfl ?_
            refine aw_dup C dX8_hoursGo_134 rfl ?_
            refine aw_g7_7 C (hR9.2.2.2.1.trans (by rw [h94])) dX8_hoursGo_135 (shW0 hw) fl_X8_164 ?_
            refine aw_iconst C dX8_hoursGo_138 k1_1 ?_
            refine aw_iadd_n C dX8_hoursGo_139  ?_
            refine aw_p7_7 C dX8_hoursGo_140 (shW0 hw) fl_X8_164 ?_
            refine aw_iinc_4 C dX8_hoursGo_143 (by decide) (fun w h => by cases h <;> rfl) (show _ + Int32.ofInt 1 = _ by rw [k1_1, nI_add]) ?_
            refine aw_goto C dX8_hoursGo_146 (tgt := 3) (by decide) ?_
            exact (ih (k + 1) (sI q9 w 7 (nI (Mk 94 + 1))) (by omega) (by omega) (by show RelW _ w (hourW wh (hoursW wh M cts k) cts); rw [hMk, hMM, hM9]; exact hR9.hour hW9) (by obtain ⟨L, z⟩ := hQ9; exact ⟨L, z.t (fun k j y => by rw [gI_sI, if_neg (by unfold SWm at y; omega)])⟩) (hC9.t hN6 (fun k j z1 z2 z3 => by rw [gI_sI, if_neg (by omega)])) (hF9.put (Or.inl ⟨by omega, by omega⟩))).less ⟨Or.inr rfl, Or.inr rfl, Or.inr rfl, Or.inr rfl, Or.inr rfl, Or.inl rfl, Or.inl rfl, Or.inl rfl, Or.inl rfl, trivial⟩
          · skip
            refine aw_iload_5 C dX8_hoursGo_42 ?_
            refine aw_if_ne_n C dX8_hoursGo_44 (tgt := 133) (by decide) (by omega) (fun c_44 => absurd c_44 (fun z => z rfl)) (fun c_44 => ?_)
            have hm92 : m < Mm 92 := by rw [hpp 92 (by omega)]; omega
            have hpm := hW2.p hm92
            refine aw_aload_1 C dX8_hoursGo_47 rfl ?_
            refine aw_g7_6 C dX8_hoursGo_48 (shW0 hw) fl_X8_74 ?_
            refine aw_iload_6 C dX8_hoursGo_51 ?_
            refine aw_pald C _ dX8_hoursGo_53 (shW4 hw) rfl (by omega) ?_
            refine aw_astore_7 C dX8_hoursGo_54 (by decide) (fun w h => by cases h <;> rfl) rfl ?_
            refine aw_iload_3 C dX8_hoursGo_56 ?_
            refine aw_iload_6 C dX8_hoursGo_57 ?_
            refine aw_ishr C dX8_hoursGo_59  ?_
            refine aw_iconst C dX8_hoursGo_60 k1_1 ?_
            refine aw_iand C dX8_hoursGo_61  ?_
            rw [hwho m (by omega)]
            refine aw_if_eq C dX8_hoursGo_62 (tgt := 87) (by decide)  (fun c_62 => ?_) (fun c_62 => ?_)
            · have hwm : ¬ wh m = true := fun z => by rw [if_pos z] at c_62; exact absurd c_62 (by decide +kernel)
              refine aw_iconst C dX8_hoursGo_87 k1_0 ?_
              refine aw_istore_8 C dX8_hoursGo_88 (by decide) (fun w h => by cases h <;> rfl) ?_
              refine aw_iload_8 C dX8_hoursGo_90 ?_
              refine aw_if_eq_n C dX8_hoursGo_92 (tgt := 127) (by decide) (by omega) (fun c_92 => ?_) (fun c_92 => absurd c_92 (fun z => z rfl))
              refine aw_iinc_6 C dX8_hoursGo_127 (by decide) (fun w h => by cases h <;> rfl) (show _ + Int32.ofInt 1 = _ by rw [k1_1, nI_add]) ?_
              refine aw_goto C dX8_hoursGo_130 (tgt := 33) (by decide) ?_
              exact (ih2 (m + 1) q2 L2 (by omega) (by omega) (by show RelW q2 w (goW wh (pplW wh Mk cts m) cts m); rw [hMm, show goW wh Mm cts m = Mm from if_neg hwm]; exact hR2) hQ2 hC2 hF2).less ⟨Or.inr rfl, Or.inr rfl, Or.inr rfl, Or.inr rfl, Or.inr rfl, Or.inr rfl, Or.inr rfl, Or.inl rfl, Or.inl rfl, trivial⟩
            · have hwm : wh m = true := Decidable.byContradiction (fun z => c_62 (by rw [if_neg z]; decide +kernel))
              refine aw_aload_7 C dX8_hoursGo_65 rfl ?_
              refine aw_g2_4 C (hR2.2.2.1.2 m hm92).2.2.2.2.1 dX8_hoursGo_67 (shWE hw (by omega)).1 fl_X8_93 ?_
              refine aw_bipush C dX8_hoursGo_70 k2_m5 ?_
              refine aw_icmp_eq C dX8_hoursGo_72 (tgt := 87) (by decide)  (fun c_72 => ?_) (fun c_72 => ?_)
              · have h99 : Mm (32 + 10 * m + 4) = 99 := (l5_m5 (by omega)).mp c_72
                refine aw_iconst C dX8_hoursGo_87 k1_0 ?_
                refine aw_istore_8 C dX8_hoursGo_88 (by decide) (fun w h => by cases h <;> rfl) ?_
                refine aw_iload_8 C dX8_hoursGo_90 ?_
                refine aw_if_eq_n C dX8_hoursGo_92 (tgt := 127) (by decide) (by omega) (fun c_92 => ?_) (fun c_92 => absurd c_92 (fun z => z rfl))
                refine aw_iinc_6 C dX8_hoursGo_127 (by decide) (fun w h => by cases h <;> rfl) (show _ + Int32.ofInt 1 = _ by rw [k1_1, nI_add]) ?_
                refine aw_goto C dX8_hoursGo_130 (tgt := 33) (by decide) ?_
                exact (ih2 (m + 1) q2 L2 (by omega) (by omega) (by show RelW q2 w (goW wh (pplW wh Mk cts m) cts m); rw [hMm, show goW wh Mm cts m = go1 Mm cts m from if_pos hwm, show go1 Mm cts m = Mm from if_neg (fun z => z.1 h99)]; exact hR2) hQ2 hC2 hF2).less ⟨Or.inr rfl, Or.inr rfl, Or.inr rfl, Or.inr rfl, Or.inr rfl, Or.inr rfl, Or.inr rfl, Or.inl rfl, Or.inl rfl, trivial⟩
              · have h99 : Mm (32 + 10 * m + 4) ≠ 99 := fun z => c_72 ((l5_m5 (by omega)).mpr z)
                refine aw_aload_7 C dX8_hoursGo_75 rfl ?_
                refine aw_cV0IE C (s_X2_isDone (w + 4 + 13 + 2 * m) m (shWE hw (by omega)) (hR2.2.2.1.2 m hm92) hW2 hm92) mf_X2_isDone mv_X2_isDone (shWE hw (by omega)).1 rfl ml_X8_289 dX8_hoursGo_77 (by omega) (Nat.le_of_ble_eq_true rfl) ?_
                refine aw_if_ne_b C dX8_hoursGo_80 (tgt := 87) (by decide)  (fun c_80 => ?_) (fun c_80 => ?_)
                · skip
                  refine aw_iconst C dX8_hoursGo_87 k1_0 ?_
                  refine aw_istore_8 C dX8_hoursGo_88 (by decide) (fun w h => by cases h <;> rfl) ?_
                  refine aw_iload_8 C dX8_hoursGo_90 ?_
                  refine aw_if_eq_n C dX8_hoursGo_92 (tgt := 127) (by decide) (by omega) (fun c_92 => ?_) (fun c_92 => absurd c_92 (fun z => z rfl))
                  refine aw_iinc_6 C dX8_hoursGo_127 (by decide) (fun w h => by cases h <;> rfl) (show _ + Int32.ofInt 1 = _ by rw [k1_1, nI_add]) ?_
                  refine aw_goto C dX8_hoursGo_130 (tgt := 33) (by decide) ?_
                  exact (ih2 (m + 1) q2 L2 (by omega) (by omega) (by show RelW q2 w (goW wh (pplW wh Mk cts m) cts m); rw [hMm, show goW wh Mm cts m = go1 Mm cts m from if_pos hwm, show go1 Mm cts m = Mm from if_neg (fun z => z.2.1 ⟨c_80.2.1, c_80.2.2⟩)]; exact hR2) hQ2 hC2 hF2).less ⟨Or.inr rfl, Or.inr rfl, Or.inr rfl, Or.inr rfl, Or.inr rfl, Or.inr rfl, Or.inr rfl, Or.inl rfl, Or.inl rfl, trivial⟩
                · skip
                  refine aw_iconst C dX8_hoursGo_83 k1_1 ?_
                  refine aw_goto C dX8_hoursGo_84 (tgt := 88) (by decide) ?_
                  refine aw_istore_8 C dX8_hoursGo_88 (by decide) (fun w h => by cases h <;> rfl) ?_
                  refine aw_iload_8 C dX8_hoursGo_90 ?_
                  refine aw_if_eq_n C dX8_hoursGo_92 (tgt := 127) (by decide) (by omega) (fun c_92 => absurd c_92 (by decide)) (fun c_92 => ?_)
                  refine aw_aload_0 C dX8_hoursGo_95 rfl ?_
                  refine aw_g8_3 C dX8_hoursGo_96 fl_X8_27 ?_
                  refine aw_aload_1 C dX8_hoursGo_99 rfl ?_
                  refine aw_iload_6 C dX8_hoursGo_100 ?_
                  refine aw_aload_7 C dX8_hoursGo_102 rfl ?_
                  refine aw_g2_4 C ((hR2.2.2.1.2 m hm92).2.2.2.2.1.trans (l5_n h99)) dX8_hoursGo_104 (shWE hw (by omega)).1 fl_X8_93 ?_
                  refine aw_cV3I C (s_X6_search w m (Mm (32 + 10 * m + 4)) hw hR2 hW2 hC2 (by rw [hpp 95 (by omega), ho.2.2 95 (by omega)]; exact hN) hN6 (hG.of ((hpp 95 (by omega)).trans (ho.2.2 95 (by omega)))) hm92 hQ2 (by omega)) mf_X6_search mv_X6_search (sh_88) rfl ml_X8_185 dX8_hoursGo_107 (by omega) (Nat.le_of_ble_eq_true rfl) (fun r_107 q_107 h_107 => ?_)
                  obtain ⟨rfl, hS, hF107⟩ := h_107
                  have hl9 := longM_le (cts := cts) (t := Mm (32 + 10 * m + 4)) hW2 hm92
                  have hR3 : RelW q_107 w Mm := hR2.t hW2 (fun k j z1 z2 => hF107.2 k j (by unfold SWs SFk; omega))
                  have hC3 : CyR q_107 cts N := hC2.t hN6 (fun k j z1 z2 z3 => hF107.2 k j (by unfold SWs SFk; omega))
                  have hF3 := hF2.tr (hF107.mono (fun k j z => (Or.inr z : SHo w k j)))
                  refine aw_if_le C dX8_hoursGo_110 (tgt := 127) (by decide)  (fun c_110 => ?_) (fun c_110 => ?_)
                  · have hl0 := (l5_pos hl9).mp c_110
                    refine aw_iinc_6 C dX8_hoursGo_127 (by decide) (fun w h => by cases h <;> rfl) (show _ + Int32.ofInt 1 = _ by rw [k1_1, nI_add]) ?_
                    refine aw_goto C dX8_hoursGo_130 (tgt := 33) (by decide) ?_
                    obtain ⟨L4, hQ4⟩ := hS.q
                    exact (ih2 (m + 1) q_107 L4 (by omega) (by omega) (by show RelW q_107 w (goW wh (pplW wh Mk cts m) cts m); rw [hMm, show goW wh Mm cts m = go1 Mm cts m from if_pos hwm, show go1 Mm cts m = Mm from if_neg (fun z => hl0.elim z.2.2.1 z.2.2.2)]; exact hR3) hQ4 hC3 hF3).less ⟨Or.inr rfl, Or.inr rfl, Or.inr rfl, Or.inr rfl, Or.inr rfl, Or.inr rfl, Or.inr rfl, Or.inl rfl, Or.inl rfl, trivial⟩
                  · have hl0 : longM Mm cts m (Mm (32 + 10 * m + 4)) ≠ 99 ∧ longM Mm cts m (Mm (32 + 10 * m + 4)) ≠ 0 := ⟨fun z => c_110 ((l5_pos hl9).mpr (Or.inl z)), fun z => c_110 ((l5_pos hl9).mpr (Or.inr z))⟩
                    have hso := step_ok (cts := cts) hW2 hm92 (j := 0) hl0.1 (by omega)
                    have hgo : goesP Mm cts m := ⟨h99, fun z => c_80 ⟨h99, z.1, z.2⟩, hl0.1, hl0.2⟩
                    refine aw_aload_1 C dX8_hoursGo_113 rfl ?_
                    refine aw_iload_6 C dX8_hoursGo_114 ?_
                    refine aw_aload_0 C dX8_hoursGo_116 rfl ?_
                    refine aw_g8_3 C dX8_hoursGo_117 fl_X8_27 ?_
                    refine aw_iconst C dX8_hoursGo_120 k1_0 ?_
                    refine aw_cV1IE C (s_X6_stepAt (256 * Mm (32 + 10 * m + 4)) 0 (GL.F hW2 hm92) hW2.c.1 hS (by decide)) mf_X6_stepAt mv_X6_stepAt (sh_88) rfl ml_X8_189 dX8_hoursGo_121 (by omega) (Nat.le_of_ble_eq_true rfl) ?_
                    rw [show (if lngT (bfsF Mm cts m) (256 * Mm (32 + 10 * m + 4)) ≠ 99 ∧ 0 < lngT (bfsF Mm cts m) (256 * Mm (32 + 10 * m + 4)) then nI (stpT (bfsF Mm cts m) (256 * Mm (32 + 10 * m + 4)) 0) else -5) = nI (stepM Mm cts m (Mm (32 + 10 * m + 4)) 0) from if_pos ⟨hl0.1, Nat.pos_of_ne_zero hl0.2⟩]
                    refine aw_cV2V C (s_X7_goOver w m (stepM Mm cts m (Mm (32 + 10 * m + 4)) 0) hw hR3 hW2 hm92 hso.1 (hso.2 rfl)) mf_X7_goOver mv_X7_goOver (shW0 hw) rfl ml_X8_129 dX8_hoursGo_124 (by omega) (Nat.le_of_ble_eq_true rfl) (fun q_124 h_124 => ?_)
                    obtain ⟨hR4, hF124⟩ := h_124
                    have hF4 := hF3.tr (hF124.mono (fun k j z => (Or.inl z : SHo w k j)))
                    have hC4 : CyR q_124 cts N := hC3.t hN6 (fun k j z1 z2 z3 => hF124.2 k j (by omega))
                    obtain ⟨L4, hQ3⟩ := hS.q
                    have hQ4 : WQ q_124 L4 := hQ3.t (fun k j z => hF124.2 k j (by unfold SWm at z; omega))
                    refine aw_iinc_6 C dX8_hoursGo_127 (by decide) (fun w h => by cases h <;> rfl) (show _ + Int32.ofInt 1 = _ by rw [k1_1, nI_add]) ?_
                    refine aw_goto C dX8_hoursGo_130 (tgt := 33) (by decide) ?_
                    exact (ih2 (m + 1) q_124 L4 (by omega) (by omega) (by show RelW q_124 w (goW wh (pplW wh Mk cts m) cts m); rw [hMm, show goW wh Mm cts m = go1 Mm cts m from if_pos hwm, show go1 Mm cts m = crossM Mm m (stepM Mm cts m (Mm (32 + 10 * m + 4)) 0) from if_pos hgo]; exact hR4) hQ4 hC4 hF4).less ⟨Or.inr rfl, Or.inr rfl, Or.inr rfl, Or.inr rfl, Or.inr rfl, Or.inr rfl, Or.inr rfl, Or.inl rfl, Or.inl rfl, trivial⟩
        obtain ⟨L1, hQ1b⟩ := hQ1
        exact L33 (Mk 92 + 1) 0 q1 L1 (by omega) (by omega) hR1 hQ1b hC1 hF1
      · skip
        refine aw_iconst C dX8_hoursGo_23 k1_1 ?_
        refine aw_goto C dX8_hoursGo_24 (tgt := 28) (by decide) ?_
        refine aw_istore_5 C dX8_hoursGo_28 (by decide) (fun w h => by cases h <;> rfl) ?_
        refine aw_iconst C dX8_hoursGo_30 k1_0 ?_
        refine aw_istore_6 C dX8_hoursGo_31 (by decide) (fun w h => by cases h <;> rfl) ?_
        refine aw_iload_6 C dX8_hoursGo_33 ?_
        refine aw_aload_1 C dX8_hoursGo_35 rfl ?_
        refine aw_g7_5 C hR1.2.2.1.1 dX8_hoursGo_36 (shW0 hw) fl_X8_222 ?_
        refine aw_icmp_ge_n C dX8_hoursGo_39 (tgt := 133) (by decide) (by omega) (by omega) (fun c_39 => ?_) (fun c_39 => ?_)
        · skip
          have hW9 := ho.1
          have hR9 := hR1
          have hC9 := hC1
          have hQ9 := hQ1
          have hF9 := hF1
          have hMM : hourW wh Mk cts = mu Mk 94 (Mk 94 + 1) := by unfold hourW; rw [if_pos (by omega)]
          obtain ⟨q9, hq9⟩ : ∃ z, q1 = z := ⟨_, rfl⟩
          obtain ⟨M9, hM9⟩ : ∃ z, Mk = z := ⟨_, rfl⟩
          rw [hq9] at hR9 hC9 hQ9 hF9
          have h94 : M9 94 = Mk 94 := by rw [hM9]
          rw [hM9] at hR9 hW9
          rw [hq9]
          refine aw_aload_1 C dX8_hoursGo_133 rfl ?_
          refine aw_dup C dX8_hoursGo_134 rfl ?_
          refine aw_g7_7 C (hR9.2.2.2.1.trans (by rw [h94])) dX8_hoursGo_135 (shW0 hw) fl_X8_164 ?_
          refine aw_iconst C dX8_hoursGo_138 k1_1 ?_
          refine aw_iadd_n C dX8_hoursGo_139  ?_
          refine aw_p7_7 C dX8_hoursGo_140 (shW0 hw) fl_X8_164 ?_
          refine aw_iinc_4 C dX8_hoursGo_143 (by decide) (fun w h => by cases h <;> rfl) (show _ + Int32.ofInt 1 = _ by rw [k1_1, nI_add]) ?_
          refine aw_goto C dX8_hoursGo_146 (tgt := 3) (by decide) ?_
          exact (ih (k + 1) (sI q9 w 7 (nI (Mk 94 + 1))) (by omega) (by omega) (by show RelW _ w (hourW wh (hoursW wh M cts k) cts); rw [hMk, hMM, hM9]; exact hR9.hour hW9) (by obtain ⟨L, z⟩ := hQ9; exact ⟨L, z.t (fun k j y => by rw [gI_sI, if_neg (by unfold SWm at y; omega)])⟩) (hC9.t hN6 (fun k j z1 z2 z3 => by rw [gI_sI, if_neg (by omega)])) (hF9.put (Or.inl ⟨by omega, by omega⟩))).less ⟨Or.inr rfl, Or.inr rfl, Or.inr rfl, Or.inr rfl, Or.inr rfl, Or.inl rfl, Or.inl rfl, Or.inl rfl, Or.inl rfl, trivial⟩
        · skip
          refine aw_iload_5 C dX8_hoursGo_42 ?_
          refine aw_if_ne_n C dX8_hoursGo_44 (tgt := 133) (by decide) (by omega) (fun c_44 => ?_) (fun c_44 => absurd c_44 (by decide))
          have hW9 := ho.1
          have hR9 := hR1
          have hC9 := hC1
          have hQ9 := hQ1
          have hF9 := hF1
          have hMM : hourW wh Mk cts = mu Mk 94 (Mk 94 + 1) := by unfold hourW; rw [if_pos (by omega)]
          obtain ⟨q9, hq9⟩ : ∃ z, q1 = z := ⟨_, rfl⟩
          obtain ⟨M9, hM9⟩ : ∃ z, Mk = z := ⟨_, rfl⟩
          rw [hq9] at hR9 hC9 hQ9 hF9
          have h94 : M9 94 = Mk 94 := by rw [hM9]
          rw [hM9] at hR9 hW9
          rw [hq9]
          refine aw_aload_1 C dX8_hoursGo_133 rfl ?_
          refine aw_dup C dX8_hoursGo_134 rfl ?_
          refine aw_g7_7 C (hR9.2.2.2.1.trans (by rw [h94])) dX8_hoursGo_135 (shW0 hw) fl_X8_164 ?_
          refine aw_iconst C dX8_hoursGo_138 k1_1 ?_
          refine aw_iadd_n C dX8_hoursGo_139  ?_
          refine aw_p7_7 C dX8_hoursGo_140 (shW0 hw) fl_X8_164 ?_
          refine aw_iinc_4 C dX8_hoursGo_143 (by decide) (fun w h => by cases h <;> rfl) (show _ + Int32.ofInt 1 = _ by rw [k1_1, nI_add]) ?_
          refine aw_goto C dX8_hoursGo_146 (tgt := 3) (by decide) ?_
          exact (ih (k + 1) (sI q9 w 7 (nI (Mk 94 + 1))) (by omega) (by omega) (by show RelW _ w (hourW wh (hoursW wh M cts k) cts); rw [hMk, hMM, hM9]; exact hR9.hour hW9) (by obtain ⟨L, z⟩ := hQ9; exact ⟨L, z.t (fun k j y => by rw [gI_sI, if_neg (by unfold SWm at y; omega)])⟩) (hC9.t hN6 (fun k j z1 z2 z3 => by rw [gI_sI, if_neg (by omega)])) (hF9.put (Or.inl ⟨by omega, by omega⟩))).less ⟨Or.inr rfl, Or.inr rfl, Or.inr rfl, Or.inr rfl, Or.inr rfl, Or.inl rfl, Or.inl rfl, Or.inl rfl, Or.inl rfl, trivial⟩
  exact L3 (n + 1) 0 q (by omega) (by omega) h hQ hC Fr.rf
