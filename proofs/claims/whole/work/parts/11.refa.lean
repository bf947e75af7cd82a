theorem mu_ne {M : Nat → Nat} {j v k : Nat} (h : k ≠ j) : mu M j v k = M k := if_neg h
theorem mu_eq {M : Nat → Nat} {j v : Nat} : mu M j v j = v := if_pos rfl
/-- a number of one that keeps to what is told -/
theorem WF.per {M : Nat → Nat} (h : WF M) {i w v : Nat} (hi : i < M 92) (hw : w < 10) (h0 : w = 0 → v < 7) (h1 : w = 1 → v < 10) (h2 : w = 2 → v < 6) (h3 : w = 3 → v < 6) (h4 : w = 4 → v = 99 ∨ v < 6) (h5 : w = 5 → v < 2 ^ M 93) (h6 : 6 ≤ w → v < 10) : WF (mu M (32 + 10 * i + w) v) := by
  have hi6 := (h.p hi).1
  have e : ∀ j, j < 32 ∨ 92 ≤ j → mu M (32 + 10 * i + w) v j = M j := fun j hj => if_neg (by omega)
  have hc93 := h.c.1
  obtain ⟨a, b, c, r1, r2, r3, r4⟩ := h
  have e92 := e 92 (by omega)
  have e93 := e 93 (by omega)
  refine ⟨?_, ?_, ?_, ?_, ?_, ?_, ?_⟩
  · rw [e92, e93, e 94 (by omega), e 95 (by omega), e 96 (by omega), e 112 (by omega), e 129 (by omega)]
    exact a
  · intro x hx
    rw [e93] at hx ⊢
    rw [e _ (by omega), e _ (by omega), e _ (by omega), e _ (by omega)]
    exact b x hx
  · intro x hx
    rw [e92] at hx
    rw [e93]
    have hx6 : x < 6 := by omega
    by_cases hxi : x = i
    · subst hxi
      obtain ⟨c0, c1, c2, c3, c4, c5, c6⟩ := c x hx
      unfold mu
      refine ⟨?_, ?_, ?_, ?_, ?_, ?_, ?_⟩
      · split
        · exact h0 (by omega)
        · exact c0
      · split
        · exact h1 (by omega)
        · exact c1
      · split
        · exact h2 (by omega)
        · exact c2
      · split
        · exact h3 (by omega)
        · exact c3
      · split
        · exact h4 (by omega)
        · exact c4
      · split
        · exact h5 (by omega)
        · exact c5
      · intro r hr
        split
        · exact h6 (by omega)
        · exact c6 r hr
    · have f : ∀ z, z < 10 → mu M (32 + 10 * i + w) v (32 + 10 * x + z) = M (32 + 10 * x + z) := fun z hz => if_neg (by omega)
      rw [f 0 (by omega), f 1 (by omega), f 2 (by omega), f 3 (by omega), f 4 (by omega), f 5 (by omega)]
      obtain ⟨c0, c1, c2, c3, c4, c5, c6⟩ := c x hx
      exact ⟨c0, c1, c2, c3, c4, c5, fun r hr => by rw [f _ (by omega)]; exact c6 r hr⟩
  · intro x hx
    rw [e 96 (by omega)] at hx
    rw [e92, e _ (by omega), e _ (by omega), e _ (by omega)]
    exact r1 x hx
  · intro x hx
    rw [e 112 (by omega)] at hx
    rw [e92, e93, e _ (by omega), e _ (by omega)]
    exact r2 x hx
  · intro x hx
    rw [e 129 (by omega)] at hx
    rw [e92, e _ (by omega), e _ (by omega)]
    exact r3 x hx
  · intro x hx
    unfold mu
    split
    · have := h5 (by omega)
      have := pow_nb hc93
      omega
    · exact r4 x hx
theorem s_X9_oneN {G : GT} {q : S_} {M : Nat → Nat} (hM : RelR q M) (i w : Nat) {v : Nat} (hv : M (32 + 10 * i + w) = v) (h : 32 + 10 * i + w < 146) (ho : ¬ isOpt (32 + 10 * i + w)) : Spec G 1 yX9_one cX9_one 3 (some .int) [rfn G 129, .int (nI i), .int (nI w)] q (PI fun r2 q3 => r2 = nI v ∧ q3 = q) := by
  have := s_X9_one (G := G) (q := q) i w h
  rw [hM.n h ho, hv] at this
  exact this
theorem s_X9_endN {G : GT} {q : S_} {M : Nat → Nat} (hM : RelR q M) (b w : Nat) {v : Nat} (hv : M (4 * b + w) = v) (h : 4 * b + w < 32) (ho : ¬ isOpt (4 * b + w)) : Spec G 1 yX9_end cX9_end 3 (some .int) [rfn G 129, .int (nI b), .int (nI w)] q (PI fun r2 q3 => r2 = nI v ∧ q3 = q) := by
  have := s_X9_end (G := G) (q := q) b w (by omega)
  rw [hM.n (by omega) ho, hv] at this
  exact this
theorem s_X9_sisterN {G : GT} {q : S_} {M : Nat → Nat} (hM : RelR q M) (b : Nat) (h : b < 8) : Spec G 1 yX9_sister cX9_sister 2 (some .int) [rfn G 129, .int (nI b)] q (PI fun r2 q3 => r2 = cd (4 * b + 2) (M (4 * b + 2)) ∧ q3 = q) := by
  have := s_X9_sister (G := G) (q := q) b (by omega)
  rw [hM (4 * b + 2) (by omega)] at this
  exact this
theorem s_X9_isLostN {G : GT} {q : S_} {M : Nat → Nat} (hM : RelR q M) (b : Nat) (h : b < 8) (hb : M (4 * b + 3) < 2) : Spec G 1 yX9_isLost cX9_isLost 2 (some .boolean) [rfn G 129, .int (nI b)] q (PI fun r2 q3 => r2 = bP (M (4 * b + 3) = 1) ∧ q3 = q) := by
  have := s_X9_isLost (G := G) (q := q) b (by omega)
  rw [hM.n (by omega) (by unfold isOpt; omega), bP_congr (nI_eq (by omega) (by decide))] at this
  exact this
theorem s_X9_changeM {G : GT} {q : S_} {M : Nat → Nat} (hM : RelR q M) (i w : Nat) {x : Int32} (v : Nat) (hx : x = cd (32 + 10 * i + w) v) (h : 32 + 10 * i + w < 146) : Spec G 2 yX9_change cX9_change 5 (some .int) [rfn G 129, .int (nI i), .int (nI w), .int x] q (PI fun r2 q3 => r2 = cd (32 + 10 * i + w) (M (32 + 10 * i + w)) ∧ RelR q3 (mu M (32 + 10 * i + w) v) ∧ Fr (fun k _ => k = 130) q q3) := by
  have := s_X9_change (G := G) (q := q) i w x h
  refine this.mono ?_
  rintro r q2 ⟨z, h1, h2, h3⟩
  subst h3
  exact ⟨z, h1, h2.trans (hM _ h), hM.set hx, Fr.set rfl⟩
/-- one crosses a bridge -/
def crossM (M : Nat → Nat) (i b : Nat) : Nat → Nat := if halfM M (M (32 + 10 * i + 5)) b = 0 then mu (mu (mu M (32 + 10 * i + 2) (M (4 * b + 0) + M (4 * b + 1) - M (32 + 10 * i + 2))) (32 + 10 * i + 5) (halfM M (M (32 + 10 * i + 5)) b)) (32 + 10 * i + 3) (M (4 * b + 0) + M (4 * b + 1) - M (32 + 10 * i + 2)) else mu (mu M (32 + 10 * i + 2) (M (4 * b + 0) + M (4 * b + 1) - M (32 + 10 * i + 2))) (32 + 10 * i + 5) (halfM M (M (32 + 10 * i + 5)) b)
theorem crossM_WF {M : Nat → Nat} (hW : WF M) {i b : Nat} (hi : i < M 92) (hb : b < M 93) (hadj : M (4 * b + 0) = M (32 + 10 * i + 2) ∨ M (4 * b + 1) = M (32 + 10 * i + 2)) : WF (crossM M i b) := by
  have hp := hW.p hi
  have hq := hW.b hb
  have hh := halfM_lt hW hb hp.2.2.2.2.2.2.1
  have w1 : WF (mu M (32 + 10 * i + 2) (M (4 * b + 0) + M (4 * b + 1) - M (32 + 10 * i + 2))) := hW.per hi (by omega) (by omega) (by omega) (fun _ => by rcases hadj with z | z <;> omega) (by omega) (by omega) (by omega) (by omega)
  have w2 := w1.per (i := i) (w := 5) (v := halfM M (M (32 + 10 * i + 5)) b) (by rw [mu_ne (by omega)]; exact hi) (by omega) (by omega) (by omega) (by omega) (by omega) (by omega) (fun _ => by rw [mu_ne (by omega)]; exact hh) (by omega)
  unfold crossM
  split
  · exact w2.per (by rw [mu_ne (by omega), mu_ne (by omega)]; exact hi) (by omega) (by omega) (by omega) (by omega) (fun _ => by rcases hadj with z | z <;> omega) (by omega) (by omega) (by omega)
  · exact w2
theorem halfM_mu {M : Nat → Nat} {j v h b : Nat} (hj : 32 ≤ j) (hb : b < 7 ∨ b = 7) : halfM (mu M j v) h b = halfM M h b := by
  unfold halfM
  rw [mu_ne (by omega)]

set_option maxRecDepth 100000 in
set_option maxHeartbeats 4000000 in
theorem s_X9_halfBy {G : GT} {q : S_} {M : Nat → Nat} (h b : Nat) (hM : RelR q M) (hW : WF M) (hb : b < M 93) (hh : h < 2 ^ M 93) : Spec G 2 yX9_halfBy cX9_halfBy 4 (some .int) [rfn G 129, .int (nI h), .int (nI b)] q (PI fun r2 q3 => r2 = nI (halfM M h b) ∧ q3 = q) := by
  refine Spec.intro RX9 (by decide) rfl (Nat.le_of_ble_eq_true rfl) [some (rfn G 129), some (.int (nI h)), some (.int (nI b)), none] rfl ?_
  intro X d hd C hR
  have hc := hW.c
  have hbb := hW.b hb
  have hh2 : h < 256 := Nat.lt_of_lt_of_le hh (pow_nb hc.1)
  refine aw_aload_0 C dX9_halfBy_0 rfl ?_
  refine aw_iload_2 C dX9_halfBy_1 ?_
  refine aw_cV1IE C (s_X9_sisterN hM _ (by omega)) mf_X9_sister mv_X9_sister (sh_129) rfl ml_X9_136 dX9_halfBy_2 (by omega) (Nat.le_of_ble_eq_true rfl) ?_
  refine aw_istore_3 C dX9_halfBy_5 (by decide) (fun w h => by cases h <;> rfl) ?_
  refine aw_iload_3 C dX9_halfBy_6 ?_
  refine aw_iconst C dX9_halfBy_7 k1_m1 ?_
  refine aw_icmp_eq C dX9_halfBy_8 (tgt := 30) (by decide)  (fun c_8 => ?_) (fun c_8 => ?_)
  · have hs : M (4 * b + 2) = 99 := ((cd_m1 (by omega)).mp c_8).2
    refine aw_iload_1 C dX9_halfBy_30 ?_
    refine aw_iconst C dX9_halfBy_31 k1_1 ?_
    refine aw_iload_2 C dX9_halfBy_32 ?_
    refine aw_ishl C dX9_halfBy_33  ?_
    refine aw_ixor C dX9_halfBy_34  ?_
    refine aw_iretI C hR dX9_halfBy_35 ?_
    exact ⟨by rw [xr_I h hh2 b (by omega)]; unfold halfM; rw [if_neg (fun z => z.1 hs)], rfl⟩
  · have hs : M (4 * b + 2) ≠ 99 := fun z => c_8 ((cd_m1 (by omega)).mpr ⟨by unfold isOpt; omega, z⟩)
    rw [cd_v hs]
    refine aw_iload_1 C dX9_halfBy_11 ?_
    refine aw_iload_3 C dX9_halfBy_12 ?_
    refine aw_ishr C dX9_halfBy_13  ?_
    refine aw_iconst C dX9_halfBy_14 k1_1 ?_
    refine aw_iand C dX9_halfBy_15  ?_
    rw [bit_I h hh2 (M (4 * b + 2)) (by omega)]
    have hlt := Nat.mod_lt (h / 2 ^ M (4 * b + 2)) (by decide : 2 > 0)
    refine aw_iconst C dX9_halfBy_16 k1_1 ?_
    refine aw_icmp_ne_n C dX9_halfBy_17 (tgt := 30) (by decide) (by omega) (by omega) (fun c_17 => ?_) (fun c_17 => ?_)
    · skip
      refine aw_iload_1 C dX9_halfBy_30 ?_
      refine aw_iconst C dX9_halfBy_31 k1_1 ?_
      refine aw_iload_2 C dX9_halfBy_32 ?_
      refine aw_ishl C dX9_halfBy_33  ?_
      refine aw_ixor C dX9_halfBy_34  ?_
      refine aw_iretI C hR dX9_halfBy_35 ?_
      exact ⟨by rw [xr_I h hh2 b (by omega)]; unfold halfM; rw [if_neg (fun z => absurd z.2 c_17)], rfl⟩
    · skip
      refine aw_iload_1 C dX9_halfBy_20 ?_
      refine aw_iconst C dX9_halfBy_21 k1_1 ?_
      refine aw_iload_3 C dX9_halfBy_22 ?_
      refine aw_ishl C dX9_halfBy_23  ?_
      refine aw_iconst C dX9_halfBy_24 k1_m1 ?_
      refine aw_ixor C dX9_halfBy_25  ?_
      refine aw_iand C dX9_halfBy_26  ?_
      rw [xr_off h hh2 (M (4 * b + 2)) (by omega) c_17]
      refine aw_goto C dX9_halfBy_27 (tgt := 35) (by decide) ?_
      refine aw_iretI C hR dX9_halfBy_35 ?_
      exact ⟨by unfold halfM; rw [if_pos ⟨hs, c_17⟩], rfl⟩

set_option maxRecDepth 100000 in
set_option maxHeartbeats 4000000 in
theorem s_X9_isTruly {G : GT} {q : S_} {M : Nat → Nat} (i t : Nat) (hM : RelR q M) (hW : WF M) (hi : i < M 92) (ht : t < 2 ^ 31) : Spec G 2 yX9_isTruly cX9_isTruly 3 (some .boolean) [rfn G 129, .int (nI i), .int (nI t)] q (PI fun r2 q3 => r2 = bP (M (32 + 10 * i + 2) = t ∧ M (32 + 10 * i + 5) = 0) ∧ q3 = q) := by
  refine Spec.intro RX9 (by decide) rfl (Nat.le_of_ble_eq_true rfl) [some (rfn G 129), some (.int (nI i)), some (.int (nI t))] rfl ?_
  intro X d hd C hR
  have hp := hW.p hi
  have hh := hW.half hi
  refine aw_aload_0 C dX9_isTruly_0 rfl ?_
  refine aw_iload_1 C dX9_isTruly_1 ?_
  refine aw_iconst C dX9_isTruly_2 k1_2 ?_
  refine aw_cV2IE C (s_X9_oneN hM _ _ rfl (by omega) (by unfold isOpt; omega)) mf_X9_one mv_X9_one (sh_129) rfl ml_X9_102 dX9_isTruly_3 (by omega) (Nat.le_of_ble_eq_true rfl) ?_
  refine aw_iload_2 C dX9_isTruly_6 ?_
  refine aw_icmp_ne_n C dX9_isTruly_7 (tgt := 23) (by decide) (by omega) (by omega) (fun c_7 => ?_) (fun c_7 => ?_)
  · skip
    refine aw_iconst C dX9_isTruly_23 k1_0 ?_
    refine aw_iretZ C hR dX9_isTruly_24 (by first | rfl | exact bP_nar) ?_
    exact ⟨by first | exact (bP_t (by omega)).symm | exact (bP_f (by omega)).symm, rfl⟩
  · skip
    refine aw_aload_0 C dX9_isTruly_10 rfl ?_
    refine aw_iload_1 C dX9_isTruly_11 ?_
    refine aw_iconst C dX9_isTruly_12 k1_5 ?_
    refine aw_cV2IE C (s_X9_oneN hM _ _ rfl (by omega) (by unfold isOpt; omega)) mf_X9_one mv_X9_one (sh_129) rfl ml_X9_102 dX9_isTruly_13 (by omega) (Nat.le_of_ble_eq_true rfl) ?_
    refine aw_if_ne_n C dX9_isTruly_16 (tgt := 23) (by decide) (by omega) (fun c_16 => ?_) (fun c_16 => ?_)
    · skip
      refine aw_iconst C dX9_isTruly_23 k1_0 ?_
      refine aw_iretZ C hR dX9_isTruly_24 (by first | rfl | exact bP_nar) ?_
      exact ⟨by first | exact (bP_t (by omega)).symm | exact (bP_f (by omega)).symm, rfl⟩
    · skip
      refine aw_iconst C dX9_isTruly_19 k1_1 ?_
      refine aw_goto C dX9_isTruly_20 (tgt := 24) (by decide) ?_
      refine aw_iretZ C hR dX9_isTruly_24 (by first | rfl | exact bP_nar) ?_
      exact ⟨by first | exact (bP_t (by omega)).symm | exact (bP_f (by omega)).symm, rfl⟩

abbrev doneM (M : Nat → Nat) (i : Nat) : Prop := M (32 + 10 * i + 4) ≠ 99 ∧ M (32 + 10 * i + 2) = M (32 + 10 * i + 4) ∧ M (32 + 10 * i + 5) = 0
def donesM (M : Nat → Nat) (k : Nat) : Nat := bsum (fun i => doneM M i) k
theorem donesM_t {M : Nat → Nat} {k : Nat} (h : doneM M k) : donesM M k + 2 ^ k = donesM M (k + 1) := by
  unfold donesM
  rw [bsum, if_pos h]
theorem donesM_f {M : Nat → Nat} {k : Nat} (h : ¬ doneM M k) : donesM M k = donesM M (k + 1) := by
  unfold donesM
  rw [bsum, if_neg h]
  rfl
def halvesM (M : Nat → Nat) : Nat → Nat
  | 0 => 0
  | k + 1 => halvesM M k + pop (M (32 + 10 * k + 5))
theorem halvesM_le (M : Nat → Nat) : ∀ k, halvesM M k ≤ 8 * k := by
  intro k
  induction k with
  | zero => exact Nat.le_refl 0
  | succ k ih =>
    have := pop_le (M (32 + 10 * k + 5))
    show halvesM M k + pop _ ≤ 8 * (k + 1)
    omega

set_option maxRecDepth 100000 in
set_option maxHeartbeats 4000000 in
theorem s_X9_isDone {G : GT} {q : S_} {M : Nat → Nat} (i : Nat) (hM : RelR q M) (hW : WF M) (hi : i < M 92) : Spec G 3 yX9_isDone cX9_isDone 2 (some .boolean) [rfn G 129, .int (nI i)] q (PI fun r2 q3 => r2 = bP (doneM M i) ∧ q3 = q) := by
  refine Spec.intro RX9 (by decide) rfl (Nat.le_of_ble_eq_true rfl) [some (rfn G 129), some (.int (nI i))] rfl ?_
  intro X d hd C hR
  have hp := hW.p hi
  refine aw_aload_0 C dX9_isDone_0 rfl ?_
  refine aw_iload_1 C dX9_isDone_1 ?_
  refine aw_iconst C dX9_isDone_2 k1_4 ?_
  refine aw_cV2IE C (s_X9_one i 4 (by omega)) mf_X9_one mv_X9_one (sh_129) rfl ml_X9_102 dX9_isDone_3 (by omega) (Nat.le_of_ble_eq_true rfl) ?_
  rw [hM (32 + 10 * i + 4) (by omega)]
  refine aw_iconst C dX9_isDone_6 k1_m1 ?_
  refine aw_icmp_eq C dX9_isDone_7 (tgt := 28) (by decide)  (fun c_7 => ?_) (fun c_7 => ?_)
  · have hs : M (32 + 10 * i + 4) = 99 := ((cd_m1 (by omega)).mp c_7).2
    refine aw_iconst C dX9_isDone_28 k1_0 ?_
    refine aw_iretZ C hR dX9_isDone_29 (by first | rfl | exact bP_nar) ?_
    exact ⟨(bP_f (fun z => z.1 hs)).symm, rfl⟩
  · have hs : M (32 + 10 * i + 4) ≠ 99 := fun z => c_7 ((cd_m1 (by omega)).mpr ⟨by unfold isOpt; omega, z⟩)
    refine aw_aload_0 C dX9_isDone_10 rfl ?_
    refine aw_iload_1 C dX9_isDone_11 ?_
    refine aw_aload_0 C dX9_isDone_12 rfl ?_
    refine aw_iload_1 C dX9_isDone_13 ?_
    refine aw_iconst C dX9_isDone_14 k1_4 ?_
    refine aw_cV2IE C (s_X9_one i 4 (by omega)) mf_X9_one mv_X9_one (sh_129) rfl ml_X9_102 dX9_isDone_15 (by omega) (Nat.le_of_ble_eq_true rfl) ?_
    rw [hM (32 + 10 * i + 4) (by omega)]
    rw [cd_v hs]
    refine aw_cV2IE C (s_X9_isTruly _ _ hM hW (by omega) (by omega)) mf_X9_isTruly mv_X9_isTruly (sh_129) rfl ml_X9_236 dX9_isDone_18 (by omega) (Nat.le_of_ble_eq_true rfl) ?_
    refine aw_if_eq_b C dX9_isDone_21 (tgt := 28) (by decide)  (fun c_21 => ?_) (fun c_21 => ?_)
    · skip
      refine aw_iconst C dX9_isDone_28 k1_0 ?_
      refine aw_iretZ C hR dX9_isDone_29 (by first | rfl | exact bP_nar) ?_
      exact ⟨(bP_f (fun z => c_21 z.2)).symm, rfl⟩
    · skip
      refine aw_iconst C dX9_isDone_24 k1_1 ?_
      refine aw_goto C dX9_isDone_25 (tgt := 29) (by decide) ?_
      refine aw_iretZ C hR dX9_isDone_29 (by first | rfl | exact bP_nar) ?_
      exact ⟨(bP_t ⟨hs, c_21⟩).symm, rfl⟩

set_option maxRecDepth 100000 in
set_option maxHeartbeats 4000000 in
theorem s_X9_dones {G : GT} {q : S_} {M : Nat → Nat}  (hM : RelR q M) (hW : WF M) : Spec G 4 yX9_dones cX9_dones 3 (some .int) [rfn G 129] q (PI fun r2 q3 => r2 = nI (donesM M (M 92)) ∧ q3 = q) := by
  refine Spec.intro RX9 (by decide) rfl (Nat.le_of_ble_eq_true rfl) [some (rfn G 129), none, none] rfl ?_
  intro X d hd C hR
  have hc := hW.c
  have hx : ∀ k, donesM M k < 2 ^ k := bsum_lt _
  refine aw_iconst C dX9_dones_0 k1_0 ?_
  refine aw_istore_1 C dX9_dones_1 (by decide) (fun w h => by cases h <;> rfl) ?_
  refine aw_iconst C dX9_dones_2 k1_0 ?_
  refine aw_istore_2 C dX9_dones_3 (by decide) (fun w h => by cases h <;> rfl) ?_
  have L4 : ∀ (n k : Nat), k ≤ M 92 → M 92 < k + n → AW X G (q) 4 [some (rfn G 129), some (.int (nI (donesM M k))), some (.int (nI k))] [] := by
    refine nat_loop (fun k  h1 h2 => by omega) (fun n ih k  h1 h2 => ?_)
    refine aw_iload_2 C dX9_dones_4 ?_
    refine aw_aload_0 C dX9_dones_5 rfl ?_
    refine aw_g9_0 C dX9_dones_6 fl_X9_9 ?_
    refine aw_bipush C dX9_dones_9 k2_92 ?_
    refine aw_iald C _ (hM.n (by omega) (by decide)) dX9_dones_11 sh_130 rfl (by decide) ?_
    refine aw_icmp_ge_n C dX9_dones_12 (tgt := 39) (by decide) (by omega) (by omega) (fun c_12 => ?_) (fun c_12 => ?_)
    · skip
      refine aw_iload_1 C dX9_dones_39 ?_
      refine aw_iretI C hR dX9_dones_40 ?_
      exact ⟨by rw [show k = M 92 by omega], rfl⟩
    · skip
      refine aw_iload_1 C dX9_dones_15 ?_
      refine aw_aload_0 C dX9_dones_16 rfl ?_
      refine aw_iload_2 C dX9_dones_17 ?_
      refine aw_cV1IE C (s_X9_isDone _ hM hW (by omega)) mf_X9_isDone mv_X9_isDone (sh_129) rfl ml_X9_245 dX9_dones_18 (by omega) (Nat.le_of_ble_eq_true rfl) ?_
      refine aw_if_eq_b C dX9_dones_21 (tgt := 30) (by decide)  (fun c_21 => ?_) (fun c_21 => ?_)
      · skip
        refine aw_iconst C dX9_dones_30 k1_0 ?_
        refine aw_ior_n C dX9_dones_31  ?_
        rw [Nat.or_zero, donesM_f c_21]
        refine aw_istore_1 C dX9_dones_32 (by decide) (fun w h => by cases h <;> rfl) ?_
        refine aw_iinc_2 C dX9_dones_33 (by decide) (fun w h => by cases h <;> rfl) (show _ + Int32.ofInt 1 = _ by rw [k1_1, nI_add]) ?_
        refine aw_goto C dX9_dones_36 (tgt := 4) (by decide) ?_
        exact ih (k + 1) (by omega) (by omega)
      · skip
        refine aw_iconst C dX9_dones_24 k1_1 ?_
        refine aw_iload_2 C dX9_dones_25 ?_
        refine aw_ishl_n C dX9_dones_26 (by omega) (by rw [Nat.one_mul]; have := Nat.pow_le_pow_right (n := 2) (by decide) (show k ≤ 6 by omega); omega) ?_
        rw [Nat.one_mul]
        refine aw_goto C dX9_dones_27 (tgt := 31) (by decide) ?_
        refine aw_ior_n C dX9_dones_31  ?_
        rw [or_pow (hx k), donesM_t c_21]
        refine aw_istore_1 C dX9_dones_32 (by decide) (fun w h => by cases h <;> rfl) ?_
        refine aw_iinc_2 C dX9_dones_33 (by decide) (fun w h => by cases h <;> rfl) (show _ + Int32.ofInt 1 = _ by rw [k1_1, nI_add]) ?_
        refine aw_goto C dX9_dones_36 (tgt := 4) (by decide) ?_
        exact ih (k + 1) (by omega) (by omega)
  exact L4 (M 92 + 1) 0 (by omega) (by omega)

set_option maxRecDepth 100000 in
set_option maxHeartbeats 4000000 in
theorem s_X9_halves {G : GT} {q : S_} {M : Nat → Nat}  (hM : RelR q M) (hW : WF M) : Spec G 2 yX9_halves cX9_halves 3 (some .int) [rfn G 129] q (PI fun r2 q3 => r2 = nI (halvesM M (M 92)) ∧ q3 = q) := by
  refine Spec.intro RX9 (by decide) rfl (Nat.le_of_ble_eq_true rfl) [some (rfn G 129), none, none] rfl ?_
  intro X d hd C hR
  have hc := hW.c
  refine aw_iconst C dX9_halves_0 k1_0 ?_
  refine aw_istore_1 C dX9_halves_1 (by decide) (fun w h => by cases h <;> rfl) ?_
  refine aw_iconst C dX9_halves_2 k1_0 ?_
  refine aw_istore_2 C dX9_halves_3 (by decide) (fun w h => by cases h <;> rfl) ?_
  have L4 : ∀ (n k : Nat), k ≤ M 92 → M 92 < k + n → AW X G (q) 4 [some (rfn G 129), some (.int (nI (halvesM M k))), some (.int (nI k))] [] := by
    refine nat_loop (fun k  h1 h2 => by omega) (fun n ih k  h1 h2 => ?_)
    refine aw_iload_2 C dX9_halves_4 ?_
    refine aw_aload_0 C dX9_halves_5 rfl ?_
    refine aw_g9_0 C dX9_halves_6 fl_X9_9 ?_
    refine aw_bipush C dX9_halves_9 k2_92 ?_
    refine aw_iald C _ (hM.n (by omega) (by decide)) dX9_halves_11 sh_130 rfl (by decide) ?_
    refine aw_icmp_ge_n C dX9_halves_12 (tgt := 33) (by decide) (by omega) (by omega) (fun c_12 => ?_) (fun c_12 => ?_)
    · skip
      refine aw_iload_1 C dX9_halves_33 ?_
      refine aw_iretI C hR dX9_halves_34 ?_
      exact ⟨by rw [show k = M 92 by omega], rfl⟩
    · skip
      refine aw_iload_1 C dX9_halves_15 ?_
      refine aw_aload_0 C dX9_halves_16 rfl ?_
      refine aw_iload_2 C dX9_halves_17 ?_
      refine aw_iconst C dX9_halves_18 k1_5 ?_
      refine aw_cV2IE C (s_X9_oneN hM _ _ rfl (by omega) (by unfold isOpt; omega)) mf_X9_one mv_X9_one (sh_129) rfl ml_X9_102 dX9_halves_19 (by omega) (Nat.le_of_ble_eq_true rfl) ?_
      have hh := hW.half (show k < M 92 by omega)
      refine aw_cS1IE C (s_X9_many _ (by omega)) mf_X9_many ms_X9_many ml_X9_202 dX9_halves_22 (by omega) (Nat.le_of_ble_eq_true rfl) ?_
      refine aw_iadd_n C dX9_halves_25  ?_
      refine aw_istore_1 C dX9_halves_26 (by decide) (fun w h => by cases h <;> rfl) ?_
      refine aw_iinc_2 C dX9_halves_27 (by decide) (fun w h => by cases h <;> rfl) (show _ + Int32.ofInt 1 = _ by rw [k1_1, nI_add]) ?_
      refine aw_goto C dX9_halves_30 (tgt := 4) (by decide) ?_
      exact ih (k + 1) (by omega) (by omega)
  exact L4 (M 92 + 1) 0 (by omega) (by omega)

/-- the first n items of a row of ints over another's -/
def cpI (q : S_) (k1 k2 n : Nat) : S_ := (fun a c => if a = k2 ∧ c < n then q.1 k1 c else q.1 a c, q.2)
theorem cpI_0 (q : S_) (k1 k2 : Nat) : cpI q k1 k2 0 = q := by
  unfold cpI
  simp
theorem cpI_s {q : S_} {k1 k2 n : Nat} (h : k1 ≠ k2) : sI (cpI q k1 k2 n) k2 n (gI (cpI q k1 k2 n) k1 n) = cpI q k1 k2 (n + 1) := by
  unfold cpI sI gI
  refine Prod.ext ?_ rfl
  funext a c
  by_cases ha : a = k2
  · subst ha
    by_cases hc : c = n
    · subst hc
      simp [h]
    · by_cases hl : c < n
      · simp [hc, hl, Nat.lt_succ_of_lt hl]
      · have : ¬ c < n + 1 := by omega
        simp [hc, hl, this]
  · simp [ha]
theorem gI_cpI (q : S_) (k1 k2 n a c : Nat) : gI (cpI q k1 k2 n) a c = if a = k2 ∧ c < n then gI q k1 c else gI q a c := rfl
theorem gL_cpI (q : S_) (k1 k2 n a c : Nat) : gL (cpI q k1 k2 n) a c = gL q a c := rfl

set_option maxRecDepth 100000 in
set_option maxHeartbeats 4000000 in
theorem s_X9_move {G : GT} {q : S_} (k1 k2 : Nat) (h1 : shp k1 = (1, 146)) (h2 : shp k2 = (1, 146)) (h12 : k1 ≠ k2) : Spec G 1 yX9_move cX9_move 3 none [rfn G k1, rfn G k2] q (PV fun q3 => q3 = cpI q k1 k2 146) := by
  refine Spec.intro RX9 (by decide) rfl (Nat.le_of_ble_eq_true rfl) [some (rfn G k1), some (rfn G k2), none] rfl ?_
  intro X d hd C hR
  refine aw_iconst C dX9_move_0 k1_0 ?_
  refine aw_istore_2 C dX9_move_1 (by decide) (fun w h => by cases h <;> rfl) ?_
  have L2 : ∀ (n k : Nat), k ≤ 146 → 146 < k + n → AW X G (cpI q k1 k2 k) 2 [some (rfn G k1), some (rfn G k2), some (.int (nI k))] [] := by
    refine nat_loop (fun k  g1 g2 => by omega) (fun n ih k  g1 g2 => ?_)
    refine aw_iload_2 C dX9_move_2 ?_
    refine aw_sipush C dX9_move_3 k3_146 ?_
    refine aw_icmp_ge_n C dX9_move_6 (tgt := 21) (by decide) (by omega) (by omega) (fun c_6 => ?_) (fun c_6 => ?_)
    · skip
      refine aw_vretV C hR dX9_move_21 ?_
      exact by rw [show k = 146 by omega]
    · skip
      refine aw_aload_1 C dX9_move_9 rfl ?_
      refine aw_iload_2 C dX9_move_10 ?_
      refine aw_aload_0 C dX9_move_11 rfl ?_
      refine aw_iload_2 C dX9_move_12 ?_
      refine aw_iald C _ rfl dX9_move_13 h1 rfl (by omega) ?_
      refine aw_iast C _ dX9_move_14 h2 rfl (by omega) ?_
      refine aw_iinc_2 C dX9_move_15 (by decide) (fun w h => by cases h <;> rfl) (show _ + Int32.ofInt 1 = _ by rw [k1_1, nI_add]) ?_
      refine aw_goto C dX9_move_18 (tgt := 2) (by decide) ?_
      rw [cpI_s h12]
      exact ih (k + 1) (by omega) (by omega)
  have := L2 147 0 (by omega) (by omega)
  rw [cpI_0] at this
  exact this

set_option maxRecDepth 100000 in
set_option maxHeartbeats 4000000 in
theorem s_X9_crosses {G : GT} {q : S_} {M : Nat → Nat} (i b : Nat) (hM : RelR q M) (hW : WF M) (hi : i < M 92) (hb : b < M 93) (hadj : M (4 * b + 0) = M (32 + 10 * i + 2) ∨ M (4 * b + 1) = M (32 + 10 * i + 2)) : Spec G 3 yX9_crosses cX9_crosses 3 none [rfn G 129, .int (nI i), .int (nI b)] q (PV (fun q3 => RelR q3 (crossM M i b) ∧ Fr (fun k _ => k = 130) q q3)) := by
  refine Spec.intro RX9 (by decide) rfl (Nat.le_of_ble_eq_true rfl) [some (rfn G 129), some (.int (nI i)), some (.int (nI b))] rfl ?_
  intro X d hd C hR
  have hp := hW.p hi
  have hbb := hW.b hb
  have hc := hW.c
  refine aw_aload_0 C dX9_crosses_0 rfl ?_
  refine aw_iload_1 C dX9_crosses_1 ?_
  refine aw_iconst C dX9_crosses_2 k1_2 ?_
  refine aw_aload_0 C dX9_crosses_3 rfl ?_
  refine aw_iload_2 C dX9_crosses_4 ?_
  refine aw_iconst C dX9_crosses_5 k1_0 ?_
  refine aw_cV2IE C (s_X9_endN hM _ _ rfl (by omega) (by unfold isOpt; omega)) mf_X9_end mv_X9_end (sh_129) rfl ml_X9_217 dX9_crosses_6 (by omega) (Nat.le_of_ble_eq_true rfl) ?_
  refine aw_aload_0 C dX9_crosses_9 rfl ?_
  refine aw_iload_2 C dX9_crosses_10 ?_
  refine aw_iconst C dX9_crosses_11 k1_1 ?_
  refine aw_cV2IE C (s_X9_endN hM _ _ rfl (by omega) (by unfold isOpt; omega)) mf_X9_end mv_X9_end (sh_129) rfl ml_X9_217 dX9_crosses_12 (by omega) (Nat.le_of_ble_eq_true rfl) ?_
  refine aw_iadd_n C dX9_crosses_15  ?_
  refine aw_aload_0 C dX9_crosses_16 rfl ?_
  refine aw_iload_1 C dX9_crosses_17 ?_
  refine aw_iconst C dX9_crosses_18 k1_2 ?_
  refine aw_cV2IE C (s_X9_oneN hM _ _ rfl (by omega) (by unfold isOpt; omega)) mf_X9_one mv_X9_one (sh_129) rfl ml_X9_102 dX9_crosses_19 (by omega) (Nat.le_of_ble_eq_true rfl) ?_
  refine aw_isub_n C dX9_crosses_22 (by rcases hadj with z | z <;> omega) ?_
  refine aw_cV3I C (s_X9_changeM hM i 2 _ (cd_n (by unfold isOpt; omega)).symm (by omega)) mf_X9_change mv_X9_change (sh_129) rfl ml_X9_110 dX9_crosses_23 (by omega) (Nat.le_of_ble_eq_true rfl) (fun r_23 q_23 h_23 => ?_)
  obtain ⟨-, hM1, hF1⟩ := h_23
  have hW1 := hW.per hi (w := 2) (v := M (4 * b + 0) + M (4 * b + 1) - M (32 + 10 * i + 2)) (by omega) (by omega) (by omega) (fun _ => by rcases hadj with z | z <;> omega) (by omega) (by omega) (by omega) (by omega)
  refine aw_pop C dX9_crosses_26 rfl ?_
  refine aw_aload_0 C dX9_crosses_27 rfl ?_
  refine aw_iload_1 C dX9_crosses_28 ?_
  refine aw_iconst C dX9_crosses_29 k1_5 ?_
  refine aw_aload_0 C dX9_crosses_30 rfl ?_
  refine aw_aload_0 C dX9_crosses_31 rfl ?_
  refine aw_iload_1 C dX9_crosses_32 ?_
  refine aw_iconst C dX9_crosses_33 k1_5 ?_
  refine aw_cV2IE C (s_X9_oneN hM1 i 5 (v := M (32 + 10 * i + 5)) (mu_ne (by omega)) (by omega) (by unfold isOpt; omega)) mf_X9_one mv_X9_one (sh_129) rfl ml_X9_102 dX9_crosses_34 (by omega) (Nat.le_of_ble_eq_true rfl) ?_
  refine aw_iload_2 C dX9_crosses_37 ?_
  refine aw_cV2IE C (s_X9_halfBy _ _ hM1 hW1 (by rw [mu_ne (by omega)]; exact hb) (by rw [mu_ne (by omega)]; exact hp.2.2.2.2.2.2.1)) mf_X9_halfBy mv_X9_halfBy (sh_129) rfl ml_X9_223 dX9_crosses_38 (by omega) (Nat.le_of_ble_eq_true rfl) ?_
  rw [halfM_mu (by omega) (by omega)]
  refine aw_cV3I C (s_X9_changeM hM1 i 5 _ (cd_n (by unfold isOpt; omega)).symm (by omega)) mf_X9_change mv_X9_change (sh_129) rfl ml_X9_110 dX9_crosses_41 (by omega) (Nat.le_of_ble_eq_true rfl) (fun r_41 q_41 h_41 => ?_)
  obtain ⟨-, hM2, hF2⟩ := h_41
  have hhh : halfM M (M (32 + 10 * i + 5)) b < 256 := Nat.lt_of_lt_of_le (halfM_lt hW hb hp.2.2.2.2.2.2.1) (pow_nb hc.1)
  refine aw_pop C dX9_crosses_44 rfl ?_
  refine aw_aload_0 C dX9_crosses_45 rfl ?_
  refine aw_iload_1 C dX9_crosses_46 ?_
  refine aw_iconst C dX9_crosses_47 k1_5 ?_
  refine aw_cV2IE C (s_X9_oneN hM2 i 5 mu_eq (by omega) (by unfold isOpt; omega)) mf_X9_one mv_X9_one (sh_129) rfl ml_X9_102 dX9_crosses_48 (by omega) (Nat.le_of_ble_eq_true rfl) ?_
  refine aw_if_ne_n C dX9_crosses_51 (tgt := 67) (by decide) (by omega) (fun c_51 => ?_) (fun c_51 => ?_)
  · skip
    refine aw_vretV C hR dX9_crosses_67 ?_
    exact ⟨by unfold crossM; rw [if_neg c_51]; exact hM2, hF1.tr hF2⟩
  · skip
    refine aw_aload_0 C dX9_crosses_54 rfl ?_
    refine aw_iload_1 C dX9_crosses_55 ?_
    refine aw_iconst C dX9_crosses_56 k1_3 ?_
    refine aw_aload_0 C dX9_crosses_57 rfl ?_
    refine aw_iload_1 C dX9_crosses_58 ?_
    refine aw_iconst C dX9_crosses_59 k1_2 ?_
    refine aw_cV2IE C (s_X9_oneN hM2 i 2 (v := M (4 * b + 0) + M (4 * b + 1) - M (32 + 10 * i + 2)) ((mu_ne (by omega)).trans mu_eq) (by omega) (by unfold isOpt; omega)) mf_X9_one mv_X9_one (sh_129) rfl ml_X9_102 dX9_crosses_60 (by omega) (Nat.le_of_ble_eq_true rfl) ?_
    refine aw_cV3I C (s_X9_changeM hM2 i 3 _ (cd_n (by unfold isOpt; omega)).symm (by omega)) mf_X9_change mv_X9_change (sh_129) rfl ml_X9_110 dX9_crosses_63 (by omega) (Nat.le_of_ble_eq_true rfl) (fun r_63 q_63 h_63 => ?_)
    obtain ⟨-, hM3, hF3⟩ := h_63
    refine aw_pop C dX9_crosses_66 rfl ?_
    refine aw_vretV C hR dX9_crosses_67 ?_
    exact ⟨by unfold crossM; rw [if_pos c_51]; exact hM3, (hF1.tr hF2).tr hF3⟩
