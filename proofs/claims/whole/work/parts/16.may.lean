/-! WHICH BRIDGES ONE MAY CROSS -/
abbrev mayX (M : Nat → Nat) (cts : Nat → List Nat) (i n b : Nat) : Prop := (M (4 * b + 3) ≠ 1 ∨ M (32 + 10 * i + 0) = 5) ∧ ¬ leaveX M cts i b n < nI 1
abbrev mayP (M : Nat → Nat) (cts : Nat → List Nat) (i b : Nat) : Prop := mayX M cts i (pop (M (32 + 10 * i + 5))) b
abbrev adjP (M : Nat → Nat) (t b : Nat) : Prop := M (4 * b + 0) = t ∨ M (4 * b + 1) = t
theorem bsum_t {f : Nat → Prop} [DecidablePred f] {k : Nat} (h : f k) : bsum f k + 2 ^ k = bsum f (k + 1) := by rw [bsum, if_pos h]
theorem bsum_f {f : Nat → Prop} [DecidablePred f] {k : Nat} (h : ¬ f k) : bsum f k = bsum f (k + 1) := by rw [bsum, if_neg h]; rfl
theorem bsum_bit (f : Nat → Prop) [DecidablePred f] (j : Nat) : ∀ n, (bsum f n).testBit j = decide (j < n ∧ f j) := by
  intro n
  induction n with
  | zero => simp [bsum]
  | succ n ih =>
    by_cases h : f n
    · rw [← bsum_t h, ← or_pow (bsum_lt f n), Nat.testBit_or, ih, Nat.testBit_two_pow]
      by_cases e : n = j
      · subst e
        simp [h]
      · have : (j < n + 1 ∧ f j) ↔ (j < n ∧ f j) := ⟨fun z => ⟨by omega, z.2⟩, fun z => ⟨by omega, z.2⟩⟩
        simp [e, this]
    · rw [← bsum_f h, ih]
      have : (j < n + 1 ∧ f j) ↔ (j < n ∧ f j) := ⟨fun z => ⟨by
        rcases Nat.lt_or_ge j n with y | y
        · exact y
        · exact absurd ((show j = n by omega) ▸ z.2) h, z.2⟩, fun z => ⟨by omega, z.2⟩⟩
      simp [this]
theorem bsum_and (f g : Nat → Prop) [DecidablePred f] [DecidablePred g] (n : Nat) : bsum f n &&& bsum g n = bsum (fun b => f b ∧ g b) n := by
  apply Nat.eq_of_testBit_eq
  intro j
  rw [Nat.testBit_and, bsum_bit, bsum_bit, bsum_bit]
  by_cases h1 : j < n <;> by_cases h2 : f j <;> by_cases h3 : g j <;> simp [h1, h2, h3]
theorem bsum_div (f : Nat → Prop) [DecidablePred f] {n j : Nat} (hj : j < n) : bsum f n / 2 ^ j % 2 = 1 ↔ f j := by
  have h := bsum_bit f j n
  rw [Nat.testBit_eq_decide_div_mod_eq] at h
  have h2 := decide_eq_decide.mp h
  exact ⟨fun z => (h2.mp z).2, fun z => h2.mpr ⟨hj, z⟩⟩

set_option maxRecDepth 100000 in
set_option maxHeartbeats 4000000 in
theorem s_X9_mayAnywhere {G : GT} {q : S_} {M : Nat → Nat} {cts : Nat → List Nat} (i : Nat) (hM : RelR q M) (hW : WF M) (hE : RE q cts) (hG : Goo M cts) (hi : i < M 92) : Spec G 23 yX9_mayAnywhere cX9_mayAnywhere 4 (some .int) [rfn G 129, .int (nI i)] q (PI (fun r q3 => r = nI (bsum (mayP M cts i) (M 93)) ∧ Fr SQk q q3 ∧ RE q3 cts)) := by
  refine Spec.intro RX9 (by decide) rfl (Nat.le_of_ble_eq_true rfl) [some (rfn G 129), some (.int (nI i)), none, none] rfl ?_
  intro X d hd C hR
  have hc := hW.c
  have hp := hW.p hi
  have hx := bsum_lt (mayP M cts i)
  refine aw_iconst C dX9_mayAnywhere_0 k1_0 ?_
  refine aw_istore_2 C dX9_mayAnywhere_1 (by decide) (fun w h => by cases h <;> rfl) ?_
  refine aw_iconst C dX9_mayAnywhere_2 k1_0 ?_
  refine aw_istore_3 C dX9_mayAnywhere_3 (by decide) (fun w h => by cases h <;> rfl) ?_
  have L4 : ∀ (n2 k : Nat) (q1 : S_), k ≤ M 93 → M 93 < k + n2 → Fr SQk q q1 → RE q1 cts → AW X G (q1) 4 [some (rfn G 129), some (.int (nI i)), some (.int (nI (bsum (mayP M cts i) k))), some (.int (nI k))] [] := by
    refine nat_loop (fun k q1 h1 h2 hF1 hE1 => by omega) (fun n2 ih k q1 h1 h2 hF1 hE1 => ?_)
    have hM1 : RelR q1 M := hF1.rel (fun j z => by unfold SQk at z; omega) hM
    refine aw_iload_3 C dX9_mayAnywhere_4 ?_
    refine aw_aload_0 C dX9_mayAnywhere_5 rfl ?_
    refine aw_g9_0 C dX9_mayAnywhere_6 fl_X9_9 ?_
    refine aw_bipush C dX9_mayAnywhere_9 k2_93 ?_
    refine aw_iald C _ (hM1.n (by omega) (by decide)) dX9_mayAnywhere_11 sh_130 rfl (by decide) ?_
    refine aw_icmp_ge_n C dX9_mayAnywhere_12 (tgt := 59) (by decide) (by omega) (by omega) (fun c_12 => ?_) (fun c_12 => ?_)
    · skip
      refine aw_iload_2 C dX9_mayAnywhere_59 ?_
      refine aw_iretI C hR dX9_mayAnywhere_60 ?_
      exact ⟨by rw [show k = M 93 by omega], hF1, hE1⟩
    · skip
      refine aw_iload_2 C dX9_mayAnywhere_15 ?_
      refine aw_aload_0 C dX9_mayAnywhere_16 rfl ?_
      refine aw_iload_3 C dX9_mayAnywhere_17 ?_
      have hbb := hW.b (show k < M 93 by omega)
      refine aw_cV1IE C (s_X9_isLostN hM1 _ (by omega) (by omega)) mf_X9_isLost mv_X9_isLost (sh_129) rfl ml_X9_214 dX9_mayAnywhere_18 (by omega) (Nat.le_of_ble_eq_true rfl) ?_
      refine aw_if_eq_b C dX9_mayAnywhere_21 (tgt := 34) (by decide)  (fun c_21 => ?_) (fun c_21 => ?_)
      · skip
        refine aw_aload_0 C dX9_mayAnywhere_34 rfl ?_
        refine aw_iload_1 C dX9_mayAnywhere_35 ?_
        refine aw_iload_3 C dX9_mayAnywhere_36 ?_
        refine aw_cV2I C (s_X9_leave _ _ hM1 hW hE1 hG (by omega) (by omega)) mf_X9_leave mv_X9_leave (sh_129) rfl ml_X9_133 dX9_mayAnywhere_37 (by omega) (Nat.le_of_ble_eq_true rfl) (fun r_37 q_37 h_37 => ?_)
        obtain ⟨rfl, hF2, hE2⟩ := h_37
        refine aw_iconst C dX9_mayAnywhere_40 k1_1 ?_
        refine aw_icmp_lt C dX9_mayAnywhere_41 (tgt := 50) (by decide)  (fun c_41 => ?_) (fun c_41 => ?_)
        · skip
          refine aw_iconst C dX9_mayAnywhere_50 k1_0 ?_
          refine aw_ior_n C dX9_mayAnywhere_51  ?_
          rw [Nat.or_zero, bsum_f (show ¬ mayP M cts i k from fun z => z.2 c_41)]
          refine aw_istore_2 C dX9_mayAnywhere_52 (by decide) (fun w h => by cases h <;> rfl) ?_
          refine aw_iinc_3 C dX9_mayAnywhere_53 (by decide) (fun w h => by cases h <;> rfl) (show _ + Int32.ofInt 1 = _ by rw [k1_1, nI_add]) ?_
          refine aw_goto C dX9_mayAnywhere_56 (tgt := 4) (by decide) ?_
          exact ih (k + 1) q_37 (by omega) (by omega) (hF1.tr hF2) hE2
        · skip
          refine aw_iconst C dX9_mayAnywhere_44 k1_1 ?_
          refine aw_iload_3 C dX9_mayAnywhere_45 ?_
          refine aw_ishl_n C dX9_mayAnywhere_46 (by omega) (by rw [Nat.one_mul]; have := Nat.pow_le_pow_right (n := 2) (by decide) (show k ≤ 8 by omega); omega) ?_
          rw [Nat.one_mul]
          refine aw_goto C dX9_mayAnywhere_47 (tgt := 51) (by decide) ?_
          refine aw_ior_n C dX9_mayAnywhere_51  ?_
          rw [or_pow (hx k), bsum_t (show mayP M cts i k from ⟨Or.inl c_21, c_41⟩)]
          refine aw_istore_2 C dX9_mayAnywhere_52 (by decide) (fun w h => by cases h <;> rfl) ?_
          refine aw_iinc_3 C dX9_mayAnywhere_53 (by decide) (fun w h => by cases h <;> rfl) (show _ + Int32.ofInt 1 = _ by rw [k1_1, nI_add]) ?_
          refine aw_goto C dX9_mayAnywhere_56 (tgt := 4) (by decide) ?_
          exact ih (k + 1) q_37 (by omega) (by omega) (hF1.tr hF2) hE2
      · skip
        refine aw_aload_0 C dX9_mayAnywhere_24 rfl ?_
        refine aw_iload_1 C dX9_mayAnywhere_25 ?_
        refine aw_iconst C dX9_mayAnywhere_26 k1_0 ?_
        refine aw_cV2IE C (s_X9_oneN hM1 _ _ rfl (by omega) (by unfold isOpt; omega)) mf_X9_one mv_X9_one (sh_129) rfl ml_X9_102 dX9_mayAnywhere_27 (by omega) (Nat.le_of_ble_eq_true rfl) ?_
        refine aw_iconst C dX9_mayAnywhere_30 k1_5 ?_
        refine aw_icmp_ne_n C dX9_mayAnywhere_31 (tgt := 50) (by decide) (by omega) (by omega) (fun c_31 => ?_) (fun c_31 => ?_)
        · skip
          refine aw_iconst C dX9_mayAnywhere_50 k1_0 ?_
          refine aw_ior_n C dX9_mayAnywhere_51  ?_
          rw [Nat.or_zero, bsum_f (show ¬ mayP M cts i k from fun z => z.1.elim (fun y => y c_21) (fun y => c_31 y))]
          refine aw_istore_2 C dX9_mayAnywhere_52 (by decide) (fun w h => by cases h <;> rfl) ?_
          refine aw_iinc_3 C dX9_mayAnywhere_53 (by decide) (fun w h => by cases h <;> rfl) (show _ + Int32.ofInt 1 = _ by rw [k1_1, nI_add]) ?_
          refine aw_goto C dX9_mayAnywhere_56 (tgt := 4) (by decide) ?_
          exact ih (k + 1) q1 (by omega) (by omega) hF1 hE1
        · skip
          refine aw_aload_0 C dX9_mayAnywhere_34 rfl ?_
          refine aw_iload_1 C dX9_mayAnywhere_35 ?_
          refine aw_iload_3 C dX9_mayAnywhere_36 ?_
          refine aw_cV2I C (s_X9_leave _ _ hM1 hW hE1 hG (by omega) (by omega)) mf_X9_leave mv_X9_leave (sh_129) rfl ml_X9_133 dX9_mayAnywhere_37 (by omega) (Nat.le_of_ble_eq_true rfl) (fun r_37 q_37 h_37 => ?_)
          obtain ⟨rfl, hF2, hE2⟩ := h_37
          refine aw_iconst C dX9_mayAnywhere_40 k1_1 ?_
          refine aw_icmp_lt C dX9_mayAnywhere_41 (tgt := 50) (by decide)  (fun c_41 => ?_) (fun c_41 => ?_)
          · skip
            refine aw_iconst C dX9_mayAnywhere_50 k1_0 ?_
            refine aw_ior_n C dX9_mayAnywhere_51  ?_
            rw [Nat.or_zero, bsum_f (show ¬ mayP M cts i k from fun z => z.2 c_41)]
            refine aw_istore_2 C dX9_mayAnywhere_52 (by decide) (fun w h => by cases h <;> rfl) ?_
            refine aw_iinc_3 C dX9_mayAnywhere_53 (by decide) (fun w h => by cases h <;> rfl) (show _ + Int32.ofInt 1 = _ by rw [k1_1, nI_add]) ?_
            refine aw_goto C dX9_mayAnywhere_56 (tgt := 4) (by decide) ?_
            exact ih (k + 1) q_37 (by omega) (by omega) (hF1.tr hF2) hE2
          · skip
            refine aw_iconst C dX9_mayAnywhere_44 k1_1 ?_
            refine aw_iload_3 C dX9_mayAnywhere_45 ?_
            refine aw_ishl_n C dX9_mayAnywhere_46 (by omega) (by rw [Nat.one_mul]; have := Nat.pow_le_pow_right (n := 2) (by decide) (show k ≤ 8 by omega); omega) ?_
            rw [Nat.one_mul]
            refine aw_goto C dX9_mayAnywhere_47 (tgt := 51) (by decide) ?_
            refine aw_ior_n C dX9_mayAnywhere_51  ?_
            rw [or_pow (hx k), bsum_t (show mayP M cts i k from ⟨Or.inr c_31, c_41⟩)]
            refine aw_istore_2 C dX9_mayAnywhere_52 (by decide) (fun w h => by cases h <;> rfl) ?_
            refine aw_iinc_3 C dX9_mayAnywhere_53 (by decide) (fun w h => by cases h <;> rfl) (show _ + Int32.ofInt 1 = _ by rw [k1_1, nI_add]) ?_
            refine aw_goto C dX9_mayAnywhere_56 (tgt := 4) (by decide) ?_
            exact ih (k + 1) q_37 (by omega) (by omega) (hF1.tr hF2) hE2
  exact L4 10 0 q (by omega) (by omega) Fr.rf hE

set_option maxRecDepth 100000 in
set_option maxHeartbeats 4000000 in
theorem s_X9_may {G : GT} {q : S_} {M : Nat → Nat} {cts : Nat → List Nat} (i : Nat) (hM : RelR q M) (hW : WF M) (hE : RE q cts) (hG : Goo M cts) (hi : i < M 92) : Spec G 24 yX9_may cX9_may 4 (some .int) [rfn G 129, .int (nI i)] q (PI (fun r q3 => r = nI (bsum (fun b => adjP M (M (32 + 10 * i + 2)) b ∧ mayP M cts i b) (M 93)) ∧ Fr SQk q q3 ∧ RE q3 cts)) := by
  refine Spec.intro RX9 (by decide) rfl (Nat.le_of_ble_eq_true rfl) [some (rfn G 129), some (.int (nI i)), none, none] rfl ?_
  intro X d hd C hR
  have hc := hW.c
  have hp := hW.p hi
  have hx := bsum_lt (adjP M (M (32 + 10 * i + 2)))
  refine aw_iconst C dX9_may_0 k1_0 ?_
  refine aw_istore_2 C dX9_may_1 (by decide) (fun w h => by cases h <;> rfl) ?_
  refine aw_iconst C dX9_may_2 k1_0 ?_
  refine aw_istore_3 C dX9_may_3 (by decide) (fun w h => by cases h <;> rfl) ?_
  have L4 : ∀ (n2 k : Nat), k ≤ M 93 → M 93 < k + n2 → AW X G (q) 4 [some (rfn G 129), some (.int (nI i)), some (.int (nI (bsum (adjP M (M (32 + 10 * i + 2))) k))), some (.int (nI k))] [] := by
    refine nat_loop (fun k h1 h2 => by omega) (fun n2 ih k h1 h2 => ?_)
    refine aw_iload_3 C dX9_may_4 ?_
    refine aw_aload_0 C dX9_may_5 rfl ?_
    refine aw_g9_0 C dX9_may_6 fl_X9_9 ?_
    refine aw_bipush C dX9_may_9 k2_93 ?_
    refine aw_iald C _ (hM.n (by omega) (by decide)) dX9_may_11 sh_130 rfl (by decide) ?_
    refine aw_icmp_ge_n C dX9_may_12 (tgt := 61) (by decide) (by omega) (by omega) (fun c_12 => ?_) (fun c_12 => ?_)
    · skip
      refine aw_iload_2 C dX9_may_61 ?_
      refine aw_aload_0 C dX9_may_62 rfl ?_
      refine aw_iload_1 C dX9_may_63 ?_
      refine aw_cV1I C (s_X9_mayAnywhere _ hM hW hE hG (by omega)) mf_X9_mayAnywhere mv_X9_mayAnywhere (sh_129) rfl ml_X9_220 dX9_may_64 (by omega) (Nat.le_of_ble_eq_true rfl) (fun r_64 q_64 h_64 => ?_)
      obtain ⟨rfl, hF2, hE2⟩ := h_64
      refine aw_iand_n C dX9_may_67  ?_
      refine aw_iretI C hR dX9_may_68 ?_
      exact ⟨by rw [show k = M 93 by omega, bsum_and], hF2, hE2⟩
    · skip
      refine aw_iload_2 C dX9_may_15 ?_
      refine aw_aload_0 C dX9_may_16 rfl ?_
      refine aw_iload_3 C dX9_may_17 ?_
      have hbb := hW.b (show k < M 93 by omega)
      refine aw_iconst C dX9_may_18 k1_0 ?_
      refine aw_cV2IE C (s_X9_endN hM _ _ rfl (by omega) (by unfold isOpt; omega)) mf_X9_end mv_X9_end (sh_129) rfl ml_X9_217 dX9_may_19 (by omega) (Nat.le_of_ble_eq_true rfl) ?_
      refine aw_aload_0 C dX9_may_22 rfl ?_
      refine aw_iload_1 C dX9_may_23 ?_
      refine aw_iconst C dX9_may_24 k1_2 ?_
      refine aw_cV2IE C (s_X9_oneN hM _ _ rfl (by omega) (by unfold isOpt; omega)) mf_X9_one mv_X9_one (sh_129) rfl ml_X9_102 dX9_may_25 (by omega) (Nat.le_of_ble_eq_true rfl) ?_
      refine aw_icmp_eq_n C dX9_may_28 (tgt := 46) (by decide) (by omega) (by omega) (fun c_28 => ?_) (fun c_28 => ?_)
      · skip
        refine aw_iconst C dX9_may_46 k1_1 ?_
        refine aw_iload_3 C dX9_may_47 ?_
        refine aw_ishl_n C dX9_may_48 (by omega) (by rw [Nat.one_mul]; have := Nat.pow_le_pow_right (n := 2) (by decide) (show k ≤ 8 by omega); omega) ?_
        rw [Nat.one_mul]
        refine aw_goto C dX9_may_49 (tgt := 53) (by decide) ?_
        refine aw_ior_n C dX9_may_53  ?_
        rw [or_pow (hx k), bsum_t (show adjP M (M (32 + 10 * i + 2)) k from Or.inl c_28)]
        refine aw_istore_2 C dX9_may_54 (by decide) (fun w h => by cases h <;> rfl) ?_
        refine aw_iinc_3 C dX9_may_55 (by decide) (fun w h => by cases h <;> rfl) (show _ + Int32.ofInt 1 = _ by rw [k1_1, nI_add]) ?_
        refine aw_goto C dX9_may_58 (tgt := 4) (by decide) ?_
        exact ih (k + 1) (by omega) (by omega)
      · skip
        refine aw_aload_0 C dX9_may_31 rfl ?_
        refine aw_iload_3 C dX9_may_32 ?_
        refine aw_iconst C dX9_may_33 k1_1 ?_
        refine aw_cV2IE C (s_X9_endN hM _ _ rfl (by omega) (by unfold isOpt; omega)) mf_X9_end mv_X9_end (sh_129) rfl ml_X9_217 dX9_may_34 (by omega) (Nat.le_of_ble_eq_true rfl) ?_
        refine aw_aload_0 C dX9_may_37 rfl ?_
        refine aw_iload_1 C dX9_may_38 ?_
        refine aw_iconst C dX9_may_39 k1_2 ?_
        refine aw_cV2IE C (s_X9_oneN hM _ _ rfl (by omega) (by unfold isOpt; omega)) mf_X9_one mv_X9_one (sh_129) rfl ml_X9_102 dX9_may_40 (by omega) (Nat.le_of_ble_eq_true rfl) ?_
        refine aw_icmp_ne_n C dX9_may_43 (tgt := 52) (by decide) (by omega) (by omega) (fun c_43 => ?_) (fun c_43 => ?_)
        · skip
          refine aw_iconst C dX9_may_52 k1_0 ?_
          refine aw_ior_n C dX9_may_53  ?_
          rw [Nat.or_zero, bsum_f (show ¬ adjP M (M (32 + 10 * i + 2)) k from fun z => z.elim c_28 c_43)]
          refine aw_istore_2 C dX9_may_54 (by decide) (fun w h => by cases h <;> rfl) ?_
          refine aw_iinc_3 C dX9_may_55 (by decide) (fun w h => by cases h <;> rfl) (show _ + Int32.ofInt 1 = _ by rw [k1_1, nI_add]) ?_
          refine aw_goto C dX9_may_58 (tgt := 4) (by decide) ?_
          exact ih (k + 1) (by omega) (by omega)
        · skip
          refine aw_iconst C dX9_may_46 k1_1 ?_
          refine aw_iload_3 C dX9_may_47 ?_
          refine aw_ishl_n C dX9_may_48 (by omega) (by rw [Nat.one_mul]; have := Nat.pow_le_pow_right (n := 2) (by decide) (show k ≤ 8 by omega); omega) ?_
          rw [Nat.one_mul]
          refine aw_goto C dX9_may_49 (tgt := 53) (by decide) ?_
          refine aw_ior_n C dX9_may_53  ?_
          rw [or_pow (hx k), bsum_t (show adjP M (M (32 + 10 * i + 2)) k from Or.inr c_43)]
          refine aw_istore_2 C dX9_may_54 (by decide) (fun w h => by cases h <;> rfl) ?_
          refine aw_iinc_3 C dX9_may_55 (by decide) (fun w h => by cases h <;> rfl) (show _ + Int32.ofInt 1 = _ by rw [k1_1, nI_add]) ?_
          refine aw_goto C dX9_may_58 (tgt := 4) (by decide) ?_
          exact ih (k + 1) (by omega) (by omega)
  exact L4 10 0 (by omega) (by omega)
