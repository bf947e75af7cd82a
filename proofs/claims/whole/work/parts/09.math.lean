/-! small numbers told of Int32 -/
abbrev inN (i : Int32) (n : Nat) : Prop := ¬ i < 0 ∧ i.toNatClampNeg < n
theorem inN_of {i : Int32} {n : Nat} (h : inN i n) : ∃ j, j < n ∧ j < 2 ^ 31 ∧ i = nI j := by
  obtain ⟨j, hj, rfl⟩ := nI_of h.1
  have := h.2
  rw [nI_clamp hj] at this
  exact ⟨j, this, hj, rfl⟩
theorem inN_nI {j n : Nat} (h : j < n) (hj : j < 2 ^ 31) : inN (nI j) n := ⟨nI_pos hj, by rw [nI_clamp hj]; exact h⟩
theorem inN_iff {j n : Nat} (hj : j < 2 ^ 31) : inN (nI j) n ↔ j < n := ⟨fun h => by have := h.2; rwa [nI_clamp hj] at this, fun h => inN_nI h hj⟩
theorem inN_le {x : Int32} {m : Nat} (hm : m < 2 ^ 31 - 1) : (nI 0 ≤ x ∧ x ≤ nI m) ↔ inN x (m + 1) := by
  constructor
  · rintro ⟨h1, h2⟩
    have h0 : ¬ x < 0 := by
      rw [← nI_0]
      exact Int32.not_lt.mpr h1
    obtain ⟨j, hj, rfl⟩ := nI_of h0
    exact inN_nI (by have := (nI_leI hj (by omega)).mp h2; omega) hj
  · intro h
    obtain ⟨j, h1, h2, rfl⟩ := inN_of h
    exact ⟨nI_le (Nat.zero_le _) h2, nI_le (by omega) (by omega)⟩
theorem inN_pred {x : Int32} {n : Nat} (hn : n < 2 ^ 31) : (nI 0 ≤ x ∧ x ≤ nI n - nI 1) ↔ inN x n := by
  rcases n with _ | n
  · constructor
    · rintro ⟨h1, h2⟩
      exfalso
      have e : nI 0 - nI 1 = (-1 : Int32) := by decide +kernel
      rw [e, Int32.le_iff_toInt_le] at h2
      rw [Int32.le_iff_toInt_le, nI_toInt (by decide)] at h1
      have e2 : (-1 : Int32).toInt = -1 := by decide +kernel
      rw [e2] at h2
      omega
    · intro h
      exact absurd h.2 (Nat.not_lt_zero _)
  · rw [pk_sub (by omega), Nat.add_sub_cancel]
    exact inN_le (by omega)
theorem inN_ge {x : Int32} {n : Nat} (hn : n < 2 ^ 31) : (¬ x < 0 ∧ x < nI n) ↔ inN x n := by
  constructor
  · rintro ⟨h1, h2⟩
    obtain ⟨j, hj, rfl⟩ := nI_of h1
    exact inN_nI ((nI_ltI hj hn).mp h2) hj
  · intro h
    obtain ⟨j, h1, h2, rfl⟩ := inN_of h
    exact ⟨nI_pos h2, nI_lt h1 hn⟩
theorem nat_loop {P : Nat → Prop} (h0 : P 0) (hs : ∀ n, P n → P (n + 1)) : ∀ n, P n := fun n => by
  induction n with
  | zero => exact h0
  | succ n ih => exact hs n ih
def popk (h : Nat) : Nat → Nat
  | 0 => 0
  | k + 1 => popk h k + h / 2 ^ k % 2
def pop (h : Nat) : Nat := popk h 8
theorem popk_le (h : Nat) : ∀ k, popk h k ≤ k := by
  intro k
  induction k with
  | zero => exact Nat.le_refl 0
  | succ k ih =>
    have := Nat.mod_lt (h / 2 ^ k) (by decide : 2 > 0)
    show popk h k + h / 2 ^ k % 2 ≤ k + 1
    omega
theorem pop_le (h : Nat) : pop h ≤ 8 := popk_le h 8

set_option maxRecDepth 100000 in
set_option maxHeartbeats 4000000 in
theorem s_X9_isIn {G : GT} {q : S_} (v lo hi : Int32)  : Spec G 1 yX9_isIn cX9_isIn 3 (some .boolean) [.int v, .int lo, .int hi] q (PI fun r2 q3 => r2 = bP (lo ≤ v ∧ v ≤ hi) ∧ q3 = q) := by
  refine Spec.intro RX9 (by decide) rfl (Nat.le_of_ble_eq_true rfl) [some (.int v), some (.int lo), some (.int hi)] rfl ?_
  intro X d hd C hR
  refine aw_iload_0 C dX9_isIn_0 ?_
  refine aw_iload_1 C dX9_isIn_1 ?_
  refine aw_icmp_lt C dX9_isIn_2 (tgt := 14) (by decide)  (fun c_2 => ?_) (fun c_2 => ?_)
  · skip
    refine aw_iconst C dX9_isIn_14 k1_0 ?_
    refine aw_iretZ C hR dX9_isIn_15 (by first | rfl | exact bP_nar) ?_
    exact ⟨by first | exact (bP_t ⟨Int32.not_lt.mp c_2, Int32.not_lt.mp c_7⟩).symm | exact (bP_f (fun z => absurd z.1 (Int32.not_le.mpr c_2))).symm | exact (bP_f (fun z => absurd z.2 (Int32.not_le.mpr c_7))).symm, rfl⟩
  · skip
    refine aw_iload_0 C dX9_isIn_5 ?_
    refine aw_iload_2 C dX9_isIn_6 ?_
    refine aw_icmp_gt C dX9_isIn_7 (tgt := 14) (by decide)  (fun c_7 => ?_) (fun c_7 => ?_)
    · skip
      refine aw_iconst C dX9_isIn_14 k1_0 ?_
      refine aw_iretZ C hR dX9_isIn_15 (by first | rfl | exact bP_nar) ?_
      exact ⟨by first | exact (bP_t ⟨Int32.not_lt.mp c_2, Int32.not_lt.mp c_7⟩).symm | exact (bP_f (fun z => absurd z.1 (Int32.not_le.mpr c_2))).symm | exact (bP_f (fun z => absurd z.2 (Int32.not_le.mpr c_7))).symm, rfl⟩
    · skip
      refine aw_iconst C dX9_isIn_10 k1_1 ?_
      refine aw_goto C dX9_isIn_11 (tgt := 15) (by decide) ?_
      refine aw_iretZ C hR dX9_isIn_15 (by first | rfl | exact bP_nar) ?_
      exact ⟨by first | exact (bP_t ⟨Int32.not_lt.mp c_2, Int32.not_lt.mp c_7⟩).symm | exact (bP_f (fun z => absurd z.1 (Int32.not_le.mpr c_2))).symm | exact (bP_f (fun z => absurd z.2 (Int32.not_le.mpr c_7))).symm, rfl⟩

set_option maxRecDepth 100000 in
set_option maxHeartbeats 4000000 in
theorem s_X9_isQuarter {G : GT} {q : S_} (v : Int32)  : Spec G 2 yX9_isQuarter cX9_isQuarter 1 (some .boolean) [.int v] q (PI fun r2 q3 => r2 = bP (inN v 6) ∧ q3 = q) := by
  refine Spec.intro RX9 (by decide) rfl (Nat.le_of_ble_eq_true rfl) [some (.int v)] rfl ?_
  intro X d hd C hR
  refine aw_iload_0 C dX9_isQuarter_0 ?_
  refine aw_iconst C dX9_isQuarter_1 k1_0 ?_
  refine aw_iconst C dX9_isQuarter_2 k1_5 ?_
  refine aw_cS3IE C (s_X9_isIn _ _ _) mf_X9_isIn ms_X9_isIn ml_X9_98 dX9_isQuarter_3 (by omega) (Nat.le_of_ble_eq_true rfl) ?_
  refine aw_iretZ C hR dX9_isQuarter_6 (by first | rfl | exact bP_nar) ?_
  exact ⟨bP_congr (inN_le (by omega)), rfl⟩

set_option maxRecDepth 100000 in
set_option maxHeartbeats 4000000 in
theorem s_X9_isBridge {G : GT} {q : S_} (v : Int32) {nb : Nat} (hnb : gI q 130 93 = nI nb) (hb : nb < 2 ^ 31) : Spec G 2 yX9_isBridge cX9_isBridge 2 (some .boolean) [rfn G 129, .int v] q (PI fun r2 q3 => r2 = bP (inN v nb) ∧ q3 = q) := by
  refine Spec.intro RX9 (by decide) rfl (Nat.le_of_ble_eq_true rfl) [some (rfn G 129), some (.int v)] rfl ?_
  intro X d hd C hR
  refine aw_iload_1 C dX9_isBridge_0 ?_
  refine aw_iconst C dX9_isBridge_1 k1_0 ?_
  refine aw_aload_0 C dX9_isBridge_2 rfl ?_
  refine aw_g9_0 C dX9_isBridge_3 fl_X9_9 ?_
  refine aw_bipush C dX9_isBridge_6 k2_93 ?_
  refine aw_iald C _ hnb dX9_isBridge_8 sh_130 rfl (by decide) ?_
  refine aw_iconst C dX9_isBridge_9 k1_1 ?_
  refine aw_isub C dX9_isBridge_10  ?_
  refine aw_cS3IE C (s_X9_isIn _ _ _) mf_X9_isIn ms_X9_isIn ml_X9_98 dX9_isBridge_11 (by omega) (Nat.le_of_ble_eq_true rfl) ?_
  refine aw_iretZ C hR dX9_isBridge_14 (by first | rfl | exact bP_nar) ?_
  exact ⟨bP_congr (inN_pred hb), rfl⟩

set_option maxRecDepth 100000 in
set_option maxHeartbeats 4000000 in
theorem s_X9_isOne {G : GT} {q : S_} (v : Int32) {np : Nat} (hnp : gI q 130 92 = nI np) (hp : np < 2 ^ 31) : Spec G 2 yX9_isOne cX9_isOne 2 (some .boolean) [rfn G 129, .int v] q (PI fun r2 q3 => r2 = bP (inN v np) ∧ q3 = q) := by
  refine Spec.intro RX9 (by decide) rfl (Nat.le_of_ble_eq_true rfl) [some (rfn G 129), some (.int v)] rfl ?_
  intro X d hd C hR
  refine aw_iload_1 C dX9_isOne_0 ?_
  refine aw_iconst C dX9_isOne_1 k1_0 ?_
  refine aw_aload_0 C dX9_isOne_2 rfl ?_
  refine aw_g9_0 C dX9_isOne_3 fl_X9_9 ?_
  refine aw_bipush C dX9_isOne_6 k2_92 ?_
  refine aw_iald C _ hnp dX9_isOne_8 sh_130 rfl (by decide) ?_
  refine aw_iconst C dX9_isOne_9 k1_1 ?_
  refine aw_isub C dX9_isOne_10  ?_
  refine aw_cS3IE C (s_X9_isIn _ _ _) mf_X9_isIn ms_X9_isIn ml_X9_98 dX9_isOne_11 (by omega) (Nat.le_of_ble_eq_true rfl) ?_
  refine aw_iretZ C hR dX9_isOne_14 (by first | rfl | exact bP_nar) ?_
  exact ⟨bP_congr (inN_pred hp), rfl⟩

set_option maxRecDepth 100000 in
set_option maxHeartbeats 4000000 in
theorem s_X9_one {G : GT} {q : S_} (i w : Nat) (h : 32 + 10 * i + w < 146) : Spec G 1 yX9_one cX9_one 3 (some .int) [rfn G 129, .int (nI i), .int (nI w)] q (PI fun r2 q3 => r2 = gI q 130 (32 + 10 * i + w) ∧ q3 = q) := by
  refine Spec.intro RX9 (by decide) rfl (Nat.le_of_ble_eq_true rfl) [some (rfn G 129), some (.int (nI i)), some (.int (nI w))] rfl ?_
  intro X d hd C hR
  refine aw_aload_0 C dX9_one_0 rfl ?_
  refine aw_g9_0 C dX9_one_1 fl_X9_9 ?_
  refine aw_bipush C dX9_one_4 k2_32 ?_
  refine aw_bipush C dX9_one_6 k2_10 ?_
  refine aw_iload_1 C dX9_one_8 ?_
  refine aw_imul_n C dX9_one_9  ?_
  refine aw_iadd_n C dX9_one_10  ?_
  refine aw_iload_2 C dX9_one_11 ?_
  refine aw_iadd_n C dX9_one_12  ?_
  refine aw_iald C _ rfl dX9_one_13 sh_130 rfl (by omega) ?_
  refine aw_iretI C hR dX9_one_14 ?_
  exact ⟨rfl, rfl⟩

set_option maxRecDepth 100000 in
set_option maxHeartbeats 4000000 in
theorem s_X9_change {G : GT} {q : S_} (i w : Nat) (v : Int32) (h : 32 + 10 * i + w < 146) : Spec G 2 yX9_change cX9_change 5 (some .int) [rfn G 129, .int (nI i), .int (nI w), .int v] q (PI fun r2 q3 => r2 = gI q 130 (32 + 10 * i + w) ∧ q3 = sI q 130 (32 + 10 * i + w) v) := by
  refine Spec.intro RX9 (by decide) rfl (Nat.le_of_ble_eq_true rfl) [some (rfn G 129), some (.int (nI i)), some (.int (nI w)), some (.int v), none] rfl ?_
  intro X d hd C hR
  refine aw_aload_0 C dX9_change_0 rfl ?_
  refine aw_iload_1 C dX9_change_1 ?_
  refine aw_iload_2 C dX9_change_2 ?_
  refine aw_cV2IE C (s_X9_one _ _ (by omega)) mf_X9_one mv_X9_one (sh_129) rfl ml_X9_102 dX9_change_3 (by omega) (Nat.le_of_ble_eq_true rfl) ?_
  refine aw_istore_4 C dX9_change_6 (by decide) (fun w h => by cases h <;> rfl) ?_
  refine aw_aload_0 C dX9_change_8 rfl ?_
  refine aw_g9_0 C dX9_change_9 fl_X9_9 ?_
  refine aw_bipush C dX9_change_12 k2_32 ?_
  refine aw_bipush C dX9_change_14 k2_10 ?_
  refine aw_iload_1 C dX9_change_16 ?_
  refine aw_imul_n C dX9_change_17  ?_
  refine aw_iadd_n C dX9_change_18  ?_
  refine aw_iload_2 C dX9_change_19 ?_
  refine aw_iadd_n C dX9_change_20  ?_
  refine aw_iload_3 C dX9_change_21 ?_
  refine aw_iast C _ dX9_change_22 sh_130 rfl (by omega) ?_
  refine aw_iload_4 C dX9_change_23 ?_
  refine aw_iretI C hR dX9_change_25 ?_
  exact ⟨rfl, rfl⟩

set_option maxRecDepth 100000 in
set_option maxHeartbeats 4000000 in
theorem s_X9_end {G : GT} {q : S_} (b w : Nat) (h : 4 * b + w < 146) : Spec G 1 yX9_end cX9_end 3 (some .int) [rfn G 129, .int (nI b), .int (nI w)] q (PI fun r2 q3 => r2 = gI q 130 (4 * b + w) ∧ q3 = q) := by
  refine Spec.intro RX9 (by decide) rfl (Nat.le_of_ble_eq_true rfl) [some (rfn G 129), some (.int (nI b)), some (.int (nI w))] rfl ?_
  intro X d hd C hR
  refine aw_aload_0 C dX9_end_0 rfl ?_
  refine aw_g9_0 C dX9_end_1 fl_X9_9 ?_
  refine aw_iconst C dX9_end_4 k1_4 ?_
  refine aw_iload_1 C dX9_end_5 ?_
  refine aw_imul_n C dX9_end_6  ?_
  refine aw_iload_2 C dX9_end_7 ?_
  refine aw_iadd_n C dX9_end_8  ?_
  refine aw_iald C _ rfl dX9_end_9 sh_130 rfl (by omega) ?_
  refine aw_iretI C hR dX9_end_10 ?_
  exact ⟨rfl, rfl⟩

set_option maxRecDepth 100000 in
set_option maxHeartbeats 4000000 in
theorem s_X9_sister {G : GT} {q : S_} (b : Nat) (h : 4 * b + 2 < 146) : Spec G 1 yX9_sister cX9_sister 2 (some .int) [rfn G 129, .int (nI b)] q (PI fun r2 q3 => r2 = gI q 130 (4 * b + 2) ∧ q3 = q) := by
  refine Spec.intro RX9 (by decide) rfl (Nat.le_of_ble_eq_true rfl) [some (rfn G 129), some (.int (nI b))] rfl ?_
  intro X d hd C hR
  refine aw_aload_0 C dX9_sister_0 rfl ?_
  refine aw_g9_0 C dX9_sister_1 fl_X9_9 ?_
  refine aw_iconst C dX9_sister_4 k1_4 ?_
  refine aw_iload_1 C dX9_sister_5 ?_
  refine aw_imul_n C dX9_sister_6  ?_
  refine aw_iconst C dX9_sister_7 k1_2 ?_
  refine aw_iadd_n C dX9_sister_8  ?_
  refine aw_iald C _ rfl dX9_sister_9 sh_130 rfl (by omega) ?_
  refine aw_iretI C hR dX9_sister_10 ?_
  exact ⟨rfl, rfl⟩

set_option maxRecDepth 100000 in
set_option maxHeartbeats 4000000 in
theorem s_X9_isLost {G : GT} {q : S_} (b : Nat) (h : 4 * b + 3 < 146) : Spec G 1 yX9_isLost cX9_isLost 2 (some .boolean) [rfn G 129, .int (nI b)] q (PI fun r2 q3 => r2 = bP (gI q 130 (4 * b + 3) = nI 1) ∧ q3 = q) := by
  refine Spec.intro RX9 (by decide) rfl (Nat.le_of_ble_eq_true rfl) [some (rfn G 129), some (.int (nI b))] rfl ?_
  intro X d hd C hR
  refine aw_aload_0 C dX9_isLost_0 rfl ?_
  refine aw_g9_0 C dX9_isLost_1 fl_X9_9 ?_
  refine aw_iconst C dX9_isLost_4 k1_4 ?_
  refine aw_iload_1 C dX9_isLost_5 ?_
  refine aw_imul_n C dX9_isLost_6  ?_
  refine aw_iconst C dX9_isLost_7 k1_3 ?_
  refine aw_iadd_n C dX9_isLost_8  ?_
  refine aw_iald C _ rfl dX9_isLost_9 sh_130 rfl (by omega) ?_
  refine aw_iconst C dX9_isLost_10 k1_1 ?_
  refine aw_icmp_ne C dX9_isLost_11 (tgt := 18) (by decide)  (fun c_11 => ?_) (fun c_11 => ?_)
  · skip
    refine aw_iconst C dX9_isLost_18 k1_0 ?_
    refine aw_iretZ C hR dX9_isLost_19 (by first | rfl | exact bP_nar) ?_
    exact ⟨by first | exact (bP_t (by assumption)).symm | exact (bP_f (by assumption)).symm, rfl⟩
  · skip
    refine aw_iconst C dX9_isLost_14 k1_1 ?_
    refine aw_goto C dX9_isLost_15 (tgt := 19) (by decide) ?_
    refine aw_iretZ C hR dX9_isLost_19 (by first | rfl | exact bP_nar) ?_
    exact ⟨by first | exact (bP_t (by assumption)).symm | exact (bP_f (by assumption)).symm, rfl⟩

set_option maxRecDepth 100000 in
set_option maxHeartbeats 4000000 in
theorem s_X9_orNever {G : GT} {q : S_} (v : Int32)  : Spec G 1 yX9_orNever cX9_orNever 1 (some .int) [.int v] q (PI fun r2 q3 => r2 = (if v = -1 then -5 else v) ∧ q3 = q) := by
  refine Spec.intro RX9 (by decide) rfl (Nat.le_of_ble_eq_true rfl) [some (.int v)] rfl ?_
  intro X d hd C hR
  refine aw_iload_0 C dX9_orNever_0 ?_
  refine aw_iconst C dX9_orNever_1 k1_m1 ?_
  refine aw_icmp_ne C dX9_orNever_2 (tgt := 10) (by decide)  (fun c_2 => ?_) (fun c_2 => ?_)
  · skip
    refine aw_iload_0 C dX9_orNever_10 ?_
    refine aw_iretI C hR dX9_orNever_11 ?_
    exact ⟨by first | exact (if_pos (by assumption)).symm | exact (if_neg (by assumption)).symm, rfl⟩
  · skip
    refine aw_bipush C dX9_orNever_5 k2_m5 ?_
    refine aw_goto C dX9_orNever_7 (tgt := 11) (by decide) ?_
    refine aw_iretI C hR dX9_orNever_11 ?_
    exact ⟨by first | exact (if_pos (by assumption)).symm | exact (if_neg (by assumption)).symm, rfl⟩

set_option maxRecDepth 100000 in
set_option maxHeartbeats 4000000 in
theorem s_X9_many {G : GT} {q : S_} (h : Nat) (hh : h < 256) : Spec G 1 yX9_many cX9_many 3 (some .int) [.int (nI h)] q (PI fun r2 q3 => r2 = nI (pop h) ∧ q3 = q) := by
  refine Spec.intro RX9 (by decide) rfl (Nat.le_of_ble_eq_true rfl) [some (.int (nI h)), none, none] rfl ?_
  intro X d hd C hR
  refine aw_iconst C dX9_many_0 k1_0 ?_
  refine aw_istore_1 C dX9_many_1 (by decide) (fun w h => by cases h <;> rfl) ?_
  refine aw_iconst C dX9_many_2 k1_0 ?_
  refine aw_istore_2 C dX9_many_3 (by decide) (fun w h => by cases h <;> rfl) ?_
  have L4 : ∀ (n k : Nat), k ≤ 8 → 8 < k + n → AW X G (q) 4 [some (.int (nI h)), some (.int (nI (popk h k))), some (.int (nI k))] [] := by
    refine nat_loop (fun k h1 h2 => by omega) (fun n ih k h1 h2 => ?_)
    refine aw_iload_2 C dX9_many_4 ?_
    refine aw_bipush C dX9_many_5 k2_8 ?_
    refine aw_icmp_ge_n C dX9_many_7 (tgt := 24) (by decide) (by omega) (by omega) (fun c_7 => ?_) (fun c_7 => ?_)
    · skip
      refine aw_iload_1 C dX9_many_24 ?_
      refine aw_iretI C hR dX9_many_25 ?_
      exact ⟨by rw [show k = 8 by omega]; rfl, rfl⟩
    · skip
      refine aw_iload_1 C dX9_many_10 ?_
      refine aw_iload_0 C dX9_many_11 ?_
      refine aw_iload_2 C dX9_many_12 ?_
      refine aw_ishr_n C dX9_many_13 (by omega) (by omega) ?_
      refine aw_iconst C dX9_many_14 k1_1 ?_
      refine aw_iand_n C dX9_many_15  ?_
      rw [Nat.and_one_is_mod]
      refine aw_iadd_n C dX9_many_16  ?_
      refine aw_istore_1 C dX9_many_17 (by decide) (fun w h => by cases h <;> rfl) ?_
      refine aw_iinc_2 C dX9_many_18 (by decide) (fun w h => by cases h <;> rfl) (show _ + Int32.ofInt 1 = _ by rw [k1_1, nI_add]) ?_
      refine aw_goto C dX9_many_21 (tgt := 4) (by decide) ?_
      exact ih (k + 1) (by omega) (by omega)
  exact L4 9 0 (by omega) (by omega)
