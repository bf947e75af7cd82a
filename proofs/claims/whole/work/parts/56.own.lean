/-! THE CLASS'S OWN -/
def SAs (k j : Nat) : Prop := (59 ≤ k ∧ k ≤ 92) ∨ SFk k j
theorem Fr.as {q q2 : S_} (h : Fr (SHo 59) q q2) : Fr SAs q q2 := h.mono (fun k j z => by unfold SHo SWs at z; unfold SAs; rcases z with z | z | z <;> first | exact Or.inr z | (left; omega))
theorem Fr.as2 {q q2 : S_} (h : Fr SWs q q2) : Fr SAs q q2 := h.mono (fun k j z => by unfold SWs at z; unfold SAs; rcases z with z | z <;> first | exact Or.inr z | (left; omega))
theorem Fr.as3 {q q2 : S_} (h : Fr SFk q q2) : Fr SAs q q2 := h.mono (fun k j z => Or.inr z)
theorem Fr.as4 {q q2 : S_} (h : Fr (fun a _ => 59 ≤ a ∧ a < 59 + 29) q q2) : Fr SAs q q2 := h.mono (fun k j z => Or.inl ⟨z.1, by omega⟩)
/-- all that the class's questions rest on: now, cities, the queue -/
def QS (q : S_) (M : Nat → Nat) (cts : Nat → List Nat) (N : Nat) : Prop := RelW q 1 M ∧ WF M ∧ CyR q cts N ∧ M 95 ≤ N ∧ N ≤ 6 ∧ Goo M cts ∧ ∃ L, WQ q L
theorem QS.t {q q2 : S_} {M : Nat → Nat} {cts : Nat → List Nat} {N : Nat} (h : QS q M cts N) (hf : Fr SAs q q2) (hQ : ∃ L, WQ q2 L) : QS q2 M cts N := ⟨h.1.t h.2.1 (fun k j z1 z2 => hf.2 k j (by unfold SAs SFk; omega)), h.2.1, h.2.2.1.t h.2.2.2.2.1 (fun k j z1 z2 z3 => hf.2 k j (by unfold SAs SFk; omega)), h.2.2.2.1, h.2.2.2.2.1, h.2.2.2.2.2.1, hQ⟩
theorem QS.f {q q2 : S_} {M : Nat → Nat} {cts : Nat → List Nat} {N : Nat} (h : QS q M cts N) (hf : Fr SFk q q2) : QS q2 M cts N := h.t hf.as3 (by obtain ⟨L, z⟩ := h.2.2.2.2.2.2; exact ⟨L, z.t (fun k j y => hf.2 k j (by unfold SWm at y; unfold SFk; omega))⟩)
theorem who_1 : ∀ p, p < 6 → ∀ k, k < 6 → (nI (1 * 2 ^ p) >>> (nI k &&& 31)) &&& nI 1 = (if only p k = true then nI 1 else nI 0) := by decide +kernel
theorem who_a : ∀ k, k < 6 → ((-1 : Int32) >>> (nI k &&& 31)) &&& nI 1 = (if (fun _ => true : Nat → Bool) k = true then nI 1 else nI 0) := by decide +kernel
def lfar (x : Nat) : Nat := if x = 99 then 13 else x

set_option maxRecDepth 100000 in
set_option maxHeartbeats 4000000 in
theorem s_X8_isQuarter {G : GT} {q : S_} (x : Int32)  : Spec G 1 yX8_isQuarter cX8_isQuarter 1 (some .boolean) [.int x] q (PI fun r2 q3 => r2 = bP (inN x 6) ∧ q3 = q) := by
  refine Spec.intro RX8 (by decide) rfl (Nat.le_of_ble_eq_true rfl) [some (.int x)] rfl ?_
  intro X d hd C hR
  refine aw_iload_0 C dX8_isQuarter_0 ?_
  refine aw_if_lt C dX8_isQuarter_1 (tgt := 14) (by decide)  (fun c_1 => ?_) (fun c_1 => ?_)
  · skip
    refine aw_iconst C dX8_isQuarter_14 k1_0 ?_
    refine aw_iretZ C hR dX8_isQuarter_15 (by first | rfl | exact bP_nar) ?_
    exact ⟨(bP_f (fun z => z.1 c_1)).symm, rfl⟩
  · skip
    refine aw_iload_0 C dX8_isQuarter_4 ?_
    refine aw_bipush C dX8_isQuarter_5 k2_6 ?_
    refine aw_icmp_ge C dX8_isQuarter_7 (tgt := 14) (by decide)  (fun c_7 => ?_) (fun c_7 => ?_)
    · skip
      refine aw_iconst C dX8_isQuarter_14 k1_0 ?_
      refine aw_iretZ C hR dX8_isQuarter_15 (by first | rfl | exact bP_nar) ?_
      exact ⟨(bP_f (fun z => by obtain ⟨j, j1, j2, rfl⟩ := inN_of z; have := (nI_leI (by omega) j2).mp c_7; omega)).symm, rfl⟩
    · skip
      refine aw_iconst C dX8_isQuarter_10 k1_1 ?_
      refine aw_goto C dX8_isQuarter_11 (tgt := 15) (by decide) ?_
      refine aw_iretZ C hR dX8_isQuarter_15 (by first | rfl | exact bP_nar) ?_
      exact ⟨(bP_t ((inN_ge (by omega)).mp ⟨c_1, Int32.not_le.mp c_7⟩)).symm, rfl⟩

set_option maxRecDepth 100000 in
set_option maxHeartbeats 4000000 in
theorem s_X8_isTape {G : GT} {q : S_} (x : Int32)  : Spec G 1 yX8_isTape cX8_isTape 1 (some .boolean) [.int x] q (PI fun r2 q3 => r2 = bP (inN x 6) ∧ q3 = q) := by
  refine Spec.intro RX8 (by decide) rfl (Nat.le_of_ble_eq_true rfl) [some (.int x)] rfl ?_
  intro X d hd C hR
  refine aw_iload_0 C dX8_isTape_0 ?_
  refine aw_if_lt C dX8_isTape_1 (tgt := 14) (by decide)  (fun c_1 => ?_) (fun c_1 => ?_)
  · skip
    refine aw_iconst C dX8_isTape_14 k1_0 ?_
    refine aw_iretZ C hR dX8_isTape_15 (by first | rfl | exact bP_nar) ?_
    exact ⟨(bP_f (fun z => z.1 c_1)).symm, rfl⟩
  · skip
    refine aw_iload_0 C dX8_isTape_4 ?_
    refine aw_bipush C dX8_isTape_5 k2_6 ?_
    refine aw_icmp_ge C dX8_isTape_7 (tgt := 14) (by decide)  (fun c_7 => ?_) (fun c_7 => ?_)
    · skip
      refine aw_iconst C dX8_isTape_14 k1_0 ?_
      refine aw_iretZ C hR dX8_isTape_15 (by first | rfl | exact bP_nar) ?_
      exact ⟨(bP_f (fun z => by obtain ⟨j, j1, j2, rfl⟩ := inN_of z; have := (nI_leI (by omega) j2).mp c_7; omega)).symm, rfl⟩
    · skip
      refine aw_iconst C dX8_isTape_10 k1_1 ?_
      refine aw_goto C dX8_isTape_11 (tgt := 15) (by decide) ?_
      refine aw_iretZ C hR dX8_isTape_15 (by first | rfl | exact bP_nar) ?_
      exact ⟨(bP_t ((inN_ge (by omega)).mp ⟨c_1, Int32.not_le.mp c_7⟩)).symm, rfl⟩

set_option maxRecDepth 100000 in
set_option maxHeartbeats 4000000 in
theorem s_X8_isPart {G : GT} {q : S_} (x : Int32)  : Spec G 1 yX8_isPart cX8_isPart 1 (some .boolean) [.int x] q (PI fun r2 q3 => r2 = bP (inN x 2) ∧ q3 = q) := by
  refine Spec.intro RX8 (by decide) rfl (Nat.le_of_ble_eq_true rfl) [some (.int x)] rfl ?_
  intro X d hd C hR
  refine aw_iload_0 C dX8_isPart_0 ?_
  refine aw_if_eq C dX8_isPart_1 (tgt := 9) (by decide)  (fun c_1 => ?_) (fun c_1 => ?_)
  · skip
    refine aw_iconst C dX8_isPart_9 k1_1 ?_
    refine aw_goto C dX8_isPart_10 (tgt := 14) (by decide) ?_
    refine aw_iretZ C hR dX8_isPart_14 (by first | rfl | exact bP_nar) ?_
    exact ⟨(bP_t (by rw [c_1, ← nI_0]; exact inN_nI (by decide) (by decide))).symm, rfl⟩
  · skip
    refine aw_iload_0 C dX8_isPart_4 ?_
    refine aw_iconst C dX8_isPart_5 k1_1 ?_
    refine aw_icmp_ne C dX8_isPart_6 (tgt := 13) (by decide)  (fun c_6 => ?_) (fun c_6 => ?_)
    · skip
      refine aw_iconst C dX8_isPart_13 k1_0 ?_
      refine aw_iretZ C hR dX8_isPart_14 (by first | rfl | exact bP_nar) ?_
      have hn2 : ¬ inN x 2 := fun z => by
        obtain ⟨j, j1, j2, e⟩ := inN_of z
        have : j = 0 ∨ j = 1 := by omega
        rcases this with y | y
        · rw [y] at e
          exact c_1 e
        · rw [y] at e
          exact c_6 e
      exact ⟨(bP_f hn2).symm, rfl⟩
    · skip
      refine aw_iconst C dX8_isPart_9 k1_1 ?_
      refine aw_goto C dX8_isPart_10 (tgt := 14) (by decide) ?_
      refine aw_iretZ C hR dX8_isPart_14 (by first | rfl | exact bP_nar) ?_
      exact ⟨(bP_t (by rw [c_6]; exact inN_nI (by decide) (by decide))).symm, rfl⟩

set_option maxRecDepth 100000 in
set_option maxHeartbeats 4000000 in
theorem s_X8_isPerson {G : GT} {q : S_} {M : Nat → Nat} (x : Int32) (h : RelW q 1 M) (hn : M 92 < 2 ^ 31) : Spec G 1 yX8_isPerson cX8_isPerson 2 (some .boolean) [rfn G 0, .int x] q (PI fun r2 q3 => r2 = bP (inN x (M 92)) ∧ q3 = q) := by
  refine Spec.intro RX8 (by decide) rfl (Nat.le_of_ble_eq_true rfl) [some (rfn G 0), some (.int x)] rfl ?_
  intro X d hd C hR
  refine aw_iload_1 C dX8_isPerson_0 ?_
  refine aw_if_lt C dX8_isPerson_1 (tgt := 19) (by decide)  (fun c_1 => ?_) (fun c_1 => ?_)
  · skip
    refine aw_iconst C dX8_isPerson_19 k1_0 ?_
    refine aw_iretZ C hR dX8_isPerson_20 (by first | rfl | exact bP_nar) ?_
    exact ⟨(bP_f (fun z => z.1 c_1)).symm, rfl⟩
  · skip
    refine aw_iload_1 C dX8_isPerson_4 ?_
    refine aw_aload_0 C dX8_isPerson_5 rfl ?_
    refine aw_g8_0 C dX8_isPerson_6 fl_X8_14 ?_
    refine aw_g7_5 C h.2.2.1.1 dX8_isPerson_9 (shW0 isW1) fl_X8_222 ?_
    refine aw_icmp_ge C dX8_isPerson_12 (tgt := 19) (by decide)  (fun c_12 => ?_) (fun c_12 => ?_)
    · skip
      refine aw_iconst C dX8_isPerson_19 k1_0 ?_
      refine aw_iretZ C hR dX8_isPerson_20 (by first | rfl | exact bP_nar) ?_
      exact ⟨(bP_f (fun z => by obtain ⟨j, j1, j2, rfl⟩ := inN_of z; have := (nI_leI hn j2).mp c_12; omega)).symm, rfl⟩
    · skip
      refine aw_iconst C dX8_isPerson_15 k1_1 ?_
      refine aw_goto C dX8_isPerson_16 (tgt := 20) (by decide) ?_
      refine aw_iretZ C hR dX8_isPerson_20 (by first | rfl | exact bP_nar) ?_
      exact ⟨(bP_t ((inN_ge hn).mp ⟨c_1, Int32.not_le.mp c_12⟩)).symm, rfl⟩

set_option maxRecDepth 100000 in
set_option maxHeartbeats 4000000 in
theorem s_X8_isBridge {G : GT} {q : S_} {M : Nat → Nat} (x : Int32) (h : RelW q 1 M) (hn : M 93 < 2 ^ 31) : Spec G 1 yX8_isBridge cX8_isBridge 2 (some .boolean) [rfn G 0, .int x] q (PI fun r2 q3 => r2 = bP (inN x (M 93)) ∧ q3 = q) := by
  refine Spec.intro RX8 (by decide) rfl (Nat.le_of_ble_eq_true rfl) [some (rfn G 0), some (.int x)] rfl ?_
  intro X d hd C hR
  refine aw_iload_1 C dX8_isBridge_0 ?_
  refine aw_if_lt C dX8_isBridge_1 (tgt := 19) (by decide)  (fun c_1 => ?_) (fun c_1 => ?_)
  · skip
    refine aw_iconst C dX8_isBridge_19 k1_0 ?_
    refine aw_iretZ C hR dX8_isBridge_20 (by first | rfl | exact bP_nar) ?_
    exact ⟨(bP_f (fun z => z.1 c_1)).symm, rfl⟩
  · skip
    refine aw_iload_1 C dX8_isBridge_4 ?_
    refine aw_aload_0 C dX8_isBridge_5 rfl ?_
    refine aw_g8_0 C dX8_isBridge_6 fl_X8_14 ?_
    refine aw_g7_0 C h.1.1 dX8_isBridge_9 (shW0 isW1) fl_X8_195 ?_
    refine aw_icmp_ge C dX8_isBridge_12 (tgt := 19) (by decide)  (fun c_12 => ?_) (fun c_12 => ?_)
    · skip
      refine aw_iconst C dX8_isBridge_19 k1_0 ?_
      refine aw_iretZ C hR dX8_isBridge_20 (by first | rfl | exact bP_nar) ?_
      exact ⟨(bP_f (fun z => by obtain ⟨j, j1, j2, rfl⟩ := inN_of z; have := (nI_leI hn j2).mp c_12; omega)).symm, rfl⟩
    · skip
      refine aw_iconst C dX8_isBridge_15 k1_1 ?_
      refine aw_goto C dX8_isBridge_16 (tgt := 20) (by decide) ?_
      refine aw_iretZ C hR dX8_isBridge_20 (by first | rfl | exact bP_nar) ?_
      exact ⟨(bP_t ((inN_ge hn).mp ⟨c_1, Int32.not_le.mp c_12⟩)).symm, rfl⟩

set_option maxRecDepth 100000 in
set_option maxHeartbeats 4000000 in
theorem s_X8_lengthOrFar {G : GT} {q : S_} (x : Nat) (hx : x ≤ 12 ∨ x = 99) : Spec G 1 yX8_lengthOrFar cX8_lengthOrFar 1 (some .int) [.int (l5 x)] q (PI fun r2 q3 => r2 = nI (lfar x) ∧ q3 = q) := by
  refine Spec.intro RX8 (by decide) rfl (Nat.le_of_ble_eq_true rfl) [some (.int (l5 x))] rfl ?_
  intro X d hd C hR
  refine aw_iload_0 C dX8_lengthOrFar_0 ?_
  refine aw_bipush C dX8_lengthOrFar_1 k2_m5 ?_
  refine aw_icmp_ne C dX8_lengthOrFar_3 (tgt := 11) (by decide)  (fun c_3 => ?_) (fun c_3 => ?_)
  · have hx9 : x ≠ 99 := fun z => c_3 ((l5_m5 (by omega)).mpr z)
    refine aw_iload_0 C dX8_lengthOrFar_11 ?_
    refine aw_iretI C hR dX8_lengthOrFar_12 ?_
    exact ⟨by unfold l5 lfar; rw [if_neg hx9, if_neg hx9], rfl⟩
  · have hx9 : x = 99 := (l5_m5 (by omega)).mp c_3
    refine aw_bipush C dX8_lengthOrFar_6 k2_13 ?_
    refine aw_goto C dX8_lengthOrFar_8 (tgt := 12) (by decide) ?_
    refine aw_iretI C hR dX8_lengthOrFar_12 ?_
    exact ⟨by unfold lfar; rw [if_pos hx9], rfl⟩

set_option maxRecDepth 100000 in
set_option maxHeartbeats 4000000 in
theorem s_X8_isUnder {G : GT} {q : S_} (j0 k : Nat) (hj : j0 < 7) (hk : k < 7) : Spec G 1 yX8_isUnder cX8_isUnder 4 (some .boolean) [.int (nI j0), .int (nI k)] q (PI fun r2 q3 => r2 = bP (isAn k 4 j0 = true) ∧ q3 = q) := by
  refine Spec.intro RX8 (by decide) rfl (Nat.le_of_ble_eq_true rfl) [some (.int (nI j0)), some (.int (nI k)), none, none] rfl ?_
  intro X d hd C hR
  refine aw_iload_0 C dX8_isUnder_0 ?_
  refine aw_istore_2 C dX8_isUnder_1 (by decide) (fun w h => by cases h <;> rfl) ?_
  refine aw_iconst C dX8_isUnder_2 k1_0 ?_
  refine aw_istore_3 C dX8_isUnder_3 (by decide) (fun w h => by cases h <;> rfl) ?_
  have L4 : ∀ (n2 j m : Nat), dpk j < n2 → m + dpk j ≤ 3 → (j = 99 ∨ j < 7) → isAn k 4 j0 = isAn k n2 j → AW X G (q) 4 [some (.int (nI j0)), some (.int (nI k)), some (.int (cdk j)), some (.int (nI m))] [] := by
    refine nat_loop (fun j m h1 h2 hj hT => by omega) (fun n2 ih j m h1 h2 hj hT => ?_)
    refine aw_iload_3 C dX8_isUnder_4 ?_
    refine aw_bipush C dX8_isUnder_5 k2_7 ?_
    refine aw_icmp_ge_n C dX8_isUnder_7 (tgt := 33) (by decide) (by omega) (by omega) (fun c_7 => absurd c_7 (by omega)) (fun c_7 => ?_)
    refine aw_iload_2 C dX8_isUnder_10 ?_
    refine aw_if_lt C dX8_isUnder_11 (tgt := 33) (by decide)  (fun c_11 => ?_) (fun c_11 => ?_)
    · have e9 : j = 99 := Decidable.byContradiction (fun z => absurd c_11 (by unfold cdk; rw [if_neg z]; exact nI_pos (by omega)))
      rw [isAn_s k n2 j, if_pos e9] at hT
      refine aw_iconst C dX8_isUnder_33 k1_0 ?_
      refine aw_iretZ C hR dX8_isUnder_34 (by first | rfl | exact bP_nar) ?_
      exact ⟨(bP_f (fun z => by rw [hT] at z; cases z)).symm, rfl⟩
    · have e9 : j ≠ 99 := fun z => c_11 (by rw [z]; decide +kernel)
      have hj7 : j < 7 := by omega
      have hds := dpk_s j hj7
      rw [isAn_s k n2 j, if_neg e9] at hT
      rw [show cdk j = nI j from if_neg e9]
      refine aw_iload_2 C dX8_isUnder_14 ?_
      refine aw_iload_1 C dX8_isUnder_15 ?_
      refine aw_icmp_ne_n C dX8_isUnder_16 (tgt := 21) (by decide) (by omega) (by omega) (fun c_16 => ?_) (fun c_16 => ?_)
      · rw [if_neg c_16] at hT
        refine aw_above C fl_X8_286 dX8_isUnder_21 ?_
        refine aw_iload_2 C dX8_isUnder_24 ?_
        refine aw_aboveld C j dX8_isUnder_25 rfl (by omega) ?_
        rw [ab_k j hj7]
        refine aw_istore_2 C dX8_isUnder_26 (by decide) (fun w h => by cases h <;> rfl) ?_
        refine aw_iinc_3 C dX8_isUnder_27 (by decide) (fun w h => by cases h <;> rfl) (show _ + Int32.ofInt 1 = _ by rw [k1_1, nI_add]) ?_
        refine aw_goto C dX8_isUnder_30 (tgt := 4) (by decide) ?_
        exact ih (abN j) (m + 1) (by omega) (by omega) hds.2 hT
      · rw [if_pos c_16] at hT
        refine aw_iconst C dX8_isUnder_19 k1_1 ?_
        refine aw_iretZ C hR dX8_isUnder_20 (by first | rfl | exact bP_nar) ?_
        exact ⟨(bP_t hT).symm, rfl⟩
  have h4 := L4 4 j0 0 (dpk_4 j0) (by have := dpk_4 j0; omega) (Or.inr hj) rfl
  rw [show cdk j0 = nI j0 from if_neg (by omega)] at h4
  exact h4

set_option maxRecDepth 100000 in
set_option maxHeartbeats 4000000 in
theorem s_X8_lowest {G : GT} {q : S_} (a b : Nat) (w : Int32) (ha : a < 64) (hb : b < 64) (h0 : b ≠ 0) : Spec G 1 yX8_lowest cX8_lowest 5 (some .long) [.int (nI a), .int (nI b), .int w] q (PL fun r2 q3 => r2 = fracM a b w ∧ q3 = q) := by
  refine Spec.intro RX8 (by decide) rfl (Nat.le_of_ble_eq_true rfl) [some (.int (nI a)), some (.int (nI b)), some (.int w), none, none] rfl ?_
  intro X d hd C hR
  refine aw_iconst C dX8_lowest_0 k1_1 ?_
  refine aw_istore_3 C dX8_lowest_1 (by decide) (fun w h => by cases h <;> rfl) ?_
  refine aw_iconst C dX8_lowest_2 k1_2 ?_
  refine aw_istore_4 C dX8_lowest_3 (by decide) (fun w h => by cases h <;> rfl) ?_
  have L5 : ∀ (n2 d1 s : Nat), 1 < d1 → d1 ≤ b + 2 → b + 2 < d1 + n2 → 0 < s → s ∣ a → s ∣ b → (∀ e, e < d1 → e ∣ a → e ∣ b → e ≤ s) → AW X G (q) 5 [some (.int (nI a)), some (.int (nI b)), some (.int w), some (.int (nI s)), some (.int (nI d1))] [] := by
    refine nat_loop (fun d1 s g0 g1 g2 hs0 hs1 hs2 hs3 => by omega) (fun n2 ih d1 s g0 g1 g2 hs0 hs1 hs2 hs3 => ?_)
    refine aw_iload_4 C dX8_lowest_5 ?_
    refine aw_iload_1 C dX8_lowest_7 ?_
    refine aw_icmp_gt_n C dX8_lowest_8 (tgt := 34) (by decide) (by omega) (by omega) (fun c_8 => ?_) (fun c_8 => ?_)
    · skip
      have hg0 : 0 < Nat.gcd a b := Nat.pos_of_ne_zero (fun z => h0 (Nat.eq_zero_of_gcd_eq_zero_right z))
      have hgb : Nat.gcd a b ≤ b := Nat.le_of_dvd (Nat.pos_of_ne_zero h0) (Nat.gcd_dvd_right a b)
      have hsg : s = Nat.gcd a b := Nat.le_antisymm (Nat.le_of_dvd hg0 (Nat.dvd_gcd hs1 hs2)) (hs3 _ (by omega) (Nat.gcd_dvd_left a b) (Nat.gcd_dvd_right a b))
      have hqa : a / s < 64 := Nat.lt_of_le_of_lt (Nat.div_le_self a s) ha
      have hqb : b / s < 64 := Nat.lt_of_le_of_lt (Nat.div_le_self b s) hb
      have hs64 : s < 64 := by omega
      refine aw_iload_2 C dX8_lowest_34 ?_
      refine aw_if_ne C dX8_lowest_35 (tgt := 42) (by decide)  (fun c_35 => ?_) (fun c_35 => ?_)
      · have hw0 := c_35
        refine aw_iload_1 C dX8_lowest_42 ?_
        refine aw_iload_3 C dX8_lowest_43 ?_
        refine aw_idiv_n C dX8_lowest_44 (by omega) (by omega) (by omega) ?_
        refine aw_i2l C dX8_lowest_45 ?_
        refine aw_lretL C hR dX8_lowest_46 ?_
        exact ⟨by unfold fracM; rw [if_neg hw0, ← hsg, kL_i _ hqb], rfl⟩
      · have hw0 := c_35
        refine aw_iload_0 C dX8_lowest_38 ?_
        refine aw_goto C dX8_lowest_39 (tgt := 43) (by decide) ?_
        refine aw_iload_3 C dX8_lowest_43 ?_
        refine aw_idiv_n C dX8_lowest_44 (by omega) (by omega) (by omega) ?_
        refine aw_i2l C dX8_lowest_45 ?_
        refine aw_lretL C hR dX8_lowest_46 ?_
        exact ⟨by unfold fracM; rw [if_pos hw0, ← hsg, kL_i _ hqa], rfl⟩
    · skip
      refine aw_iload_0 C dX8_lowest_11 ?_
      refine aw_iload_4 C dX8_lowest_12 ?_
      refine aw_irem_n C dX8_lowest_14 (by omega) (by omega) (by omega) ?_
      refine aw_if_ne_n C dX8_lowest_15 (tgt := 28) (by decide) (by have := Nat.mod_le a d1; omega) (fun c_15 => ?_) (fun c_15 => ?_)
      · skip
        refine aw_iinc_4 C dX8_lowest_28 (by decide) (fun w h => by cases h <;> rfl) (show _ + Int32.ofInt 1 = _ by rw [k1_1, nI_add]) ?_
        refine aw_goto C dX8_lowest_31 (tgt := 5) (by decide) ?_
        exact ih (d1 + 1) s (by omega) (by omega) (by omega) hs0 hs1 hs2 (fun e he e1 e2 => by
          rcases Nat.lt_or_ge e d1 with y | y
          · exact hs3 e y e1 e2
          · rw [show e = d1 by omega] at e1
            exact absurd (Nat.mod_eq_zero_of_dvd e1) c_15)
      · skip
        refine aw_iload_1 C dX8_lowest_18 ?_
        refine aw_iload_4 C dX8_lowest_19 ?_
        refine aw_irem_n C dX8_lowest_21 (by omega) (by omega) (by omega) ?_
        refine aw_if_ne_n C dX8_lowest_22 (tgt := 28) (by decide) (by have := Nat.mod_le b d1; omega) (fun c_22 => ?_) (fun c_22 => ?_)
        · skip
          refine aw_iinc_4 C dX8_lowest_28 (by decide) (fun w h => by cases h <;> rfl) (show _ + Int32.ofInt 1 = _ by rw [k1_1, nI_add]) ?_
          refine aw_goto C dX8_lowest_31 (tgt := 5) (by decide) ?_
          exact ih (d1 + 1) s (by omega) (by omega) (by omega) hs0 hs1 hs2 (fun e he e1 e2 => by
            rcases Nat.lt_or_ge e d1 with y | y
            · exact hs3 e y e1 e2
            · rw [show e = d1 by omega] at e2
              exact absurd (Nat.mod_eq_zero_of_dvd e2) c_22)
        · skip
          refine aw_iload_4 C dX8_lowest_25 ?_
          refine aw_istore_3 C dX8_lowest_27 (by decide) (fun w h => by cases h <;> rfl) ?_
          refine aw_iinc_4 C dX8_lowest_28 (by decide) (fun w h => by cases h <;> rfl) (show _ + Int32.ofInt 1 = _ by rw [k1_1, nI_add]) ?_
          refine aw_goto C dX8_lowest_31 (tgt := 5) (by decide) ?_
          exact ih (d1 + 1) d1 (by omega) (by omega) (by omega) (by omega) (Nat.dvd_of_mod_eq_zero c_15) (Nat.dvd_of_mod_eq_zero c_22) (fun e he _ _ => by omega)
  exact L5 (b + 3) 2 1 (by omega) (by omega) (by omega) (by decide) (Nat.one_dvd a) (Nat.one_dvd b) (fun e he _ _ => by omega)

set_option maxRecDepth 100000 in
set_option maxHeartbeats 4000000 in
theorem s_X8_crossable {G : GT} {q : S_} {M : Nat → Nat} {cts : Nat → List Nat} {N : Nat} (p : Nat) (hq : QS q M cts N) (hp : p < M 92) : Spec G 4 yX8_crossable cX8_crossable 6 (some .int) [rfn G 0, .int (nI p)] q (PI (fun r q3 => r = nI (bsum (fun b => adjP M (M (32 + 10 * p + 2)) b ∧ mayP M cts p b) (M 93)) ∧ Fr SFk q q3)) := by
  refine Spec.intro RX8 (by decide) rfl (Nat.le_of_ble_eq_true rfl) [some (rfn G 0), some (.int (nI p)), none, none, none, none] rfl ?_
  intro X d hd C hR
  obtain ⟨hRw, hW, hC, hN, hN6, hG, hQ⟩ := id hq
  have hc := hW.c
  have hpp := hW.p hp
  have hh := hW.half hp
  have hpl := pop_le (M (32 + 10 * p + 5))
  have hbx := bsum_lt (fun b => adjP M (M (32 + 10 * p + 2)) b ∧ mayP M cts p b)
  have hRp := hRw.2.2.1.2 p hp
  refine aw_aload_0 C dX8_crossable_0 rfl ?_
  refine aw_g8_0 C dX8_crossable_1 fl_X8_14 ?_
  refine aw_g7_6 C dX8_crossable_4 (shW0 isW1) fl_X8_74 ?_
  refine aw_iload_1 C dX8_crossable_7 ?_
  refine aw_pald C _ dX8_crossable_8 (shW4 isW1) rfl (by omega) ?_
  refine aw_astore_2 C dX8_crossable_9 (by decide) (fun w h => by cases h <;> rfl) rfl ?_
  refine aw_aload_2 C dX8_crossable_10 rfl ?_
  refine aw_g2_5 C hRp.2.2.2.2.2.1 dX8_crossable_11 (shWE isW1 (by omega)).1 fl_X8_96 ?_
  refine aw_cS1IE C (s_J6_bitCount_0f7a4 (M (32 + 10 * p + 5)) hh) mf_J6_bitCount_0f7a4 ms_J6_bitCount_0f7a4 ml_X8_293 dX8_crossable_14 (by omega) (Nat.le_of_ble_eq_true rfl) ?_
  refine aw_istore_3 C dX8_crossable_17 (by decide) (fun w h => by cases h <;> rfl) ?_
  refine aw_iconst C dX8_crossable_18 k1_0 ?_
  refine aw_istore_4 C dX8_crossable_19 (by decide) (fun w h => by cases h <;> rfl) ?_
  refine aw_iconst C dX8_crossable_21 k1_0 ?_
  refine aw_istore_5 C dX8_crossable_22 (by decide) (fun w h => by cases h <;> rfl) ?_
  have L24 : ∀ (n2 b : Nat) (q1 : S_), b ≤ M 93 → M 93 < b + n2 → Fr SFk q q1 → AW X G (q1) 24 [some (rfn G 0), some (.int (nI p)), some (rfn G (1 + 4 + 13 + 2 * p)), some (.int (nI (pop (M (32 + 10 * p + 5))))), some (.int (nI (bsum (fun b => adjP M (M (32 + 10 * p + 2)) b ∧ mayP M cts p b) b))), some (.int (nI b))] [] := by
    refine nat_loop (fun b q1 g1 g2 hF1 => by omega) (fun n2 ih b q1 g1 g2 hF1 => ?_)
    have hq1 := hq.f hF1
    obtain ⟨hR1, -, hC1, -⟩ := hq1
    refine aw_iload_5 C dX8_crossable_24 ?_
    refine aw_aload_0 C dX8_crossable_26 rfl ?_
    refine aw_g8_0 C dX8_crossable_27 fl_X8_14 ?_
    refine aw_g7_0 C hR1.1.1 dX8_crossable_30 (shW0 isW1) fl_X8_195 ?_
    refine aw_icmp_ge_n C dX8_crossable_33 (tgt := 81) (by decide) (by omega) (by omega) (fun c_33 => ?_) (fun c_33 => ?_)
    · skip
      refine aw_iload_4 C dX8_crossable_81 ?_
      refine aw_iretI C hR dX8_crossable_83 ?_
      exact ⟨by rw [show b = M 93 by omega], hF1⟩
    · skip
      refine aw_aload_0 C dX8_crossable_36 rfl ?_
      refine aw_g8_0 C dX8_crossable_37 fl_X8_14 ?_
      refine aw_iload_5 C dX8_crossable_40 ?_
      refine aw_aload_2 C dX8_crossable_42 rfl ?_
      refine aw_g2_2 C (hR1.2.2.1.2 p hp).2.2.1 dX8_crossable_43 (shWE isW1 (by omega)).1 fl_X8_87 ?_
      have hbb := hW.b (show b < M 93 by omega)
      refine aw_cV2IE C (s_X7_otherEnd 1 b (M (32 + 10 * p + 2)) isW1 hR1 hW (by omega) (by omega)) mf_X7_otherEnd mv_X7_otherEnd (shW0 isW1) rfl ml_X8_298 dX8_crossable_46 (by omega) (Nat.le_of_ble_eq_true rfl) ?_
      refine aw_if_lt C dX8_crossable_49 (tgt := 75) (by decide)  (fun c_49 => ?_) (fun c_49 => ?_)
      · have c49 : ¬ adjP M (M (32 + 10 * p + 2)) b := fun z => Int32.not_le.mpr c_49 ((oe_ge (by omega)).mpr z)
        refine aw_iinc_5 C dX8_crossable_75 (by decide) (fun w h => by cases h <;> rfl) (show _ + Int32.ofInt 1 = _ by rw [k1_1, nI_add]) ?_
        refine aw_goto C dX8_crossable_78 (tgt := 24) (by decide) ?_
        rw [bsum_f (f := (fun b => adjP M (M (32 + 10 * p + 2)) b ∧ mayP M cts p b)) (fun z => c49 z.1)]
        exact ih (b + 1) q1 (by omega) (by omega) hF1
      · have c49 : adjP M (M (32 + 10 * p + 2)) b := (oe_ge (by omega)).mp (Int32.not_lt.mp c_49)
        refine aw_aload_0 C dX8_crossable_52 rfl ?_
        refine aw_g8_0 C dX8_crossable_53 fl_X8_14 ?_
        refine aw_iload_1 C dX8_crossable_56 ?_
        refine aw_iload_5 C dX8_crossable_57 ?_
        refine aw_iload_3 C dX8_crossable_59 ?_
        refine aw_cV3I C (s_X7_mayCross 1 p b (pop (M (32 + 10 * p + 5))) isW1 hR1 hW hC1 hN hN6 hG hp (by omega) hpl) mf_X7_mayCross mv_X7_mayCross (shW0 isW1) rfl ml_X8_301 dX8_crossable_60 (by omega) (Nat.le_of_ble_eq_true rfl) (fun r_60 q_60 h_60 => ?_)
        obtain ⟨rfl, hF60⟩ := h_60
        refine aw_if_eq_b C dX8_crossable_63 (tgt := 75) (by decide)  (fun c_63 => ?_) (fun c_63 => ?_)
        · skip
          refine aw_iinc_5 C dX8_crossable_75 (by decide) (fun w h => by cases h <;> rfl) (show _ + Int32.ofInt 1 = _ by rw [k1_1, nI_add]) ?_
          refine aw_goto C dX8_crossable_78 (tgt := 24) (by decide) ?_
          rw [bsum_f (f := (fun b => adjP M (M (32 + 10 * p + 2)) b ∧ mayP M cts p b)) (fun z => c_63 z.2)]
          exact ih (b + 1) q_60 (by omega) (by omega) (hF1.tr hF60)
        · skip
          refine aw_iload_4 C dX8_crossable_66 ?_
          refine aw_iconst C dX8_crossable_68 k1_1 ?_
          refine aw_iload_5 C dX8_crossable_69 ?_
          refine aw_ishl_n C dX8_crossable_71 (by omega) (by rw [Nat.one_mul]; have := Nat.pow_le_pow_right (n := 2) (by decide) (show b ≤ 8 by omega); omega) ?_
          rw [Nat.one_mul]
          refine aw_ior_n C dX8_crossable_72  ?_
          rw [or_pow (hbx b), bsum_t (f := (fun b => adjP M (M (32 + 10 * p + 2)) b ∧ mayP M cts p b)) ⟨c49, c_63⟩]
          refine aw_istore_4 C dX8_crossable_73 (by decide) (fun w h => by cases h <;> rfl) ?_
          refine aw_iinc_5 C dX8_crossable_75 (by decide) (fun w h => by cases h <;> rfl) (show _ + Int32.ofInt 1 = _ by rw [k1_1, nI_add]) ?_
          refine aw_goto C dX8_crossable_78 (tgt := 24) (by decide) ?_
          exact ih (b + 1) q_60 (by omega) (by omega) (hF1.tr hF60)
  exact L24 (M 93 + 1) 0 q (by omega) (by omega) Fr.rf

theorem w10 {w : Int32} {n : Nat} (hn : n ≤ 8) (h : w < nI 10) : ¬ inN (w - nI 10) n := fun z => by
  obtain ⟨j, j1, j2, e⟩ := inN_of z
  rw [sub_nI e, nI_ltI (by omega) (by decide)] at h
  omega

set_option maxRecDepth 100000 in
set_option maxHeartbeats 4000000 in
theorem s_X8_leaveNow {G : GT} {q : S_} {M : Nat → Nat} {cts : Nat → List Nat} {N : Nat} (p : Nat) (w : Int32) (hq : QS q M cts N) (hp : p < M 92) : Spec G 3 yX8_leaveNow cX8_leaveNow 3 (some .int) [rfn G 0, .int (nI p), .int w] q (PI (fun r q3 => r = (if inN (w - nI 10) (M 93) then leaveM M cts p (u32 (w - nI 10)) else -10001) ∧ Fr SFk q q3)) := by
  refine Spec.intro RX8 (by decide) rfl (Nat.le_of_ble_eq_true rfl) [some (rfn G 0), some (.int (nI p)), some (.int w)] rfl ?_
  intro X d hd C hR
  obtain ⟨hRw, hW, hC, hN, hN6, hG, hQ⟩ := id hq
  have hc := hW.c
  have hpp := hW.p hp
  have hh := hW.half hp
  have hpl := pop_le (M (32 + 10 * p + 5))
  refine aw_iload_2 C dX8_leaveNow_0 ?_
  refine aw_bipush C dX8_leaveNow_1 k2_10 ?_
  refine aw_icmp_lt C dX8_leaveNow_3 (tgt := 17) (by decide)  (fun c_3 => ?_) (fun c_3 => ?_)
  · skip
    refine aw_sipush C dX8_leaveNow_17 k3_m10001 ?_
    refine aw_iretI C hR dX8_leaveNow_20 ?_
    exact ⟨(if_neg (w10 hc.1 c_3)).symm, Fr.rf⟩
  · skip
    refine aw_aload_0 C dX8_leaveNow_6 rfl ?_
    refine aw_iload_2 C dX8_leaveNow_7 ?_
    refine aw_bipush C dX8_leaveNow_8 k2_10 ?_
    refine aw_isub C dX8_leaveNow_10  ?_
    refine aw_cV1IE C (s_X8_isBridge _ hRw (by omega)) mf_X8_isBridge mv_X8_isBridge (sh_0) rfl ml_X8_113 dX8_leaveNow_11 (by omega) (Nat.le_of_ble_eq_true rfl) ?_
    refine aw_if_ne_b C dX8_leaveNow_14 (tgt := 21) (by decide)  (fun c_14 => ?_) (fun c_14 => ?_)
    · obtain ⟨b, b1, b2, b3⟩ := inN_of c_14
      refine aw_aload_0 C dX8_leaveNow_21 rfl ?_
      refine aw_g8_0 C dX8_leaveNow_22 fl_X8_14 ?_
      refine aw_iload_1 C dX8_leaveNow_25 ?_
      refine aw_iload_2 C dX8_leaveNow_26 ?_
      refine aw_bipush C dX8_leaveNow_27 k2_10 ?_
      refine aw_isub C dX8_leaveNow_29  ?_
      refine aw_aload_0 C dX8_leaveNow_30 rfl ?_
      refine aw_g8_0 C dX8_leaveNow_31 fl_X8_14 ?_
      refine aw_g7_6 C dX8_leaveNow_34 (shW0 isW1) fl_X8_74 ?_
      refine aw_iload_1 C dX8_leaveNow_37 ?_
      refine aw_pald C _ dX8_leaveNow_38 (shW4 isW1) rfl (by omega) ?_
      refine aw_g2_5 C (hRw.2.2.1.2 p hp).2.2.2.2.2.1 dX8_leaveNow_39 (shWE isW1 (by omega)).1 fl_X8_96 ?_
      refine aw_cS1IE C (s_J6_bitCount_0f7a4 (M (32 + 10 * p + 5)) hh) mf_J6_bitCount_0f7a4 ms_J6_bitCount_0f7a4 ml_X8_293 dX8_leaveNow_42 (by omega) (Nat.le_of_ble_eq_true rfl) ?_
      rw [b3]
      refine aw_cV3I C (s_X7_leave 1 p b (pop (M (32 + 10 * p + 5))) isW1 hRw hW hC hN hN6 hG hp (by omega) hpl) mf_X7_leave mv_X7_leave (shW0 isW1) rfl ml_X8_305 dX8_leaveNow_45 (by omega) (Nat.le_of_ble_eq_true rfl) (fun r_45 q_45 h_45 => ?_)
      obtain ⟨rfl, hF45⟩ := h_45
      refine aw_iretI C hR dX8_leaveNow_48 ?_
      exact ⟨by rw [if_pos c_14, b3, show u32 (nI b) = b from nI_clamp b2]; rfl, hF45⟩
    · skip
      refine aw_sipush C dX8_leaveNow_17 k3_m10001 ?_
      refine aw_iretI C hR dX8_leaveNow_20 ?_
      exact ⟨(if_neg c_14).symm, Fr.rf⟩

theorem hoursM_4 {M : Nat → Nat} {cts : Nat → List Nat} (hW : WF M) {i : Nat} (hi : i < 6) : ∀ n, M 94 + n < 100000 → hoursM M cts n (32 + 10 * i + 4) = M (32 + 10 * i + 4) := by
  intro n
  induction n with
  | zero => intro _; rfl
  | succ n ih =>
    intro hn
    have ho := hoursM_ok (cts := cts) hW n (by omega)
    have hc := ho.1.c
    show hourM (hoursM M cts n) cts (32 + 10 * i + 4) = _
    unfold hourM
    rw [mu_ne (by omega)]
    split
    · exact ih (by omega)
    · have key : ∀ k, k ≤ 6 → pplM (hoursM M cts n) cts k (32 + 10 * i + 4) = hoursM M cts n (32 + 10 * i + 4) := by
        intro k
        induction k with
        | zero => intro _; rfl
        | succ k ih2 =>
          intro hk
          show go1 (pplM (hoursM M cts n) cts k) cts k (32 + 10 * i + 4) = _
          rw [go1_o (by omega), ih2 (by omega)]
      rw [key _ hc.2.1]
      exact ih (by omega)
theorem doneF_no {M : Nat → Nat} {cts : Nat → List Nat} (hW : WF M) {i : Nat} (hi : i < 6) (h9 : M (32 + 10 * i + 4) = 99) : ∀ m n, M 94 + n + m < 100000 → doneF M cts i m n = 99 := by
  intro m
  induction m with
  | zero => intro n _; rfl
  | succ m ih =>
    intro n hn
    show (if doneM (hoursM M cts n) i then n else doneF M cts i m (n + 1)) = 99
    rw [if_neg (fun z => z.1 (by rw [hoursM_4 hW hi n (by omega)]; exact h9))]
    exact ih (n + 1) (by omega)
theorem doneF_s (M : Nat → Nat) (cts : Nat → List Nat) (i m n : Nat) : doneF M cts i (m + 1) n = if doneM (hoursM M cts n) i then n else doneF M cts i m (n + 1) := rfl
theorem doneM_agr {p : Nat} {M M2 : Nat → Nat} (h : Agr p M M2) : doneM M2 p ↔ doneM M p := by
  unfold doneM
  rw [h.2 (32 + 10 * p + 4) (by omega) (by omega), h.2 (32 + 10 * p + 2) (by omega) (by omega), h.2 (32 + 10 * p + 5) (by omega) (by omega)]

set_option maxRecDepth 100000 in
set_option maxHeartbeats 4000000 in
theorem s_X8_hoursUntilDone {G : GT} {q : S_} {M : Nat → Nat} {cts : Nat → List Nat} {N : Nat} (p : Nat) (hq : QS q M cts N) (hp : p < M 92) (hh9 : M 94 < 90000) : Spec G 6 yX8_hoursUntilDone cX8_hoursUntilDone 3 (some .int) [rfn G 0, .int (nI p)] q (PI (fun r q3 => r = l5 (doneH M cts p) ∧ Fr SAs q q3 ∧ ∃ L, WQ q3 L)) := by
  refine Spec.intro RX8 (by decide) rfl (Nat.le_of_ble_eq_true rfl) [some (rfn G 0), some (.int (nI p)), none] rfl ?_
  intro X d hd C hR
  obtain ⟨hRw, hW, hC, hN, hN6, hG, hQ⟩ := id hq
  have hc := hW.c
  have hpp := hW.p hp
  refine aw_aload_0 C dX8_hoursUntilDone_0 rfl ?_
  refine aw_g8_0 C dX8_hoursUntilDone_1 fl_X8_14 ?_
  refine aw_g7_6 C dX8_hoursUntilDone_4 (shW0 isW1) fl_X8_74 ?_
  refine aw_iload_1 C dX8_hoursUntilDone_7 ?_
  refine aw_pald C _ dX8_hoursUntilDone_8 (shW4 isW1) rfl (by omega) ?_
  refine aw_g2_4 C (hRw.2.2.1.2 p hp).2.2.2.2.1 dX8_hoursUntilDone_9 (shWE isW1 (by omega)).1 fl_X8_93 ?_
  refine aw_bipush C dX8_hoursUntilDone_12 k2_m5 ?_
  refine aw_icmp_ne C dX8_hoursUntilDone_14 (tgt := 20) (by decide)  (fun c_14 => ?_) (fun c_14 => ?_)
  · have h99 : M (32 + 10 * p + 4) ≠ 99 := fun z => c_14 ((l5_m5 (by omega)).mpr z)
    refine aw_aload_0 C dX8_hoursUntilDone_20 rfl ?_
    refine aw_g8_2 C dX8_hoursUntilDone_21 fl_X8_21 ?_
    refine aw_aload_0 C dX8_hoursUntilDone_24 rfl ?_
    refine aw_g8_0 C dX8_hoursUntilDone_25 fl_X8_14 ?_
    refine aw_cV1V C (s_X7_copyFrom 59 1 isW59 isW1 (by decide) hRw hW) mf_X7_copyFrom mv_X7_copyFrom (shW0 isW59) rfl ml_X8_181 dX8_hoursUntilDone_28 (by omega) (Nat.le_of_ble_eq_true rfl) (fun q_28 h_28 => ?_)
    obtain ⟨hR59, hF28⟩ := h_28
    obtain ⟨L0, hL0⟩ := hQ
    have hQ28 : ∃ L, WQ q_28 L := ⟨L0, hL0.t (fun k j z => hF28.2 k j (by unfold SWm at z; omega))⟩
    have hFa := hF28.as4
    refine aw_iconst C dX8_hoursUntilDone_31 k1_0 ?_
    refine aw_istore_2 C dX8_hoursUntilDone_32 (by decide) (fun w h => by cases h <;> rfl) ?_
    have L33 : ∀ (n2 k : Nat) (q1 : S_), k ≤ 21 → 21 < k + n2 → RelW q1 59 (hoursW (only p) M cts k) → (∃ L, WQ q1 L) → Fr SAs q q1 → doneH M cts p = doneF M cts p (21 - k) k → AW X G (q1) 33 [some (rfn G 0), some (.int (nI p)), some (.int (nI k))] [] := by
      refine nat_loop (fun k q1 g1 g2 hR1 hQ1 hF1 hdo => by omega) (fun n2 ih k q1 g1 g2 hR1 hQ1 hF1 hdo => ?_)
      refine aw_iload_2 C dX8_hoursUntilDone_33 ?_
      refine aw_bipush C dX8_hoursUntilDone_34 k2_20 ?_
      refine aw_icmp_gt_n C dX8_hoursUntilDone_36 (tgt := 74) (by decide) (by omega) (by omega) (fun c_36 => ?_) (fun c_36 => ?_)
      · have ek : k = 21 := by omega
        refine aw_bipush C dX8_hoursUntilDone_74 k2_m5 ?_
        refine aw_iretI C hR dX8_hoursUntilDone_76 ?_
        exact ⟨by rw [hdo, show 21 - k = 0 by omega]; rfl, hF1, hQ1⟩
      · skip
        have ho := hoursW_ok (wh := only p) (cts := cts) hW k (by omega)
        have hag := hoursW_agr (cts := cts) hW hp k (by omega)
        have hp92 : p < hoursW (only p) M cts k 92 := by rw [ho.2.2 92 (by omega)]; exact hp
        have hq1 := hq.t hF1 hQ1
        obtain ⟨-, -, hC1, -⟩ := hq1
        refine aw_aload_0 C dX8_hoursUntilDone_39 rfl ?_
        refine aw_g8_2 C dX8_hoursUntilDone_40 fl_X8_21 ?_
        refine aw_g7_6 C dX8_hoursUntilDone_43 (shW0 isW59) fl_X8_74 ?_
        refine aw_iload_1 C dX8_hoursUntilDone_46 ?_
        refine aw_pald C _ dX8_hoursUntilDone_47 (shW4 isW59) rfl (by omega) ?_
        refine aw_cV0IE C (s_X2_isDone (59 + 4 + 13 + 2 * p) p (shWE isW59 hpp.1) (hR1.2.2.1.2 p hp92) ho.1 hp92) mf_X2_isDone mv_X2_isDone (shWE isW59 (by omega)).1 rfl ml_X8_289 dX8_hoursUntilDone_48 (by omega) (Nat.le_of_ble_eq_true rfl) ?_
        rw [bP_iff (doneM_agr hag)]
        refine aw_if_eq_b C dX8_hoursUntilDone_51 (tgt := 56) (by decide)  (fun c_51 => ?_) (fun c_51 => ?_)
        · skip
          refine aw_aload_0 C dX8_hoursUntilDone_56 rfl ?_
          refine aw_aload_0 C dX8_hoursUntilDone_57 rfl ?_
          refine aw_g8_2 C dX8_hoursUntilDone_58 fl_X8_21 ?_
          refine aw_iconst C dX8_hoursUntilDone_61 k1_1 ?_
          refine aw_iconst C dX8_hoursUntilDone_62 k1_1 ?_
          refine aw_iload_1 C dX8_hoursUntilDone_63 ?_
          refine aw_ishl_n C dX8_hoursUntilDone_64 (by omega) (by rw [Nat.one_mul]; have := Nat.pow_le_pow_right (n := 2) (by decide) (show p ≤ 6 by omega); omega) ?_
          refine aw_cV3V C (s_X8_hoursGo (only p) 59 1 isW59 hR1 ho.1 hC1 (by rw [ho.2.2 95 (by omega)]; exact hN) hN6 (hG.of (ho.2.2 95 (by omega))) hQ1 (fun k hk => who_1 p hpp.1 k hk) (by have := ho.2.1; omega)) mf_X8_hoursGo mv_X8_hoursGo (sh_0) rfl ml_X8_177 dX8_hoursUntilDone_65 (by omega) (Nat.le_of_ble_eq_true rfl) (fun q_65 h_65 => ?_)
          obtain ⟨hR2, hQ2, hC2, hF2⟩ := h_65
          refine aw_iinc_2 C dX8_hoursUntilDone_68 (by decide) (fun w h => by cases h <;> rfl) (show _ + Int32.ofInt 1 = _ by rw [k1_1, nI_add]) ?_
          refine aw_goto C dX8_hoursUntilDone_71 (tgt := 33) (by decide) ?_
          exact ih (k + 1) q_65 (by omega) (by omega) hR2 hQ2 (hF1.tr hF2.as) (by rw [hdo, show 21 - k = (21 - (k + 1)) + 1 by omega, doneF_s, if_neg c_51])
        · skip
          refine aw_iload_2 C dX8_hoursUntilDone_54 ?_
          refine aw_iretI C hR dX8_hoursUntilDone_55 ?_
          exact ⟨by rw [hdo, show 21 - k = (20 - k) + 1 by omega, doneF_s, if_pos c_51]; exact (l5_n (by omega)).symm, hF1, hQ1⟩
    exact L33 22 0 q_28 (by omega) (by omega) hR59 hQ28 hFa rfl
  · have h99 : M (32 + 10 * p + 4) = 99 := (l5_m5 (by omega)).mp c_14
    refine aw_bipush C dX8_hoursUntilDone_17 k2_m5 ?_
    refine aw_iretI C hR dX8_hoursUntilDone_19 ?_
    exact ⟨by unfold doneH; rw [doneF_no hW hpp.1 h99 21 0 (by omega)]; rfl, Fr.rf, hQ⟩

theorem hI_lt : ∀ L, L < 12 → ∀ h, h < 12 → (hI L < nI h ↔ L ≤ h) := by decide +kernel
theorem lastN_ub {a c : Nat → Nat} {p n r : Nat} (hr : r < n) (ha : a r = p) : c r + 1 ≤ lastN a c p n := by
  induction n with
  | zero => exact absurd hr (Nat.not_lt_zero r)
  | succ n ih =>
    unfold lastN
    by_cases e : r = n
    · rw [← e, if_pos ha]
      exact Nat.le_max_right _ _
    · have h1 := ih (by omega)
      split
      · exact Nat.le_trans h1 (Nat.le_max_left _ _)
      · exact h1

set_option maxRecDepth 100000 in
set_option maxHeartbeats 4000000 in
theorem s_X8_goesAsSeen {G : GT} {q : S_} {M : Nat → Nat} {cts : Nat → List Nat} {N : Nat} {H : Nat → Nat} (p : Nat) (hq : QS q M cts N) (hp : p < M 92) (hWH : WF H) (hRH : RelW q 59 H) (hHM : ∀ j, 92 ≤ j → H j = M j) (hh9 : M 94 < 90000) : Spec G 6 yX8_goesAsSeen cX8_goesAsSeen 4 (some .boolean) [rfn G 0, .int (nI p)] q (PI (fun r q3 => r = bP (seenA H cts p 9) ∧ Fr SAs q q3 ∧ ∃ L, WQ q3 L)) := by
  refine Spec.intro RX8 (by decide) rfl (Nat.le_of_ble_eq_true rfl) [some (rfn G 0), some (.int (nI p)), none, none] rfl ?_
  intro X d hd C hR
  obtain ⟨hRw, hW, hC, hN, hN6, hG, hQ⟩ := id hq
  have hc := hW.c
  have hpp := hW.p hp
  have hsr := hW.2.2.2.1
  have h96 := hHM 96 (by omega)
  have h94 := hHM 94 (by omega)
  have hpH : p < H 92 := by rw [hHM 92 (by omega)]; exact hp
  have hL9 := lastN_le (a := (fun r => M (97 + 3 * r))) (c := (fun r => M (97 + 3 * r + 1))) (p := p) (n := M 96) (m := 8) (fun r hr => (hsr r hr).2.1)
  refine aw_aload_0 C dX8_goesAsSeen_0 rfl ?_
  refine aw_g8_0 C dX8_goesAsSeen_1 fl_X8_14 ?_
  refine aw_g7_9 C dX8_goesAsSeen_4 (shW0 isW1) fl_X8_198 ?_
  refine aw_iload_1 C dX8_goesAsSeen_7 ?_
  refine aw_cV1IE C (s_X3_lastHour (1 + 5) 5 p (shW5R isW1) (by decide) hRw.2.2.2.2.2.1 hc.2.2.2.2.1 (fun r hr => ⟨by have := (hsr r hr).1; omega, (hsr r hr).2.1⟩) (by omega)) mf_X3_lastHour mv_X3_lastHour (shW5R isW1).1 rfl ml_X8_308 dX8_goesAsSeen_8 (by omega) (Nat.le_of_ble_eq_true rfl) ?_
  refine aw_istore_2 C dX8_goesAsSeen_11 (by decide) (fun w h => by cases h <;> rfl) ?_
  refine aw_iconst C dX8_goesAsSeen_12 k1_0 ?_
  refine aw_istore_3 C dX8_goesAsSeen_13 (by decide) (fun w h => by cases h <;> rfl) ?_
  have L14 : ∀ (n2 h : Nat) (q1 : S_), h ≤ 9 → 9 < h + n2 → RelW q1 59 (hoursW (only p) H cts (h - 1)) → (∃ L, WQ q1 L) → Fr SAs q q1 → (∀ n, n < h → seenN H cts p n (H 96)) → AW X G (q1) 14 [some (rfn G 0), some (.int (nI p)), some (.int (hI (lastN (fun r => M (97 + 3 * r)) (fun r => M (97 + 3 * r + 1)) p (M 96)))), some (.int (nI h))] [] := by
    refine nat_loop (fun h q1 g1 g2 hR1 hQ1 hF1 hok => by omega) (fun n2 ih h q1 g1 g2 hR1 hQ1 hF1 hok => ?_)
    refine aw_iload_3 C dX8_goesAsSeen_14 ?_
    refine aw_iload_2 C dX8_goesAsSeen_15 ?_
    refine aw_icmp_gt C dX8_goesAsSeen_16 (tgt := 70) (by decide)  (fun c_16 => ?_) (fun c_16 => ?_)
    · have c16 := (hI_lt _ (by omega) h (by omega)).mp c_16
      refine aw_iconst C dX8_goesAsSeen_70 k1_1 ?_
      refine aw_iretZ C hR dX8_goesAsSeen_71 (by first | rfl | exact bP_nar) ?_
      refine ⟨(bP_t (fun n hn => ?_)).symm, hF1, hQ1⟩
      rcases Nat.lt_or_ge n h with y | y
      · exact hok n y
      · rw [h96]
        intro r hr
        unfold seenR
        rw [hHM (97 + 3 * r) (by omega), hHM (97 + 3 * r + 1) (by omega)]
        by_cases e : M (97 + 3 * r) = p
        · have := lastN_ub (a := fun r => M (97 + 3 * r)) (c := fun r => M (97 + 3 * r + 1)) (p := p) hr e
          have e2 : M (97 + 3 * r + 1) + 1 ≤ lastN (fun r => M (97 + 3 * r)) (fun r => M (97 + 3 * r + 1)) p (M 96) := this
          exact Or.inr (Or.inl (by omega))
        · exact Or.inl e
    · have c16 : ¬ lastN (fun r => M (97 + 3 * r)) (fun r => M (97 + 3 * r + 1)) p (M 96) ≤ h := fun z => c_16 ((hI_lt _ (by omega) h (by omega)).mpr z)
      refine aw_iload_3 C dX8_goesAsSeen_19 ?_
      have hq1 := hq.t hF1 hQ1
      obtain ⟨hRn, -, hC1, -⟩ := hq1
      have ho := hoursW_ok (wh := only p) (cts := cts) hWH (h - 1) (by omega)
      refine aw_if_le_n C dX8_goesAsSeen_20 (tgt := 35) (by decide) (by omega) (fun c_20 => ?_) (fun c_20 => ?_)
      · skip
        have hRc : RelW q1 59 (hoursW (only p) H cts h) := by
          have e : h - 1 = h := by omega
          rw [e] at hR1
          exact hR1
        have hFc := hF1
        have hQc := hQ1
        generalize q1 = qc at hRc hFc hQc ⊢
        refine aw_aload_0 C dX8_goesAsSeen_35 rfl ?_
        refine aw_g8_0 C dX8_goesAsSeen_36 fl_X8_14 ?_
        refine aw_g7_9 C dX8_goesAsSeen_39 (shW0 isW1) fl_X8_198 ?_
        have hoc := hoursW_ok (wh := only p) (cts := cts) hWH h (by omega)
        have hag := hoursW_agr (cts := cts) hWH hpH h (by omega)
        have hpc : p < hoursW (only p) H cts h 92 := by rw [hoc.2.2 92 (by omega)]; exact hpH
        have hqc := hq.t hFc hQc
        have hat := hag.2 (32 + 10 * p + 2) (by omega) (by omega)
        have ht6 := (hoc.1.p hpc).2.2.2.1
        refine aw_iload_1 C dX8_goesAsSeen_42 ?_
        refine aw_aload_0 C dX8_goesAsSeen_43 rfl ?_
        refine aw_g8_2 C dX8_goesAsSeen_44 fl_X8_21 ?_
        refine aw_g7_6 C dX8_goesAsSeen_47 (shW0 isW59) fl_X8_74 ?_
        refine aw_iload_1 C dX8_goesAsSeen_50 ?_
        refine aw_pald C _ dX8_goesAsSeen_51 (shW4 isW59) rfl (by omega) ?_
        refine aw_g2_2 C (hRc.2.2.1.2 p hpc).2.2.1 dX8_goesAsSeen_52 (shWE isW59 (by omega)).1 fl_X8_87 ?_
        refine aw_iload_3 C dX8_goesAsSeen_55 ?_
        refine aw_cV3IE C (s_X3_agrees (1 + 5) 5 p (hoursW (only p) H cts h (32 + 10 * p + 2)) h (shW5R isW1) (by decide) hqc.1.2.2.2.2.2.1 hc.2.2.2.2.1 (fun r hr => ⟨by have := (hsr r hr).1; omega, by have := (hsr r hr).2.2; omega, by have := (hsr r hr).2.1; omega⟩) ⟨by omega, by omega, by omega⟩) mf_X3_agrees mv_X3_agrees (shW5R isW1).1 rfl ml_X8_311 dX8_goesAsSeen_56 (by omega) (Nat.le_of_ble_eq_true rfl) ?_
        have hiff : (∀ r, r < M 96 → agR (fun r => M (97 + 3 * r)) (fun r => M (97 + 3 * r + 2)) (fun r => M (97 + 3 * r + 1)) p (hoursW (only p) H cts h (32 + 10 * p + 2)) h r) ↔ seenN H cts p h (H 96) := by
          rw [h96]
          refine ⟨fun z r hr => ?_, fun z r hr => ?_⟩
          · have := z r hr
            unfold agR at this
            unfold seenR
            rw [hHM (97 + 3 * r) (by omega), hHM (97 + 3 * r + 1) (by omega), hHM (97 + 3 * r + 2) (by omega), ← hat]
            exact this
          · have := z r hr
            unfold seenR at this
            unfold agR
            rw [hHM (97 + 3 * r) (by omega), hHM (97 + 3 * r + 1) (by omega), hHM (97 + 3 * r + 2) (by omega), ← hat] at this
            exact this
        refine aw_if_ne_b C dX8_goesAsSeen_59 (tgt := 64) (by decide)  (fun c_59 => ?_) (fun c_59 => ?_)
        · skip
          refine aw_iinc_3 C dX8_goesAsSeen_64 (by decide) (fun w h => by cases h <;> rfl) (show _ + Int32.ofInt 1 = _ by rw [k1_1, nI_add]) ?_
          refine aw_goto C dX8_goesAsSeen_67 (tgt := 14) (by decide) ?_
          exact ih (h + 1) qc (by omega) (by omega) hRc hQc hFc (fun n hn => by
            rcases Nat.lt_or_ge n h with y | y
            · exact hok n y
            · rw [show n = h by omega]
              exact hiff.mp c_59)
        · skip
          refine aw_iconst C dX8_goesAsSeen_62 k1_0 ?_
          refine aw_iretZ C hR dX8_goesAsSeen_63 (by first | rfl | exact bP_nar) ?_
          exact ⟨(bP_f (fun z => c_59 (hiff.mpr (z h (by omega))))).symm, hFc, hQc⟩
      · skip
        refine aw_aload_0 C dX8_goesAsSeen_23 rfl ?_
        refine aw_aload_0 C dX8_goesAsSeen_24 rfl ?_
        refine aw_g8_2 C dX8_goesAsSeen_25 fl_X8_21 ?_
        refine aw_iconst C dX8_goesAsSeen_28 k1_1 ?_
        refine aw_iconst C dX8_goesAsSeen_29 k1_1 ?_
        refine aw_iload_1 C dX8_goesAsSeen_30 ?_
        refine aw_ishl_n C dX8_goesAsSeen_31 (by omega) (by rw [Nat.one_mul]; have := Nat.pow_le_pow_right (n := 2) (by decide) (show p ≤ 6 by omega); omega) ?_
        refine aw_cV3V C (s_X8_hoursGo (only p) 59 1 isW59 hR1 ho.1 hC1 (by rw [ho.2.2 95 (by omega), hHM 95 (by omega)]; exact hN) hN6 (hG.of ((ho.2.2 95 (by omega)).trans (hHM 95 (by omega)))) hQ1 (fun k hk => who_1 p hpp.1 k hk) (by have := ho.2.1; omega)) mf_X8_hoursGo mv_X8_hoursGo (sh_0) rfl ml_X8_177 dX8_goesAsSeen_32 (by omega) (Nat.le_of_ble_eq_true rfl) (fun q_32 h_32 => ?_)
        obtain ⟨hR2, hQ2, hC2, hF2⟩ := h_32
        have hRc : RelW q_32 59 (hoursW (only p) H cts h) := by
          have e : hoursW (only p) H cts h = hoursW (only p) (hoursW (only p) H cts (h - 1)) cts 1 := by
            rw [show h = (h - 1) + 1 by omega]
            rfl
          rw [e]
          exact hR2
        have hFc := hF1.tr hF2.as
        have hQc := hQ2
        generalize q_32 = qc at hRc hFc hQc ⊢
        refine aw_aload_0 C dX8_goesAsSeen_35 rfl ?_
        refine aw_g8_0 C dX8_goesAsSeen_36 fl_X8_14 ?_
        refine aw_g7_9 C dX8_goesAsSeen_39 (shW0 isW1) fl_X8_198 ?_
        have hoc := hoursW_ok (wh := only p) (cts := cts) hWH h (by omega)
        have hag := hoursW_agr (cts := cts) hWH hpH h (by omega)
        have hpc : p < hoursW (only p) H cts h 92 := by rw [hoc.2.2 92 (by omega)]; exact hpH
        have hqc := hq.t hFc hQc
        have hat := hag.2 (32 + 10 * p + 2) (by omega) (by omega)
        have ht6 := (hoc.1.p hpc).2.2.2.1
        refine aw_iload_1 C dX8_goesAsSeen_42 ?_
        refine aw_aload_0 C dX8_goesAsSeen_43 rfl ?_
        refine aw_g8_2 C dX8_goesAsSeen_44 fl_X8_21 ?_
        refine aw_g7_6 C dX8_goesAsSeen_47 (shW0 isW59) fl_X8_74 ?_
        refine aw_iload_1 C dX8_goesAsSeen_50 ?_
        refine aw_pald C _ dX8_goesAsSeen_51 (shW4 isW59) rfl (by omega) ?_
        refine aw_g2_2 C (hRc.2.2.1.2 p hpc).2.2.1 dX8_goesAsSeen_52 (shWE isW59 (by omega)).1 fl_X8_87 ?_
        refine aw_iload_3 C dX8_goesAsSeen_55 ?_
        refine aw_cV3IE C (s_X3_agrees (1 + 5) 5 p (hoursW (only p) H cts h (32 + 10 * p + 2)) h (shW5R isW1) (by decide) hqc.1.2.2.2.2.2.1 hc.2.2.2.2.1 (fun r hr => ⟨by have := (hsr r hr).1; omega, by have := (hsr r hr).2.2; omega, by have := (hsr r hr).2.1; omega⟩) ⟨by omega, by omega, by omega⟩) mf_X3_agrees mv_X3_agrees (shW5R isW1).1 rfl ml_X8_311 dX8_goesAsSeen_56 (by omega) (Nat.le_of_ble_eq_true rfl) ?_
        have hiff : (∀ r, r < M 96 → agR (fun r => M (97 + 3 * r)) (fun r => M (97 + 3 * r + 2)) (fun r => M (97 + 3 * r + 1)) p (hoursW (only p) H cts h (32 + 10 * p + 2)) h r) ↔ seenN H cts p h (H 96) := by
          rw [h96]
          refine ⟨fun z r hr => ?_, fun z r hr => ?_⟩
          · have := z r hr
            unfold agR at this
            unfold seenR
            rw [hHM (97 + 3 * r) (by omega), hHM (97 + 3 * r + 1) (by omega), hHM (97 + 3 * r + 2) (by omega), ← hat]
            exact this
          · have := z r hr
            unfold seenR at this
            unfold agR
            rw [hHM (97 + 3 * r) (by omega), hHM (97 + 3 * r + 1) (by omega), hHM (97 + 3 * r + 2) (by omega), ← hat] at this
            exact this
        refine aw_if_ne_b C dX8_goesAsSeen_59 (tgt := 64) (by decide)  (fun c_59 => ?_) (fun c_59 => ?_)
        · skip
          refine aw_iinc_3 C dX8_goesAsSeen_64 (by decide) (fun w h => by cases h <;> rfl) (show _ + Int32.ofInt 1 = _ by rw [k1_1, nI_add]) ?_
          refine aw_goto C dX8_goesAsSeen_67 (tgt := 14) (by decide) ?_
          exact ih (h + 1) qc (by omega) (by omega) hRc hQc hFc (fun n hn => by
            rcases Nat.lt_or_ge n h with y | y
            · exact hok n y
            · rw [show n = h by omega]
              exact hiff.mp c_59)
        · skip
          refine aw_iconst C dX8_goesAsSeen_62 k1_0 ?_
          refine aw_iretZ C hR dX8_goesAsSeen_63 (by first | rfl | exact bP_nar) ?_
          exact ⟨(bP_f (fun z => c_59 (hiff.mpr (z h (by omega))))).symm, hFc, hQc⟩
  exact L14 10 0 q (by omega) (by omega) hRH hQ Fr.rf (fun n hn => absurd hn (Nat.not_lt_zero n))
