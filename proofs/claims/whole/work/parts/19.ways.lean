/-! THE SHORTEST WAY, REACH -/
def ix (L : List E4) (t : Nat) : Nat → Nat → Nat
  | 0, k => k
  | n + 1, k => if (ent L k).1 = t then k else ix L t n (k + 1)
def idxM (L : List E4) (t : Nat) : Nat := ix L t L.length 0
def anc (L : List E4) (k : Nat) : Nat → Nat
  | 0 => k
  | m + 1 => (ent L (anc L k m)).2.1
def longL (L : List E4) (t : Nat) : Nat := if idxM L (256 * t) < L.length then (ent L (idxM L (256 * t))).2.2.2 else 99
def stepL (L : List E4) (t j : Nat) : Nat := (ent L (anc L (idxM L (256 * t)) (longL L t - 1 - j))).2.2.1
def longM (M : Nat → Nat) (cts : Nat → List Nat) (i t : Nat) : Nat := longL (bfsF M cts i) t
def stepM (M : Nat → Nat) (cts : Nat → List Nat) (i t j : Nat) : Nat := stepL (bfsF M cts i) t j
def l5 (x : Nat) : Int32 := if x = 99 then -5 else nI x
theorem GL.F {M : Nat → Nat} {cts : Nat → List Nat} {i : Nat} (hW : WF M) (hi : i < M 92) : GL M (bfsF M cts i) := GL.bfsk hW hi _
theorem GL.ancs {M : Nat → Nat} {L : List E4} (h : GL M L) {k : Nat} (hk : k < L.length) : ∀ m, m ≤ (ent L k).2.2.2 → anc L k m < L.length ∧ (ent L (anc L k m)).2.2.2 = (ent L k).2.2.2 - m := by
  intro m
  induction m with
  | zero => intro _; exact ⟨hk, rfl⟩
  | succ m ih =>
    intro hm
    obtain ⟨a, b⟩ := ih (by omega)
    have hz : anc L k m ≠ 0 := by
      intro z
      rw [z, h.2.2.1] at b
      omega
    obtain ⟨c, -, d, -⟩ := (h.2.2.2 _ a).2.2.2 hz
    refine ⟨?_, ?_⟩
    · show (ent L (anc L k m)).2.1 < _
      omega
    · show (ent L (ent L (anc L k m)).2.1).2.2.2 = _
      omega
theorem GL.ancz {M : Nat → Nat} {L : List E4} (h : GL M L) {k : Nat} (hk : k < L.length) {m : Nat} (hm : m < (ent L k).2.2.2) : anc L k m ≠ 0 := by
  intro z
  have := (h.ancs hk m (by omega)).2
  rw [z, h.2.2.1] at this
  omega
theorem GL.zero {M : Nat → Nat} {L : List E4} (h : GL M L) {k : Nat} (hk : k < L.length) (h0 : (ent L k).2.2.2 = 0) : k = 0 := by
  rcases Nat.eq_zero_or_pos k with z | z
  · exact z
  · have := ((h.2.2.2 k hk).2.2.2 (by omega)).2.2.1
    omega
theorem ix_le (L : List E4) (t : Nat) : ∀ n k, ix L t n k ≤ k + n := by
  intro n
  induction n with
  | zero => intro k; exact Nat.le_refl _
  | succ n ih =>
    intro k
    unfold ix
    split
    · omega
    · have := ih (k + 1); omega
theorem ix_at (L : List E4) (t : Nat) : ∀ n k, ix L t n k < k + n → (ent L (ix L t n k)).1 = t := by
  intro n
  induction n with
  | zero => intro k h; exact absurd h (Nat.lt_irrefl _)
  | succ n ih =>
    intro k h
    unfold ix at h ⊢
    split
    · next e => exact e
    · next e =>
      rw [if_neg e] at h
      exact ih (k + 1) (by omega)
theorem ix_is (L : List E4) (t k0 : Nat) : ∀ n k, k ≤ k0 → k0 < k + n → (ent L k0).1 = t → (∀ j, k ≤ j → j < k0 → (ent L j).1 ≠ t) → ix L t n k = k0 := by
  intro n
  induction n with
  | zero => intro k h1 h2; omega
  | succ n ih =>
    intro k h1 h2 h3 h4
    unfold ix
    by_cases e : (ent L k).1 = t
    · rw [if_pos e]
      rcases Nat.lt_or_ge k k0 with z | z
      · exact absurd e (h4 k (Nat.le_refl k) z)
      · omega
    · rw [if_neg e]
      have : k ≠ k0 := fun z => e (z ▸ h3)
      exact ih (k + 1) (by omega) (by omega) h3 (fun j a b => h4 j (by omega) b)
theorem longL_le {M : Nat → Nat} {L : List E4} {t : Nat} (h : GL M L) : longL L t ≤ 12 ∨ longL L t = 99 := by
  unfold longL
  split
  · next hk => exact Or.inl (h.2.2.2 _ hk).2.2.1
  · exact Or.inr rfl
theorem longM_le {M : Nat → Nat} {cts : Nat → List Nat} {i t : Nat} (hW : WF M) (hi : i < M 92) : longM M cts i t ≤ 12 ∨ longM M cts i t = 99 := longL_le (GL.F hW hi)
theorem bfs_pre (M : Nat → Nat) (cts : Nat → List Nat) (i : Nat) : ∀ k m, ∃ t, bfsL M cts i (k + m) = bfsL M cts i k ++ t := by
  intro k m
  induction m with
  | zero => exact ⟨[], (List.append_nil _).symm⟩
  | succ m ih =>
    obtain ⟨t, ht⟩ := ih
    have e : bfsL M cts i (k + (m + 1)) = if k + m < (bfsL M cts i (k + m)).length then procB M cts i (bfsL M cts i (k + m)) (k + m) (M 93) else bfsL M cts i (k + m) := rfl
    rw [e]
    split
    · obtain ⟨t2, h2⟩ := procB_app M cts i (bfsL M cts i (k + m)) (k + m) (M 93)
      exact ⟨t ++ t2, by rw [h2, ht, List.append_assoc]⟩
    · exact ⟨t, ht⟩
theorem bfsF_0 (M : Nat → Nat) (cts : Nat → List Nat) (i : Nat) : ent (bfsF M cts i) 0 = (256 * M (32 + 10 * i + 2) + M (32 + 10 * i + 5), 0, 0, 0) := by
  obtain ⟨t, ht⟩ := bfs_pre M cts i 0 1536
  rw [bfsF_eq, show 1536 = 0 + 1536 from rfl, ht]
  rfl
/-- the first bridge of a way begins where one is -/
theorem stepL_ok {M : Nat → Nat} {L : List E4} {t j s : Nat} (hG : GL M L) (h0s : ent L 0 = (s, 0, 0, 0)) (h1 : longL L t ≠ 99) (hj : j < longL L t) : stepL L t j < M 93 ∧ (j = 0 → adjP M (s / 256) (stepL L t j)) := by
  have hk : idxM L (256 * t) < L.length := by
    rcases Nat.lt_or_ge (idxM L (256 * t)) L.length with z | z
    · exact z
    · exact absurd (if_neg (Nat.not_lt.mpr z)) h1
  have he : longL L t = (ent L (idxM L (256 * t))).2.2.2 := if_pos hk
  have ha := hG.ancs hk (longL L t - 1 - j) (by omega)
  have hz := hG.ancz hk (m := longL L t - 1 - j) (by omega)
  have hs := (hG.2.2.2 _ ha.1).2.2.2 hz
  refine ⟨hs.2.1, fun h0 => ?_⟩
  have hf : (ent L (ent L (anc L (idxM L (256 * t)) (longL L t - 1 - j))).2.1).2.2.2 = 0 := by
    have := hs.2.2.1
    have := ha.2
    omega
  have h00 := hG.zero (by have := hs.1; omega) hf
  have hx := hs.2.2.2
  rw [h00, h0s] at hx
  exact hx
theorem step_ok {M : Nat → Nat} {cts : Nat → List Nat} {i t j : Nat} (hW : WF M) (hi : i < M 92) (h1 : longM M cts i t ≠ 99) (hj : j < longM M cts i t) : stepM M cts i t j < M 93 ∧ (j = 0 → adjP M (M (32 + 10 * i + 2)) (stepM M cts i t j)) := by
  have h := stepL_ok (GL.F (cts := cts) hW hi) (bfsF_0 M cts i) h1 hj
  refine ⟨h.1, fun h0 => ?_⟩
  have hx := h.2 h0
  have hh := hW.half hi
  rw [show (256 * M (32 + 10 * i + 2) + M (32 + 10 * i + 5)) / 256 = M (32 + 10 * i + 2) by omega] at hx
  exact hx
def SYk (k j : Nat) : Prop := SXk k j ∨ k = 147
theorem nI_m1 (a : Nat) : nI a + (-1 : Int32) = nI a - nI 1 := by
  rw [Int32.sub_eq_add_neg]
  congr 1
theorem nI_neg {m : Nat} (hm : m < 2 ^ 31) : (nI m - nI 1 < 0) ↔ m = 0 := by
  cases m with
  | zero => exact ⟨fun _ => rfl, fun _ => by decide +kernel⟩
  | succ m =>
    rw [pk_sub (by omega), Nat.add_sub_cancel]
    exact ⟨fun z => absurd z (nI_pos (by omega)), fun z => by omega⟩

set_option maxRecDepth 100000 in
set_option maxHeartbeats 4000000 in
theorem s_X9_longToL {G : GT} {q : S_} {M : Nat → Nat} {cts : Nat → List Nat} {L : List E4} (i t : Nat) (hLe : bfsF M cts i = L) (hM : RelR q M) (hW : WF M) (hE : RE q cts) (hG : Goo M cts) (hi : i < M 92) (ht : t < 6) : Spec G 25 yX9_longTo cX9_longTo 7 (some .int) [rfn G 129, .int (nI i), .int (nI t)] q (PI (fun r q3 => r = l5 (longL L t) ∧ (longL L t ≠ 99 → ∀ j, j < longL L t → gI q3 147 j = nI (stepL L t j)) ∧ RelR q3 M ∧ RE q3 cts ∧ Fr SYk q q3)) := by
  refine Spec.intro RX9 (by decide) rfl (Nat.le_of_ble_eq_true rfl) [some (rfn G 129), some (.int (nI i)), some (.int (nI t)), none, none, none, none] rfl ?_
  intro X d hd C hR
  have hL := GL.F (cts := cts) hW hi
  rw [hLe] at hL
  have hlen := hL.len
  have hll := longL_le (t := t) hL
  refine aw_aload_0 C dX9_longTo_0 rfl ?_
  refine aw_iload_1 C dX9_longTo_1 ?_
  refine aw_cV1V C (s_X9_explore _ hM hW hE hG (by omega)) mf_X9_explore mv_X9_explore (sh_129) rfl ml_X9_233 dX9_longTo_2 (by omega) (Nat.le_of_ble_eq_true rfl) (fun q_2 h_2 => ?_)
  obtain ⟨hB, hM2, hE2, hF2⟩ := h_2
  rw [hLe] at hB
  refine aw_iconst C dX9_longTo_5 k1_0 ?_
  refine aw_istore_3 C dX9_longTo_6 (by decide) (fun w h => by cases h <;> rfl) ?_
  have L7 : ∀ (n2 k : Nat), k ≤ L.length → L.length < k + n2 → ix L (256 * t) (L.length - k) k = (idxM L (256 * t)) → AW X G (q_2) 7 [some (rfn G 129), some (.int (nI i)), some (.int (nI t)), some (.int (nI k)), none, none, none] [] := by
    refine nat_loop (fun k h1 h2 hx1 => by omega) (fun n2 ih k h1 h2 hx1 => ?_)
    refine aw_iload_3 C dX9_longTo_7 ?_
    refine aw_aload_0 C dX9_longTo_8 rfl ?_
    refine aw_g9_26 C hB.1 dX9_longTo_9 fl_X9_226 ?_
    refine aw_icmp_ge_n C dX9_longTo_12 (tgt := 89) (by decide) (by omega) (by omega) (fun c_12 => ?_) (fun c_12 => ?_)
    · skip
      refine aw_bipush C dX9_longTo_89 k2_m5 ?_
      refine aw_iretI C hR dX9_longTo_91 ?_
      have h99 : longL L t = 99 := if_neg (by
        rw [← hx1, show L.length - k = 0 by omega]
        exact Nat.not_lt.mpr c_12)
      exact ⟨by unfold l5; rw [if_pos h99], fun z => absurd h99 z, hM2, hE2, hF2.mono (fun k j z => Or.inl z)⟩
    · skip
      have hlk := (hL.2.2.2 k (by omega)).1
      refine aw_aload_0 C dX9_longTo_15 rfl ?_
      refine aw_g9_22 C dX9_longTo_16 fl_X9_53 ?_
      refine aw_iload_3 C dX9_longTo_19 ?_
      refine aw_iald C _ (hB.2.1 k (by omega)).1 dX9_longTo_20 sh_143 rfl (by omega) ?_
      refine aw_sipush C dX9_longTo_21 k3_256 ?_
      refine aw_iload_2 C dX9_longTo_24 ?_
      refine aw_imul_n C dX9_longTo_25  ?_
      refine aw_icmp_ne_n C dX9_longTo_26 (tgt := 83) (by decide) (by omega) (by omega) (fun c_26 => ?_) (fun c_26 => ?_)
      · skip
        refine aw_iinc_3 C dX9_longTo_83 (by decide) (fun w h => by cases h <;> rfl) (show _ + Int32.ofInt 1 = _ by rw [k1_1, nI_add]) ?_
        refine aw_goto C dX9_longTo_86 (tgt := 7) (by decide) ?_
        exact ih (k + 1) (by omega) (by omega) (by
          rw [← hx1, show L.length - k = (L.length - (k + 1)) + 1 by omega]
          exact (if_neg (fun z => c_26 (by omega))).symm)
      · have hkk : (idxM L (256 * t)) = k := by
          rw [← hx1, show L.length - k = (L.length - k - 1) + 1 by omega]
          exact if_pos (by omega)
        have hfar : longL L t = (ent L k).2.2.2 := by
          unfold longL
          rw [hkk, if_pos (by omega)]
        refine aw_aload_0 C dX9_longTo_29 rfl ?_
        refine aw_g9_25 C dX9_longTo_30 fl_X9_62 ?_
        refine aw_iload_3 C dX9_longTo_33 ?_
        refine aw_iald C _ ((hB.2.1 k (by omega)).2.1.trans (by rw [← hfar])) dX9_longTo_34 sh_146 rfl (by omega) ?_
        refine aw_istore_4 C dX9_longTo_35 (by decide) (fun w h => by cases h <;> rfl) ?_
        refine aw_iload_3 C dX9_longTo_37 ?_
        refine aw_istore_5 C dX9_longTo_38 (by decide) (fun w h => by cases h <;> rfl) ?_
        refine aw_iload_4 C dX9_longTo_40 ?_
        refine aw_iconst C dX9_longTo_42 k1_1 ?_
        refine aw_isub C dX9_longTo_43  ?_
        refine aw_istore_6 C dX9_longTo_44 (by decide) (fun w h => by cases h <;> rfl) ?_
        have L46 : ∀ (n3 m : Nat) (q3 : S_), m ≤ longL L t → m < n3 → BR q3 L → Fr (fun k j => k = 147) q_2 q3 → (∀ j, m ≤ j → j < longL L t → gI q3 147 j = nI (ent L (anc L k (longL L t - 1 - j))).2.2.1) → AW X G (q3) 46 [some (rfn G 129), some (.int (nI i)), some (.int (nI t)), some (.int (nI k)), some (.int (nI (longL L t))), some (.int (nI (anc L k (longL L t - m)))), some (.int (nI m - nI 1))] [] := by
          have hl12 : longL L t ≤ 12 := by have := (hL.2.2.2 k (by omega)).2.2.1; omega
          refine nat_loop (fun m q3 h3 h4 hB3 hF3 hst => by omega) (fun n3 ih3 m q3 h3 h4 hB3 hF3 hst => ?_)
          refine aw_iload_6 C dX9_longTo_46 ?_
          refine aw_if_lt C dX9_longTo_48 (tgt := 80) (by decide)  (fun c_48 => ?_) (fun c_48 => ?_)
          · have hm0 : m = 0 := (nI_neg (by omega)).mp c_48
            subst hm0
            refine aw_iload_4 C dX9_longTo_80 ?_
            refine aw_iretI C hR dX9_longTo_82 ?_
            refine ⟨by unfold l5; rw [if_neg (by omega)], fun _ j hj => ?_, hF3.rel (fun j z => by omega) hM2, hF3.re (fun k j e z => by omega) hE2 (by obtain ⟨wi, w1, w2⟩ := hE2.2.2.2; exact ⟨wi, w1, (hF3.2 129 13 (by omega)).trans w2⟩), (hF2.mono (fun k j z => Or.inl z)).tr (hF3.mono (fun k j z => Or.inr z))⟩
            rw [hst j (Nat.zero_le j) hj]
            unfold stepL
            rw [hkk]
          · have hm0 : m ≠ 0 := fun z => c_48 ((nI_neg (by omega)).mpr z)
            obtain ⟨m, rfl⟩ : ∃ m2, m = m2 + 1 := ⟨m - 1, by omega⟩
            rw [show nI (m + 1) - nI 1 = nI m from by rw [pk_sub (by omega), Nat.add_sub_cancel]]
            have ha := hL.ancs (k := k) (by omega) (longL L t - (m + 1)) (by omega)
            have hz := hL.ancz (k := k) (by omega) (m := longL L t - (m + 1)) (by omega)
            have hs := (hL.2.2.2 _ ha.1).2.2.2 hz
            have hr := hB3.2.1 _ ha.1
            refine aw_aload_0 C dX9_longTo_51 rfl ?_
            refine aw_g9_27 C dX9_longTo_52 fl_X9_65 ?_
            refine aw_iload_6 C dX9_longTo_55 ?_
            refine aw_aload_0 C dX9_longTo_57 rfl ?_
            refine aw_g9_24 C dX9_longTo_58 fl_X9_59 ?_
            refine aw_iload_5 C dX9_longTo_61 ?_
            refine aw_iald C _ (hr.2.2 hz).2 dX9_longTo_63 sh_145 rfl (by omega) ?_
            refine aw_iast C _ dX9_longTo_64 sh_147 rfl (by omega) ?_
            refine aw_aload_0 C dX9_longTo_65 rfl ?_
            refine aw_g9_23 C dX9_longTo_66 fl_X9_56 ?_
            refine aw_iload_5 C dX9_longTo_69 ?_
            refine aw_iald C _ ((((BR.kept hB3 (Fr.set (S := fun k j => k = 147) rfl) (fun k j z y => by unfold SBk at z; omega)).2.1 _ ha.1).2.2 hz).1) dX9_longTo_71 sh_144 rfl (by omega) ?_
            refine aw_istore_5 C dX9_longTo_72 (by decide) (fun w h => by cases h <;> rfl) ?_
            refine aw_iinc_6 C dX9_longTo_74 (by decide) (fun w h => by cases h <;> rfl) (show nI m + Int32.ofInt (-1) = nI m - nI 1 from by rw [k1_m1]; exact nI_m1 m) ?_
            refine aw_goto C dX9_longTo_77 (tgt := 46) (by decide) ?_
            have hstep := ih3 m (sI q3 147 m (nI (ent L (anc L k (longL L t - (m + 1)))).2.2.1)) (by omega) (by omega) (BR.kept hB3 (Fr.set (S := fun k j => k = 147) rfl) (fun k j z y => by unfold SBk at z; omega)) (hF3.put rfl) (fun j a b => by
              rw [gI_sI]
              split
              · next e => rw [e.2, show longL L t - 1 - m = longL L t - (m + 1) by omega]
              · next e => exact hst j (by omega) b)
            rw [show longL L t - m = (longL L t - (m + 1)) + 1 by omega, show anc L k (longL L t - (m + 1) + 1) = (ent L (anc L k (longL L t - (m + 1)))).2.1 from rfl] at hstep
            exact hstep
        have hl12 : longL L t ≤ 12 := by have := (hL.2.2.2 k (by omega)).2.2.1; omega
        have h0 := L46 20 (longL L t) q_2 (Nat.le_refl _) (by omega) hB Fr.rf (fun j a b => by omega)
        rw [Nat.sub_self] at h0
        exact h0
  exact L7 1600 0 (by omega) (by omega) rfl

theorem s_X9_longTo {G : GT} {q : S_} {M : Nat → Nat} {cts : Nat → List Nat} (i t : Nat) (hM : RelR q M) (hW : WF M) (hE : RE q cts) (hG : Goo M cts) (hi : i < M 92) (ht : t < 6) : Spec G 25 yX9_longTo cX9_longTo 7 (some .int) [rfn G 129, .int (nI i), .int (nI t)] q (PI (fun r q3 => r = l5 (longM M cts i t) ∧ (longM M cts i t ≠ 99 → ∀ j, j < longM M cts i t → gI q3 147 j = nI (stepM M cts i t j)) ∧ RelR q3 M ∧ RE q3 cts ∧ Fr SYk q q3)) := s_X9_longToL i t rfl hM hW hE hG hi ht

set_option maxRecDepth 100000 in
set_option maxHeartbeats 4000000 in
theorem s_X9_reachL {G : GT} {q : S_} {M : Nat → Nat} {cts : Nat → List Nat} {L : List E4} (i : Nat) (hLe : bfsF M cts i = L) (hM : RelR q M) (hW : WF M) (hE : RE q cts) (hG : Goo M cts) (hi : i < M 92) : Spec G 25 yX9_reach cX9_reach 4 (some .int) [rfn G 129, .int (nI i)] q (PI (fun r q3 => r = nI (bsum (fun t => 256 * t ∈ sts L) 6) ∧ RelR q3 M ∧ RE q3 cts ∧ Fr SYk q q3)) := by
  refine Spec.intro RX9 (by decide) rfl (Nat.le_of_ble_eq_true rfl) [some (rfn G 129), some (.int (nI i)), none, none] rfl ?_
  intro X d hd C hR
  have hx := bsum_lt (fun t => 256 * t ∈ sts L)
  refine aw_aload_0 C dX9_reach_0 rfl ?_
  refine aw_iload_1 C dX9_reach_1 ?_
  refine aw_cV1V C (s_X9_explore _ hM hW hE hG (by omega)) mf_X9_explore mv_X9_explore (sh_129) rfl ml_X9_233 dX9_reach_2 (by omega) (Nat.le_of_ble_eq_true rfl) (fun q_2 h_2 => ?_)
  obtain ⟨hB, hM2, hE2, hF2⟩ := h_2
  rw [hLe] at hB
  refine aw_iconst C dX9_reach_5 k1_0 ?_
  refine aw_istore_2 C dX9_reach_6 (by decide) (fun w h => by cases h <;> rfl) ?_
  refine aw_iconst C dX9_reach_7 k1_0 ?_
  refine aw_istore_3 C dX9_reach_8 (by decide) (fun w h => by cases h <;> rfl) ?_
  have L9 : ∀ (n2 k : Nat), k ≤ 6 → 6 < k + n2 → AW X G (q_2) 9 [some (rfn G 129), some (.int (nI i)), some (.int (nI (bsum (fun t => 256 * t ∈ sts L) k))), some (.int (nI k))] [] := by
    refine nat_loop (fun k h1 h2 => by omega) (fun n2 ih k h1 h2 => ?_)
    refine aw_iload_3 C dX9_reach_9 ?_
    refine aw_bipush C dX9_reach_10 k2_6 ?_
    refine aw_icmp_ge_n C dX9_reach_12 (tgt := 44) (by decide) (by omega) (by omega) (fun c_12 => ?_) (fun c_12 => ?_)
    · skip
      refine aw_iload_2 C dX9_reach_44 ?_
      refine aw_iretI C hR dX9_reach_45 ?_
      exact ⟨by rw [show k = 6 by omega], hM2, hE2, hF2.mono (fun k j z => Or.inl z)⟩
    · skip
      refine aw_iload_2 C dX9_reach_15 ?_
      refine aw_aload_0 C dX9_reach_16 rfl ?_
      refine aw_g9_21 C dX9_reach_17 fl_X9_49 ?_
      refine aw_sipush C dX9_reach_20 k3_256 ?_
      refine aw_iload_3 C dX9_reach_23 ?_
      refine aw_imul_n C dX9_reach_24  ?_
      refine aw_zald C _ (hB.2.2 (256 * k) (by omega)) dX9_reach_25 sh_142 rfl (by omega) ?_
      refine aw_if_eq_b C dX9_reach_26 (tgt := 35) (by decide)  (fun c_26 => ?_) (fun c_26 => ?_)
      · skip
        refine aw_iconst C dX9_reach_35 k1_0 ?_
        refine aw_ior_n C dX9_reach_36  ?_
        rw [Nat.or_zero, bsum_f (f := fun t => 256 * t ∈ sts L) c_26]
        refine aw_istore_2 C dX9_reach_37 (by decide) (fun w h => by cases h <;> rfl) ?_
        refine aw_iinc_3 C dX9_reach_38 (by decide) (fun w h => by cases h <;> rfl) (show _ + Int32.ofInt 1 = _ by rw [k1_1, nI_add]) ?_
        refine aw_goto C dX9_reach_41 (tgt := 9) (by decide) ?_
        exact ih (k + 1) (by omega) (by omega)
      · skip
        refine aw_iconst C dX9_reach_29 k1_1 ?_
        refine aw_iload_3 C dX9_reach_30 ?_
        refine aw_ishl_n C dX9_reach_31 (by omega) (by rw [Nat.one_mul]; have := Nat.pow_le_pow_right (n := 2) (by decide) (show k ≤ 6 by omega); omega) ?_
        rw [Nat.one_mul]
        refine aw_goto C dX9_reach_32 (tgt := 36) (by decide) ?_
        refine aw_ior_n C dX9_reach_36  ?_
        rw [or_pow (hx k), bsum_t (f := fun t => 256 * t ∈ sts L) c_26]
        refine aw_istore_2 C dX9_reach_37 (by decide) (fun w h => by cases h <;> rfl) ?_
        refine aw_iinc_3 C dX9_reach_38 (by decide) (fun w h => by cases h <;> rfl) (show _ + Int32.ofInt 1 = _ by rw [k1_1, nI_add]) ?_
        refine aw_goto C dX9_reach_41 (tgt := 9) (by decide) ?_
        exact ih (k + 1) (by omega) (by omega)
  exact L9 7 0 (by omega) (by omega)

def reachM (M : Nat → Nat) (cts : Nat → List Nat) (i : Nat) : Nat := bsum (fun t => 256 * t ∈ sts (bfsF M cts i)) 6
theorem s_X9_reach {G : GT} {q : S_} {M : Nat → Nat} {cts : Nat → List Nat} (i : Nat) (hM : RelR q M) (hW : WF M) (hE : RE q cts) (hG : Goo M cts) (hi : i < M 92) : Spec G 25 yX9_reach cX9_reach 4 (some .int) [rfn G 129, .int (nI i)] q (PI (fun r q3 => r = nI (reachM M cts i) ∧ RelR q3 M ∧ RE q3 cts ∧ Fr SYk q q3)) := s_X9_reachL i rfl hM hW hE hG hi
