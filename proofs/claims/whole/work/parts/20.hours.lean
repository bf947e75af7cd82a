/-! HOURS -/
abbrev goesP (M : Nat → Nat) (cts : Nat → List Nat) (i : Nat) : Prop := M (32 + 10 * i + 4) ≠ 99 ∧ ¬ (M (32 + 10 * i + 2) = M (32 + 10 * i + 4) ∧ M (32 + 10 * i + 5) = 0) ∧ longM M cts i (M (32 + 10 * i + 4)) ≠ 99 ∧ longM M cts i (M (32 + 10 * i + 4)) ≠ 0
def go1 (M : Nat → Nat) (cts : Nat → List Nat) (i : Nat) : Nat → Nat := if goesP M cts i then crossM M i (stepM M cts i (M (32 + 10 * i + 4)) 0) else M
def pplM (M : Nat → Nat) (cts : Nat → List Nat) : Nat → Nat → Nat
  | 0 => M
  | k + 1 => go1 (pplM M cts k) cts k
def hourM (M : Nat → Nat) (cts : Nat → List Nat) : Nat → Nat := mu (if M 94 % 10 < darkM M cts then M else pplM M cts (M 92)) 94 (M 94 + 1)
def hoursM (M : Nat → Nat) (cts : Nat → List Nat) : Nat → Nat → Nat
  | 0 => M
  | n + 1 => hourM (hoursM M cts n) cts
theorem crossM_hi {M : Nat → Nat} {i b j : Nat} (hi : i < 6) (h : j < 32 ∨ 92 ≤ j) : crossM M i b j = M j := by
  unfold crossM
  split
  · rw [mu_ne (by omega), mu_ne (by omega), mu_ne (by omega)]
  · rw [mu_ne (by omega), mu_ne (by omega)]
theorem go1_hi {M : Nat → Nat} {cts : Nat → List Nat} {i j : Nat} (hi : i < 6) (h : j < 32 ∨ 92 ≤ j) : go1 M cts i j = M j := by
  unfold go1
  split
  · exact crossM_hi hi h
  · rfl
theorem pplM_hi {M : Nat → Nat} {cts : Nat → List Nat} {j : Nat} (h : j < 32 ∨ 92 ≤ j) : ∀ k, k ≤ 6 → pplM M cts k j = M j := by
  intro k
  induction k with
  | zero => intro _; rfl
  | succ k ih =>
    intro hk
    show go1 (pplM M cts k) cts k j = M j
    rw [go1_hi (by omega) h, ih (by omega)]
theorem go1_WF {M : Nat → Nat} {cts : Nat → List Nat} {i : Nat} (hW : WF M) (hi : i < M 92) : WF (go1 M cts i) := by
  unfold go1
  split
  · next h =>
    have hs := step_ok (cts := cts) hW hi (j := 0) h.2.2.1 (by have := h.2.2.2; omega)
    exact crossM_WF hW hi hs.1 (hs.2 rfl)
  · exact hW
theorem pplM_WF {M : Nat → Nat} {cts : Nat → List Nat} (hW : WF M) : ∀ k, k ≤ M 92 → WF (pplM M cts k) := by
  intro k
  have hc := hW.c
  induction k with
  | zero => intro _; exact hW
  | succ k ih =>
    intro hk
    exact go1_WF (ih (by omega)) (by rw [pplM_hi (by omega) k (by omega)]; omega)
theorem WF.hour {M : Nat → Nat} (h : WF M) {v : Nat} (hv : v < 100000) : WF (mu M 94 v) := by
  have hc := h.c
  have e : ∀ j, j ≠ 94 → mu M 94 v j = M j := fun j hj => mu_ne hj
  obtain ⟨a, b, c, r1, r2, r3, r4⟩ := h
  have e92 := e 92 (by omega)
  have e93 := e 93 (by omega)
  refine ⟨?_, ?_, ?_, ?_, ?_, ?_, ?_⟩
  · rw [e92, e93, mu_eq, e 95 (by omega), e 96 (by omega), e 112 (by omega), e 129 (by omega)]
    omega
  · intro x hx
    rw [e93] at hx ⊢
    rw [e _ (by omega), e _ (by omega), e _ (by omega), e _ (by omega)]
    exact b x hx
  · intro x hx
    rw [e92] at hx
    rw [e93, e _ (by omega), e _ (by omega), e _ (by omega), e _ (by omega), e _ (by omega), e _ (by omega)]
    obtain ⟨c0, c1, c2, c3, c4, c5, c6⟩ := c x hx
    exact ⟨c0, c1, c2, c3, c4, c5, fun r hr => by rw [e _ (by omega)]; exact c6 r hr⟩
  · intro x hx
    rw [e 96 (by omega)] at hx
    rw [e92, e _ (by omega), e _ (by omega), e _ (by omega)]
    exact r1 x hx
  · intro x hx
    rw [e 112 (by omega)] at hx
    rw [e92, e93, e _ (by omega), e _ (by omega)]
    exact r2 x hx
  · intro x hx
    rw [e 129 (by omega)] at hx
    rw [e92, e _ (by omega), e _ (by omega)]
    exact r3 x hx
  · intro x hx
    rw [e _ (by omega)]
    exact r4 x hx
theorem hourM_WF {M : Nat → Nat} {cts : Nat → List Nat} (hW : WF M) (h : M 94 + 1 < 100000) : WF (hourM M cts) := by
  unfold hourM
  refine WF.hour ?_ h
  split
  · exact hW
  · exact pplM_WF hW _ (Nat.le_refl _)
theorem hourM_hi {M : Nat → Nat} {cts : Nat → List Nat} (hW : WF M) {j : Nat} (h : j < 32 ∨ (92 ≤ j ∧ j ≠ 94)) : hourM M cts j = M j := by
  have hc := hW.c
  unfold hourM
  rw [mu_ne (by omega)]
  split
  · rfl
  · exact pplM_hi (by omega) _ (by omega)
theorem hourM_94 {M : Nat → Nat} {cts : Nat → List Nat} : hourM M cts 94 = M 94 + 1 := mu_eq
theorem hoursM_ok {M : Nat → Nat} {cts : Nat → List Nat} (hW : WF M) : ∀ n, M 94 + n < 100000 → WF (hoursM M cts n) ∧ hoursM M cts n 94 = M 94 + n ∧ ∀ j, j < 32 ∨ (92 ≤ j ∧ j ≠ 94) → hoursM M cts n j = M j := by
  intro n
  induction n with
  | zero => intro _; exact ⟨hW, rfl, fun _ _ => rfl⟩
  | succ n ih =>
    intro h
    obtain ⟨a, b, c⟩ := ih (by omega)
    refine ⟨hourM_WF a (by omega), ?_, fun j hj => ?_⟩
    · show hourM _ cts 94 = _
      rw [hourM_94, b]
      omega
    · show hourM _ cts j = _
      rw [hourM_hi a hj, c j hj]
theorem Goo.of {M M2 : Nat → Nat} {cts : Nat → List Nat} (h : Goo M cts) (e : M2 95 = M 95) : Goo M2 cts := fun k hk => h k (by rwa [e] at hk)
def SHk (k j : Nat) : Prop := SYk k j ∨ k = 130
theorem l5_pos {x : Nat} (hx : x ≤ 12 ∨ x = 99) : (l5 x ≤ 0) ↔ (x = 99 ∨ x = 0) := by
  unfold l5
  split
  · next h => exact ⟨fun _ => Or.inl h, fun _ => by decide +kernel⟩
  · next h =>
    rw [← nI_0, nI_leI (by omega) (by decide)]
    omega
theorem RE.w {q : S_} {cts : Nat → List Nat} (h : RE q cts) {S : Nat → Nat → Prop} {q2 : S_} (hf : Fr S q q2) (hs : ∀ k j, (k = 134 ∨ k = 135 ∨ k = 138 ∨ k = 139 ∨ k = 140 ∨ (k = 129 ∧ j = 13)) → ¬ S k j) : RE q2 cts := hf.re (fun k j e => hs k j (by omega)) h (by obtain ⟨wi, w1, w2⟩ := h.2.2.2; exact ⟨wi, w1, (hf.2 129 13 (hs _ _ (by omega))).trans w2⟩)

theorem clM_dk (ch : Nat → Nat) (p dk : Nat) (h : dk < 100) : (clM ch p dk).2.2.2 < 100 := by
  have hv : (clN ch p).2.2 < 100 := numM_lt _ _ _
  unfold clM
  split
  · exact h
  · split
    · exact hv
    · exact h
theorem clsM_dk (ch : Nat → Nat) : ∀ (m p dk : Nat), dk < 100 → (clsM ch m p dk).2.2.2 < 100 := by
  intro m
  induction m with
  | zero => intro p dk h; exact clM_dk ch p dk h
  | succ m ih =>
    intro p dk h
    have h1 := clM_dk ch p dk h
    unfold clsM
    split
    · exact ih _ _ h1
    · exact h1
theorem darkM_lt (M : Nat → Nat) (cts : Nat → List Nat) : darkM M cts < 100 := by
  unfold darkM
  split
  · decide
  · exact clsM_dk _ _ _ _ (by decide)

set_option maxRecDepth 100000 in
set_option maxHeartbeats 4000000 in
theorem s_X9_hour {G : GT} {q : S_} {M : Nat → Nat} {cts : Nat → List Nat}  (hM : RelR q M) (hW : WF M) (hE : RE q cts) (hG : Goo M cts) (hh : M 94 + 1 < 100000) : Spec G 26 yX9_hour cX9_hour 4 none [rfn G 129] q (PV (fun q3 => RelR q3 (hourM M cts) ∧ RE q3 cts ∧ Fr SHk q q3)) := by
  refine Spec.intro RX9 (by decide) rfl (Nat.le_of_ble_eq_true rfl) [some (rfn G 129), none, none, none] rfl ?_
  intro X d hd C hR
  have hc := hW.c
  have hdl := darkM_lt M cts
  refine aw_aload_0 C dX9_hour_0 rfl ?_
  refine aw_iconst C dX9_hour_1 k1_0 ?_
  refine aw_iconst C dX9_hour_2 k1_0 ?_
  refine aw_cV2V C (s_X9_readFor 0 0 hM hW hE hG (by omega) (by omega)) mf_X9_readFor mv_X9_readFor (sh_129) rfl ml_X9_211 dX9_hour_3 (by omega) (Nat.le_of_ble_eq_true rfl) (fun q_3 h_3 => ?_)
  obtain ⟨-, hdk, hF0, hE0⟩ := h_3
  have hM0 : RelR q_3 M := hF0.rel (fun j z => by unfold SQk at z; omega) hM
  have hFH : Fr SHk q q_3 := hF0.mono (fun k j z => Or.inl (Or.inl (Or.inl z)))
  refine aw_aload_0 C dX9_hour_6 rfl ?_
  refine aw_g9_0 C dX9_hour_7 fl_X9_9 ?_
  refine aw_bipush C dX9_hour_10 k2_94 ?_
  refine aw_iald C _ (hM0.n (by omega) (by decide)) dX9_hour_12 sh_130 rfl (by decide) ?_
  refine aw_bipush C dX9_hour_13 k2_10 ?_
  refine aw_irem_n C dX9_hour_15 (by omega) (by omega) (by omega) ?_
  refine aw_aload_0 C dX9_hour_16 rfl ?_
  refine aw_g9_15 C hdk dX9_hour_17 fl_X9_193 ?_
  refine aw_icmp_ge_n C dX9_hour_20 (tgt := 27) (by decide) (by omega) (by omega) (fun c_20 => ?_) (fun c_20 => ?_)
  · skip
    refine aw_iconst C dX9_hour_27 k1_0 ?_
    refine aw_istore_1 C dX9_hour_28 (by decide) (fun w h => by cases h <;> rfl) ?_
    refine aw_iconst C dX9_hour_29 k1_0 ?_
    refine aw_istore_2 C dX9_hour_30 (by decide) (fun w h => by cases h <;> rfl) ?_
    have L31 : ∀ (n2 k : Nat) (q1 : S_) (x3 : Option Value), k ≤ M 92 → M 92 < k + n2 → RelR q1 (pplM M cts k) → RE q1 cts → Fr SHk q q1 → (∀ w, x3 = some w → w.category = 1) → AW X G q1 31 [some (rfn G 129), some (.int (nI 0)), some (.int (nI k)), x3] [] := by
      refine nat_loop (fun k q1 x3 h1 h2 hM1 hE1 hF1 g3 => by omega) (fun n2 ih k q1 x3 h1 h2 hM1 hE1 hF1 g3 => ?_)
      have hW1 := pplM_WF (cts := cts) hW k h1
      have hpp := fun j (hj : j < 32 ∨ 92 ≤ j) => pplM_hi (M := M) (cts := cts) hj k (by omega)
      obtain ⟨Mk, hMk⟩ : ∃ z, pplM M cts k = z := ⟨_, rfl⟩
      rw [hMk] at hM1 hW1 hpp
      refine aw_iload_2 C dX9_hour_31 ?_
      refine aw_aload_0 C dX9_hour_32 rfl ?_
      refine aw_g9_0 C dX9_hour_33 fl_X9_9 ?_
      refine aw_bipush C dX9_hour_36 k2_92 ?_
      refine aw_iald C _ ((hM1.n (by omega) (by decide)).trans (by rw [hpp 92 (by omega)])) dX9_hour_38 sh_130 rfl (by decide) ?_
      refine aw_icmp_ge_n C dX9_hour_39 (tgt := 93) (by decide) (by omega) (by omega) (fun c_39 => ?_) (fun c_39 => ?_)
      · skip
        have hM9 := hM1
        have he9 := hE1
        have hF9 := hF1
        have h94 := (hM1.n (j := 94) (by omega) (by decide)).trans (by rw [hpp 94 (by omega)])
        refine aw_aload_0 C dX9_hour_93 rfl ?_
        refine aw_g9_0 C dX9_hour_94 fl_X9_9 ?_
        refine aw_bipush C dX9_hour_97 k2_94 ?_
        refine aw_dup2 C dX9_hour_99 rfl rfl ?_
        refine aw_iald C _ h94 dX9_hour_100 sh_130 rfl (by decide) ?_
        refine aw_iconst C dX9_hour_101 k1_1 ?_
        refine aw_iadd_n C dX9_hour_102  ?_
        refine aw_iast C _ dX9_hour_103 sh_130 rfl (by decide) ?_
        refine aw_vretV C hR dX9_hour_104 ?_
        refine ⟨?_, (he9).w (Fr.set (S := fun k j => k = 130) rfl) (fun k j e z => by omega), (hF9).put (Or.inr rfl)⟩
        unfold hourM
        rw [if_neg (by omega), show M 92 = k by omega, hMk]
        exact hM9.set (cd_n (by decide)).symm
      · skip
        refine aw_iload_1 C dX9_hour_42 ?_
        refine aw_if_ne_n C dX9_hour_43 (tgt := 93) (by decide) (by omega) (fun c_43 => absurd c_43 (fun z => z rfl)) (fun c_43 => ?_)
        refine aw_aload_0 C dX9_hour_46 rfl ?_
        refine aw_iload_2 C dX9_hour_47 ?_
        refine aw_iconst C dX9_hour_48 k1_4 ?_
        have hk92 : k < Mk 92 := by rw [hpp 92 (by omega)]; omega
        have hp := hW1.p hk92
        refine aw_cV2IE C (s_X9_one k 4 (by omega)) mf_X9_one mv_X9_one (sh_129) rfl ml_X9_102 dX9_hour_49 (by omega) (Nat.le_of_ble_eq_true rfl) ?_
        rw [hM1 (32 + 10 * k + 4) (by omega)]
        refine aw_istore_3 C dX9_hour_52 (by decide) (fun w h => by cases h <;> rfl) ?_
        refine aw_iload_3 C dX9_hour_53 ?_
        refine aw_iconst C dX9_hour_54 k1_m1 ?_
        refine aw_icmp_eq C dX9_hour_55 (tgt := 87) (by decide)  (fun c_55 => ?_) (fun c_55 => ?_)
        · have hs : Mk (32 + 10 * k + 4) = 99 := ((cd_m1 (by omega)).mp c_55).2
          refine aw_iinc_2 C dX9_hour_87 (by decide) (fun w h => by cases h <;> rfl) (show _ + Int32.ofInt 1 = _ by rw [k1_1, nI_add]) ?_
          refine aw_goto C dX9_hour_90 (tgt := 31) (by decide) ?_
          exact ih (k + 1) q1 _ (by omega) (by omega) (by show RelR q1 (go1 (pplM M cts k) cts k); rw [hMk, show go1 Mk cts k = Mk from if_neg (fun z => z.1 hs)]; exact hM1) hE1 hF1 (fun w h => by cases h; rfl)
        · have hs : Mk (32 + 10 * k + 4) ≠ 99 := fun z => c_55 ((cd_m1 (by omega)).mpr ⟨by unfold isOpt; omega, z⟩)
          rw [cd_v hs]
          refine aw_aload_0 C dX9_hour_58 rfl ?_
          refine aw_iload_2 C dX9_hour_59 ?_
          refine aw_iload_3 C dX9_hour_60 ?_
          refine aw_cV2IE C (s_X9_isTruly _ _ hM1 hW1 hk92 (by omega)) mf_X9_isTruly mv_X9_isTruly (sh_129) rfl ml_X9_236 dX9_hour_61 (by omega) (Nat.le_of_ble_eq_true rfl) ?_
          refine aw_if_ne_b C dX9_hour_64 (tgt := 87) (by decide)  (fun c_64 => ?_) (fun c_64 => ?_)
          · skip
            refine aw_iinc_2 C dX9_hour_87 (by decide) (fun w h => by cases h <;> rfl) (show _ + Int32.ofInt 1 = _ by rw [k1_1, nI_add]) ?_
            refine aw_goto C dX9_hour_90 (tgt := 31) (by decide) ?_
            exact ih (k + 1) q1 _ (by omega) (by omega) (by show RelR q1 (go1 (pplM M cts k) cts k); rw [hMk, show go1 Mk cts k = Mk from if_neg (fun z => z.2.1 c_64)]; exact hM1) hE1 hF1 (fun w h => by cases h; rfl)
          · skip
            refine aw_aload_0 C dX9_hour_67 rfl ?_
            refine aw_iload_2 C dX9_hour_68 ?_
            refine aw_iload_3 C dX9_hour_69 ?_
            refine aw_cV2I C (s_X9_longTo _ _ hM1 hW1 hE1 (hG.of (hpp 95 (by omega))) hk92 (by omega)) mf_X9_longTo mv_X9_longTo (sh_129) rfl ml_X9_239 dX9_hour_70 (by omega) (Nat.le_of_ble_eq_true rfl) (fun r_70 q_70 h_70 => ?_)
            obtain ⟨he70, hst, hM2, hE2, hF2⟩ := h_70
            rw [he70]
            have hl9 := longM_le (cts := cts) (t := Mk (32 + 10 * k + 4)) hW1 hk92
            refine aw_if_le C dX9_hour_73 (tgt := 87) (by decide)  (fun c_73 => ?_) (fun c_73 => ?_)
            · have hl0 := (l5_pos hl9).mp c_73
              refine aw_iinc_2 C dX9_hour_87 (by decide) (fun w h => by cases h <;> rfl) (show _ + Int32.ofInt 1 = _ by rw [k1_1, nI_add]) ?_
              refine aw_goto C dX9_hour_90 (tgt := 31) (by decide) ?_
              exact ih (k + 1) q_70 _ (by omega) (by omega) (by show RelR q_70 (go1 (pplM M cts k) cts k); rw [hMk, show go1 Mk cts k = Mk from if_neg (fun z => hl0.elim z.2.2.1 z.2.2.2)]; exact hM2) hE2 (hF1.tr (hF2.mono (fun k j z => Or.inl z))) (fun w h => by cases h; rfl)
            · have hl0 : longM Mk cts k (Mk (32 + 10 * k + 4)) ≠ 99 ∧ longM Mk cts k (Mk (32 + 10 * k + 4)) ≠ 0 := ⟨fun z => c_73 ((l5_pos hl9).mpr (Or.inl z)), fun z => c_73 ((l5_pos hl9).mpr (Or.inr z))⟩
              have hso := step_ok (cts := cts) hW1 hk92 (j := 0) hl0.1 (by omega)
              have hgo : goesP Mk cts k := ⟨hs, c_64, hl0.1, hl0.2⟩
              refine aw_aload_0 C dX9_hour_76 rfl ?_
              refine aw_iload_2 C dX9_hour_77 ?_
              refine aw_aload_0 C dX9_hour_78 rfl ?_
              refine aw_g9_27 C dX9_hour_79 fl_X9_65 ?_
              refine aw_iconst C dX9_hour_82 k1_0 ?_
              refine aw_iald C _ (hst hl0.1 0 (by omega)) dX9_hour_83 sh_147 rfl (by decide) ?_
              refine aw_cV2V C (s_X9_crosses _ _ hM2 hW1 hk92 hso.1 (hso.2 rfl)) mf_X9_crosses mv_X9_crosses (sh_129) rfl ml_X9_139 dX9_hour_84 (by omega) (Nat.le_of_ble_eq_true rfl) (fun q_84 h_84 => ?_)
              obtain ⟨hM3, hF3⟩ := h_84
              refine aw_iinc_2 C dX9_hour_87 (by decide) (fun w h => by cases h <;> rfl) (show _ + Int32.ofInt 1 = _ by rw [k1_1, nI_add]) ?_
              refine aw_goto C dX9_hour_90 (tgt := 31) (by decide) ?_
              exact ih (k + 1) q_84 _ (by omega) (by omega) (by show RelR q_84 (go1 (pplM M cts k) cts k); rw [hMk, show go1 Mk cts k = crossM Mk k (stepM Mk cts k (Mk (32 + 10 * k + 4)) 0) from if_pos hgo]; exact hM3) (hE2.w hF3 (fun k j e z => by omega)) ((hF1.tr (hF2.mono (fun k j z => Or.inl z))).tr (hF3.mono (fun k j z => Or.inr z))) (fun w h => by cases h; rfl)
    exact L31 7 0 q_3 _ (by omega) (by omega) hM0 hE0 hFH (fun w h => by cases h)
  · skip
    refine aw_iconst C dX9_hour_23 k1_1 ?_
    refine aw_goto C dX9_hour_24 (tgt := 28) (by decide) ?_
    refine aw_istore_1 C dX9_hour_28 (by decide) (fun w h => by cases h <;> rfl) ?_
    refine aw_iconst C dX9_hour_29 k1_0 ?_
    refine aw_istore_2 C dX9_hour_30 (by decide) (fun w h => by cases h <;> rfl) ?_
    refine aw_iload_2 C dX9_hour_31 ?_
    refine aw_aload_0 C dX9_hour_32 rfl ?_
    refine aw_g9_0 C dX9_hour_33 fl_X9_9 ?_
    refine aw_bipush C dX9_hour_36 k2_92 ?_
    refine aw_iald C _ (hM0.n (by omega) (by decide)) dX9_hour_38 sh_130 rfl (by decide) ?_
    refine aw_icmp_ge_n C dX9_hour_39 (tgt := 93) (by decide) (by omega) (by omega) (fun c_39 => ?_) (fun c_39 => ?_)
    · skip
      have hM9 := hM0
      have he9 := hE0
      have hF9 := hFH
      have h94 := hM0.n (j := 94) (by omega) (by decide)
      refine aw_aload_0 C dX9_hour_93 rfl ?_
      refine aw_g9_0 C dX9_hour_94 fl_X9_9 ?_
      refine aw_bipush C dX9_hour_97 k2_94 ?_
      refine aw_dup2 C dX9_hour_99 rfl rfl ?_
      refine aw_iald C _ h94 dX9_hour_100 sh_130 rfl (by decide) ?_
      refine aw_iconst C dX9_hour_101 k1_1 ?_
      refine aw_iadd_n C dX9_hour_102  ?_
      refine aw_iast C _ dX9_hour_103 sh_130 rfl (by decide) ?_
      refine aw_vretV C hR dX9_hour_104 ?_
      refine ⟨?_, (he9).w (Fr.set (S := fun k j => k = 130) rfl) (fun k j e z => by omega), (hF9).put (Or.inr rfl)⟩
      unfold hourM
      rw [if_pos (by omega)]
      exact hM9.set (cd_n (by decide)).symm
    · skip
      refine aw_iload_1 C dX9_hour_42 ?_
      refine aw_if_ne_n C dX9_hour_43 (tgt := 93) (by decide) (by omega) (fun c_43 => ?_) (fun c_43 => absurd c_43 (by omega))
      have hM9 := hM0
      have he9 := hE0
      have hF9 := hFH
      have h94 := hM0.n (j := 94) (by omega) (by decide)
      refine aw_aload_0 C dX9_hour_93 rfl ?_
      refine aw_g9_0 C dX9_hour_94 fl_X9_9 ?_
      refine aw_bipush C dX9_hour_97 k2_94 ?_
      refine aw_dup2 C dX9_hour_99 rfl rfl ?_
      refine aw_iald C _ h94 dX9_hour_100 sh_130 rfl (by decide) ?_
      refine aw_iconst C dX9_hour_101 k1_1 ?_
      refine aw_iadd_n C dX9_hour_102  ?_
      refine aw_iast C _ dX9_hour_103 sh_130 rfl (by decide) ?_
      refine aw_vretV C hR dX9_hour_104 ?_
      refine ⟨?_, (he9).w (Fr.set (S := fun k j => k = 130) rfl) (fun k j e z => by omega), (hF9).put (Or.inr rfl)⟩
      unfold hourM
      rw [if_pos (by omega)]
      exact hM9.set (cd_n (by decide)).symm

set_option maxRecDepth 100000 in
set_option maxHeartbeats 4000000 in
theorem s_X9_hours {G : GT} {q : S_} {M : Nat → Nat} {cts : Nat → List Nat} (n : Nat) (hM : RelR q M) (hW : WF M) (hE : RE q cts) (hG : Goo M cts) (hn : M 94 + n < 100000) : Spec G 27 yX9_hours cX9_hours 3 none [rfn G 129, .int (nI n)] q (PV (fun q3 => RelR q3 (hoursM M cts n) ∧ RE q3 cts ∧ Fr SHk q q3)) := by
  refine Spec.intro RX9 (by decide) rfl (Nat.le_of_ble_eq_true rfl) [some (rfn G 129), some (.int (nI n)), none] rfl ?_
  intro X d hd C hR
  refine aw_iconst C dX9_hours_0 k1_0 ?_
  refine aw_istore_2 C dX9_hours_1 (by decide) (fun w h => by cases h <;> rfl) ?_
  have L2 : ∀ (n2 k : Nat) (q1 : S_), k ≤ n → n < k + n2 → RelR q1 (hoursM M cts k) → RE q1 cts → Fr SHk q q1 → AW X G (q1) 2 [some (rfn G 129), some (.int (nI n)), some (.int (nI k))] [] := by
    refine nat_loop (fun k q1 h1 h2 hM1 hE1 hF1 => by omega) (fun n2 ih k q1 h1 h2 hM1 hE1 hF1 => ?_)
    refine aw_iload_2 C dX9_hours_2 ?_
    refine aw_iload_1 C dX9_hours_3 ?_
    refine aw_icmp_ge_n C dX9_hours_4 (tgt := 17) (by decide) (by omega) (by omega) (fun c_4 => ?_) (fun c_4 => ?_)
    · skip
      refine aw_vretV C hR dX9_hours_17 ?_
      exact ⟨by rw [show n = k by omega]; exact hM1, hE1, hF1⟩
    · skip
      refine aw_aload_0 C dX9_hours_7 rfl ?_
      have ho := hoursM_ok (cts := cts) hW k (by omega)
      refine aw_cV0V C (s_X9_hour hM1 ho.1 hE1 (hG.of (ho.2.2 95 (by omega))) (by have := ho.2.1; omega)) mf_X9_hour mv_X9_hour (sh_129) rfl ml_X9_242 dX9_hours_8 (by omega) (Nat.le_of_ble_eq_true rfl) (fun q_8 h_8 => ?_)
      obtain ⟨hM2, hE2, hF2⟩ := h_8
      refine aw_iinc_2 C dX9_hours_11 (by decide) (fun w h => by cases h <;> rfl) (show _ + Int32.ofInt 1 = _ by rw [k1_1, nI_add]) ?_
      refine aw_goto C dX9_hours_14 (tgt := 2) (by decide) ?_
      exact ih (k + 1) q_8 (by omega) (by omega) hM2 hE2 (hF1.tr hF2)
  exact L2 (n + 1) 0 q (by omega) (by omega) hM hE Fr.rf

/-- when ERRANDS are done: from the n-th HOUR on, m more tried -/
def doneF (M : Nat → Nat) (cts : Nat → List Nat) (i : Nat) : Nat → Nat → Nat
  | 0, _ => 99
  | m + 1, n => if doneM (hoursM M cts n) i then n else doneF M cts i m (n + 1)
def doneH (M : Nat → Nat) (cts : Nat → List Nat) (i : Nat) : Nat := doneF M cts i 21 0
/-- 'now' laid aside and taken back -/
theorem back_now {q q2 : S_} {M : Nat → Nat} (hM : RelR q M) (hf : Fr SHk (cpI q 130 131 146) q2) : RelR (cpI q2 131 130 146) M ∧ Fr (fun k j => SYk k j ∨ k = 131 ∨ (k = 130 ∧ 146 ≤ j)) q (cpI q2 131 130 146) := by
  refine ⟨fun j hj => ?_, hf.1, fun k j hn => ?_⟩
  · rw [gI_cpI, if_pos ⟨rfl, hj⟩, hf.2 131 j (by unfold SHk SYk SXk SQk; omega), gI_cpI, if_pos ⟨rfl, hj⟩]
    exact hM j hj
  · rw [gI_cpI]
    split
    · next h => rw [h.1, hf.2 131 j (by unfold SHk SYk SXk SQk; omega), gI_cpI, if_pos ⟨rfl, h.2⟩]
    · next h =>
      rw [hf.2 k j (fun z => z.elim (fun y => hn (Or.inl y)) (fun y => hn (Or.inr (Or.inr ⟨y, by omega⟩)))), gI_cpI, if_neg (fun z => hn (Or.inr (Or.inl z.1)))]

theorem m5_ne {n : Nat} (h : n < 2 ^ 31) : ¬ nI n = -5 := by
  intro e
  have a := nI_toInt h
  rw [e] at a
  have b : (-5 : Int32).toInt = -5 := by decide +kernel
  omega

set_option maxRecDepth 100000 in
set_option maxHeartbeats 4000000 in
theorem s_X9_done {G : GT} {q : S_} {M : Nat → Nat} {cts : Nat → List Nat} (i : Nat) (hM : RelR q M) (hW : WF M) (hE : RE q cts) (hG : Goo M cts) (hi : i < M 92) (hh : M 94 < 90000) : Spec G 27 yX9_done cX9_done 4 (some .int) [rfn G 129, .int (nI i)] q (PI (fun r q3 => r = l5 (doneH M cts i) ∧ RelR q3 M ∧ RE q3 cts ∧ Fr (fun k j => SYk k j ∨ k = 131 ∨ (k = 130 ∧ 146 ≤ j)) q q3)) := by
  refine Spec.intro RX9 (by decide) rfl (Nat.le_of_ble_eq_true rfl) [some (rfn G 129), some (.int (nI i)), none, none] rfl ?_
  intro X d hd C hR
  have hc := hW.c
  refine aw_aload_0 C dX9_done_0 rfl ?_
  refine aw_g9_0 C dX9_done_1 fl_X9_9 ?_
  refine aw_aload_0 C dX9_done_4 rfl ?_
  refine aw_g9_1 C dX9_done_5 fl_X9_15 ?_
  refine aw_cS2VE C (s_X9_move 130 131 sh_130 sh_131 (by decide)) mf_X9_move ms_X9_move ml_X9_94 dX9_done_8 (by omega) (Nat.le_of_ble_eq_true rfl) ?_
  have hMc : RelR (cpI q 130 131 146) M := fun j hj => by rw [gI_cpI, if_neg (by omega)]; exact hM j hj
  have hEc : RE (cpI q 130 131 146) cts := hE.w (⟨rfl, fun k j hn => by rw [gI_cpI, if_neg (fun z => hn z.1)]⟩ : Fr (fun k j => k = 131) q (cpI q 130 131 146)) (fun k j e z => by omega)
  refine aw_bipush C dX9_done_11 k2_m5 ?_
  refine aw_istore_2 C dX9_done_13 (by decide) (fun w h => by cases h <;> rfl) ?_
  refine aw_iconst C dX9_done_14 k1_0 ?_
  refine aw_istore_3 C dX9_done_15 (by decide) (fun w h => by cases h <;> rfl) ?_
  have L16 : ∀ (n2 k f : Nat) (q1 : S_), k ≤ 21 → 21 < k + n2 → f ≤ 20 ∨ f = 99 → RelR q1 (hoursM M cts k) → RE q1 cts → Fr SHk (cpI q 130 131 146) q1 → doneH M cts i = (if f = 99 then doneF M cts i (21 - k) k else f) → AW X G (q1) 16 [some (rfn G 129), some (.int (nI i)), some (.int (l5 f)), some (.int (nI k))] [] := by
    refine nat_loop (fun k f q1 h1 h2 hf hM1 hE1 hF1 hdo => by omega) (fun n2 ih k f q1 h1 h2 hf hM1 hE1 hF1 hdo => ?_)
    refine aw_iload_3 C dX9_done_16 ?_
    refine aw_bipush C dX9_done_17 k2_20 ?_
    refine aw_icmp_gt_n C dX9_done_19 (tgt := 53) (by decide) (by omega) (by omega) (fun c_19 => ?_) (fun c_19 => ?_)
    · skip
      refine aw_aload_0 C dX9_done_53 rfl ?_
      refine aw_g9_1 C dX9_done_54 fl_X9_15 ?_
      refine aw_aload_0 C dX9_done_57 rfl ?_
      refine aw_g9_0 C dX9_done_58 fl_X9_9 ?_
      have hEq : RE q1 cts := hE1
      obtain ⟨hMb, hFb⟩ := back_now hM hF1
      have hEb : RE (cpI q1 131 130 146) cts := hEq.w (⟨rfl, fun k j hn => by rw [gI_cpI, if_neg (fun z => hn z.1)]⟩ : Fr (fun k j => k = 130) q1 (cpI q1 131 130 146)) (fun k j e z => by omega)
      refine aw_cS2VE C (s_X9_move 131 130 sh_131 sh_130 (by decide)) mf_X9_move ms_X9_move ml_X9_94 dX9_done_61 (by omega) (Nat.le_of_ble_eq_true rfl) ?_
      refine aw_iload_2 C dX9_done_64 ?_
      refine aw_iretI C hR dX9_done_65 ?_
      refine ⟨?_, hMb, hEb, hFb⟩
      rw [hdo]
      split
      · next z => rw [show 21 - k = 0 by omega, z]; rfl
      · rfl
    · skip
      refine aw_iload_2 C dX9_done_22 ?_
      refine aw_bipush C dX9_done_23 k2_m5 ?_
      refine aw_icmp_ne C dX9_done_25 (tgt := 53) (by decide)  (fun c_25 => ?_) (fun c_25 => ?_)
      · have hf9 : f ≠ 99 := fun z => c_25 (by rw [z]; rfl)
        refine aw_aload_0 C dX9_done_53 rfl ?_
        refine aw_g9_1 C dX9_done_54 fl_X9_15 ?_
        refine aw_aload_0 C dX9_done_57 rfl ?_
        refine aw_g9_0 C dX9_done_58 fl_X9_9 ?_
        have hEq : RE q1 cts := hE1
        obtain ⟨hMb, hFb⟩ := back_now hM hF1
        have hEb : RE (cpI q1 131 130 146) cts := hEq.w (⟨rfl, fun k j hn => by rw [gI_cpI, if_neg (fun z => hn z.1)]⟩ : Fr (fun k j => k = 130) q1 (cpI q1 131 130 146)) (fun k j e z => by omega)
        refine aw_cS2VE C (s_X9_move 131 130 sh_131 sh_130 (by decide)) mf_X9_move ms_X9_move ml_X9_94 dX9_done_61 (by omega) (Nat.le_of_ble_eq_true rfl) ?_
        refine aw_iload_2 C dX9_done_64 ?_
        refine aw_iretI C hR dX9_done_65 ?_
        exact ⟨by rw [hdo, if_neg hf9], hMb, hEb, hFb⟩
      · have hf9 : f = 99 := Decidable.byContradiction (fun z => absurd c_25 (by
        unfold l5
        rw [if_neg z]
        exact m5_ne (by omega)))
        refine aw_aload_0 C dX9_done_28 rfl ?_
        refine aw_iload_1 C dX9_done_29 ?_
        have ho := hoursM_ok (cts := cts) hW k (by omega)
        refine aw_cV1IE C (s_X9_isDone _ hM1 ho.1 (by rw [ho.2.2 92 (by omega)]; exact hi)) mf_X9_isDone mv_X9_isDone (sh_129) rfl ml_X9_245 dX9_done_30 (by omega) (Nat.le_of_ble_eq_true rfl) ?_
        refine aw_if_eq_b C dX9_done_33 (tgt := 40) (by decide)  (fun c_33 => ?_) (fun c_33 => ?_)
        · skip
          refine aw_bipush C dX9_done_40 k2_m5 ?_
          refine aw_istore_2 C dX9_done_42 (by decide) (fun w h => by cases h <;> rfl) ?_
          refine aw_aload_0 C dX9_done_43 rfl ?_
          refine aw_cV0V C (s_X9_hour hM1 ho.1 hE1 (hG.of (ho.2.2 95 (by omega))) (by have := ho.2.1; omega)) mf_X9_hour mv_X9_hour (sh_129) rfl ml_X9_242 dX9_done_44 (by omega) (Nat.le_of_ble_eq_true rfl) (fun q_44 h_44 => ?_)
          obtain ⟨hM2, hE2, hF2⟩ := h_44
          refine aw_iinc_3 C dX9_done_47 (by decide) (fun w h => by cases h <;> rfl) (show _ + Int32.ofInt 1 = _ by rw [k1_1, nI_add]) ?_
          refine aw_goto C dX9_done_50 (tgt := 16) (by decide) ?_
          exact ih (k + 1) 99 q_44 (by omega) (by omega) (Or.inr rfl) hM2 hE2 (hF1.tr hF2) (by rw [hdo, if_pos hf9, if_pos rfl, show 21 - k = (21 - (k + 1)) + 1 by omega]; exact if_neg c_33)
        · skip
          refine aw_iload_3 C dX9_done_36 ?_
          refine aw_goto C dX9_done_37 (tgt := 42) (by decide) ?_
          refine aw_istore_2 C dX9_done_42 (by decide) (fun w h => by cases h <;> rfl) ?_
          refine aw_aload_0 C dX9_done_43 rfl ?_
          refine aw_cV0V C (s_X9_hour hM1 ho.1 hE1 (hG.of (ho.2.2 95 (by omega))) (by have := ho.2.1; omega)) mf_X9_hour mv_X9_hour (sh_129) rfl ml_X9_242 dX9_done_44 (by omega) (Nat.le_of_ble_eq_true rfl) (fun q_44 h_44 => ?_)
          obtain ⟨hM2, hE2, hF2⟩ := h_44
          refine aw_iinc_3 C dX9_done_47 (by decide) (fun w h => by cases h <;> rfl) (show _ + Int32.ofInt 1 = _ by rw [k1_1, nI_add]) ?_
          refine aw_goto C dX9_done_50 (tgt := 16) (by decide) ?_
          have e33 : nI k = l5 k := by unfold l5; rw [if_neg (by omega)]
          rw [e33]
          exact ih (k + 1) k q_44 (by omega) (by omega) (Or.inl (by omega)) hM2 hE2 (hF1.tr hF2) (by rw [hdo, if_pos hf9, if_neg (by omega), show 21 - k = (20 - k) + 1 by omega]; exact if_pos c_33)
  have h016 := L16 22 0 99 _ (by omega) (by omega) (Or.inr rfl) hMc hEc Fr.rf (by unfold doneH; rw [if_pos rfl])
  rw [show l5 99 = -5 from if_pos rfl] at h016
  exact h016
