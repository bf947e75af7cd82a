theorem rem_nI {x y : Nat} (hx : x < 2 ^ 31) (h0 : 0 < y) (hy : y < 2 ^ 31) : nI x % nI y = nI (x % y) := by rw [← irem_eq_mod, pk_rem hx h0 hy]
theorem on_v1 : ∀ m, m < 40 → 10 ≤ m → ∀ k, k < 7 → (inN (nI m - nI 10) k ↔ m / 10 = 1 ∧ m % 10 < k) := by decide +kernel
theorem on_v2 : ∀ m, m < 40 → 10 ≤ m → ∀ k, k < 7 → (inN (nI m - nI 20) k ↔ m / 10 = 2 ∧ m % 10 < k) := by decide +kernel
theorem on_v3 : ∀ m, m < 40 → 10 ≤ m → ∀ k, k < 7 → (inN (nI m - nI 30) k ↔ m / 10 = 3 ∧ m % 10 < k) := by decide +kernel
theorem on_v4 : ∀ m, m < 40 → 10 ≤ m → nI m ≠ 0 := by decide +kernel
theorem on_v (m : Nat) (h : m < 40) (h2 : 10 ≤ m) (k : Nat) (hk : k < 7) : (inN (nI m - nI 10) k ↔ m / 10 = 1 ∧ m % 10 < k) ∧ (inN (nI m - nI 20) k ↔ m / 10 = 2 ∧ m % 10 < k) ∧ (inN (nI m - nI 30) k ↔ m / 10 = 3 ∧ m % 10 < k) ∧ nI m ≠ 0 := ⟨on_v1 m h h2 k hk, on_v2 m h h2 k hk, on_v3 m h h2 k hk, on_v4 m h h2⟩
theorem on_u : ∀ m, m < 40 → 10 ≤ m → (m / 10 = 1 → u32 (nI m - nI 10) = m % 10) ∧ (m / 10 = 2 → u32 (nI m - nI 20) = m % 10) ∧ (m / 10 = 3 → u32 (nI m - nI 30) = m % 10) ∧ (m / 10 = 1 ∨ m / 10 = 2 ∨ m / 10 = 3) := by decide +kernel
theorem on_in {w : Int32} {k a : Nat} (h : inN (w - nI a) k) (hk : k ≤ 6) : ∃ j, j < k ∧ w = nI (j + a) := by
  obtain ⟨j, j1, j2, e⟩ := inN_of h
  exact ⟨j, j1, sub_nI e⟩
theorem on_x {w : Int32} {k a : Nat} (ha : 10 ≤ a ∧ a ≤ 30) (hk : k ≤ 6) (h : w < nI 10 ∨ nI 40 ≤ w) : ¬ inN (w - nI a) k := fun z => by
  obtain ⟨j, j1, e⟩ := on_in z hk
  rw [e] at h
  rcases h with h | h
  · have := (nI_ltI (by omega) (by decide)).mp h
    omega
  · have := (nI_leI (by decide) (by omega)).mp h
    omega

set_option maxRecDepth 100000 in
set_option maxHeartbeats 4000000 in
theorem s_X8_on_0 {G : GT} {q : S_} {g : GS} (n : Int32)  (hg : GOK g) (hCC : CC q g)  : Spec G 7 yX8_on cX8_on 5 (some .int) [rfn G 0, .int n, .int (nI 0)] q (PI (PC (f_on g n (nI 0)) q)) := by
  refine Spec.intro RX8 (by decide) rfl (Nat.le_of_ble_eq_true rfl) [some (rfn G 0), some (.int n), some (.int (nI 0)), none, none] rfl ?_
  intro X d hd C hR
  obtain ⟨hW, hCy, h95, hN6, h94, hK, hT1, hT2, hTp, hR1, hSy, hSyJ⟩ := id hg
  obtain ⟨hRw, hKw, hCyr, hNc, hKc, hQ, hTx, hTs, hAt⟩ := id hCC
  have hc := hW.c
  have hq := hCC.qs hg
  have hG : Goo (gM g) (gC g) := fun k hk => hCy k (by omega)
  refine aw_iload_2 C dX8_on_0 ?_
  refine aw_bipush C dX8_on_1 k2_10 ?_
  refine aw_irem_n C dX8_on_3 (by omega) (by omega) (by omega) ?_
  refine aw_istore_3 C dX8_on_4 (by decide) (fun w h => by cases h <;> rfl) ?_
  refine aw_iload_2 C dX8_on_5 ?_
  refine aw_bipush C dX8_on_6 k2_10 ?_
  refine aw_icmp_lt_n C dX8_on_8 (tgt := 29) (by decide) (by omega) (by omega) (fun c_8 => ?_) (fun c_8 => absurd c_8 (by decide))
  refine aw_iconst C dX8_on_29 k1_0 ?_
  refine aw_istore_4 C dX8_on_30 (by decide) (fun w h => by cases h <;> rfl) ?_
  refine aw_iload_2 C dX8_on_32 ?_
  refine aw_if_eq_n C dX8_on_33 (tgt := 43) (by decide) (by omega) (fun c_33 => ?_) (fun c_33 => absurd c_33 (by decide))
  refine aw_iload_1 C dX8_on_43 ?_
  refine aw_if_lt C dX8_on_44 (tgt := 53) (by decide)  (fun c_44 => ?_) (fun c_44 => ?_)
  · skip
    refine aw_bipush C dX8_on_53 k2_m2 ?_
    refine aw_iretI C hR dX8_on_55 ?_
    exact PC.here hCC rfl (by unfold f_on; rw [if_neg (fun z => z.1 rfl), if_pos (fun z => z.1 c_44)])
  · skip
    refine aw_iload_1 C dX8_on_47 ?_
    refine aw_bipush C dX8_on_48 k2_12 ?_
    refine aw_icmp_le C dX8_on_50 (tgt := 56) (by decide)  (fun c_50 => ?_) (fun c_50 => ?_)
    · have c50 : inN n 13 := by
        obtain ⟨j, j2, e⟩ := nI_of c_44
        rw [e] at c_50 ⊢
        exact inN_nI (by have := (nI_leI j2 (by decide)).mp c_50; omega) j2
      obtain ⟨n, hn1, hn2, rfl⟩ := inN_of c50
      have hun : u32 (nI n) = n := nI_clamp hn2
      refine aw_aload_0 C dX8_on_56 rfl ?_
      refine aw_g8_2 C dX8_on_57 fl_X8_21 ?_
      refine aw_aload_0 C dX8_on_60 rfl ?_
      refine aw_g8_0 C dX8_on_61 fl_X8_14 ?_
      refine aw_cV1V C (s_X7_copyFrom 59 1 isW59 isW1 (by decide) hRw hW) mf_X7_copyFrom mv_X7_copyFrom (shW0 isW59) rfl ml_X8_181 dX8_on_64 (by omega) (Nat.le_of_ble_eq_true rfl) (fun q_64 h_64 => ?_)
      obtain ⟨hR59, hF64⟩ := h_64
      have hQ64 := WQ.f59 hQ hF64
      have hq2 := hq.t hF64.as4 hQ64
      refine aw_aload_0 C dX8_on_67 rfl ?_
      refine aw_aload_0 C dX8_on_68 rfl ?_
      refine aw_g8_2 C dX8_on_69 fl_X8_21 ?_
      refine aw_iload_1 C dX8_on_72 ?_
      refine aw_iload_2 C dX8_on_73 ?_
      refine aw_if_ne_n C dX8_on_74 (tgt := 81) (by decide) (by omega) (fun c_74 => absurd c_74 (by decide)) (fun c_74 => ?_)
      refine aw_iconst C dX8_on_77 k1_m1 ?_
      refine aw_goto C dX8_on_78 (tgt := 84) (by decide) ?_
      refine aw_cV3V C (s_X8_hoursGo (fun _ => true) 59 n isW59 hR59 hW hq2.2.2.1 h95 hN6 hG hQ64 who_a (by omega)) mf_X8_hoursGo mv_X8_hoursGo (sh_0) rfl ml_X8_177 dX8_on_84 (by omega) (Nat.le_of_ble_eq_true rfl) (fun q_84 h_84 => ?_)
      obtain ⟨hR2, hQ2, hC2, hF2⟩ := h_84
      have hFF := hF64.as4.tr hF2.as
      have ho := hoursW_ok (wh := fun _ => true) (cts := gC g) hW n (by omega)
      refine aw_iload_2 C dX8_on_87 ?_
      refine aw_bipush C dX8_on_88 k2_10 ?_
      refine aw_idiv_n C dX8_on_90 (by omega) (by omega) (by omega) ?_
      
      · skip
        refine aw_tableOut C dX8_on_91 (tgt := 155) (by decide +kernel) (by decide) ?_
        refine aw_aload_0 C dX8_on_155 rfl ?_
        refine aw_g8_2 C dX8_on_156 fl_X8_21 ?_
        rw [hoursW_all] at hR2
        rw [hoursW_all] at ho
        refine aw_cV0IE C (s_X7_arrived 59 isW59 hR2 ho.1) mf_X7_arrived mv_X7_arrived (shW0 isW59) rfl ml_X8_171 dX8_on_159 (by omega) (Nat.le_of_ble_eq_true rfl) ?_
        refine aw_iretI C hR dX8_on_162 ?_
        exact PC.ask hCC hg rfl (by unfold f_on; rw [if_neg (fun z => z.1 rfl), if_neg (fun z => z c50), if_pos (show nI 0 = 0 from rfl), hun, ho.2.2 92 (by omega)]) hFF hQ2
    · have c50 : ¬ inN n 13 := fun z => by obtain ⟨j, j1, j2, e⟩ := inN_of z; rw [e] at c_50; exact c_50 (nI_le (by omega) (by decide))
      refine aw_bipush C dX8_on_53 k2_m2 ?_
      refine aw_iretI C hR dX8_on_55 ?_
      exact PC.here hCC rfl (by unfold f_on; rw [if_neg (fun z => z.1 rfl), if_pos c50])

set_option maxRecDepth 100000 in
set_option maxHeartbeats 4000000 in
theorem s_X8_on_m {G : GT} {q : S_} {g : GS} (n : Int32) (m : Nat) (hg : GOK g) (hCC : CC q g) (h10 : 10 ≤ m) (h40 : m < 40) : Spec G 7 yX8_on cX8_on 5 (some .int) [rfn G 0, .int n, .int (nI m)] q (PI (PC (f_on g n (nI m)) q)) := by
  refine Spec.intro RX8 (by decide) rfl (Nat.le_of_ble_eq_true rfl) [some (rfn G 0), some (.int n), some (.int (nI m)), none, none] rfl ?_
  intro X d hd C hR
  obtain ⟨hW, hCy, h95, hN6, h94, hK, hT1, hT2, hTp, hR1, hSy, hSyJ⟩ := id hg
  obtain ⟨hRw, hKw, hCyr, hNc, hKc, hQ, hTx, hTs, hAt⟩ := id hCC
  have hc := hW.c
  have hq := hCC.qs hg
  have hG : Goo (gM g) (gC g) := fun k hk => hCy k (by omega)
  have hv := on_v m h40 h10 (gM g 92) (by omega)
  have hu := on_u m h40 h10
  have hm10 := Nat.mod_lt m (show 0 < 10 by decide)
  refine aw_iload_2 C dX8_on_0 ?_
  refine aw_bipush C dX8_on_1 k2_10 ?_
  refine aw_irem_n C dX8_on_3 (by omega) (by omega) (by omega) ?_
  refine aw_istore_3 C dX8_on_4 (by decide) (fun w h => by cases h <;> rfl) ?_
  refine aw_iload_2 C dX8_on_5 ?_
  refine aw_bipush C dX8_on_6 k2_10 ?_
  refine aw_icmp_lt_n C dX8_on_8 (tgt := 29) (by decide) (by omega) (by omega) (fun c_8 => absurd c_8 (by omega)) (fun c_8 => ?_)
  refine aw_iload_2 C dX8_on_11 ?_
  refine aw_bipush C dX8_on_12 k2_40 ?_
  refine aw_icmp_ge_n C dX8_on_14 (tgt := 29) (by decide) (by omega) (by omega) (fun c_14 => absurd c_14 (by omega)) (fun c_14 => ?_)
  refine aw_aload_0 C dX8_on_17 rfl ?_
  refine aw_iload_3 C dX8_on_18 ?_
  refine aw_cV1IE C (s_X8_isPerson _ hRw (by omega)) mf_X8_isPerson mv_X8_isPerson (sh_0) rfl ml_X8_71 dX8_on_19 (by omega) (Nat.le_of_ble_eq_true rfl) ?_
  refine aw_if_eq_b C dX8_on_22 (tgt := 29) (by decide)  (fun c_22 => ?_) (fun c_22 => ?_)
  · have c22 : ¬ m % 10 < gM g 92 := fun z => c_22 (inN_nI z (by omega))
    refine aw_iconst C dX8_on_29 k1_0 ?_
    refine aw_istore_4 C dX8_on_30 (by decide) (fun w h => by cases h <;> rfl) ?_
    refine aw_iload_2 C dX8_on_32 ?_
    refine aw_if_eq_n C dX8_on_33 (tgt := 43) (by decide) (by omega) (fun c_33 => absurd c_33 (by omega)) (fun c_33 => ?_)
    refine aw_iload_4 C dX8_on_36 ?_
    refine aw_if_ne_n C dX8_on_38 (tgt := 43) (by decide) (by omega) (fun c_38 => absurd c_38 (by decide)) (fun c_38 => ?_)
    refine aw_iconst C dX8_on_41 k1_m1 ?_
    refine aw_iretI C hR dX8_on_42 ?_
    exact PC.here hCC rfl (by unfold f_on; rw [if_pos ⟨hv.2.2.2, fun z => c22 (hv.1.mp z).2, fun z => c22 (hv.2.1.mp z).2, fun z => c22 (hv.2.2.1.mp z).2⟩])
  · have c22 : m % 10 < gM g 92 := (inN_iff (by omega)).mp c_22
    refine aw_iconst C dX8_on_25 k1_1 ?_
    refine aw_goto C dX8_on_26 (tgt := 30) (by decide) ?_
    refine aw_istore_4 C dX8_on_30 (by decide) (fun w h => by cases h <;> rfl) ?_
    refine aw_iload_2 C dX8_on_32 ?_
    refine aw_if_eq_n C dX8_on_33 (tgt := 43) (by decide) (by omega) (fun c_33 => absurd c_33 (by omega)) (fun c_33 => ?_)
    refine aw_iload_4 C dX8_on_36 ?_
    refine aw_if_ne_n C dX8_on_38 (tgt := 43) (by decide) (by omega) (fun c_38 => ?_) (fun c_38 => absurd c_38 (by decide))
    refine aw_iload_1 C dX8_on_43 ?_
    refine aw_if_lt C dX8_on_44 (tgt := 53) (by decide)  (fun c_44 => ?_) (fun c_44 => ?_)
    · skip
      refine aw_bipush C dX8_on_53 k2_m2 ?_
      refine aw_iretI C hR dX8_on_55 ?_
      exact PC.here hCC rfl (by unfold f_on; rw [if_neg (fun z => by rcases hu.2.2.2 with e | e | e <;> first | exact z.2.1 (hv.1.mpr ⟨e, c22⟩) | exact z.2.2.1 (hv.2.1.mpr ⟨e, c22⟩) | exact z.2.2.2 (hv.2.2.1.mpr ⟨e, c22⟩)), if_pos (fun z => z.1 c_44)])
    · skip
      refine aw_iload_1 C dX8_on_47 ?_
      refine aw_bipush C dX8_on_48 k2_12 ?_
      refine aw_icmp_le C dX8_on_50 (tgt := 56) (by decide)  (fun c_50 => ?_) (fun c_50 => ?_)
      · have c50 : inN n 13 := by
          obtain ⟨j, j2, e⟩ := nI_of c_44
          rw [e] at c_50 ⊢
          exact inN_nI (by have := (nI_leI j2 (by decide)).mp c_50; omega) j2
        obtain ⟨n, hn1, hn2, rfl⟩ := inN_of c50
        have hun : u32 (nI n) = n := nI_clamp hn2
        refine aw_aload_0 C dX8_on_56 rfl ?_
        refine aw_g8_2 C dX8_on_57 fl_X8_21 ?_
        refine aw_aload_0 C dX8_on_60 rfl ?_
        refine aw_g8_0 C dX8_on_61 fl_X8_14 ?_
        refine aw_cV1V C (s_X7_copyFrom 59 1 isW59 isW1 (by decide) hRw hW) mf_X7_copyFrom mv_X7_copyFrom (shW0 isW59) rfl ml_X8_181 dX8_on_64 (by omega) (Nat.le_of_ble_eq_true rfl) (fun q_64 h_64 => ?_)
        obtain ⟨hR59, hF64⟩ := h_64
        have hQ64 := WQ.f59 hQ hF64
        have hq2 := hq.t hF64.as4 hQ64
        refine aw_aload_0 C dX8_on_67 rfl ?_
        refine aw_aload_0 C dX8_on_68 rfl ?_
        refine aw_g8_2 C dX8_on_69 fl_X8_21 ?_
        refine aw_iload_1 C dX8_on_72 ?_
        refine aw_iload_2 C dX8_on_73 ?_
        refine aw_if_ne_n C dX8_on_74 (tgt := 81) (by decide) (by omega) (fun c_74 => ?_) (fun c_74 => absurd c_74 (by omega))
        refine aw_iconst C dX8_on_81 k1_1 ?_
        refine aw_iload_3 C dX8_on_82 ?_
        refine aw_ishl_n C dX8_on_83 (by omega) (by rw [Nat.one_mul]; have := Nat.pow_le_pow_right (n := 2) (by decide) (show m % 10 ≤ 6 by omega); omega) ?_
        refine aw_cV3V C (s_X8_hoursGo (only (m % 10)) 59 n isW59 hR59 hW hq2.2.2.1 h95 hN6 hG hQ64 (fun k hk => who_1 (m % 10) (by omega) k hk) (by omega)) mf_X8_hoursGo mv_X8_hoursGo (sh_0) rfl ml_X8_177 dX8_on_84 (by omega) (Nat.le_of_ble_eq_true rfl) (fun q_84 h_84 => ?_)
        obtain ⟨hR2, hQ2, hC2, hF2⟩ := h_84
        have hFF := hF64.as4.tr hF2.as
        have ho := hoursW_ok (wh := only (m % 10)) (cts := gC g) hW n (by omega)
        have hag := hoursW_agr (p := m % 10) (cts := gC g) hW c22 n (by omega)
        have hpp : m % 10 < hoursW (only (m % 10)) (gM g) (gC g) n 92 := by rw [ho.2.2 92 (by omega)]; exact c22
        have hRx := hR2.2.2.1.2 (m % 10) hpp
        refine aw_iload_2 C dX8_on_87 ?_
        refine aw_bipush C dX8_on_88 k2_10 ?_
        refine aw_idiv_n C dX8_on_90 (by omega) (by omega) (by omega) ?_
        rcases hu.2.2.2 with h91 | h91 | h91
        · rw [h91]
          refine aw_tableIn C dX8_on_91 (off := 25) (tgt := 116) (by decide +kernel) (by decide +kernel) (by decide +kernel) (by decide) ?_
          refine aw_aload_0 C dX8_on_116 rfl ?_
          refine aw_g8_2 C dX8_on_117 fl_X8_21 ?_
          refine aw_g7_6 C dX8_on_120 (shW0 isW59) fl_X8_74 ?_
          refine aw_iload_3 C dX8_on_123 ?_
          refine aw_pald C _ dX8_on_124 (shW4 isW59) rfl (by omega) ?_
          refine aw_g2_2 C hRx.2.2.1 dX8_on_125 (shWE isW59 (by omega)).1 fl_X8_87 ?_
          refine aw_iretI C hR dX8_on_128 ?_
          exact PC.ask hCC hg rfl (by unfold f_on; rw [if_neg (fun z => by rcases hu.2.2.2 with e | e | e <;> first | exact z.2.1 (hv.1.mpr ⟨e, c22⟩) | exact z.2.2.1 (hv.2.1.mpr ⟨e, c22⟩) | exact z.2.2.2 (hv.2.2.1.mpr ⟨e, c22⟩)), if_neg (fun z => z c50), if_neg hv.2.2.2, if_pos (hv.1.mpr ⟨h91, c22⟩), hu.1 h91, hun, hag.2 _ (by omega) (by omega)]) hFF hQ2
        · rw [h91]
          refine aw_tableIn C dX8_on_91 (off := 38) (tgt := 129) (by decide +kernel) (by decide +kernel) (by decide +kernel) (by decide) ?_
          refine aw_aload_0 C dX8_on_129 rfl ?_
          refine aw_g8_2 C dX8_on_130 fl_X8_21 ?_
          refine aw_g7_6 C dX8_on_133 (shW0 isW59) fl_X8_74 ?_
          refine aw_iload_3 C dX8_on_136 ?_
          refine aw_pald C _ dX8_on_137 (shW4 isW59) rfl (by omega) ?_
          refine aw_g2_3 C hRx.2.2.2.1 dX8_on_138 (shWE isW59 (by omega)).1 fl_X8_90 ?_
          refine aw_iretI C hR dX8_on_141 ?_
          exact PC.ask hCC hg rfl (by unfold f_on; rw [if_neg (fun z => by rcases hu.2.2.2 with e | e | e <;> first | exact z.2.1 (hv.1.mpr ⟨e, c22⟩) | exact z.2.2.1 (hv.2.1.mpr ⟨e, c22⟩) | exact z.2.2.2 (hv.2.2.1.mpr ⟨e, c22⟩)), if_neg (fun z => z c50), if_neg hv.2.2.2, if_neg (fun z => by have := (hv.1.mp z).1; omega), if_pos (hv.2.1.mpr ⟨h91, c22⟩), hu.2.1 h91, hun, hag.2 _ (by omega) (by omega)]) hFF hQ2
        · rw [h91]
          refine aw_tableIn C dX8_on_91 (off := 51) (tgt := 142) (by decide +kernel) (by decide +kernel) (by decide +kernel) (by decide) ?_
          refine aw_aload_0 C dX8_on_142 rfl ?_
          refine aw_g8_2 C dX8_on_143 fl_X8_21 ?_
          refine aw_g7_6 C dX8_on_146 (shW0 isW59) fl_X8_74 ?_
          refine aw_iload_3 C dX8_on_149 ?_
          refine aw_pald C _ dX8_on_150 (shW4 isW59) rfl (by omega) ?_
          refine aw_g2_5 C hRx.2.2.2.2.2.1 dX8_on_151 (shWE isW59 (by omega)).1 fl_X8_96 ?_
          refine aw_iretI C hR dX8_on_154 ?_
          exact PC.ask hCC hg rfl (by unfold f_on; rw [if_neg (fun z => by rcases hu.2.2.2 with e | e | e <;> first | exact z.2.1 (hv.1.mpr ⟨e, c22⟩) | exact z.2.2.1 (hv.2.1.mpr ⟨e, c22⟩) | exact z.2.2.2 (hv.2.2.1.mpr ⟨e, c22⟩)), if_neg (fun z => z c50), if_neg hv.2.2.2, if_neg (fun z => by have := (hv.1.mp z).1; omega), if_neg (fun z => by have := (hv.2.1.mp z).1; omega), hu.2.2.1 h91, hun, hag.2 _ (by omega) (by omega)]) hFF hQ2
      · have c50 : ¬ inN n 13 := fun z => by obtain ⟨j, j1, j2, e⟩ := inN_of z; rw [e] at c_50; exact c_50 (nI_le (by omega) (by decide))
        refine aw_bipush C dX8_on_53 k2_m2 ?_
        refine aw_iretI C hR dX8_on_55 ?_
        exact PC.here hCC rfl (by unfold f_on; rw [if_neg (fun z => by rcases hu.2.2.2 with e | e | e <;> first | exact z.2.1 (hv.1.mpr ⟨e, c22⟩) | exact z.2.2.1 (hv.2.1.mpr ⟨e, c22⟩) | exact z.2.2.2 (hv.2.2.1.mpr ⟨e, c22⟩)), if_pos c50])

set_option maxRecDepth 100000 in
set_option maxHeartbeats 4000000 in
theorem s_X8_on_x {G : GT} {q : S_} {g : GS} (n : Int32) (w : Int32) (hg : GOK g) (hCC : CC q g) (h0 : ¬ w = 0) (h1 : w < nI 10 ∨ nI 40 ≤ w) : Spec G 7 yX8_on cX8_on 5 (some .int) [rfn G 0, .int n, .int w] q (PI (PC (f_on g n w) q)) := by
  refine Spec.intro RX8 (by decide) rfl (Nat.le_of_ble_eq_true rfl) [some (rfn G 0), some (.int n), some (.int w), none, none] rfl ?_
  intro X d hd C hR
  obtain ⟨hW, hCy, h95, hN6, h94, hK, hT1, hT2, hTp, hR1, hSy, hSyJ⟩ := id hg
  obtain ⟨hRw, hKw, hCyr, hNc, hKc, hQ, hTx, hTs, hAt⟩ := id hCC
  have hc := hW.c
  have hq := hCC.qs hg
  have hG : Goo (gM g) (gC g) := fun k hk => hCy k (by omega)
  refine aw_iload_2 C dX8_on_0 ?_
  refine aw_bipush C dX8_on_1 k2_10 ?_
  refine aw_irem C dX8_on_3 (by decide) ?_
  refine aw_istore_3 C dX8_on_4 (by decide) (fun w h => by cases h <;> rfl) ?_
  refine aw_iload_2 C dX8_on_5 ?_
  refine aw_bipush C dX8_on_6 k2_10 ?_
  refine aw_icmp_lt C dX8_on_8 (tgt := 29) (by decide)  (fun c_8 => ?_) (fun c_8 => ?_)
  · skip
    refine aw_iconst C dX8_on_29 k1_0 ?_
    refine aw_istore_4 C dX8_on_30 (by decide) (fun w h => by cases h <;> rfl) ?_
    refine aw_iload_2 C dX8_on_32 ?_
    refine aw_if_eq C dX8_on_33 (tgt := 43) (by decide)  (fun c_33 => absurd c_33 h0) (fun c_33 => ?_)
    refine aw_iload_4 C dX8_on_36 ?_
    refine aw_if_ne_n C dX8_on_38 (tgt := 43) (by decide) (by omega) (fun c_38 => absurd c_38 (by decide)) (fun c_38 => ?_)
    refine aw_iconst C dX8_on_41 k1_m1 ?_
    refine aw_iretI C hR dX8_on_42 ?_
    exact PC.here hCC rfl (by unfold f_on; rw [if_pos ⟨h0, on_x (by decide) hc.2.1 h1, on_x (by decide) hc.2.1 h1, on_x (by decide) hc.2.1 h1⟩])
  · skip
    refine aw_iload_2 C dX8_on_11 ?_
    refine aw_bipush C dX8_on_12 k2_40 ?_
    refine aw_icmp_ge C dX8_on_14 (tgt := 29) (by decide)  (fun c_14 => ?_) (fun c_14 => ?_)
    · skip
      refine aw_iconst C dX8_on_29 k1_0 ?_
      refine aw_istore_4 C dX8_on_30 (by decide) (fun w h => by cases h <;> rfl) ?_
      refine aw_iload_2 C dX8_on_32 ?_
      refine aw_if_eq C dX8_on_33 (tgt := 43) (by decide)  (fun c_33 => absurd c_33 h0) (fun c_33 => ?_)
      refine aw_iload_4 C dX8_on_36 ?_
      refine aw_if_ne_n C dX8_on_38 (tgt := 43) (by decide) (by omega) (fun c_38 => absurd c_38 (by decide)) (fun c_38 => ?_)
      refine aw_iconst C dX8_on_41 k1_m1 ?_
      refine aw_iretI C hR dX8_on_42 ?_
      exact PC.here hCC rfl (by unfold f_on; rw [if_pos ⟨h0, on_x (by decide) hc.2.1 h1, on_x (by decide) hc.2.1 h1, on_x (by decide) hc.2.1 h1⟩])
    · skip
      refine aw_aload_0 C dX8_on_17 rfl ?_
      refine aw_iload_3 C dX8_on_18 ?_
      exact absurd h1 (fun z => z.elim c_8 c_14)

theorem s_X8_on {G : GT} {q : S_} {g : GS} (n w : Int32) (hg : GOK g) (hCC : CC q g) : Spec G 7 yX8_on cX8_on 5 (some .int) [rfn G 0, .int n, .int w] q (PI (PC (f_on g n w) q)) := by
  by_cases h0 : w = 0
  · subst h0
    exact s_X8_on_0 n hg hCC
  · by_cases h1 : w < nI 10
    · exact s_X8_on_x n w hg hCC h0 (Or.inl h1)
    · by_cases h2 : nI 40 ≤ w
      · exact s_X8_on_x n w hg hCC h0 (Or.inr h2)
      · have h3 : inN w 40 := (inN_ge (by decide)).mp ⟨fun z => h1 (Int32.lt_trans z (nI_lt (a := 0) (by decide) (by decide))), Int32.not_le.mp h2⟩
        obtain ⟨m, m1, m2, rfl⟩ := inN_of h3
        exact s_X8_on_m n m hg hCC (Nat.not_lt.mp (fun z => h1 (nI_lt z (by decide)))) m1

set_option maxRecDepth 100000 in
set_option maxHeartbeats 4000000 in
theorem s_X8_ends {G : GT} {q : S_} {g : GS} (w : Int32) (hg : GOK g) (hCC : CC q g) : Spec G 7 yX8_ends cX8_ends 4 (some .int) [rfn G 0, .int w] q (PI (PC (f_ends g w) q)) := by
  refine Spec.intro RX8 (by decide) rfl (Nat.le_of_ble_eq_true rfl) [some (rfn G 0), some (.int w), none, none] rfl ?_
  intro X d hd C hR
  obtain ⟨hW, hCy, h95, hN6, h94, hK, hT1, hT2, hTp, hR1, hSy, hSyJ⟩ := id hg
  obtain ⟨hRw, hKw, hCyr, hNc, hKc, hQ, hTx, hTs, hAt⟩ := id hCC
  have hc := hW.c
  have hq := hCC.qs hg
  have hG : Goo (gM g) (gC g) := fun k hk => hCy k (by omega)
  refine aw_iload_1 C dX8_ends_0 ?_
  refine aw_if_lt C dX8_ends_1 (tgt := 9) (by decide)  (fun c_1 => ?_) (fun c_1 => ?_)
  · skip
    refine aw_iconst C dX8_ends_9 k1_m1 ?_
    refine aw_iretI C hR dX8_ends_10 ?_
    exact PC.here hCC rfl (by unfold f_ends; rw [if_pos (fun z => z.1 c_1)])
  · skip
    refine aw_iload_1 C dX8_ends_4 ?_
    refine aw_iconst C dX8_ends_5 k1_1 ?_
    refine aw_icmp_le C dX8_ends_6 (tgt := 11) (by decide)  (fun c_6 => ?_) (fun c_6 => ?_)
    · have c6 : inN w 2 := by
        obtain ⟨j, j2, e⟩ := nI_of c_1
        rw [e] at c_6 ⊢
        exact inN_nI (by have := (nI_leI j2 (by decide)).mp c_6; omega) j2
      refine aw_aload_0 C dX8_ends_11 rfl ?_
      refine aw_g8_2 C dX8_ends_12 fl_X8_21 ?_
      refine aw_aload_0 C dX8_ends_15 rfl ?_
      refine aw_g8_0 C dX8_ends_16 fl_X8_14 ?_
      refine aw_cV1V C (s_X7_copyFrom 59 1 isW59 isW1 (by decide) hRw hW) mf_X7_copyFrom mv_X7_copyFrom (shW0 isW59) rfl ml_X8_181 dX8_ends_19 (by omega) (Nat.le_of_ble_eq_true rfl) (fun q_19 h_19 => ?_)
      obtain ⟨hR59, hF19⟩ := h_19
      have hQ19 := WQ.f59 hQ hF19
      refine aw_iconst C dX8_ends_22 k1_0 ?_
      refine aw_istore_2 C dX8_ends_23 (by decide) (fun w h => by cases h <;> rfl) ?_
      have L24 : ∀ (n2 r : Nat) (q1 : S_), r ≤ gM g 112 → gM g 112 < r + n2 → RelW q1 59 (planE (gM g) (gC g) r) → (∃ L, WQ q1 L) → Fr SAs q q1 → AW X G (q1) 24 [some (rfn G 0), some (.int w), some (.int (nI r)), none] [] := by
        refine nat_loop (fun r q1 h1 h2 hR1 hQa hFa => by omega) (fun n2 ih r q1 h1 h2 hR1 hQa hFa => ?_)
        refine aw_iload_2 C dX8_ends_24 ?_
        refine aw_aload_0 C dX8_ends_25 rfl ?_
        refine aw_g8_0 C dX8_ends_26 fl_X8_14 ?_
        refine aw_g7_10 C dX8_ends_29 (shW0 isW1) fl_X8_225 ?_
        have hqn := hq.t hFa hQa
        have ho := planE_ok (cts := gC g) hW (by omega) r h1
        have hrow : ∀ j, j < gM g 112 → gI q1 (1 + 9 + 1) j = nI (gM g (114 + 2 * j)) ∧ gI q1 (1 + 9 + 2) j = nI (gM g (113 + 2 * j)) ∧ gI q1 (1 + 9 + 3) j = nI 0 := hqn.1.2.2.2.2.2.2.1.2
        refine aw_g3_3 C hqn.1.2.2.2.2.2.2.1.1 dX8_ends_32 (shW9R isW1).1 fl_X8_228 ?_
        refine aw_icmp_ge_n C dX8_ends_35 (tgt := 145) (by decide) (by omega) (by omega) (fun c_35 => ?_) (fun c_35 => ?_)
        · skip
          refine aw_iload_1 C dX8_ends_145 ?_
          refine aw_if_ne C dX8_ends_146 (tgt := 159) (by decide)  (fun c_146 => ?_) (fun c_146 => ?_)
          · skip
            refine aw_aload_0 C dX8_ends_159 rfl ?_
            refine aw_g8_2 C dX8_ends_160 fl_X8_21 ?_
            refine aw_cV0IE C (s_X7_halves 59 isW59 hR1 ho.1) mf_X7_halves mv_X7_halves (shW0 isW59) rfl ml_X8_174 dX8_ends_163 (by omega) (Nat.le_of_ble_eq_true rfl) ?_
            refine aw_iretI C hR dX8_ends_166 ?_
            exact PC.ask hCC hg rfl (by unfold f_ends; rw [if_neg (fun z => z c6), if_neg c_146, show gM g 112 = r by omega, ho.2.2 92 (by omega)]) hFa hQa
          · skip
            refine aw_aload_0 C dX8_ends_149 rfl ?_
            refine aw_g8_2 C dX8_ends_150 fl_X8_21 ?_
            refine aw_cV0IE C (s_X7_arrived 59 isW59 hR1 ho.1) mf_X7_arrived mv_X7_arrived (shW0 isW59) rfl ml_X8_171 dX8_ends_153 (by omega) (Nat.le_of_ble_eq_true rfl) ?_
            refine aw_goto C dX8_ends_156 (tgt := 166) (by decide) ?_
            refine aw_iretI C hR dX8_ends_166 ?_
            exact PC.ask hCC hg rfl (by unfold f_ends; rw [if_neg (fun z => z c6), if_pos c_146, show gM g 112 = r by omega, ho.2.2 92 (by omega)]) hFa hQa
        · have hrr := hrow r (by omega)
          have hpl := hW.2.2.2.2.1 r (by omega)
          refine aw_aload_0 C dX8_ends_38 rfl ?_
          refine aw_g8_0 C dX8_ends_39 fl_X8_14 ?_
          refine aw_g7_10 C dX8_ends_42 (shW0 isW1) fl_X8_225 ?_
          refine aw_g3_0 C dX8_ends_45 (shW9R isW1).1 fl_X8_231 ?_
          refine aw_iload_2 C dX8_ends_48 ?_
          refine aw_iald C _ hrr.1 dX8_ends_49 (shW9R isW1).2.1 rfl (by omega) ?_
          refine aw_istore_3 C dX8_ends_50 (by decide) (fun w h => by cases h <;> rfl) ?_
          refine aw_aload_0 C dX8_ends_51 rfl ?_
          refine aw_g8_0 C dX8_ends_52 fl_X8_14 ?_
          refine aw_g7_10 C dX8_ends_55 (shW0 isW1) fl_X8_225 ?_
          refine aw_g3_1 C dX8_ends_58 (shW9R isW1).1 fl_X8_234 ?_
          refine aw_iload_2 C dX8_ends_61 ?_
          refine aw_iald C _ hrr.2.1 dX8_ends_62 (shW9R isW1).2.2.1 rfl (by omega) ?_
          have h4 : gM g (113 + 2 * r) = 0 ∨ gM g (113 + 2 * r) = 1 ∨ gM g (113 + 2 * r) = 2 ∨ gM g (113 + 2 * r) = 3 := by omega
          rcases h4 with h63 | h63 | h63 | h63
          · rw [h63]
            refine aw_tableIn C dX8_ends_63 (off := 25) (tgt := 88) (by decide +kernel) (by decide +kernel) (by decide +kernel) (by decide) ?_
            refine aw_aload_0 C dX8_ends_88 rfl ?_
            refine aw_aload_0 C dX8_ends_89 rfl ?_
            refine aw_g8_2 C dX8_ends_90 fl_X8_21 ?_
            refine aw_iconst C dX8_ends_93 k1_1 ?_
            refine aw_iconst C dX8_ends_94 k1_m1 ?_
            refine aw_cV3V C (s_X8_hoursGo (fun _ => true) 59 1 isW59 hR1 ho.1 hqn.2.2.1 (by rw [ho.2.2 95 (by omega)]; exact h95) hN6 (hG.of (ho.2.2 95 (by omega))) hQa who_a (by omega)) mf_X8_hoursGo mv_X8_hoursGo (sh_0) rfl ml_X8_177 dX8_ends_95 (by omega) (Nat.le_of_ble_eq_true rfl) (fun q_95 h_95 => ?_)
            obtain ⟨hR2, hQ2, hC2, hF2⟩ := h_95
            rw [hoursW_all] at hR2
            have hR3 : RelW q_95 59 (planE (gM g) (gC g) (r + 1)) := by rw [planE_0 h63]; exact hR2
            have hFb := hFa.tr hF2.as
            refine aw_goto C dX8_ends_98 (tgt := 139) (by decide) ?_
            refine aw_iinc_2 C dX8_ends_139 (by decide) (fun w h => by cases h <;> rfl) (show _ + Int32.ofInt 1 = _ by rw [k1_1, nI_add]) ?_
            refine aw_goto C dX8_ends_142 (tgt := 24) (by decide) ?_
            exact (ih (r + 1) q_95 (by omega) (by omega) hR3 hQ2 hFb).less ⟨Or.inr rfl, Or.inr rfl, Or.inr rfl, Or.inl rfl, trivial⟩
          · rw [h63]
            refine aw_tableIn C dX8_ends_63 (off := 38) (tgt := 101) (by decide +kernel) (by decide +kernel) (by decide +kernel) (by decide) ?_
            refine aw_aload_0 C dX8_ends_101 rfl ?_
            refine aw_g8_2 C dX8_ends_102 fl_X8_21 ?_
            refine aw_iload_3 C dX8_ends_105 ?_
            refine aw_iconst C dX8_ends_106 k1_1 ?_
            rw [show nI 1 = bP (true = true) from (bP_t rfl).symm]
            have hb9 : gM g (114 + 2 * r) < planE (gM g) (gC g) r 93 := by rw [ho.2.2 93 (by omega)]; exact hpl.2.1 (Or.inl h63)
            refine aw_cV2V C (s_X7_setLost 59 (gM g (114 + 2 * r)) true isW59 hR1 ho.1 hb9) mf_X7_setLost mv_X7_setLost (shW0 isW59) rfl ml_X8_133 dX8_ends_107 (by omega) (Nat.le_of_ble_eq_true rfl) (fun q_107 h_107 => ?_)
            obtain ⟨hR2, hF2⟩ := h_107
            have hQ2 := WQ.f59 hQa hF2
            have hR3 : RelW q_107 59 (planE (gM g) (gC g) (r + 1)) := by rw [planE_1 (by omega) (by omega), h63]; exact hR2
            have hFb := hFa.tr hF2.as4
            refine aw_goto C dX8_ends_110 (tgt := 139) (by decide) ?_
            refine aw_iinc_2 C dX8_ends_139 (by decide) (fun w h => by cases h <;> rfl) (show _ + Int32.ofInt 1 = _ by rw [k1_1, nI_add]) ?_
            refine aw_goto C dX8_ends_142 (tgt := 24) (by decide) ?_
            exact (ih (r + 1) q_107 (by omega) (by omega) hR3 hQ2 hFb).less ⟨Or.inr rfl, Or.inr rfl, Or.inr rfl, Or.inl rfl, trivial⟩
          · rw [h63]
            refine aw_tableIn C dX8_ends_63 (off := 50) (tgt := 113) (by decide +kernel) (by decide +kernel) (by decide +kernel) (by decide) ?_
            refine aw_aload_0 C dX8_ends_113 rfl ?_
            refine aw_g8_2 C dX8_ends_114 fl_X8_21 ?_
            refine aw_iload_3 C dX8_ends_117 ?_
            refine aw_iconst C dX8_ends_118 k1_0 ?_
            rw [show nI 0 = bP (false = true) from (bP_f (by decide)).symm]
            have hb9 : gM g (114 + 2 * r) < planE (gM g) (gC g) r 93 := by rw [ho.2.2 93 (by omega)]; exact hpl.2.1 (Or.inr h63)
            refine aw_cV2V C (s_X7_setLost 59 (gM g (114 + 2 * r)) false isW59 hR1 ho.1 hb9) mf_X7_setLost mv_X7_setLost (shW0 isW59) rfl ml_X8_133 dX8_ends_119 (by omega) (Nat.le_of_ble_eq_true rfl) (fun q_119 h_119 => ?_)
            obtain ⟨hR2, hF2⟩ := h_119
            have hQ2 := WQ.f59 hQa hF2
            have hR3 : RelW q_119 59 (planE (gM g) (gC g) (r + 1)) := by rw [planE_1 (by omega) (by omega), h63]; exact hR2
            have hFb := hFa.tr hF2.as4
            refine aw_goto C dX8_ends_122 (tgt := 139) (by decide) ?_
            refine aw_iinc_2 C dX8_ends_139 (by decide) (fun w h => by cases h <;> rfl) (show _ + Int32.ofInt 1 = _ by rw [k1_1, nI_add]) ?_
            refine aw_goto C dX8_ends_142 (tgt := 24) (by decide) ?_
            exact (ih (r + 1) q_119 (by omega) (by omega) hR3 hQ2 hFb).less ⟨Or.inr rfl, Or.inr rfl, Or.inr rfl, Or.inl rfl, trivial⟩
          · rw [h63]
            refine aw_tableOut C dX8_ends_63 (tgt := 125) (by decide +kernel) (by decide) ?_
            refine aw_aload_0 C dX8_ends_125 rfl ?_
            refine aw_g8_2 C dX8_ends_126 fl_X8_21 ?_
            refine aw_g7_6 C dX8_ends_129 (shW0 isW59) fl_X8_74 ?_
            refine aw_iload_3 C dX8_ends_132 ?_
            have hp9 := hpl.2.2 h63
            have hp6 := (hW.p hp9).1
            refine aw_pald C _ dX8_ends_133 (shW4 isW59) rfl (by omega) ?_
            refine aw_bipush C dX8_ends_134 k2_m5 ?_
            refine aw_p2_4 C dX8_ends_136 (shWE isW59 (by omega)).1 fl_X8_93 ?_
            refine aw_iinc_2 C dX8_ends_139 (by decide) (fun w h => by cases h <;> rfl) (show _ + Int32.ofInt 1 = _ by rw [k1_1, nI_add]) ?_
            refine aw_goto C dX8_ends_142 (tgt := 24) (by decide) ?_
            have hR3 : RelW (sI q1 (59 + 4 + 13 + 2 * gM g (114 + 2 * r)) 4 (-5)) 59 (planE (gM g) (gC g) (r + 1)) := by
              rw [planE_3 (by omega) h63]
              exact hR1.per ho.1 (i := gM g (114 + 2 * r)) (f := 4) (v := 99) (by rw [ho.2.2 92 (by omega)]; exact hp9) (by decide)
            exact (ih (r + 1) _ (by omega) (by omega) hR3 (hQa.elim (fun L z => ⟨L, z.t (fun k j y => by rw [gI_sI, if_neg (by unfold SWm at y; omega)])⟩)) (hFa.put (Or.inl ⟨by omega, by omega⟩))).less ⟨Or.inr rfl, Or.inr rfl, Or.inr rfl, Or.inl rfl, trivial⟩
      exact L24 (gM g 112 + 1) 0 q_19 (by omega) (by omega) hR59 hQ19 hF19.as4
    · have c6 : ¬ inN w 2 := fun z => by obtain ⟨j, j1, j2, e⟩ := inN_of z; rw [e] at c_6; exact c_6 (nI_le (by omega) (by decide))
      refine aw_iconst C dX8_ends_9 k1_m1 ?_
      refine aw_iretI C hR dX8_ends_10 ?_
      exact PC.here hCC rfl (by unfold f_ends; rw [if_pos c6])

theorem CC.kept {q q2 : S_} {g : GS} (h : CC q g) (hg : GOK g) (hF : Fr (fun k j => (30 ≤ k ∧ k < 59) ∨ (k = 0 ∧ j = 9)) q q2) (hR : RelW q2 30 (gM g)) (h9 : gI q2 0 9 = nI 1) : CC q2 (gM g, true, gM g, gC g, gN g, gT g, gS g, gE g, gX g, gR g, gV g) := by
  obtain ⟨a1, a2, a3, a4, a5, a6, a7, a8, a9⟩ := h
  have e : ∀ k j, ¬ ((30 ≤ k ∧ k < 59) ∨ (k = 0 ∧ j = 9)) → gI q2 k j = gI q k j := hF.2
  refine ⟨a1.t hg.1 (fun k j z1 z2 => e k j (by omega)), fun _ => hR, a3.t hg.2.2.2.1 (fun k j z1 z2 z3 => e k j (by omega)), (e _ _ (by omega)).trans a4, h9.trans (bP_t rfl).symm, (by obtain ⟨L, z⟩ := a6; exact ⟨L, z.t (fun k j y => e k j (by unfold SWm at y; omega))⟩), ⟨(e _ _ (by omega)).trans a7.1, fun j hj => (e _ _ (by omega)).trans (a7.2 j hj)⟩, fun t ht => ?_, ⟨(e _ _ (by omega)).trans a9.1, fun j hj h2 => (e _ _ (by omega)).trans (a9.2 j hj h2)⟩⟩
  obtain ⟨b1, b2, b3⟩ := a8 t ht
  refine ⟨(e _ _ (by omega)).trans b1, (e _ _ (by omega)).trans b2, fun j hj => ?_⟩
  rw [← b3 j hj]
  show q2.2 _ _ = q.2 _ _
  rw [hF.1]

set_option maxRecDepth 100000 in
set_option maxHeartbeats 4000000 in
theorem s_X8_image {G : GT} {q : S_} {g : GS}  (hg : GOK g) (hCC : CC q g) : Spec G 3 yX8_image cX8_image 1 (some .int) [rfn G 0] q (PI (PC (f_image g) q)) := by
  refine Spec.intro RX8 (by decide) rfl (Nat.le_of_ble_eq_true rfl) [some (rfn G 0)] rfl ?_
  intro X d hd C hR
  obtain ⟨hW, hCy, h95, hN6, h94, hK, hT1, hT2, hTp, hR1, hSy, hSyJ⟩ := id hg
  obtain ⟨hRw, hKw, hCyr, hNc, hKc, hQ, hTx, hTs, hAt⟩ := id hCC
  have hc := hW.c
  have hq := hCC.qs hg
  have hG : Goo (gM g) (gC g) := fun k hk => hCy k (by omega)
  refine aw_aload_0 C dX8_image_0 rfl ?_
  refine aw_g8_1 C dX8_image_1 fl_X8_18 ?_
  refine aw_aload_0 C dX8_image_4 rfl ?_
  refine aw_g8_0 C dX8_image_5 fl_X8_14 ?_
  refine aw_cV1V C (s_X7_copyFrom 30 1 isW30 isW1 (by decide) hRw hW) mf_X7_copyFrom mv_X7_copyFrom (shW0 isW30) rfl ml_X8_181 dX8_image_8 (by omega) (Nat.le_of_ble_eq_true rfl) (fun q_8 h_8 => ?_)
  obtain ⟨hR2, hF2⟩ := h_8
  refine aw_aload_0 C dX8_image_11 rfl ?_
  refine aw_iconst C dX8_image_12 k1_1 ?_
  refine aw_p8_9 C dX8_image_13 rfl rfl fl_X8_253 ?_
  refine aw_aload_0 C dX8_image_16 rfl ?_
  refine aw_g8_0 C dX8_image_17 fl_X8_14 ?_
  have hRn : RelW (sI q_8 0 9 (nI 1)) 1 (gM g) := hRw.t hW (fun k j z1 z2 => by rw [gI_sI, if_neg (by omega)]; exact hF2.2 k j (by omega))
  refine aw_g7_5 C hRn.2.2.1.1 dX8_image_20 (shW0 isW1) fl_X8_222 ?_
  refine aw_iretI C hR dX8_image_23 ?_
  have hFk : Fr (fun k j => (30 ≤ k ∧ k < 59) ∨ (k = 0 ∧ j = 9)) q (sI q_8 0 9 (nI 1)) := (hF2.mono (fun k j z => Or.inl ⟨z.1, by omega⟩)).put (Or.inr ⟨rfl, rfl⟩)
  exact ⟨rfl, hCC.kept hg hFk (hR2.t hW (fun k j z1 z2 => by rw [gI_sI, if_neg (by omega)])) (by rw [gI_sI, if_pos ⟨rfl, rfl⟩]), hFk.r (fun k j z => by omega)⟩

set_option maxRecDepth 100000 in
set_option maxHeartbeats 4000000 in
theorem s_X8_undo {G : GT} {q : S_} {g : GS}  (hg : GOK g) (hCC : CC q g) : Spec G 3 yX8_undo cX8_undo 1 (some .int) [rfn G 0] q (PI (PC (f_undo g) q)) := by
  refine Spec.intro RX8 (by decide) rfl (Nat.le_of_ble_eq_true rfl) [some (rfn G 0)] rfl ?_
  intro X d hd C hR
  obtain ⟨hW, hCy, h95, hN6, h94, hK, hT1, hT2, hTp, hR1, hSy, hSyJ⟩ := id hg
  obtain ⟨hRw, hKw, hCyr, hNc, hKc, hQ, hTx, hTs, hAt⟩ := id hCC
  have hc := hW.c
  have hq := hCC.qs hg
  have hG : Goo (gM g) (gC g) := fun k hk => hCy k (by omega)
  refine aw_aload_0 C dX8_undo_0 rfl ?_
  refine aw_g8_9 C hKc dX8_undo_1 fl_X8_253 ?_
  refine aw_if_ne_b C dX8_undo_4 (tgt := 10) (by decide)  (fun c_4 => ?_) (fun c_4 => ?_)
  · skip
    refine aw_aload_0 C dX8_undo_10 rfl ?_
    refine aw_g8_0 C dX8_undo_11 fl_X8_14 ?_
    refine aw_aload_0 C dX8_undo_14 rfl ?_
    refine aw_g8_1 C dX8_undo_15 fl_X8_18 ?_
    refine aw_cV1V C (s_X7_copyFrom 1 30 isW1 isW30 (by decide) (hKw c_4) (hK c_4).1) mf_X7_copyFrom mv_X7_copyFrom (shW0 isW1) rfl ml_X8_181 dX8_undo_18 (by omega) (Nat.le_of_ble_eq_true rfl) (fun q_18 h_18 => ?_)
    obtain ⟨hR2, hF2⟩ := h_18
    refine aw_aload_0 C dX8_undo_21 rfl ?_
    refine aw_g8_0 C dX8_undo_22 fl_X8_14 ?_
    refine aw_g7_5 C hR2.2.2.1.1 dX8_undo_25 (shW0 isW1) fl_X8_222 ?_
    refine aw_iretI C hR dX8_undo_28 ?_
    exact PC.w hCC hg rfl (by unfold f_undo; rw [if_pos c_4]) hF2 hR2
  · skip
    refine aw_bipush C dX8_undo_7 k2_m3 ?_
    refine aw_iretI C hR dX8_undo_9 ?_
    exact PC.here hCC rfl (by unfold f_undo; rw [if_neg c_4])
