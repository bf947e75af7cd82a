set_option maxRecDepth 100000 in
set_option maxHeartbeats 4000000 in
theorem s_X8_cross {G : GT} {q : S_} {g : GS} (p : Int32) (b : Int32) (hg : GOK g) (hCC : CC q g) : Spec G 5 yX8_cross cX8_cross 3 (some .int) [rfn G 0, .int p, .int b] q (PI (PC (f_cross g p b) q)) := by
  refine Spec.intro RX8 (by decide) rfl (Nat.le_of_ble_eq_true rfl) [some (rfn G 0), some (.int p), some (.int b)] rfl ?_
  intro X d hd C hR
  obtain ⟨hW, hCy, h95, hN6, h94, hK, hT1, hT2, hTp, hR1, hSy, hSyJ⟩ := id hg
  obtain ⟨hRw, hKw, hCyr, hNc, hKc, hQ, hTx, hTs, hAt⟩ := id hCC
  have hc := hW.c
  have hq := hCC.qs hg
  have hG : Goo (gM g) (gC g) := fun k hk => hCy k (by omega)
  refine aw_aload_0 C dX8_cross_0 rfl ?_
  refine aw_iload_1 C dX8_cross_1 ?_
  refine aw_cV1IE C (s_X8_isPerson _ hRw (by omega)) mf_X8_isPerson mv_X8_isPerson (sh_0) rfl ml_X8_71 dX8_cross_2 (by omega) (Nat.le_of_ble_eq_true rfl) ?_
  refine aw_if_eq_b C dX8_cross_5 (tgt := 16) (by decide)  (fun c_5 => ?_) (fun c_5 => ?_)
  · skip
    refine aw_iconst C dX8_cross_16 k1_m1 ?_
    refine aw_iretI C hR dX8_cross_17 ?_
    exact PC.here hCC rfl (by unfold f_cross; rw [if_pos (fun z => c_5 z.1)])
  · skip
    refine aw_aload_0 C dX8_cross_8 rfl ?_
    refine aw_iload_2 C dX8_cross_9 ?_
    refine aw_cV1IE C (s_X8_isBridge _ hRw (by omega)) mf_X8_isBridge mv_X8_isBridge (sh_0) rfl ml_X8_113 dX8_cross_10 (by omega) (Nat.le_of_ble_eq_true rfl) ?_
    refine aw_if_ne_b C dX8_cross_13 (tgt := 18) (by decide)  (fun c_13 => ?_) (fun c_13 => ?_)
    · obtain ⟨p, hp1, hp2, rfl⟩ := inN_of c_5
      have hu : u32 (nI p) = p := nI_clamp hp2
      have hp := hW.p hp1
      obtain ⟨b, hb1, hb2, rfl⟩ := inN_of c_13
      have hub : u32 (nI b) = b := nI_clamp hb2
      have hbb := hW.b hb1
      refine aw_aload_0 C dX8_cross_18 rfl ?_
      refine aw_iload_1 C dX8_cross_19 ?_
      refine aw_cV1I C (s_X8_crossable p hq hp1) mf_X8_crossable mv_X8_crossable (sh_0) rfl ml_X8_107 dX8_cross_20 (by omega) (Nat.le_of_ble_eq_true rfl) (fun r_20 q_20 h_20 => ?_)
      obtain ⟨rfl, hF2⟩ := h_20
      have hq2 := hq.f hF2
      have hbx := bsum_lt (fun b => adjP (gM g) (gM g (32 + 10 * p + 2)) b ∧ mayP (gM g) (gC g) p b) (gM g 93)
      have hpw := pow_nb hc.1
      have hbd := bsum_div (fun b => adjP (gM g) (gM g (32 + 10 * p + 2)) b ∧ mayP (gM g) (gC g) p b) hb1
      refine aw_iload_2 C dX8_cross_23 ?_
      refine aw_ishr_n C dX8_cross_24 (by omega) (by omega) ?_
      refine aw_iconst C dX8_cross_25 k1_1 ?_
      refine aw_iand_n C dX8_cross_26  ?_
      refine aw_if_ne_n C dX8_cross_27 (tgt := 33) (by decide) (by rw [Nat.and_one_is_mod]; omega) (fun c_27 => ?_) (fun c_27 => ?_)
      · rw [Nat.and_one_is_mod] at c_27
        have hbt := hbd.mp (by omega)
        refine aw_aload_0 C dX8_cross_33 rfl ?_
        refine aw_g8_0 C dX8_cross_34 fl_X8_14 ?_
        refine aw_iload_1 C dX8_cross_37 ?_
        refine aw_iload_2 C dX8_cross_38 ?_
        refine aw_cV2V C (s_X7_goOver 1 p b isW1 hq2.1 hW hp1 hb1 hbt.1) mf_X7_goOver mv_X7_goOver (shW0 isW1) rfl ml_X8_129 dX8_cross_39 (by omega) (Nat.le_of_ble_eq_true rfl) (fun q_39 h_39 => ?_)
        obtain ⟨hR3, hF3⟩ := h_39
        have hp3 : p < crossM (gM g) p b 92 := by rw [crossM_hi hp.1 (by omega)]; exact hp1
        refine aw_aload_0 C dX8_cross_42 rfl ?_
        refine aw_g8_0 C dX8_cross_43 fl_X8_14 ?_
        refine aw_g7_6 C dX8_cross_46 (shW0 isW1) fl_X8_74 ?_
        refine aw_iload_1 C dX8_cross_49 ?_
        refine aw_pald C _ dX8_cross_50 (shW4 isW1) rfl (by omega) ?_
        refine aw_g2_2 C (hR3.2.2.1.2 p hp3).2.2.1 dX8_cross_51 (shWE isW1 (by omega)).1 fl_X8_87 ?_
        refine aw_iretI C hR dX8_cross_54 ?_
        exact PC.nw hCC hg rfl (by unfold f_cross; rw [if_neg (fun z => z ⟨c_5, c_13⟩), hu, hub, if_neg (fun z => z hbt)]) ((hF2.mono (fun k j z => (Or.inr (Or.inr z) : SNw k j))).tr (hF3.mono (fun k j z => (Or.inl ⟨z.1, by omega⟩ : SNw k j)))) hR3 (by obtain ⟨L, z⟩ := hq2.2.2.2.2.2.2; exact ⟨L, z.t (fun k j y => hF3.2 k j (by unfold SWm at y; omega))⟩)
      · rw [Nat.and_one_is_mod] at c_27
        have hbt : ¬ (adjP (gM g) (gM g (32 + 10 * p + 2)) b ∧ mayP (gM g) (gC g) p b) := fun z => absurd (hbd.mpr z) (by omega)
        refine aw_bipush C dX8_cross_30 k2_m3 ?_
        refine aw_iretI C hR dX8_cross_32 ?_
        exact PC.askf hCC hg rfl (by unfold f_cross; rw [if_neg (fun z => z ⟨c_5, c_13⟩), hu, hub, if_pos hbt]) hF2
    · skip
      refine aw_iconst C dX8_cross_16 k1_m1 ?_
      refine aw_iretI C hR dX8_cross_17 ?_
      exact PC.here hCC rfl (by unfold f_cross; rw [if_pos (fun z => c_13 z.2)])

theorem lost_v {M : Nat → Nat} {b : Nat} (hb : b < M 93) (h2 : M (4 * b + 3) < 2) : lostM M / 2 ^ b &&& 1 = M (4 * b + 3) := by
  have h1 := lost_b hb
  rw [Nat.and_one_is_mod] at h1 ⊢
  have h3 := Nat.mod_lt (lostM M / 2 ^ b) (by decide : 2 > 0)
  by_cases z : M (4 * b + 3) = 1
  · have : ¬ lostM M / 2 ^ b % 2 = 0 := fun y => h1.mp y z
    omega
  · have := h1.mpr z
    omega

set_option maxRecDepth 100000 in
set_option maxHeartbeats 4000000 in
theorem s_X8_lose {G : GT} {q : S_} {g : GS} (b : Int32) (z : Bool) (hg : GOK g) (hCC : CC q g) : Spec G 2 yX8_lose cX8_lose 4 (some .int) [rfn G 0, .int b, .int (bP (z = true))] q (PI (PC (f_lose g b z) q)) := by
  refine Spec.intro RX8 (by decide) rfl (Nat.le_of_ble_eq_true rfl) [some (rfn G 0), some (.int b), some (.int (bP (z = true))), none] rfl ?_
  intro X d hd C hR
  obtain ⟨hW, hCy, h95, hN6, h94, hK, hT1, hT2, hTp, hR1, hSy, hSyJ⟩ := id hg
  obtain ⟨hRw, hKw, hCyr, hNc, hKc, hQ, hTx, hTs, hAt⟩ := id hCC
  have hc := hW.c
  have hq := hCC.qs hg
  have hG : Goo (gM g) (gC g) := fun k hk => hCy k (by omega)
  refine aw_aload_0 C dX8_lose_0 rfl ?_
  refine aw_iload_1 C dX8_lose_1 ?_
  refine aw_cV1IE C (s_X8_isBridge _ hRw (by omega)) mf_X8_isBridge mv_X8_isBridge (sh_0) rfl ml_X8_113 dX8_lose_2 (by omega) (Nat.le_of_ble_eq_true rfl) ?_
  refine aw_if_ne_b C dX8_lose_5 (tgt := 10) (by decide)  (fun c_5 => ?_) (fun c_5 => ?_)
  · obtain ⟨b, hb1, hb2, rfl⟩ := inN_of c_5
    have hub : u32 (nI b) = b := nI_clamp hb2
    have hbb := hW.b hb1
    have hl := lostM_lt (gM g)
    have hpw := pow_nb hc.1
    refine aw_aload_0 C dX8_lose_10 rfl ?_
    refine aw_g8_0 C dX8_lose_11 fl_X8_14 ?_
    refine aw_g7_4 C hRw.2.1 dX8_lose_14 (shW0 isW1) fl_X8_126 ?_
    refine aw_iload_1 C dX8_lose_17 ?_
    refine aw_ishr_n C dX8_lose_18 (by omega) (by omega) ?_
    refine aw_iconst C dX8_lose_19 k1_1 ?_
    refine aw_iand_n C dX8_lose_20  ?_
    rw [lost_v hb1 hbb.2.2.2.2]
    refine aw_istore_3 C dX8_lose_21 (by decide) (fun w h => by cases h <;> rfl) ?_
    refine aw_aload_0 C dX8_lose_22 rfl ?_
    refine aw_g8_0 C dX8_lose_23 fl_X8_14 ?_
    refine aw_iload_1 C dX8_lose_26 ?_
    refine aw_iload_2 C dX8_lose_27 ?_
    refine aw_cV2V C (s_X7_setLost 1 b z isW1 hRw hW hb1) mf_X7_setLost mv_X7_setLost (shW0 isW1) rfl ml_X8_133 dX8_lose_28 (by omega) (Nat.le_of_ble_eq_true rfl) (fun q_28 h_28 => ?_)
    obtain ⟨hR2, hF2⟩ := h_28
    refine aw_iload_3 C dX8_lose_31 ?_
    refine aw_iretI C hR dX8_lose_32 ?_
    exact PC.w hCC hg rfl (by unfold f_lose; rw [if_pos c_5, hub]) hF2 hR2
  · skip
    refine aw_iconst C dX8_lose_8 k1_m1 ?_
    refine aw_iretI C hR dX8_lose_9 ?_
    exact PC.here hCC rfl (by unfold f_lose; rw [if_neg c_5])

set_option maxRecDepth 100000 in
set_option maxHeartbeats 4000000 in
theorem s_X8_swap {G : GT} {q : S_} {g : GS} (a : Int32) (b : Int32) (hg : GOK g) (hCC : CC q g) : Spec G 2 yX8_swap cX8_swap 3 (some .int) [rfn G 0, .int a, .int b] q (PI (PC (f_swap g a b) q)) := by
  refine Spec.intro RX8 (by decide) rfl (Nat.le_of_ble_eq_true rfl) [some (rfn G 0), some (.int a), some (.int b)] rfl ?_
  intro X d hd C hR
  obtain ⟨hW, hCy, h95, hN6, h94, hK, hT1, hT2, hTp, hR1, hSy, hSyJ⟩ := id hg
  obtain ⟨hRw, hKw, hCyr, hNc, hKc, hQ, hTx, hTs, hAt⟩ := id hCC
  have hc := hW.c
  have hq := hCC.qs hg
  have hG : Goo (gM g) (gC g) := fun k hk => hCy k (by omega)
  refine aw_aload_0 C dX8_swap_0 rfl ?_
  refine aw_iload_1 C dX8_swap_1 ?_
  refine aw_cV1IE C (s_X8_isBridge _ hRw (by omega)) mf_X8_isBridge mv_X8_isBridge (sh_0) rfl ml_X8_113 dX8_swap_2 (by omega) (Nat.le_of_ble_eq_true rfl) ?_
  refine aw_if_eq_b C dX8_swap_5 (tgt := 16) (by decide)  (fun c_5 => ?_) (fun c_5 => ?_)
  · skip
    refine aw_iconst C dX8_swap_16 k1_m1 ?_
    refine aw_iretI C hR dX8_swap_17 ?_
    exact PC.here hCC rfl (by unfold f_swap; rw [if_pos (fun z => c_5 z.1)])
  · skip
    refine aw_aload_0 C dX8_swap_8 rfl ?_
    refine aw_iload_2 C dX8_swap_9 ?_
    refine aw_cV1IE C (s_X8_isBridge _ hRw (by omega)) mf_X8_isBridge mv_X8_isBridge (sh_0) rfl ml_X8_113 dX8_swap_10 (by omega) (Nat.le_of_ble_eq_true rfl) ?_
    refine aw_if_ne_b C dX8_swap_13 (tgt := 18) (by decide)  (fun c_13 => ?_) (fun c_13 => ?_)
    · obtain ⟨a, ha1, ha2, rfl⟩ := inN_of c_5
      have hua : u32 (nI a) = a := nI_clamp ha2
      have haa := hW.b ha1
      obtain ⟨b, hb1, hb2, rfl⟩ := inN_of c_13
      have hub : u32 (nI b) = b := nI_clamp hb2
      have hbb := hW.b hb1
      refine aw_aload_0 C dX8_swap_18 rfl ?_
      refine aw_g8_0 C dX8_swap_19 fl_X8_14 ?_
      refine aw_iload_1 C dX8_swap_22 ?_
      refine aw_iload_2 C dX8_swap_23 ?_
      refine aw_cV2IE C (s_X7_canExchange 1 a b isW1 hRw hW ha1 hb1) mf_X7_canExchange mv_X7_canExchange (shW0 isW1) rfl ml_X8_137 dX8_swap_24 (by omega) (Nat.le_of_ble_eq_true rfl) ?_
      refine aw_if_ne_b C dX8_swap_27 (tgt := 33) (by decide)  (fun c_27 => ?_) (fun c_27 => ?_)
      · skip
        refine aw_aload_0 C dX8_swap_33 rfl ?_
        refine aw_g8_0 C dX8_swap_34 fl_X8_14 ?_
        refine aw_iload_1 C dX8_swap_37 ?_
        refine aw_iload_2 C dX8_swap_38 ?_
        refine aw_cV2V C (s_X7_exchange 1 a b isW1 hRw hW ha1 hb1 c_27.2.1 c_27.2.2.1) mf_X7_exchange mv_X7_exchange (shW0 isW1) rfl ml_X8_141 dX8_swap_39 (by omega) (Nat.le_of_ble_eq_true rfl) (fun q_39 h_39 => ?_)
        obtain ⟨hR2, hF2⟩ := h_39
        have hso := swM_o hW hSy ha1 hb1 c_27
        have hsn := sw_ne hW hSy ha1 hb1 c_27
        refine aw_aload_0 C dX8_swap_42 rfl ?_
        refine aw_g8_0 C dX8_swap_43 fl_X8_14 ?_
        refine aw_g7_3 C dX8_swap_46 (shW0 isW1) fl_X8_123 ?_
        refine aw_iload_1 C dX8_swap_49 ?_
        refine aw_iald C _ (hR2.1.2 a (by rw [hso 93 (by omega)]; exact ha1)).2.2 dX8_swap_50 (shW3 isW1) rfl (by omega) ?_
        refine aw_iretI C hR dX8_swap_51 ?_
        exact PC.w hCC hg ((l5_n hsn.1).trans (cd_v hsn.1).symm) (by unfold f_swap; rw [if_neg (fun z => z ⟨c_5, c_13⟩), hua, hub, if_neg (fun z => z c_27)]) hF2 hR2
      · skip
        refine aw_bipush C dX8_swap_30 k2_m3 ?_
        refine aw_iretI C hR dX8_swap_32 ?_
        exact PC.here hCC rfl (by unfold f_swap; rw [if_neg (fun z => z ⟨c_5, c_13⟩), hua, hub, if_pos c_27])
    · skip
      refine aw_iconst C dX8_swap_16 k1_m1 ?_
      refine aw_iretI C hR dX8_swap_17 ?_
      exact PC.here hCC rfl (by unfold f_swap; rw [if_pos (fun z => c_13 z.2)])

set_option maxRecDepth 100000 in
set_option maxHeartbeats 4000000 in
theorem s_X8_row {G : GT} {q : S_} {g : GS} (p : Int32) (k : Int32) (n : Int32) (hg : GOK g) (hCC : CC q g) : Spec G 2 yX8_row cX8_row 6 (some .int) [rfn G 0, .int p, .int k, .int n] q (PI (PC (f_row g p k n) q)) := by
  refine Spec.intro RX8 (by decide) rfl (Nat.le_of_ble_eq_true rfl) [some (rfn G 0), some (.int p), some (.int k), some (.int n), none, none] rfl ?_
  intro X d hd C hR
  obtain ⟨hW, hCy, h95, hN6, h94, hK, hT1, hT2, hTp, hR1, hSy, hSyJ⟩ := id hg
  obtain ⟨hRw, hKw, hCyr, hNc, hKc, hQ, hTx, hTs, hAt⟩ := id hCC
  have hc := hW.c
  have hq := hCC.qs hg
  have hG : Goo (gM g) (gC g) := fun k hk => hCy k (by omega)
  refine aw_aload_0 C dX8_row_0 rfl ?_
  refine aw_iload_1 C dX8_row_1 ?_
  refine aw_cV1IE C (s_X8_isPerson _ hRw (by omega)) mf_X8_isPerson mv_X8_isPerson (sh_0) rfl ml_X8_71 dX8_row_2 (by omega) (Nat.le_of_ble_eq_true rfl) ?_
  refine aw_if_eq_b C dX8_row_5 (tgt := 17) (by decide)  (fun c_5 => ?_) (fun c_5 => ?_)
  · skip
    refine aw_iconst C dX8_row_17 k1_m1 ?_
    refine aw_iretI C hR dX8_row_18 ?_
    exact PC.here hCC rfl (by unfold f_row; rw [if_pos (fun z => c_5 z.1)])
  · skip
    refine aw_iload_2 C dX8_row_8 ?_
    refine aw_if_lt C dX8_row_9 (tgt := 17) (by decide)  (fun c_9 => ?_) (fun c_9 => ?_)
    · skip
      refine aw_iconst C dX8_row_17 k1_m1 ?_
      refine aw_iretI C hR dX8_row_18 ?_
      exact PC.here hCC rfl (by unfold f_row; rw [if_pos (fun z => z.2.1 c_9)])
    · skip
      refine aw_iload_2 C dX8_row_12 ?_
      refine aw_iconst C dX8_row_13 k1_4 ?_
      refine aw_icmp_lt C dX8_row_14 (tgt := 19) (by decide)  (fun c_14 => ?_) (fun c_14 => ?_)
      · have c14 : inN k 4 := by
          obtain ⟨j, j2, e⟩ := nI_of c_9
          rw [e] at c_14 ⊢
          exact inN_nI ((nI_ltI j2 (by decide)).mp c_14) j2
        obtain ⟨p, hp1, hp2, rfl⟩ := inN_of c_5
        have hu : u32 (nI p) = p := nI_clamp hp2
        have hp := hW.p hp1
        obtain ⟨k, hk1, hk2, rfl⟩ := inN_of c14
        have huk : u32 (nI k) = k := nI_clamp hk2
        refine aw_iload_3 C dX8_row_19 ?_
        refine aw_if_lt C dX8_row_20 (tgt := 29) (by decide)  (fun c_20 => ?_) (fun c_20 => ?_)
        · skip
          refine aw_bipush C dX8_row_29 k2_m2 ?_
          refine aw_iretI C hR dX8_row_31 ?_
          exact PC.here hCC rfl (by unfold f_row; rw [if_neg (fun z => z ⟨c_5, c14⟩), if_pos (fun z => z.1 c_20)])
        · skip
          refine aw_iload_3 C dX8_row_23 ?_
          refine aw_bipush C dX8_row_24 k2_9 ?_
          refine aw_icmp_le C dX8_row_26 (tgt := 32) (by decide)  (fun c_26 => ?_) (fun c_26 => ?_)
          · have c26 : inN n 10 := by
              obtain ⟨j, j2, e⟩ := nI_of c_20
              rw [e] at c_26 ⊢
              exact inN_nI (by have := (nI_leI j2 (by decide)).mp c_26; omega) j2
            obtain ⟨n, hn1, hn2, rfl⟩ := inN_of c26
            have hun : u32 (nI n) = n := nI_clamp hn2
            refine aw_aload_0 C dX8_row_32 rfl ?_
            refine aw_g8_0 C dX8_row_33 fl_X8_14 ?_
            refine aw_g7_6 C dX8_row_36 (shW0 isW1) fl_X8_74 ?_
            refine aw_iload_1 C dX8_row_39 ?_
            refine aw_pald C _ dX8_row_40 (shW4 isW1) rfl (by omega) ?_
            refine aw_astore_4 C dX8_row_41 (by decide) (fun w h => by cases h <;> rfl) rfl ?_
            refine aw_aload_4 C dX8_row_43 rfl ?_
            refine aw_g2_0 C (hRw.2.2.1.2 p hp1).1 dX8_row_45 (shWE isW1 (by omega)).1 fl_X8_78 ?_
            refine aw_bipush C dX8_row_48 k2_6 ?_
            refine aw_icmp_eq_n C dX8_row_50 (tgt := 56) (by decide) (by omega) (by omega) (fun c_50 => ?_) (fun c_50 => ?_)
            · skip
              refine aw_aload_4 C dX8_row_56 rfl ?_
              refine aw_g2_6 C dX8_row_58 (shWE isW1 (by omega)).1 fl_X8_144 ?_
              refine aw_iload_2 C dX8_row_61 ?_
              refine aw_iald C _ ((hRw.2.2.1.2 p hp1).2.2.2.2.2.2 k hk1) dX8_row_62 (shWE isW1 (by omega)).2 rfl (by omega) ?_
              refine aw_istore_5 C dX8_row_63 (by decide) (fun w h => by cases h <;> rfl) ?_
              refine aw_aload_4 C dX8_row_65 rfl ?_
              refine aw_g2_6 C dX8_row_67 (shWE isW1 (by omega)).1 fl_X8_144 ?_
              refine aw_iload_2 C dX8_row_70 ?_
              refine aw_iload_3 C dX8_row_71 ?_
              refine aw_iast C _ dX8_row_72 (shWE isW1 (by omega)).2 rfl (by omega) ?_
              refine aw_iload_5 C dX8_row_73 ?_
              refine aw_iretI C hR dX8_row_75 ?_
              exact PC.w hCC hg rfl (by unfold f_row; rw [if_neg (fun z => z ⟨c_5, c14⟩), if_neg (fun z => z c26), hu, huk, hun, if_pos c_50]) (Fr.set ⟨by omega, by omega⟩) (hRw.row hW hp1 hk1)
            · skip
              refine aw_bipush C dX8_row_53 k2_m3 ?_
              refine aw_iretI C hR dX8_row_55 ?_
              exact PC.here hCC rfl (by unfold f_row; rw [if_neg (fun z => z ⟨c_5, c14⟩), if_neg (fun z => z c26), hu, if_neg c_50])
          · have c26 : ¬ inN n 10 := fun z => by obtain ⟨j, j1, j2, e⟩ := inN_of z; rw [e] at c_26; exact c_26 (nI_le (by omega) (by decide))
            refine aw_bipush C dX8_row_29 k2_m2 ?_
            refine aw_iretI C hR dX8_row_31 ?_
            exact PC.here hCC rfl (by unfold f_row; rw [if_neg (fun z => z ⟨c_5, c14⟩), if_pos c26])
      · have c14 : ¬ inN k 4 := fun z => by obtain ⟨j, j1, j2, e⟩ := inN_of z; rw [e] at c_14; exact c_14 (nI_lt (by omega) (by decide))
        refine aw_iconst C dX8_row_17 k1_m1 ?_
        refine aw_iretI C hR dX8_row_18 ?_
        exact PC.here hCC rfl (by unfold f_row; rw [if_pos (fun z => c14 z.2)])

theorem CC.txt {q q2 : S_} {g : GS} {T2 : List Nat} (h : CC q g) (hg : GOK g) (hf : Fr (fun k j => k = 94 ∨ (k = 93 ∧ j = 1)) q q2) (hl : gI q2 93 1 = nI T2.length) (hx : ∀ j, j < T2.length → gI q2 94 j = nI (chO T2 j)) : CC q2 (gM g, gK g, gJ g, gC g, gN g, T2, gS g, gE g, gX g, gR g, gV g) := by
  obtain ⟨a1, a2, a3, a4, a5, a6, a7, a8, a9⟩ := h
  have e : ∀ k j, ¬ (k = 94 ∨ (k = 93 ∧ j = 1)) → gI q2 k j = gI q k j := hf.2
  refine ⟨a1.t hg.1 (fun k j z1 z2 => e k j (by omega)), fun hk => (a2 hk).t (hg.2.2.2.2.2.1 hk).1 (fun k j z1 z2 => e k j (by omega)), a3.t hg.2.2.2.1 (fun k j z1 z2 z3 => e k j (by omega)), (e _ _ (by omega)).trans a4, (e _ _ (by omega)).trans a5, (by obtain ⟨L, z⟩ := a6; exact ⟨L, z.t (fun k j y => e k j (by unfold SWm at y; omega))⟩), ⟨hl, hx⟩, fun t ht => ?_, ⟨(e _ _ (by omega)).trans a9.1, fun j hj h2 => (e _ _ (by omega)).trans (a9.2 j hj h2)⟩⟩
  obtain ⟨b1, b2, b3⟩ := a8 t ht
  refine ⟨(e _ _ (by omega)).trans b1, (e _ _ (by omega)).trans b2, fun j hj => ?_⟩
  rw [← b3 j hj]
  show q2.2 _ _ = q.2 _ _
  rw [hf.1]

set_option maxRecDepth 100000 in
set_option maxHeartbeats 4000000 in
theorem s_X8_feed {G : GT} {q : S_} {g : GS} (c : Int32) (hg : GOK g) (hCC : CC q g) : Spec G 2 yX8_feed cX8_feed 2 (some .int) [rfn G 0, .int c] q (PI (PC (f_feed g c) q)) := by
  refine Spec.intro RX8 (by decide) rfl (Nat.le_of_ble_eq_true rfl) [some (rfn G 0), some (.int c)] rfl ?_
  intro X d hd C hR
  obtain ⟨hW, hCy, h95, hN6, h94, hK, hT1, hT2, hTp, hR1, hSy, hSyJ⟩ := id hg
  obtain ⟨hRw, hKw, hCyr, hNc, hKc, hQ, hTx, hTs, hAt⟩ := id hCC
  have hc := hW.c
  have hq := hCC.qs hg
  have hG : Goo (gM g) (gC g) := fun k hk => hCy k (by omega)
  refine aw_iload_1 C dX8_feed_0 ?_
  refine aw_if_lt C dX8_feed_1 (tgt := 10) (by decide)  (fun c_1 => ?_) (fun c_1 => ?_)
  · skip
    refine aw_bipush C dX8_feed_10 k2_m2 ?_
    refine aw_iretI C hR dX8_feed_12 ?_
    exact PC.here hCC rfl (by unfold f_feed; rw [if_pos (fun z => z.1 c_1)])
  · skip
    refine aw_iload_1 C dX8_feed_4 ?_
    refine aw_bipush C dX8_feed_5 k2_127 ?_
    refine aw_icmp_le C dX8_feed_7 (tgt := 13) (by decide)  (fun c_7 => ?_) (fun c_7 => ?_)
    · have c7 : inN c 128 := by
        obtain ⟨j, j2, e⟩ := nI_of c_1
        rw [e] at c_7 ⊢
        exact inN_nI (by have := (nI_leI j2 (by decide)).mp c_7; omega) j2
      obtain ⟨c, hc1, hc2, rfl⟩ := inN_of c7
      have huc : u32 (nI c) = c := nI_clamp hc2
      refine aw_aload_0 C dX8_feed_13 rfl ?_
      refine aw_g8_4 C dX8_feed_14 fl_X8_34 ?_
      refine aw_iload_1 C dX8_feed_17 ?_
      refine aw_cV1I C (s_X5_append c hTx.1 hT1) mf_X5_append mv_X5_append (sh_93) rfl ml_X8_147 dX8_feed_18 (by omega) (Nat.le_of_ble_eq_true rfl) (fun r_18 q_18 h_18 => ?_)
      refine aw_iretI C hR dX8_feed_21 ?_
      rcases h_18 with ⟨e1, rfl, rfl⟩ | ⟨e1, rfl, rfl⟩
      · exact PC.here hCC rfl (by unfold f_feed; rw [if_neg (fun z => z c7), if_pos e1])
      · have hf : Fr (fun k j => k = 94 ∨ (k = 93 ∧ j = 1)) q (sI (sI q 94 (gT g).length (nI c)) 93 1 (nI ((gT g).length + 1))) := (Fr.set (Or.inl rfl)).put (Or.inr ⟨rfl, rfl⟩)
        have hff : f_feed g (nI c) = (nI ((gT g).length + 1), (gM g, gK g, gJ g, gC g, gN g, gT g ++ [c], gS g, gE g, gX g, gR g, gV g)) := by unfold f_feed; rw [if_neg (fun z => z c7), if_neg (by omega), huc]
        rw [hff]
        refine ⟨rfl, CC.txt (T2 := gT g ++ [c]) hCC hg hf (by rw [gI_sI, if_pos ⟨rfl, rfl⟩, List.length_append]; rfl) (fun j hj => ?_), hf.r (fun k j z => by omega)⟩
        rw [List.length_append] at hj
        have hj2 : j < (gT g).length + 1 := hj
        rw [gI_sI, if_neg (by omega), gI_sI, chO_app]
        by_cases e : j = (gT g).length
        · rw [if_pos ⟨rfl, e⟩, if_neg (by omega), if_pos e]
        · rw [if_neg (fun z => e z.2), if_pos (by omega)]
          exact hTx.2 j (by omega)
    · have c7 : ¬ inN c 128 := fun z => by obtain ⟨j, j1, j2, e⟩ := inN_of z; rw [e] at c_7; exact c_7 (nI_le (by omega) (by decide))
      refine aw_bipush C dX8_feed_10 k2_m2 ?_
      refine aw_iretI C hR dX8_feed_12 ?_
      exact PC.here hCC rfl (by unfold f_feed; rw [if_pos c7])

set_option maxRecDepth 100000 in
set_option maxHeartbeats 4000000 in
theorem s_X8_told {G : GT} {q : S_} {g : GS} (w : Int32) (hg : GOK g) (hCC : CC q g) : Spec G 3 yX8_told cX8_told 2 (some .int) [rfn G 0, .int w] q (PI (PC (f_told g w) q)) := by
  refine Spec.intro RX8 (by decide) rfl (Nat.le_of_ble_eq_true rfl) [some (rfn G 0), some (.int w)] rfl ?_
  intro X d hd C hR
  obtain ⟨hW, hCy, h95, hN6, h94, hK, hT1, hT2, hTp, hR1, hSy, hSyJ⟩ := id hg
  obtain ⟨hRw, hKw, hCyr, hNc, hKc, hQ, hTx, hTs, hAt⟩ := id hCC
  have hc := hW.c
  have hq := hCC.qs hg
  have hG : Goo (gM g) (gC g) := fun k hk => hCy k (by omega)
  refine aw_iload_1 C dX8_told_0 ?_
  rcases sw5 w with rfl | rfl | rfl | rfl | rfl | hout
  · skip
    refine aw_tableIn C dX8_told_1 (off := 35) (tgt := 36) (by decide +kernel) (by decide +kernel) (by decide +kernel) (by decide) ?_
    refine aw_aload_0 C dX8_told_36 rfl ?_
    refine aw_g8_0 C dX8_told_37 fl_X8_14 ?_
    refine aw_g7_7 C hRw.2.2.2.1 dX8_told_40 (shW0 isW1) fl_X8_164 ?_
    refine aw_iretI C hR dX8_told_43 ?_
    exact PC.here hCC rfl rfl
  · skip
    refine aw_tableIn C dX8_told_1 (off := 43) (tgt := 44) (by decide +kernel) (by decide +kernel) (by decide +kernel) (by decide) ?_
    refine aw_aload_0 C dX8_told_44 rfl ?_
    refine aw_g8_0 C dX8_told_45 fl_X8_14 ?_
    refine aw_cV0IE C (s_X7_dark 1 isW1 hRw hW hCyr h95 hN6 hG) mf_X7_dark mv_X7_dark (shW0 isW1) rfl ml_X8_167 dX8_told_48 (by omega) (Nat.le_of_ble_eq_true rfl) ?_
    refine aw_iretI C hR dX8_told_51 ?_
    exact PC.here hCC rfl rfl
  · skip
    refine aw_tableIn C dX8_told_1 (off := 51) (tgt := 52) (by decide +kernel) (by decide +kernel) (by decide +kernel) (by decide) ?_
    refine aw_aload_0 C dX8_told_52 rfl ?_
    refine aw_g8_0 C dX8_told_53 fl_X8_14 ?_
    refine aw_cV0IE C (s_X7_arrived 1 isW1 hRw hW) mf_X7_arrived mv_X7_arrived (shW0 isW1) rfl ml_X8_171 dX8_told_56 (by omega) (Nat.le_of_ble_eq_true rfl) ?_
    refine aw_iretI C hR dX8_told_59 ?_
    exact PC.here hCC rfl rfl
  · skip
    refine aw_tableIn C dX8_told_1 (off := 59) (tgt := 60) (by decide +kernel) (by decide +kernel) (by decide +kernel) (by decide) ?_
    refine aw_aload_0 C dX8_told_60 rfl ?_
    refine aw_g8_0 C dX8_told_61 fl_X8_14 ?_
    refine aw_cV0IE C (s_X7_halves 1 isW1 hRw hW) mf_X7_halves mv_X7_halves (shW0 isW1) rfl ml_X8_174 dX8_told_64 (by omega) (Nat.le_of_ble_eq_true rfl) ?_
    refine aw_iretI C hR dX8_told_67 ?_
    exact PC.here hCC rfl rfl
  · skip
    refine aw_tableIn C dX8_told_1 (off := 67) (tgt := 68) (by decide +kernel) (by decide +kernel) (by decide +kernel) (by decide) ?_
    refine aw_aload_0 C dX8_told_68 rfl ?_
    refine aw_g8_0 C dX8_told_69 fl_X8_14 ?_
    refine aw_g7_4 C hRw.2.1 dX8_told_72 (shW0 isW1) fl_X8_126 ?_
    refine aw_iretI C hR dX8_told_75 ?_
    exact PC.here hCC rfl rfl
  · skip
    refine aw_tableOut C dX8_told_1 (tgt := 76) (out_of (n := 5) hout (by decide)) (by decide) ?_
    refine aw_iconst C dX8_told_76 k1_m1 ?_
    refine aw_iretI C hR dX8_told_77 ?_
    exact PC.here hCC rfl (by
      have hk : ∀ k, k < 5 → ¬ w = nI k := fun k h e => hout (by rw [e]; exact inN_nI h (by omega))
      unfold f_told
      rw [if_neg (hk 0 (by decide)), if_neg (hk 1 (by decide)), if_neg (hk 2 (by decide)), if_neg (hk 3 (by decide)), if_neg (hk 4 (by decide))])

theorem Fr.nwh {q q2 : S_} (h : Fr (SHo 1) q q2) : Fr SNw q q2 := h.mono (fun k j z => by unfold SHo SWs at z; unfold SNw SAs; rcases z with z | z | z <;> first | exact Or.inr (Or.inr z) | (left; omega) | (right; left; omega))

set_option maxRecDepth 100000 in
set_option maxHeartbeats 4000000 in
theorem s_X8_pass {G : GT} {q : S_} {g : GS} (n : Int32) (hg : GOK g) (hCC : CC q g) : Spec G 6 yX8_pass cX8_pass 2 (some .int) [rfn G 0, .int n] q (PI (PC (f_pass g n) q)) := by
  refine Spec.intro RX8 (by decide) rfl (Nat.le_of_ble_eq_true rfl) [some (rfn G 0), some (.int n)] rfl ?_
  intro X d hd C hR
  obtain ⟨hW, hCy, h95, hN6, h94, hK, hT1, hT2, hTp, hR1, hSy, hSyJ⟩ := id hg
  obtain ⟨hRw, hKw, hCyr, hNc, hKc, hQ, hTx, hTs, hAt⟩ := id hCC
  have hc := hW.c
  have hq := hCC.qs hg
  have hG : Goo (gM g) (gC g) := fun k hk => hCy k (by omega)
  refine aw_iload_1 C dX8_pass_0 ?_
  refine aw_if_lt C dX8_pass_1 (tgt := 10) (by decide)  (fun c_1 => ?_) (fun c_1 => ?_)
  · skip
    refine aw_bipush C dX8_pass_10 k2_m2 ?_
    refine aw_iretI C hR dX8_pass_12 ?_
    exact PC.here hCC rfl (by unfold f_pass; rw [if_pos (fun z => z.1 c_1)])
  · skip
    refine aw_iload_1 C dX8_pass_4 ?_
    refine aw_bipush C dX8_pass_5 k2_12 ?_
    refine aw_icmp_le C dX8_pass_7 (tgt := 13) (by decide)  (fun c_7 => ?_) (fun c_7 => ?_)
    · have c7 : inN n 13 := by
        obtain ⟨j, j2, e⟩ := nI_of c_1
        rw [e] at c_7 ⊢
        exact inN_nI (by have := (nI_leI j2 (by decide)).mp c_7; omega) j2
      obtain ⟨n, hn1, hn2, rfl⟩ := inN_of c7
      have hun : u32 (nI n) = n := nI_clamp hn2
      refine aw_aload_0 C dX8_pass_13 rfl ?_
      refine aw_g8_0 C dX8_pass_14 fl_X8_14 ?_
      refine aw_g7_7 C hRw.2.2.2.1 dX8_pass_17 (shW0 isW1) fl_X8_164 ?_
      refine aw_iload_1 C dX8_pass_20 ?_
      refine aw_iadd_n C dX8_pass_21  ?_
      refine aw_sipush C dX8_pass_22 k3_9999 ?_
      refine aw_icmp_le_n C dX8_pass_25 (tgt := 31) (by decide) (by omega) (by omega) (fun c_25 => ?_) (fun c_25 => ?_)
      · skip
        refine aw_aload_0 C dX8_pass_31 rfl ?_
        refine aw_aload_0 C dX8_pass_32 rfl ?_
        refine aw_g8_0 C dX8_pass_33 fl_X8_14 ?_
        refine aw_iload_1 C dX8_pass_36 ?_
        refine aw_iconst C dX8_pass_37 k1_m1 ?_
        refine aw_cV3V C (s_X8_hoursGo (fun _ => true) 1 n isW1 hRw hW hCyr h95 hN6 hG hQ who_a (by omega)) mf_X8_hoursGo mv_X8_hoursGo (sh_0) rfl ml_X8_177 dX8_pass_38 (by omega) (Nat.le_of_ble_eq_true rfl) (fun q_38 h_38 => ?_)
        obtain ⟨hR2, hQ2, hC2, hF2⟩ := h_38
        rw [hoursW_all] at hR2
        have hok := hoursM_ok (cts := gC g) hW n (by omega)
        refine aw_aload_0 C dX8_pass_41 rfl ?_
        refine aw_g8_0 C dX8_pass_42 fl_X8_14 ?_
        refine aw_g7_7 C (hR2.2.2.2.1.trans (by rw [hok.2.1])) dX8_pass_45 (shW0 isW1) fl_X8_164 ?_
        refine aw_iretI C hR dX8_pass_48 ?_
        exact PC.nw hCC hg rfl (by unfold f_pass; rw [if_neg (fun z => z c7), hun, if_neg (by omega)]) hF2.nwh hR2 hQ2
      · skip
        refine aw_bipush C dX8_pass_28 k2_m3 ?_
        refine aw_iretI C hR dX8_pass_30 ?_
        exact PC.here hCC rfl (by unfold f_pass; rw [if_neg (fun z => z c7), hun, if_pos (by omega)])
    · have c7 : ¬ inN n 13 := fun z => by obtain ⟨j, j1, j2, e⟩ := inN_of z; rw [e] at c_7; exact c_7 (nI_le (by omega) (by decide))
      refine aw_bipush C dX8_pass_10 k2_m2 ?_
      refine aw_iretI C hR dX8_pass_12 ?_
      exact PC.here hCC rfl (by unfold f_pass; rw [if_pos c7])
