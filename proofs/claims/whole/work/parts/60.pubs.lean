def l13 (l : Nat) : Nat := if l = 1000 then 13 else l
theorem lfar_l13 {x : Nat} (h : x ≤ 12 ∨ x = 99) : lfar x = l13 (lateM x) := by
  unfold lfar l13 lateM
  repeat' split
  all_goals first | rfl | omega
theorem l13_lt {l m : Nat} (h : l ≤ 12 ∨ l = 1000) (h2 : m ≤ 12 ∨ m = 1000) : l13 m < l13 l ↔ m < l := by
  unfold l13
  repeat' split
  all_goals omega
theorem lateM_12 {x : Nat} (h : x ≤ 12 ∨ x = 99) : lateM x ≤ 12 ∨ lateM x = 1000 := by
  unfold lateM
  split <;> omega
theorem l13_le {l : Nat} (h : l ≤ 12 ∨ l = 1000) : l13 l ≤ 13 := by
  unfold l13
  split <;> omega
theorem WQ.f59 {q q2 : S_} (h : ∃ L, WQ q L) (hF : Fr (fun a _ => 59 ≤ a ∧ a < 59 + 29) q q2) : ∃ L, WQ q2 L := by
  obtain ⟨L, z⟩ := h
  exact ⟨L, z.t (fun k j y => hF.2 k j (by unfold SWm at y; omega))⟩
theorem SRP.wq {q : S_} {F : List E4} {T : Nat} (h : SRP q F T) : ∃ L, WQ q L := h.elim (fun L z => ⟨L, z.1⟩)
theorem RelW.sw {q q2 : S_} {w : Nat} {M : Nat → Nat} (h : RelW q w M) (hW : WF M) (hw : isW w) (hF : Fr SWs q q2) : RelW q2 w M := h.t hW (fun k j z1 z2 => hF.2 k j (by have := hw.b; unfold SWs SFk; rcases hw with rfl | rfl | rfl <;> omega))

set_option maxRecDepth 100000 in
set_option maxHeartbeats 4000000 in
theorem s_X8_sisters {G : GT} {q : S_} {g : GS} (p : Int32) (x : Int32) (hg : GOK g) (hCC : CC q g) : Spec G 5 yX8_sisters cX8_sisters 8 (some .int) [rfn G 0, .int p, .int x] q (PI (PC (f_sisters g p x) q)) := by
  refine Spec.intro RX8 (by decide) rfl (Nat.le_of_ble_eq_true rfl) [some (rfn G 0), some (.int p), some (.int x), none, none, none, none, none] rfl ?_
  intro X d hd C hR
  obtain ⟨hW, hCy, h95, hN6, h94, hK, hT1, hT2, hTp, hR1, hSy, hSyJ⟩ := id hg
  obtain ⟨hRw, hKw, hCyr, hNc, hKc, hQ, hTx, hTs, hAt⟩ := id hCC
  have hc := hW.c
  have hq := hCC.qs hg
  have hG : Goo (gM g) (gC g) := fun k hk => hCy k (by omega)
  refine aw_aload_0 C dX8_sisters_0 rfl ?_
  refine aw_iload_1 C dX8_sisters_1 ?_
  refine aw_cV1IE C (s_X8_isPerson _ hRw (by omega)) mf_X8_isPerson mv_X8_isPerson (sh_0) rfl ml_X8_71 dX8_sisters_2 (by omega) (Nat.le_of_ble_eq_true rfl) ?_
  refine aw_if_eq_b C dX8_sisters_5 (tgt := 15) (by decide)  (fun c_5 => ?_) (fun c_5 => ?_)
  · skip
    refine aw_iconst C dX8_sisters_15 k1_m1 ?_
    refine aw_iretI C hR dX8_sisters_16 ?_
    exact PC.here hCC rfl (by unfold f_sisters; rw [if_neg (fun z => c_5 z.1)])
  · obtain ⟨p, hp1, hp2, rfl⟩ := inN_of c_5
    have hu : u32 (nI p) = p := nI_clamp hp2
    have hp := hW.p hp1
    refine aw_iload_2 C dX8_sisters_8 ?_
    refine aw_cS1IE C (s_X8_isQuarter _) mf_X8_isQuarter ms_X8_isQuarter ml_X8_59 dX8_sisters_9 (by omega) (Nat.le_of_ble_eq_true rfl) ?_
    refine aw_if_ne_b C dX8_sisters_12 (tgt := 17) (by decide)  (fun c_12 => ?_) (fun c_12 => ?_)
    · obtain ⟨x, hx1, hx2, rfl⟩ := inN_of c_12
      have hux : u32 (nI x) = x := nI_clamp hx2
      refine aw_aload_0 C dX8_sisters_17 rfl ?_
      refine aw_g8_3 C dX8_sisters_18 fl_X8_27 ?_
      refine aw_aload_0 C dX8_sisters_21 rfl ?_
      refine aw_g8_0 C dX8_sisters_22 fl_X8_14 ?_
      refine aw_iload_1 C dX8_sisters_25 ?_
      refine aw_iload_2 C dX8_sisters_26 ?_
      obtain ⟨L0, hL0⟩ := hQ
      refine aw_cV3I C (s_X6_search 1 p x isW1 hRw hW hCyr h95 hN6 hG hp1 hL0 hx1) mf_X6_search mv_X6_search (sh_88) rfl ml_X8_185 dX8_sisters_27 (by omega) (Nat.le_of_ble_eq_true rfl) (fun r_27 q_27 h_27 => ?_)
      obtain ⟨rfl, hS2, hF2⟩ := h_27
      have hl0 := longM_le (cts := gC g) (t := x) hW hp1
      refine aw_cS1IE C (s_X8_lengthOrFar _ hl0) mf_X8_lengthOrFar ms_X8_lengthOrFar ml_X8_192 dX8_sisters_30 (by omega) (Nat.le_of_ble_eq_true rfl) ?_
      rw [lfar_l13 hl0]
      refine aw_istore_3 C dX8_sisters_33 (by decide) (fun w h => by cases h <;> rfl) ?_
      refine aw_bipush C dX8_sisters_34 k2_m5 ?_
      refine aw_istore_4 C dX8_sisters_36 (by decide) (fun w h => by cases h <;> rfl) ?_
      refine aw_aload_0 C dX8_sisters_38 rfl ?_
      refine aw_g8_2 C dX8_sisters_39 fl_X8_21 ?_
      refine aw_aload_0 C dX8_sisters_42 rfl ?_
      refine aw_g8_0 C dX8_sisters_43 fl_X8_14 ?_
      refine aw_cV1V C (s_X7_copyFrom 59 1 isW59 isW1 (by decide) (hRw.sw hW isW1 hF2) hW) mf_X7_copyFrom mv_X7_copyFrom (shW0 isW59) rfl ml_X8_181 dX8_sisters_46 (by omega) (Nat.le_of_ble_eq_true rfl) (fun q_46 h_46 => ?_)
      obtain ⟨hR59, hF46⟩ := h_46
      have hQ46 := WQ.f59 hS2.wq hF46
      have hF46a := hF2.as2.tr hF46.as4
      refine aw_iconst C dX8_sisters_49 k1_0 ?_
      refine aw_istore_5 C dX8_sisters_50 (by decide) (fun w h => by cases h <;> rfl) ?_
      have L52 : ∀ (n2 a f l : Nat) (q1 : S_), a ≤ gM g 93 → gM g 93 < a + n2 → (f ≤ 77 ∨ f = 99) → (l ≤ 12 ∨ l = 1000) → RelW q1 59 (gM g) → (∃ L, WQ q1 L) → Fr SAs q q1 → sisT (gM g) (gC g) p x = sisO (gM g) (gC g) p x (gM g 93 - a) a (f, l) → AW X G (q1) 52 [some (rfn G 0), some (.int (nI p)), some (.int (nI x)), some (.int (nI (l13 l))), some (.int (l5 f)), some (.int (nI a)), none, none] [] := by
        refine nat_loop (fun a f l q1 h1 h2 hf hl hR1 hQa hFa hT => by omega) (fun n2 ih a f l q1 h1 h2 hf hl hR1 hQa hFa hT => ?_)
        refine aw_iload_5 C dX8_sisters_52 ?_
        refine aw_aload_0 C dX8_sisters_54 rfl ?_
        refine aw_g8_2 C dX8_sisters_55 fl_X8_21 ?_
        refine aw_g7_0 C hR1.1.1 dX8_sisters_58 (shW0 isW59) fl_X8_195 ?_
        refine aw_icmp_ge_n C dX8_sisters_61 (tgt := 170) (by decide) (by omega) (by omega) (fun c_61 => ?_) (fun c_61 => ?_)
        · skip
          refine aw_iload_4 C dX8_sisters_170 ?_
          refine aw_iretI C hR dX8_sisters_172 ?_
          exact PC.ask hCC hg rfl (by unfold f_sisters; rw [if_pos ⟨c_5, c_12⟩, hu, hux, hT, show gM g 93 - a = 0 by omega]; rfl) hFa hQa
        · skip
          refine aw_iload_5 C dX8_sisters_64 ?_
          refine aw_iconst C dX8_sisters_66 k1_1 ?_
          refine aw_iadd_n C dX8_sisters_67  ?_
          refine aw_istore_6 C dX8_sisters_68 (by decide) (fun w h => by cases h <;> rfl) ?_
          have L70 : ∀ (n3 b f l : Nat) (q2 : S_), a + 1 ≤ b → b ≤ gM g 93 → gM g 93 < b + n3 → (f ≤ 77 ∨ f = 99) → (l ≤ 12 ∨ l = 1000) → RelW q2 59 (gM g) → (∃ L, WQ q2 L) → Fr SAs q q2 → sisT (gM g) (gC g) p x = sisO (gM g) (gC g) p x (gM g 93 - (a + 1)) (a + 1) (sisI (gM g) (gC g) p x a (gM g 93 - b) b (f, l)) → AW X G (q2) 70 [some (rfn G 0), some (.int (nI p)), some (.int (nI x)), some (.int (nI (l13 l))), some (.int (l5 f)), some (.int (nI a)), some (.int (nI b)), none] [] := by
            refine nat_loop (fun b f l q2 h3 h4 h5 hf hl hR2 hQb hFb hT2 => by omega) (fun n3 ih2 b f l q2 h3 h4 h5 hf hl hR2 hQb hFb hT2 => ?_)
            refine aw_iload_6 C dX8_sisters_70 ?_
            refine aw_aload_0 C dX8_sisters_72 rfl ?_
            refine aw_g8_2 C dX8_sisters_73 fl_X8_21 ?_
            refine aw_g7_0 C hR2.1.1 dX8_sisters_76 (shW0 isW59) fl_X8_195 ?_
            refine aw_icmp_ge_n C dX8_sisters_79 (tgt := 164) (by decide) (by omega) (by omega) (fun c_79 => ?_) (fun c_79 => ?_)
            · skip
              refine aw_iinc_5 C dX8_sisters_164 (by decide) (fun w h => by cases h <;> rfl) (show _ + Int32.ofInt 1 = _ by rw [k1_1, nI_add]) ?_
              refine aw_goto C dX8_sisters_167 (tgt := 52) (by decide) ?_
              exact (ih (a + 1) f l q2 (by omega) (by omega) hf hl hR2 hQb hFb (by rw [hT2, show gM g 93 - b = 0 by omega]; rfl)).less ⟨Or.inr rfl, Or.inr rfl, Or.inr rfl, Or.inr rfl, Or.inr rfl, Or.inr rfl, Or.inl rfl, Or.inl rfl, trivial⟩
            · skip
              refine aw_aload_0 C dX8_sisters_82 rfl ?_
              refine aw_g8_2 C dX8_sisters_83 fl_X8_21 ?_
              refine aw_iload_5 C dX8_sisters_86 ?_
              refine aw_iload_6 C dX8_sisters_88 ?_
              refine aw_cV2IE C (s_X7_canExchange 59 a b isW59 hR2 hW (by omega) (by omega)) mf_X7_canExchange mv_X7_canExchange (shW0 isW59) rfl ml_X8_137 dX8_sisters_90 (by omega) (Nat.le_of_ble_eq_true rfl) ?_
              refine aw_if_ne_b C dX8_sisters_93 (tgt := 99) (by decide)  (fun c_93 => ?_) (fun c_93 => ?_)
              · skip
                refine aw_aload_0 C dX8_sisters_99 rfl ?_
                refine aw_g8_2 C dX8_sisters_100 fl_X8_21 ?_
                refine aw_iload_5 C dX8_sisters_103 ?_
                refine aw_iload_6 C dX8_sisters_105 ?_
                refine aw_cV2V C (s_X7_exchange 59 a b isW59 hR2 hW (by omega) (by omega) c_93.2.1 c_93.2.2.1) mf_X7_exchange mv_X7_exchange (shW0 isW59) rfl ml_X8_141 dX8_sisters_107 (by omega) (Nat.le_of_ble_eq_true rfl) (fun q_107 h_107 => ?_)
                obtain ⟨hR3, hF3⟩ := h_107
                have hsw := swM_WF hW hSy (show a < gM g 93 by omega) (show b < gM g 93 by omega) c_93
                have hso := swM_o hW hSy (show a < gM g 93 by omega) (show b < gM g 93 by omega) c_93
                have hsn := sw_ne hW hSy (show a < gM g 93 by omega) (show b < gM g 93 by omega) c_93
                have hp92 : p < swM (gM g) a b 92 := by rw [hso 92 (by omega)]; exact hp1
                have hFx := hFb.tr hF3.as4
                obtain ⟨L3, hL3⟩ := WQ.f59 hQb hF3
                have hqx := hq.t hFx ⟨L3, hL3⟩
                refine aw_aload_0 C dX8_sisters_110 rfl ?_
                refine aw_g8_3 C dX8_sisters_111 fl_X8_27 ?_
                refine aw_aload_0 C dX8_sisters_114 rfl ?_
                refine aw_g8_2 C dX8_sisters_115 fl_X8_21 ?_
                refine aw_iload_1 C dX8_sisters_118 ?_
                refine aw_iload_2 C dX8_sisters_119 ?_
                refine aw_cV3I C (s_X6_search 59 p x isW59 hR3 hsw.1 hqx.2.2.1 (by rw [hso 95 (by omega)]; exact h95) hN6 (hG.of (hso 95 (by omega))) hp92 hL3 hx1) mf_X6_search mv_X6_search (sh_88) rfl ml_X8_185 dX8_sisters_120 (by omega) (Nat.le_of_ble_eq_true rfl) (fun r_120 q_120 h_120 => ?_)
                obtain ⟨rfl, hS4, hF4⟩ := h_120
                have hl4 := longM_le (cts := gC g) (t := x) hsw.1 hp92
                have hl5 := lateM_12 hl4
                have hl6 := lateM_le hl4
                have hR4 := hR3.sw hsw.1 isW59 hF4
                refine aw_cS1IE C (s_X8_lengthOrFar _ hl4) mf_X8_lengthOrFar ms_X8_lengthOrFar ml_X8_192 dX8_sisters_123 (by omega) (Nat.le_of_ble_eq_true rfl) ?_
                rw [lfar_l13 hl4]
                refine aw_istore_7 C dX8_sisters_126 (by decide) (fun w h => by cases h <;> rfl) ?_
                refine aw_aload_0 C dX8_sisters_128 rfl ?_
                refine aw_g8_2 C dX8_sisters_129 fl_X8_21 ?_
                refine aw_iload_5 C dX8_sisters_132 ?_
                refine aw_iload_6 C dX8_sisters_134 ?_
                refine aw_cV2V C (s_X7_exchange 59 a b isW59 hR4 hsw.1 (by rw [hso 93 (by omega)]; omega) (by rw [hso 93 (by omega)]; omega) hsn.1 hsn.2) mf_X7_exchange mv_X7_exchange (shW0 isW59) rfl ml_X8_141 dX8_sisters_136 (by omega) (Nat.le_of_ble_eq_true rfl) (fun q_136 h_136 => ?_)
                obtain ⟨hR5, hF5⟩ := h_136
                rw [sw_back hW hSy (show a < gM g 93 by omega) (show b < gM g 93 by omega) c_93] at hR5
                have hQ5 := WQ.f59 hS4.wq hF5
                have hF6 : Fr SAs q q_136 := (hFx.tr hF4.as2).tr hF5.as4
                refine aw_iload_7 C dX8_sisters_139 ?_
                refine aw_iload_3 C dX8_sisters_141 ?_
                refine aw_icmp_ge_n C dX8_sisters_142 (tgt := 158) (by decide) (by have := l13_le hl5; omega) (by have := l13_le hl; omega) (fun c_142 => ?_) (fun c_142 => ?_)
                · have c142 : ¬ lateM (longM (swM (gM g) a b) (gC g) p x) < l := fun z => absurd ((l13_lt hl hl5).mpr z) (by omega)
                  refine aw_iinc_6 C dX8_sisters_158 (by decide) (fun w h => by cases h <;> rfl) (show _ + Int32.ofInt 1 = _ by rw [k1_1, nI_add]) ?_
                  refine aw_goto C dX8_sisters_161 (tgt := 70) (by decide) ?_
                  exact (ih2 (b + 1) f l q_136 (by omega) (by omega) (by omega) hf hl hR5 hQ5 hF6 (hT2.trans (congrArg _ ((sisI_s (k := gM g 93 - (b + 1)) (by omega) _).trans (congrArg _ ((if_pos c_93).trans (by rw [if_neg c142, Nat.min_eq_right (Nat.not_lt.mp c142)]))))))).less ⟨Or.inr rfl, Or.inr rfl, Or.inr rfl, Or.inr rfl, Or.inr rfl, Or.inr rfl, Or.inr rfl, Or.inl rfl, trivial⟩
                · have c142 := (l13_lt hl hl5).mp (by omega)
                  refine aw_iload_7 C dX8_sisters_145 ?_
                  refine aw_istore_3 C dX8_sisters_147 (by decide) (fun w h => by cases h <;> rfl) ?_
                  refine aw_bipush C dX8_sisters_148 k2_10 ?_
                  refine aw_iload_5 C dX8_sisters_150 ?_
                  refine aw_imul_n C dX8_sisters_152  ?_
                  refine aw_iload_6 C dX8_sisters_153 ?_
                  refine aw_iadd_n C dX8_sisters_155  ?_
                  refine aw_istore_4 C dX8_sisters_156 (by decide) (fun w h => by cases h <;> rfl) ?_
                  refine aw_iinc_6 C dX8_sisters_158 (by decide) (fun w h => by cases h <;> rfl) (show _ + Int32.ofInt 1 = _ by rw [k1_1, nI_add]) ?_
                  refine aw_goto C dX8_sisters_161 (tgt := 70) (by decide) ?_
                  rw [show nI (10 * a + b) = l5 (10 * a + b) from (if_neg (by omega)).symm]
                  exact (ih2 (b + 1) (10 * a + b) (lateM (longM (swM (gM g) a b) (gC g) p x)) q_136 (by omega) (by omega) (by omega) (by omega) hl5 hR5 hQ5 hF6 (hT2.trans (congrArg _ ((sisI_s (k := gM g 93 - (b + 1)) (by omega) _).trans (congrArg _ ((if_pos c_93).trans (by rw [if_pos c142, Nat.min_eq_left (Nat.le_of_lt c142)]))))))).less ⟨Or.inr rfl, Or.inr rfl, Or.inr rfl, Or.inr rfl, Or.inr rfl, Or.inr rfl, Or.inr rfl, Or.inl rfl, trivial⟩
              · skip
                refine aw_goto C dX8_sisters_96 (tgt := 158) (by decide) ?_
                refine aw_iinc_6 C dX8_sisters_158 (by decide) (fun w h => by cases h <;> rfl) (show _ + Int32.ofInt 1 = _ by rw [k1_1, nI_add]) ?_
                refine aw_goto C dX8_sisters_161 (tgt := 70) (by decide) ?_
                exact (ih2 (b + 1) f l q2 (by omega) (by omega) (by omega) hf hl hR2 hQb hFb (hT2.trans (congrArg _ ((sisI_s (k := gM g 93 - (b + 1)) (by omega) _).trans (congrArg _ (if_neg c_93)))))).less ⟨Or.inr rfl, Or.inr rfl, Or.inr rfl, Or.inr rfl, Or.inr rfl, Or.inr rfl, Or.inr rfl, Or.inl rfl, trivial⟩
          exact L70 (gM g 93 + 1) (a + 1) f l q1 (by omega) (by omega) (by omega) hf hl hR1 hQa hFa (hT.trans (sisO_s (by omega) _))
      exact L52 (gM g 93 + 1) 0 99 (lateM (longM (gM g) (gC g) p x)) q_46 (by omega) (by omega) (Or.inr rfl) (lateM_12 hl0) hR59 hQ46 hF46a rfl
    · skip
      refine aw_iconst C dX8_sisters_15 k1_m1 ?_
      refine aw_iretI C hR dX8_sisters_16 ?_
      exact PC.here hCC rfl (by unfold f_sisters; rw [if_neg (fun z => c_12 z.2)])

theorem l5_lt0 {x : Nat} (h : x ≤ 12 ∨ x = 99) : l5 x < 0 ↔ x = 99 := by
  unfold l5
  split
  · next z => exact ⟨fun _ => z, fun _ => by decide +kernel⟩
  · next z => exact ⟨fun y => absurd y (nI_pos (by omega)), fun y => absurd y z⟩

set_option maxRecDepth 100000 in
set_option maxHeartbeats 4000000 in
theorem s_X8_odds {G : GT} {q : S_} {g : GS} (p x w : Int32) (hg : GOK g) (hCC : CC q g) : Spec G 5 yX8_odds cX8_odds 6 (some .long) [rfn G 0, .int p, .int x, .int w] q (PL (PCl (f_odds g p x w) q)) := by
  refine Spec.intro RX8 (by decide) rfl (Nat.le_of_ble_eq_true rfl) [some (rfn G 0), some (.int p), some (.int x), some (.int w), none, none] rfl ?_
  intro X d hd C hR
  obtain ⟨hW, hCy, h95, hN6, h94, hK, hT1, hT2, hTp, hR1, hSy, hSyJ⟩ := id hg
  obtain ⟨hRw, hKw, hCyr, hNc, hKc, hQ, hTx, hTs, hAt⟩ := id hCC
  have hc := hW.c
  have hq := hCC.qs hg
  have hG : Goo (gM g) (gC g) := fun k hk => hCy k (by omega)
  refine aw_aload_0 C dX8_odds_0 rfl ?_
  refine aw_iload_1 C dX8_odds_1 ?_
  refine aw_cV1IE C (s_X8_isPerson _ hRw (by omega)) mf_X8_isPerson mv_X8_isPerson (sh_0) rfl ml_X8_71 dX8_odds_2 (by omega) (Nat.le_of_ble_eq_true rfl) ?_
  refine aw_if_eq_b C dX8_odds_5 (tgt := 32) (by decide)  (fun c_5 => ?_) (fun c_5 => ?_)
  · skip
    refine aw_ldc2 C dX8_odds_32 kc_X8_216 ?_
    refine aw_lretL C hR dX8_odds_35 ?_
    exact PCl.here hCC rfl (by unfold f_odds; rw [if_neg (fun z => c_5 z.1)]; rfl)
  · obtain ⟨p, hp1, hp2, rfl⟩ := inN_of c_5
    have hu : u32 (nI p) = p := nI_clamp hp2
    have hp := hW.p hp1
    refine aw_iload_2 C dX8_odds_8 ?_
    refine aw_cS1IE C (s_X8_isQuarter _) mf_X8_isQuarter ms_X8_isQuarter ml_X8_59 dX8_odds_9 (by omega) (Nat.le_of_ble_eq_true rfl) ?_
    refine aw_if_eq_b C dX8_odds_12 (tgt := 32) (by decide)  (fun c_12 => ?_) (fun c_12 => ?_)
    · skip
      refine aw_ldc2 C dX8_odds_32 kc_X8_216 ?_
      refine aw_lretL C hR dX8_odds_35 ?_
      exact PCl.here hCC rfl (by unfold f_odds; rw [if_neg (fun z => c_12 z.2.1)]; rfl)
    · obtain ⟨x, hx1, hx2, rfl⟩ := inN_of c_12
      have hux : u32 (nI x) = x := nI_clamp hx2
      refine aw_iload_3 C dX8_odds_15 ?_
      refine aw_cS1IE C (s_X8_isPart _) mf_X8_isPart ms_X8_isPart ml_X8_213 dX8_odds_16 (by omega) (Nat.le_of_ble_eq_true rfl) ?_
      refine aw_if_eq_b C dX8_odds_19 (tgt := 32) (by decide)  (fun c_19 => ?_) (fun c_19 => ?_)
      · skip
        refine aw_ldc2 C dX8_odds_32 kc_X8_216 ?_
        refine aw_lretL C hR dX8_odds_35 ?_
        exact PCl.here hCC rfl (by unfold f_odds; rw [if_neg (fun z => c_19 z.2.2.1)]; rfl)
      · skip
        refine aw_aload_0 C dX8_odds_22 rfl ?_
        refine aw_g8_0 C dX8_odds_23 fl_X8_14 ?_
        refine aw_g7_0 C hRw.1.1 dX8_odds_26 (shW0 isW1) fl_X8_195 ?_
        refine aw_if_ne_n C dX8_odds_29 (tgt := 36) (by decide) (by omega) (fun c_29 => ?_) (fun c_29 => ?_)
        · skip
          refine aw_iconst C dX8_odds_36 k1_0 ?_
          refine aw_istore_4 C dX8_odds_37 (by decide) (fun w h => by cases h <;> rfl) ?_
          refine aw_aload_0 C dX8_odds_39 rfl ?_
          refine aw_g8_2 C dX8_odds_40 fl_X8_21 ?_
          refine aw_aload_0 C dX8_odds_43 rfl ?_
          refine aw_g8_0 C dX8_odds_44 fl_X8_14 ?_
          refine aw_cV1V C (s_X7_copyFrom 59 1 isW59 isW1 (by decide) hRw hW) mf_X7_copyFrom mv_X7_copyFrom (shW0 isW59) rfl ml_X8_181 dX8_odds_47 (by omega) (Nat.le_of_ble_eq_true rfl) (fun q_47 h_47 => ?_)
          obtain ⟨hR59, hF47⟩ := h_47
          have hQ47 := WQ.f59 hQ hF47
          refine aw_iconst C dX8_odds_50 k1_0 ?_
          refine aw_istore_5 C dX8_odds_51 (by decide) (fun w h => by cases h <;> rfl) ?_
          have L53 : ∀ (n2 b : Nat) (q1 : S_) (M1 : Nat → Nat), b ≤ gM g 93 → gM g 93 < b + n2 → RelW q1 59 M1 → WF M1 → (∀ j, ¬ (j < 32 ∧ j % 4 = 3) → M1 j = gM g j) → (∃ L, WQ q1 L) → Fr SAs q q1 → AW X G (q1) 53 [some (rfn G 0), some (.int (nI p)), some (.int (nI x)), some (.int w), some (.int (nI (oddU (gM g) (gC g) p x b))), some (.int (nI b))] [] := by
            refine nat_loop (fun b q1 M1 h1 h2 hR1 hW1 hM1 hQa hFa => by omega) (fun n2 ih b q1 M1 h1 h2 hR1 hW1 hM1 hQa hFa => ?_)
            refine aw_iload_5 C dX8_odds_53 ?_
            refine aw_aload_0 C dX8_odds_55 rfl ?_
            refine aw_g8_0 C dX8_odds_56 fl_X8_14 ?_
            have hqn := hq.t hFa hQa
            refine aw_g7_0 C hqn.1.1.1 dX8_odds_59 (shW0 isW1) fl_X8_195 ?_
            refine aw_icmp_ge_n C dX8_odds_62 (tgt := 109) (by decide) (by omega) (by omega) (fun c_62 => ?_) (fun c_62 => ?_)
            · skip
              refine aw_iload_4 C dX8_odds_109 ?_
              refine aw_aload_0 C dX8_odds_111 rfl ?_
              refine aw_g8_0 C dX8_odds_112 fl_X8_14 ?_
              refine aw_g7_0 C hqn.1.1.1 dX8_odds_115 (shW0 isW1) fl_X8_195 ?_
              refine aw_iload_3 C dX8_odds_118 ?_
              have hou := oddU_le (gM g) (gC g) p x b
              refine aw_cS3LE C (s_X8_lowest _ _ w (by omega) (by omega) c_29) mf_X8_lowest ms_X8_lowest ml_X8_218 dX8_odds_119 (by omega) (Nat.le_of_ble_eq_true rfl) ?_
              refine aw_lretL C hR dX8_odds_122 ?_
              exact PCl.ask hCC hg rfl (by unfold f_odds; rw [if_pos ⟨c_5, c_12, c_19, c_29⟩, hu, hux, show b = gM g 93 by omega]) hFa hQa
            · skip
              refine aw_aload_0 C dX8_odds_65 rfl ?_
              refine aw_g8_2 C dX8_odds_66 fl_X8_21 ?_
              refine aw_aload_0 C dX8_odds_69 rfl ?_
              refine aw_g8_0 C dX8_odds_70 fl_X8_14 ?_
              refine aw_g7_4 C hqn.1.2.1 dX8_odds_73 (shW0 isW1) fl_X8_126 ?_
              refine aw_iconst C dX8_odds_76 k1_1 ?_
              refine aw_iload_5 C dX8_odds_77 ?_
              refine aw_ishl_n C dX8_odds_79 (by omega) (by rw [Nat.one_mul]; have := Nat.pow_le_pow_right (n := 2) (by decide) (show b ≤ 8 by omega); omega) ?_
              rw [Nat.one_mul]
              refine aw_ior_n C dX8_odds_80  ?_
              rw [← lostM_on (show b < gM g 93 by omega) hc.1]
              refine aw_p7_4 C dX8_odds_81 (shW0 isW59) fl_X8_126 ?_
              refine aw_aload_0 C dX8_odds_84 rfl ?_
              refine aw_g8_3 C dX8_odds_85 fl_X8_27 ?_
              refine aw_aload_0 C dX8_odds_88 rfl ?_
              refine aw_g8_2 C dX8_odds_89 fl_X8_21 ?_
              refine aw_iload_1 C dX8_odds_92 ?_
              refine aw_iload_2 C dX8_odds_93 ?_
              have hWl := hW.lost (show b < gM g 93 by omega) (show 1 < 2 by decide)
              have hRl : RelW (sI q1 59 4 (nI (lostM (mu (gM g) (4 * b + 3) 1)))) 59 (mu (gM g) (4 * b + 3) 1) := hR1.lost hW1 (fun j z => by rw [mu_ne (by omega), hM1 j z]) rfl
              have hFl : Fr SAs q (sI q1 59 4 (nI (lostM (mu (gM g) (4 * b + 3) 1)))) := hFa.put (Or.inl ⟨by omega, by omega⟩)
              obtain ⟨L1, hL1⟩ := hQa
              have hLl : WQ (sI q1 59 4 (nI (lostM (mu (gM g) (4 * b + 3) 1)))) L1 := hL1.t (fun k j z => by rw [gI_sI, if_neg (by unfold SWm at z; omega)])
              have hql := hq.t hFl ⟨L1, hLl⟩
              have hpl : p < mu (gM g) (4 * b + 3) 1 92 := by rw [mu_ne (by omega)]; exact hp1
              refine aw_cV3I C (s_X6_search 59 p x isW59 hRl hWl hql.2.2.1 (by rw [mu_ne (by omega)]; exact h95) hN6 (hG.of (mu_ne (by omega))) hpl hLl hx1) mf_X6_search mv_X6_search (sh_88) rfl ml_X8_185 dX8_odds_94 (by omega) (Nat.le_of_ble_eq_true rfl) (fun r_94 q_94 h_94 => ?_)
              obtain ⟨rfl, hS4, hF4⟩ := h_94
              have hl4 := longM_le (cts := gC g) (t := x) hWl hpl
              have hR4 := hRl.sw hWl isW59 hF4
              have hF6 := hFl.tr hF4.as2
              refine aw_if_lt C dX8_odds_97 (tgt := 103) (by decide)  (fun c_97 => ?_) (fun c_97 => ?_)
              · skip
                refine aw_iinc_5 C dX8_odds_103 (by decide) (fun w h => by cases h <;> rfl) (show _ + Int32.ofInt 1 = _ by rw [k1_1, nI_add]) ?_
                refine aw_goto C dX8_odds_106 (tgt := 53) (by decide) ?_
                rw [show oddU (gM g) (gC g) p x b = oddU (gM g) (gC g) p x (b + 1) from by rw [oddU, if_pos ((l5_lt0 hl4).mp c_97)]; rfl]
                exact ih (b + 1) q_94 _ (by omega) (by omega) hR4 hWl (fun j z => mu_ne (by omega)) hS4.wq hF6
              · skip
                refine aw_iinc_4 C dX8_odds_100 (by decide) (fun w h => by cases h <;> rfl) (show _ + Int32.ofInt 1 = _ by rw [k1_1, nI_add]) ?_
                refine aw_iinc_5 C dX8_odds_103 (by decide) (fun w h => by cases h <;> rfl) (show _ + Int32.ofInt 1 = _ by rw [k1_1, nI_add]) ?_
                refine aw_goto C dX8_odds_106 (tgt := 53) (by decide) ?_
                rw [show oddU (gM g) (gC g) p x b + 1 = oddU (gM g) (gC g) p x (b + 1) from by rw [oddU, if_neg (fun z => c_97 ((l5_lt0 hl4).mpr z))]]
                exact ih (b + 1) q_94 _ (by omega) (by omega) hR4 hWl (fun j z => mu_ne (by omega)) hS4.wq hF6
          exact L53 (gM g 93 + 1) 0 q_47 (gM g) (by omega) (by omega) hR59 hW (fun _ _ => rfl) hQ47 hF47.as4
        · skip
          refine aw_ldc2 C dX8_odds_32 kc_X8_216 ?_
          refine aw_lretL C hR dX8_odds_35 ?_
          exact PCl.here hCC rfl (by unfold f_odds; rw [if_neg (fun z => z.2.2.2 c_29)]; rfl)

set_option maxRecDepth 100000 in
set_option maxHeartbeats 4000000 in
theorem s_X8_from {G : GT} {q : S_} {g : GS} (p : Int32) (hg : GOK g) (hCC : CC q g) : Spec G 7 yX8_from cX8_from 4 (some .int) [rfn G 0, .int p] q (PI (PC (f_from g p) q)) := by
  refine Spec.intro RX8 (by decide) rfl (Nat.le_of_ble_eq_true rfl) [some (rfn G 0), some (.int p), none, none] rfl ?_
  intro X d hd C hR
  obtain ⟨hW, hCy, h95, hN6, h94, hK, hT1, hT2, hTp, hR1, hSy, hSyJ⟩ := id hg
  obtain ⟨hRw, hKw, hCyr, hNc, hKc, hQ, hTx, hTs, hAt⟩ := id hCC
  have hc := hW.c
  have hq := hCC.qs hg
  have hG : Goo (gM g) (gC g) := fun k hk => hCy k (by omega)
  refine aw_aload_0 C dX8_from_0 rfl ?_
  refine aw_iload_1 C dX8_from_1 ?_
  refine aw_cV1IE C (s_X8_isPerson _ hRw (by omega)) mf_X8_isPerson mv_X8_isPerson (sh_0) rfl ml_X8_71 dX8_from_2 (by omega) (Nat.le_of_ble_eq_true rfl) ?_
  refine aw_if_ne_b C dX8_from_5 (tgt := 10) (by decide)  (fun c_5 => ?_) (fun c_5 => ?_)
  · obtain ⟨p, hp1, hp2, rfl⟩ := inN_of c_5
    have hu : u32 (nI p) = p := nI_clamp hp2
    have hp := hW.p hp1
    refine aw_iconst C dX8_from_10 k1_0 ?_
    refine aw_istore_2 C dX8_from_11 (by decide) (fun w h => by cases h <;> rfl) ?_
    refine aw_iconst C dX8_from_12 k1_0 ?_
    refine aw_istore_3 C dX8_from_13 (by decide) (fun w h => by cases h <;> rfl) ?_
    have L14 : ∀ (n2 v : Nat) (q1 : S_), v ≤ 6 → 6 < v + n2 → (∃ L, WQ q1 L) → Fr SAs q q1 → AW X G (q1) 14 [some (rfn G 0), some (.int (nI p)), some (.int (nI (bsum (fitP (gM g) (gC g) p 2) v))), some (.int (nI v))] [] := by
      refine nat_loop (fun v q1 h1 h2 hQa hFa => by omega) (fun n2 ih v q1 h1 h2 hQa hFa => ?_)
      have hbx := bsum_lt (fitP (gM g) (gC g) p 2)
      refine aw_iload_3 C dX8_from_14 ?_
      refine aw_bipush C dX8_from_15 k2_6 ?_
      refine aw_icmp_ge_n C dX8_from_17 (tgt := 64) (by decide) (by omega) (by omega) (fun c_17 => ?_) (fun c_17 => ?_)
      · skip
        refine aw_iload_2 C dX8_from_64 ?_
        refine aw_iretI C hR dX8_from_65 ?_
        exact PC.ask hCC hg rfl (by unfold f_from; rw [if_pos c_5, hu, show v = 6 by omega]) hFa hQa
      · skip
        refine aw_aload_0 C dX8_from_20 rfl ?_
        refine aw_g8_2 C dX8_from_21 fl_X8_21 ?_
        refine aw_aload_0 C dX8_from_24 rfl ?_
        refine aw_g8_0 C dX8_from_25 fl_X8_14 ?_
        have hqn := hq.t hFa hQa
        refine aw_cV1V C (s_X7_copyFrom 59 1 isW59 isW1 (by decide) hqn.1 hW) mf_X7_copyFrom mv_X7_copyFrom (shW0 isW59) rfl ml_X8_181 dX8_from_28 (by omega) (Nat.le_of_ble_eq_true rfl) (fun q_28 h_28 => ?_)
        obtain ⟨hR2, hF2a⟩ := h_28
        have hQ2 := WQ.f59 hQa hF2a
        have hF2 := hFa.tr hF2a.as4
        refine aw_aload_0 C dX8_from_31 rfl ?_
        refine aw_g8_2 C dX8_from_32 fl_X8_21 ?_
        refine aw_g7_6 C dX8_from_35 (shW0 isW59) fl_X8_74 ?_
        refine aw_iload_1 C dX8_from_38 ?_
        refine aw_pald C _ dX8_from_39 (shW4 isW59) rfl (by omega) ?_
        refine aw_iload_3 C dX8_from_40 ?_
        refine aw_p2_2 C dX8_from_41 (shWE isW59 (by omega)).1 fl_X8_87 ?_
        refine aw_aload_0 C dX8_from_44 rfl ?_
        refine aw_iload_1 C dX8_from_45 ?_
        have hRp : RelW (sI q_28 (59 + 4 + 13 + 2 * p) 2 (nI v)) 59 (mu (gM g) (32 + 10 * p + 2) v) := hR2.per hW hp1 (f := 2) (v := v) (by decide)
        have hWp : WF (mu (gM g) (32 + 10 * p + 2) v) := hW.per hp1 (by omega) (fun _ => by omega) (fun _ => by omega) (fun _ => by omega) (fun _ => by omega) (fun _ => by omega) (fun _ => by omega) (fun _ => by omega)
        have hFp : Fr SAs q (sI q_28 (59 + 4 + 13 + 2 * p) 2 (nI v)) := hF2.put (Or.inl ⟨by omega, by omega⟩)
        have hQp : ∃ L, WQ (sI q_28 (59 + 4 + 13 + 2 * p) 2 (nI v)) L := hQ2.elim (fun L z => ⟨L, z.t (fun k j y => by rw [gI_sI, if_neg (by unfold SWm at y; omega)])⟩)
        have hqp := hq.t hFp hQp
        refine aw_cV1I C (s_X8_goesAsSeen p hqp hp1 hWp hRp (fun j z => mu_ne (by omega)) (by omega)) mf_X8_goesAsSeen mv_X8_goesAsSeen (sh_0) rfl ml_X8_210 dX8_from_46 (by omega) (Nat.le_of_ble_eq_true rfl) (fun r_46 q_46 h_46 => ?_)
        obtain ⟨rfl, hF3, hQ3⟩ := h_46
        have hF3b := hFp.tr hF3
        refine aw_if_eq_b C dX8_from_49 (tgt := 58) (by decide)  (fun c_49 => ?_) (fun c_49 => ?_)
        · skip
          refine aw_iinc_3 C dX8_from_58 (by decide) (fun w h => by cases h <;> rfl) (show _ + Int32.ofInt 1 = _ by rw [k1_1, nI_add]) ?_
          refine aw_goto C dX8_from_61 (tgt := 14) (by decide) ?_
          rw [bsum_f (f := fitP (gM g) (gC g) p 2) (show ¬ fitP (gM g) (gC g) p 2 v from c_49)]
          exact ih (v + 1) q_46 (by omega) (by omega) hQ3 hF3b
        · skip
          refine aw_iload_2 C dX8_from_52 ?_
          refine aw_iconst C dX8_from_53 k1_1 ?_
          refine aw_iload_3 C dX8_from_54 ?_
          refine aw_ishl_n C dX8_from_55 (by omega) (by rw [Nat.one_mul]; have := Nat.pow_le_pow_right (n := 2) (by decide) (show v ≤ 5 by omega); omega) ?_
          rw [Nat.one_mul]
          refine aw_ior_n C dX8_from_56  ?_
          rw [or_pow (hbx v), bsum_t (f := fitP (gM g) (gC g) p 2) (show fitP (gM g) (gC g) p 2 v from c_49)]
          refine aw_istore_2 C dX8_from_57 (by decide) (fun w h => by cases h <;> rfl) ?_
          refine aw_iinc_3 C dX8_from_58 (by decide) (fun w h => by cases h <;> rfl) (show _ + Int32.ofInt 1 = _ by rw [k1_1, nI_add]) ?_
          refine aw_goto C dX8_from_61 (tgt := 14) (by decide) ?_
          exact ih (v + 1) q_46 (by omega) (by omega) hQ3 hF3b
    exact L14 7 0 q (by omega) (by omega) hQ Fr.rf
  · skip
    refine aw_iconst C dX8_from_8 k1_m1 ?_
    refine aw_iretI C hR dX8_from_9 ?_
    exact PC.here hCC rfl (by unfold f_from; rw [if_neg c_5])

set_option maxRecDepth 100000 in
set_option maxHeartbeats 4000000 in
theorem s_X8_can {G : GT} {q : S_} {g : GS} (p : Int32) (w : Int32) (hg : GOK g) (hCC : CC q g) : Spec G 7 yX8_can cX8_can 6 (some .int) [rfn G 0, .int p, .int w] q (PI (PC (f_can g p w) q)) := by
  refine Spec.intro RX8 (by decide) rfl (Nat.le_of_ble_eq_true rfl) [some (rfn G 0), some (.int p), some (.int w), none, none, none] rfl ?_
  intro X d hd C hR
  obtain ⟨hW, hCy, h95, hN6, h94, hK, hT1, hT2, hTp, hR1, hSy, hSyJ⟩ := id hg
  obtain ⟨hRw, hKw, hCyr, hNc, hKc, hQ, hTx, hTs, hAt⟩ := id hCC
  have hc := hW.c
  have hq := hCC.qs hg
  have hG : Goo (gM g) (gC g) := fun k hk => hCy k (by omega)
  refine aw_aload_0 C dX8_can_0 rfl ?_
  refine aw_iload_1 C dX8_can_1 ?_
  refine aw_cV1IE C (s_X8_isPerson _ hRw (by omega)) mf_X8_isPerson mv_X8_isPerson (sh_0) rfl ml_X8_71 dX8_can_2 (by omega) (Nat.le_of_ble_eq_true rfl) ?_
  refine aw_if_eq_b C dX8_can_5 (tgt := 17) (by decide)  (fun c_5 => ?_) (fun c_5 => ?_)
  · skip
    refine aw_iconst C dX8_can_17 k1_m1 ?_
    refine aw_iretI C hR dX8_can_18 ?_
    exact PC.here hCC rfl (by unfold f_can; rw [if_pos (fun z => c_5 z.1)])
  · obtain ⟨p, hp1, hp2, rfl⟩ := inN_of c_5
    have hu : u32 (nI p) = p := nI_clamp hp2
    have hp := hW.p hp1
    refine aw_iload_2 C dX8_can_8 ?_
    refine aw_if_lt C dX8_can_9 (tgt := 17) (by decide)  (fun c_9 => ?_) (fun c_9 => ?_)
    · skip
      refine aw_iconst C dX8_can_17 k1_m1 ?_
      refine aw_iretI C hR dX8_can_18 ?_
      exact PC.here hCC rfl (by unfold f_can; rw [if_pos (fun z => z.2.1 c_9)])
    · skip
      refine aw_iload_2 C dX8_can_12 ?_
      refine aw_iconst C dX8_can_13 k1_1 ?_
      refine aw_icmp_le C dX8_can_14 (tgt := 19) (by decide)  (fun c_14 => ?_) (fun c_14 => ?_)
      · have c14 : inN w 2 := by
          obtain ⟨j, j2, e⟩ := nI_of c_9
          rw [e] at c_14 ⊢
          exact inN_nI (by have := (nI_leI j2 (by decide)).mp c_14; omega) j2
        refine aw_iconst C dX8_can_19 k1_0 ?_
        refine aw_istore_3 C dX8_can_20 (by decide) (fun w h => by cases h <;> rfl) ?_
        refine aw_bipush C dX8_can_21 k2_m5 ?_
        refine aw_istore_4 C dX8_can_23 (by decide) (fun w h => by cases h <;> rfl) ?_
        refine aw_bipush C dX8_can_25 k2_9 ?_
        refine aw_istore_5 C dX8_can_27 (by decide) (fun w h => by cases h <;> rfl) ?_
        have L29 : ∀ (n2 d1 : Nat) (q1 : S_), d1 ≤ 10 → 10 < d1 + n2 → (∃ L, WQ q1 L) → Fr SAs q q1 → AW X G (q1) 29 [some (rfn G 0), some (.int (nI p)), some (.int w), some (.int (nI (cntU (fitP (gM g) (gC g) p 1) d1))), some (.int (l5 (lstU (fitP (gM g) (gC g) p 1) d1))), some (.int (vI d1))] [] := by
          refine nat_loop (fun d1 q1 h1 h2 hQa hFa => by omega) (fun n2 ih d1 q1 h1 h2 hQa hFa => ?_)
          refine aw_iload_5 C dX8_can_29 ?_
          refine aw_if_lt C dX8_can_31 (tgt := 80) (by decide)  (fun c_31 => ?_) (fun c_31 => ?_)
          · have e10 : d1 = 10 := (vI_lt d1 (by omega)).mp c_31
            refine aw_iload_2 C dX8_can_80 ?_
            refine aw_if_ne C dX8_can_81 (tgt := 88) (by decide)  (fun c_81 => ?_) (fun c_81 => ?_)
            · skip
              refine aw_iload_4 C dX8_can_88 ?_
              refine aw_iretI C hR dX8_can_90 ?_
              exact PC.ask hCC hg rfl (by unfold f_can; rw [if_neg (fun z => z ⟨c_5, c14⟩), if_neg c_81, hu, e10]) hFa hQa
            · skip
              refine aw_iload_3 C dX8_can_84 ?_
              refine aw_goto C dX8_can_85 (tgt := 90) (by decide) ?_
              refine aw_iretI C hR dX8_can_90 ?_
              exact PC.ask hCC hg rfl (by unfold f_can; rw [if_neg (fun z => z ⟨c_5, c14⟩), if_pos c_81, hu, e10]) hFa hQa
          · have e10 : d1 ≠ 10 := fun z => c_31 ((vI_lt d1 (by omega)).mpr z)
            rw [show vI d1 = nI (9 - d1) from if_pos (by omega)]
            refine aw_aload_0 C dX8_can_34 rfl ?_
            refine aw_g8_2 C dX8_can_35 fl_X8_21 ?_
            refine aw_aload_0 C dX8_can_38 rfl ?_
            refine aw_g8_0 C dX8_can_39 fl_X8_14 ?_
            have hqn := hq.t hFa hQa
            refine aw_cV1V C (s_X7_copyFrom 59 1 isW59 isW1 (by decide) hqn.1 hW) mf_X7_copyFrom mv_X7_copyFrom (shW0 isW59) rfl ml_X8_181 dX8_can_42 (by omega) (Nat.le_of_ble_eq_true rfl) (fun q_42 h_42 => ?_)
            obtain ⟨hR2, hF2a⟩ := h_42
            have hQ2 := WQ.f59 hQa hF2a
            have hF2 := hFa.tr hF2a.as4
            refine aw_aload_0 C dX8_can_45 rfl ?_
            refine aw_g8_2 C dX8_can_46 fl_X8_21 ?_
            refine aw_g7_6 C dX8_can_49 (shW0 isW59) fl_X8_74 ?_
            refine aw_iload_1 C dX8_can_52 ?_
            refine aw_pald C _ dX8_can_53 (shW4 isW59) rfl (by omega) ?_
            refine aw_iload_5 C dX8_can_54 ?_
            refine aw_p2_1 C dX8_can_56 (shWE isW59 (by omega)).1 fl_X8_84 ?_
            refine aw_aload_0 C dX8_can_59 rfl ?_
            refine aw_iload_1 C dX8_can_60 ?_
            have hRp : RelW (sI q_42 (59 + 4 + 13 + 2 * p) 1 (nI (9 - d1))) 59 (mu (gM g) (32 + 10 * p + 1) (9 - d1)) := hR2.per hW hp1 (f := 1) (v := (9 - d1)) (by decide)
            have hWp : WF (mu (gM g) (32 + 10 * p + 1) (9 - d1)) := hW.per hp1 (by omega) (fun _ => by omega) (fun _ => by omega) (fun _ => by omega) (fun _ => by omega) (fun _ => by omega) (fun _ => by omega) (fun _ => by omega)
            have hFp : Fr SAs q (sI q_42 (59 + 4 + 13 + 2 * p) 1 (nI (9 - d1))) := hF2.put (Or.inl ⟨by omega, by omega⟩)
            have hQp : ∃ L, WQ (sI q_42 (59 + 4 + 13 + 2 * p) 1 (nI (9 - d1))) L := hQ2.elim (fun L z => ⟨L, z.t (fun k j y => by rw [gI_sI, if_neg (by unfold SWm at y; omega)])⟩)
            have hqp := hq.t hFp hQp
            refine aw_cV1I C (s_X8_goesAsSeen p hqp hp1 hWp hRp (fun j z => mu_ne (by omega)) (by omega)) mf_X8_goesAsSeen mv_X8_goesAsSeen (sh_0) rfl ml_X8_210 dX8_can_61 (by omega) (Nat.le_of_ble_eq_true rfl) (fun r_61 q_61 h_61 => ?_)
            obtain ⟨rfl, hF3, hQ3⟩ := h_61
            have hF3b := hFp.tr hF3
            refine aw_if_eq_b C dX8_can_64 (tgt := 74) (by decide)  (fun c_64 => ?_) (fun c_64 => ?_)
            · skip
              refine aw_iinc_5 C dX8_can_74 (by decide) (fun w h => by cases h <;> rfl) (show nI (9 - d1) + Int32.ofInt (-1) = vI (d1 + 1) from (congrArg (· + Int32.ofInt (-1)) (show nI (9 - d1) = vI d1 from (if_pos (by omega)).symm)).trans (vI_s d1 (by omega))) ?_
              refine aw_goto C dX8_can_77 (tgt := 29) (by decide) ?_
              rw [show cntU (fitP (gM g) (gC g) p 1) d1 = cntU (fitP (gM g) (gC g) p 1) (d1 + 1) from by rw [cntU, if_neg (show ¬ fitP (gM g) (gC g) p 1 (9 - d1) from c_64)]; rfl, show lstU (fitP (gM g) (gC g) p 1) d1 = lstU (fitP (gM g) (gC g) p 1) (d1 + 1) from by rw [lstU, if_neg (show ¬ fitP (gM g) (gC g) p 1 (9 - d1) from c_64)]]
              exact ih (d1 + 1) q_61 (by omega) (by omega) hQ3 hF3b
            · skip
              refine aw_iinc_3 C dX8_can_67 (by decide) (fun w h => by cases h <;> rfl) (show _ + Int32.ofInt 1 = _ by rw [k1_1, nI_add]) ?_
              refine aw_iload_5 C dX8_can_70 ?_
              refine aw_istore_4 C dX8_can_72 (by decide) (fun w h => by cases h <;> rfl) ?_
              refine aw_iinc_5 C dX8_can_74 (by decide) (fun w h => by cases h <;> rfl) (show nI (9 - d1) + Int32.ofInt (-1) = vI (d1 + 1) from (congrArg (· + Int32.ofInt (-1)) (show nI (9 - d1) = vI d1 from (if_pos (by omega)).symm)).trans (vI_s d1 (by omega))) ?_
              refine aw_goto C dX8_can_77 (tgt := 29) (by decide) ?_
              rw [show cntU (fitP (gM g) (gC g) p 1) d1 + 1 = cntU (fitP (gM g) (gC g) p 1) (d1 + 1) from by rw [cntU, if_pos (show fitP (gM g) (gC g) p 1 (9 - d1) from c_64)], show nI (9 - d1) = l5 (lstU (fitP (gM g) (gC g) p 1) (d1 + 1)) from by rw [lstU, if_pos (show fitP (gM g) (gC g) p 1 (9 - d1) from c_64)]; unfold l5; rw [if_neg (by omega)]]
              exact ih (d1 + 1) q_61 (by omega) (by omega) hQ3 hF3b
        exact L29 11 0 q (by omega) (by omega) hQ Fr.rf
      · have c14 : ¬ inN w 2 := fun z => by obtain ⟨j, j1, j2, e⟩ := inN_of z; rw [e] at c_14; exact c_14 (nI_le (by omega) (by decide))
        refine aw_iconst C dX8_can_17 k1_m1 ?_
        refine aw_iretI C hR dX8_can_18 ?_
        exact PC.here hCC rfl (by unfold f_can; rw [if_pos (fun z => c14 z.2)])
