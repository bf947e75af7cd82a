theorem rv_c (G : GT) {x : Nat} (h : x ≠ 0) (h6 : x ≤ 6) : rv G (cyA x) = rfn G (99 + 3 * (x - 1)) := by
  unfold rv cyA
  rw [if_neg h]
  have h0 : ¬ nI (99 + 3 * (x - 1)) = 0 := nI_ne0 (by omega) (by omega)
  rw [if_neg h0, nI_clamp (by omega)]
  rfl
theorem rv_0 (G : GT) : rv G (cyA 0) = .null := rfl
theorem b5 : ∀ b, b < 8 → nI (b % 2 * 5) = (if b % 2 = 1 then nI 5 else nI 0) := by decide +kernel

set_option maxRecDepth 100000 in
set_option maxHeartbeats 4000000 in
theorem s_X7_dark_0 {G : GT} {q : S_} {M : Nat → Nat} (w : Nat) {cts : Nat → List Nat} {N : Nat} (hw : isW w) (h : RelW q w M) (hW : WF M) (h0 : M 95 = 0) : Spec G 1 yX7_dark cX7_dark 1 (some .int) [rfn G w] q (PI fun r2 q3 => r2 = nI (darkM M cts) ∧ q3 = q) := by
  refine Spec.intro RX7 (by decide) rfl (Nat.le_of_ble_eq_true rfl) [some (rfn G w)] rfl ?_
  intro X d hd C hR
  refine aw_aload_0 C dX7_dark_0 rfl ?_
  refine aw_g7_8 C dX7_dark_1 (shW0 hw) fl_X7_66 ?_
  rw [h.2.2.2.2.1, h0, rv_0]
  refine aw_ifnonnullN C dX7_dark_4 rfl ?_
  refine aw_iconst C dX7_dark_7 k1_0 ?_
  refine aw_goto C dX7_dark_8 (tgt := 18) (by decide) ?_
  refine aw_iretI C hR dX7_dark_18 ?_
  exact ⟨by unfold darkM; rw [if_pos h0], rfl⟩

set_option maxRecDepth 100000 in
set_option maxHeartbeats 4000000 in
theorem s_X7_dark_1 {G : GT} {q : S_} {M : Nat → Nat} (w : Nat) {cts : Nat → List Nat} {N : Nat} (hw : isW w) (h : RelW q w M) (hW : WF M) (hC : CyR q cts N) (hN : M 95 ≤ N) (hN6 : N ≤ 6) (hG : Goo M cts) (h0 : M 95 ≠ 0) : Spec G 1 yX7_dark cX7_dark 1 (some .int) [rfn G w] q (PI fun r2 q3 => r2 = nI (darkM M cts) ∧ q3 = q) := by
  refine Spec.intro RX7 (by decide) rfl (Nat.le_of_ble_eq_true rfl) [some (rfn G w)] rfl ?_
  intro X d hd C hR
  have hc := hW.c
  refine aw_aload_0 C dX7_dark_0 rfl ?_
  refine aw_g7_8 C dX7_dark_1 (shW0 hw) fl_X7_66 ?_
  rw [h.2.2.2.2.1, (rv_c G h0 (by omega))]
  refine aw_ifnonnull C dX7_dark_4 (tgt := 11) (by decide) rfl ?_
  refine aw_aload_0 C dX7_dark_11 rfl ?_
  refine aw_g7_8 C dX7_dark_12 (shW0 hw) fl_X7_66 ?_
  rw [h.2.2.2.2.1, (rv_c G h0 (by omega))]
  refine aw_g1_0 C (hC (M 95 - 1) (by omega)).1 dX7_dark_15 (shCi (show M 95 - 1 < 6 by omega)).1 fl_X7_112 ?_
  refine aw_iretI C hR dX7_dark_18 ?_
  exact ⟨by unfold darkM; rw [if_neg h0]; rfl, rfl⟩

theorem s_X7_dark {G : GT} {q : S_} {M : Nat → Nat} (w : Nat) {cts : Nat → List Nat} {N : Nat} (hw : isW w) (h : RelW q w M) (hW : WF M) (hC : CyR q cts N) (hN : M 95 ≤ N) (hN6 : N ≤ 6) (hG : Goo M cts) : Spec G 1 yX7_dark cX7_dark 1 (some .int) [rfn G w] q (PI fun r2 q3 => r2 = nI (darkM M cts) ∧ q3 = q) := by
  by_cases h0 : M 95 = 0
  · exact s_X7_dark_0 (N := N) w hw h hW h0
  · exact s_X7_dark_1 w hw h hW hC hN hN6 hG h0
def nmN (M : Nat → Nat) (p b n j : Nat) : Nat := [p, M (32 + 10 * p + 0), M (32 + 10 * p + 1), b, n, M 94 % 10].getD j 0

set_option maxRecDepth 100000 in
set_option maxHeartbeats 4000000 in
theorem s_X7_leave_0 {G : GT} {q : S_} {M : Nat → Nat} (w : Nat) {cts : Nat → List Nat} {N : Nat} (p b n : Nat) (hw : isW w) (h : RelW q w M) (hW : WF M) (hC : CyR q cts N) (hN : M 95 ≤ N) (hN6 : N ≤ 6) (hG : Goo M cts) (hp : p < M 92) (hb : b < 8) (hn : n ≤ 8) (h0 : M 95 = 0) : Spec G 2 yX7_leave cX7_leave 6 (some .int) [rfn G w, .int (nI p), .int (nI b), .int (nI n)] q (PI (fun r q3 => r = leaveX M cts p b n ∧ Fr SFk q q3)) := by
  refine Spec.intro RX7 (by decide) rfl (Nat.le_of_ble_eq_true rfl) [some (rfn G w), some (.int (nI p)), some (.int (nI b)), some (.int (nI n)), none, none] rfl ?_
  intro X d hd C hR
  have hc := hW.c
  have hpp := hW.p hp
  have hR1 := h.2.2.1.2 p hp
  refine aw_aload_0 C dX7_leave_0 rfl ?_
  refine aw_g7_6 C dX7_leave_1 (shW0 hw) fl_X7_23 ?_
  refine aw_iload_1 C dX7_leave_4 ?_
  refine aw_pald C _ dX7_leave_5 (shW4 hw) rfl (by omega) ?_
  refine aw_astore_4 C dX7_leave_6 (by decide) (fun w h => by cases h <;> rfl) rfl ?_
  refine aw_aload_0 C dX7_leave_8 rfl ?_
  refine aw_g7_8 C dX7_leave_9 (shW0 hw) fl_X7_66 ?_
  rw [h.2.2.2.2.1, h0, rv_0]
  refine aw_ifnonnullN C dX7_leave_12 rfl ?_
  refine aw_iconst C dX7_leave_15 k1_3 ?_
  refine aw_goto C dX7_leave_16 (tgt := 46) (by decide) ?_
  refine aw_istore_5 C dX7_leave_46 (by decide) (fun w h => by cases h <;> rfl) ?_
  rw [show nI 3 = sumX M cts p b n from (if_pos h0).symm]
  have hF : Fr SFk q q := Fr.rf
  have hRq := h
  refine aw_aload_4 C dX7_leave_48 rfl ?_
  refine aw_g2_0 C (hRq.2.2.1.2 p hp).1 dX7_leave_50 (shWE hw (by omega)).1 fl_X7_93 ?_
  rcases (show M (32 + 10 * p + 0) = 0 ∨ M (32 + 10 * p + 0) = 1 ∨ M (32 + 10 * p + 0) = 2 ∨ M (32 + 10 * p + 0) = 3 ∨ M (32 + 10 * p + 0) = 4 ∨ M (32 + 10 * p + 0) = 5 ∨ M (32 + 10 * p + 0) = 6 by omega) with e | e | e | e | e | e | e
  · rw [e]
    refine aw_tableOut C dX7_leave_53 (tgt := 169) (Or.inl (by decide +kernel)) (by decide) ?_
    refine aw_iload_5 C dX7_leave_169 ?_
    refine aw_iretI C hR dX7_leave_171 ?_
    exact ⟨by unfold leaveX leaveK; rw [e]; rfl, hF⟩
  · rw [e]
    refine aw_tableIn C dX7_leave_53 (tgt := 92) (by decide +kernel) (by decide +kernel) (off := 39) (by decide +kernel) (by decide) ?_
    refine aw_iload_5 C dX7_leave_92 ?_
    refine aw_aload_4 C dX7_leave_94 rfl ?_
    refine aw_g2_1 C (hRq.2.2.1.2 p hp).2.1 dX7_leave_96 (shWE hw (by omega)).1 fl_X7_96 ?_
    refine aw_iadd C dX7_leave_99  ?_
    refine aw_iload_2 C dX7_leave_100 ?_
    refine aw_iconst C dX7_leave_101 k1_2 ?_
    refine aw_irem_n C dX7_leave_102 (by omega) (by omega) (by omega) ?_
    refine aw_iconst C dX7_leave_103 k1_5 ?_
    refine aw_imul_n C dX7_leave_104  ?_
    rw [b5 b (by omega)]
    refine aw_isub C dX7_leave_105  ?_
    refine aw_iretI C hR dX7_leave_106 ?_
    exact ⟨by unfold leaveX leaveK; rw [e]; rfl, hF⟩
  · rw [e]
    refine aw_tableIn C dX7_leave_53 (tgt := 107) (by decide +kernel) (by decide +kernel) (off := 54) (by decide +kernel) (by decide) ?_
    refine aw_iload_5 C dX7_leave_107 ?_
    refine aw_iconst C dX7_leave_109 k1_2 ?_
    refine aw_idiv C dX7_leave_110 (by decide +kernel) ?_
    refine aw_iretI C hR dX7_leave_111 ?_
    exact ⟨by unfold leaveX leaveK; rw [e]; rfl, hF⟩
  · rw [e]
    refine aw_tableIn C dX7_leave_53 (tgt := 112) (by decide +kernel) (by decide +kernel) (off := 59) (by decide +kernel) (by decide) ?_
    refine aw_iload_5 C dX7_leave_112 ?_
    refine aw_iconst C dX7_leave_114 k1_2 ?_
    refine aw_iload_3 C dX7_leave_115 ?_
    refine aw_imul_n C dX7_leave_116  ?_
    refine aw_isub C dX7_leave_117  ?_
    refine aw_iretI C hR dX7_leave_118 ?_
    exact ⟨by unfold leaveX leaveK; rw [e]; rfl, hF⟩
  · rw [e]
    refine aw_tableIn C dX7_leave_53 (tgt := 119) (by decide +kernel) (by decide +kernel) (off := 66) (by decide +kernel) (by decide) ?_
    refine aw_iload_3 C dX7_leave_119 ?_
    refine aw_iconst C dX7_leave_120 k1_2 ?_
    refine aw_icmp_le_n C dX7_leave_121 (tgt := 128) (by decide) (by omega) (by omega) (fun c_121 => ?_) (fun c_121 => ?_)
    · skip
      refine aw_iload_5 C dX7_leave_128 ?_
      refine aw_aload_4 C dX7_leave_130 rfl ?_
      refine aw_g2_1 C (hRq.2.2.1.2 p hp).2.1 dX7_leave_132 (shWE hw (by omega)).1 fl_X7_96 ?_
      refine aw_iadd C dX7_leave_135  ?_
      refine aw_iload_2 C dX7_leave_136 ?_
      refine aw_iconst C dX7_leave_137 k1_2 ?_
      refine aw_irem_n C dX7_leave_138 (by omega) (by omega) (by omega) ?_
      refine aw_iconst C dX7_leave_139 k1_5 ?_
      refine aw_imul_n C dX7_leave_140  ?_
      rw [b5 b (by omega)]
      refine aw_isub C dX7_leave_141  ?_
      refine aw_iretI C hR dX7_leave_142 ?_
      exact ⟨by unfold leaveX leaveK; rw [e]; exact (if_neg (by omega)).symm, hF⟩
    · skip
      refine aw_iconst C dX7_leave_124 k1_0 ?_
      refine aw_goto C dX7_leave_125 (tgt := 142) (by decide) ?_
      refine aw_iretI C hR dX7_leave_142 ?_
      exact ⟨by unfold leaveX leaveK; rw [e]; exact (if_pos (by omega)).symm, hF⟩
  · rw [e]
    refine aw_tableIn C dX7_leave_53 (tgt := 143) (by decide +kernel) (by decide +kernel) (off := 90) (by decide +kernel) (by decide) ?_
    refine aw_iload_5 C dX7_leave_143 ?_
    refine aw_iconst C dX7_leave_145 k1_2 ?_
    refine aw_idiv C dX7_leave_146 (by decide +kernel) ?_
    refine aw_iconst C dX7_leave_147 k1_2 ?_
    refine aw_iadd C dX7_leave_148  ?_
    refine aw_iretI C hR dX7_leave_149 ?_
    exact ⟨by unfold leaveX leaveK; rw [e]; rfl, hF⟩
  · rw [e]
    refine aw_tableIn C dX7_leave_53 (tgt := 150) (by decide +kernel) (by decide +kernel) (off := 97) (by decide +kernel) (by decide) ?_
    refine aw_iload_5 C dX7_leave_150 ?_
    refine aw_iconst C dX7_leave_152 k1_2 ?_
    refine aw_iload_3 C dX7_leave_153 ?_
    refine aw_imul_n C dX7_leave_154  ?_
    refine aw_isub C dX7_leave_155  ?_
    refine aw_aload_4 C dX7_leave_156 rfl ?_
    refine aw_g2_6 C dX7_leave_158 (shWE hw (by omega)).1 fl_X7_105 ?_
    refine aw_iload_2 C dX7_leave_161 ?_
    refine aw_iconst C dX7_leave_162 k1_4 ?_
    refine aw_irem_n C dX7_leave_163 (by omega) (by omega) (by omega) ?_
    refine aw_iald C _ ((hRq.2.2.1.2 p hp).2.2.2.2.2.2 (b % 4) (by omega)) dX7_leave_164 (shWE hw (by omega)).2 rfl (by omega) ?_
    refine aw_iadd C dX7_leave_165  ?_
    refine aw_iconst C dX7_leave_166 k1_4 ?_
    refine aw_isub C dX7_leave_167  ?_
    refine aw_iretI C hR dX7_leave_168 ?_
    exact ⟨by unfold leaveX leaveK; rw [e]; rfl, hF⟩

set_option maxRecDepth 100000 in
set_option maxHeartbeats 4000000 in
theorem s_X7_leave_1 {G : GT} {q : S_} {M : Nat → Nat} (w : Nat) {cts : Nat → List Nat} {N : Nat} (p b n : Nat) (hw : isW w) (h : RelW q w M) (hW : WF M) (hC : CyR q cts N) (hN : M 95 ≤ N) (hN6 : N ≤ 6) (hG : Goo M cts) (hp : p < M 92) (hb : b < 8) (hn : n ≤ 8) (h0 : M 95 ≠ 0) : Spec G 2 yX7_leave cX7_leave 6 (some .int) [rfn G w, .int (nI p), .int (nI b), .int (nI n)] q (PI (fun r q3 => r = leaveX M cts p b n ∧ Fr SFk q q3)) := by
  refine Spec.intro RX7 (by decide) rfl (Nat.le_of_ble_eq_true rfl) [some (rfn G w), some (.int (nI p)), some (.int (nI b)), some (.int (nI n)), none, none] rfl ?_
  intro X d hd C hR
  have hc := hW.c
  have hpp := hW.p hp
  have hR1 := h.2.2.1.2 p hp
  have hCi := hC (M 95 - 1) (by omega)
  refine aw_aload_0 C dX7_leave_0 rfl ?_
  refine aw_g7_6 C dX7_leave_1 (shW0 hw) fl_X7_23 ?_
  refine aw_iload_1 C dX7_leave_4 ?_
  refine aw_pald C _ dX7_leave_5 (shW4 hw) rfl (by omega) ?_
  refine aw_astore_4 C dX7_leave_6 (by decide) (fun w h => by cases h <;> rfl) rfl ?_
  refine aw_aload_0 C dX7_leave_8 rfl ?_
  refine aw_g7_8 C dX7_leave_9 (shW0 hw) fl_X7_66 ?_
  rw [h.2.2.2.2.1, (rv_c G h0 (by omega))]
  refine aw_ifnonnull C dX7_leave_12 (tgt := 19) (by decide) rfl ?_
  refine aw_aload_0 C dX7_leave_19 rfl ?_
  refine aw_g7_8 C dX7_leave_20 (shW0 hw) fl_X7_66 ?_
  rw [h.2.2.2.2.1, (rv_c G h0 (by omega))]
  refine aw_iload_1 C dX7_leave_23 ?_
  refine aw_aload_4 C dX7_leave_24 rfl ?_
  refine aw_g2_0 C hR1.1 dX7_leave_26 (shWE hw (by omega)).1 fl_X7_93 ?_
  refine aw_aload_4 C dX7_leave_29 rfl ?_
  refine aw_g2_1 C hR1.2.1 dX7_leave_31 (shWE hw (by omega)).1 fl_X7_96 ?_
  refine aw_iload_2 C dX7_leave_34 ?_
  refine aw_iload_3 C dX7_leave_35 ?_
  refine aw_aload_0 C dX7_leave_36 rfl ?_
  refine aw_g7_7 C h.2.2.2.1 dX7_leave_37 (shW0 hw) fl_X7_63 ?_
  refine aw_bipush C dX7_leave_40 k2_10 ?_
  refine aw_irem_n C dX7_leave_42 (by omega) (by omega) (by omega) ?_
  refine aw_cV6I C (s_X1_sum (nm := nmN M p b n) (99 + 3 * (M 95 - 1)) (shCi (by omega)) hCi.2 (clsM_v _ _ _ _) (clsM_okR _ _ _ _ (hG (M 95 - 1) (by omega)).1).1 (fun j hj => by
    have : j = 0 ∨ j = 1 ∨ j = 2 ∨ j = 3 ∨ j = 4 ∨ j = 5 := by omega
    rcases this with rfl | rfl | rfl | rfl | rfl | rfl
    · show p < 2 ^ 31; omega
    · show M (32 + 10 * p + 0) < 2 ^ 31; omega
    · show M (32 + 10 * p + 1) < 2 ^ 31; omega
    · show b < 2 ^ 31; omega
    · show n < 2 ^ 31; omega
    · show M 94 % 10 < 2 ^ 31; omega)) mf_X1_sum mv_X1_sum (shCi (show M 95 - 1 < 6 by omega)).1 rfl ml_X7_99 dX7_leave_43 (by omega) (Nat.le_of_ble_eq_true rfl) (fun r_43 q_43 h_43 => ?_)
  obtain ⟨rfl, hF0⟩ := h_43
  have hF : Fr SFk q q_43 := hF0.mono (fun k j z => by unfold SFk; omega)
  have hRq : RelW q_43 w M := h.t hW (fun k j z1 z2 => hF.2 k j (by unfold SFk; have := hw.b; rcases hw with y | y | y <;> omega))
  rw [show evS (fun j => nI (nmN M p b n j)) (codesOf (cts (M 95 - 1))) [] (nI 3) = sumX M cts p b n from by
    unfold sumX
    rw [if_neg h0]
    refine evS_congr (fun j hj => ?_) _ _ _ (clsM_ok _ _ _ _)
    have : j = 0 ∨ j = 1 ∨ j = 2 ∨ j = 3 ∨ j = 4 ∨ j = 5 := by omega
    rcases this with rfl | rfl | rfl | rfl | rfl | rfl <;> rfl]
  refine aw_istore_5 C dX7_leave_46 (by decide) (fun w h => by cases h <;> rfl) ?_
  refine aw_aload_4 C dX7_leave_48 rfl ?_
  refine aw_g2_0 C (hRq.2.2.1.2 p hp).1 dX7_leave_50 (shWE hw (by omega)).1 fl_X7_93 ?_
  rcases (show M (32 + 10 * p + 0) = 0 ∨ M (32 + 10 * p + 0) = 1 ∨ M (32 + 10 * p + 0) = 2 ∨ M (32 + 10 * p + 0) = 3 ∨ M (32 + 10 * p + 0) = 4 ∨ M (32 + 10 * p + 0) = 5 ∨ M (32 + 10 * p + 0) = 6 by omega) with e | e | e | e | e | e | e
  · rw [e]
    refine aw_tableOut C dX7_leave_53 (tgt := 169) (Or.inl (by decide +kernel)) (by decide) ?_
    refine aw_iload_5 C dX7_leave_169 ?_
    refine aw_iretI C hR dX7_leave_171 ?_
    exact ⟨by unfold leaveX leaveK; rw [e]; rfl, hF⟩
  · rw [e]
    refine aw_tableIn C dX7_leave_53 (tgt := 92) (by decide +kernel) (by decide +kernel) (off := 39) (by decide +kernel) (by decide) ?_
    refine aw_iload_5 C dX7_leave_92 ?_
    refine aw_aload_4 C dX7_leave_94 rfl ?_
    refine aw_g2_1 C (hRq.2.2.1.2 p hp).2.1 dX7_leave_96 (shWE hw (by omega)).1 fl_X7_96 ?_
    refine aw_iadd C dX7_leave_99  ?_
    refine aw_iload_2 C dX7_leave_100 ?_
    refine aw_iconst C dX7_leave_101 k1_2 ?_
    refine aw_irem_n C dX7_leave_102 (by omega) (by omega) (by omega) ?_
    refine aw_iconst C dX7_leave_103 k1_5 ?_
    refine aw_imul_n C dX7_leave_104  ?_
    rw [b5 b (by omega)]
    refine aw_isub C dX7_leave_105  ?_
    refine aw_iretI C hR dX7_leave_106 ?_
    exact ⟨by unfold leaveX leaveK; rw [e]; rfl, hF⟩
  · rw [e]
    refine aw_tableIn C dX7_leave_53 (tgt := 107) (by decide +kernel) (by decide +kernel) (off := 54) (by decide +kernel) (by decide) ?_
    refine aw_iload_5 C dX7_leave_107 ?_
    refine aw_iconst C dX7_leave_109 k1_2 ?_
    refine aw_idiv C dX7_leave_110 (by decide +kernel) ?_
    refine aw_iretI C hR dX7_leave_111 ?_
    exact ⟨by unfold leaveX leaveK; rw [e]; rfl, hF⟩
  · rw [e]
    refine aw_tableIn C dX7_leave_53 (tgt := 112) (by decide +kernel) (by decide +kernel) (off := 59) (by decide +kernel) (by decide) ?_
    refine aw_iload_5 C dX7_leave_112 ?_
    refine aw_iconst C dX7_leave_114 k1_2 ?_
    refine aw_iload_3 C dX7_leave_115 ?_
    refine aw_imul_n C dX7_leave_116  ?_
    refine aw_isub C dX7_leave_117  ?_
    refine aw_iretI C hR dX7_leave_118 ?_
    exact ⟨by unfold leaveX leaveK; rw [e]; rfl, hF⟩
  · rw [e]
    refine aw_tableIn C dX7_leave_53 (tgt := 119) (by decide +kernel) (by decide +kernel) (off := 66) (by decide +kernel) (by decide) ?_
    refine aw_iload_3 C dX7_leave_119 ?_
    refine aw_iconst C dX7_leave_120 k1_2 ?_
    refine aw_icmp_le_n C dX7_leave_121 (tgt := 128) (by decide) (by omega) (by omega) (fun c_121 => ?_) (fun c_121 => ?_)
    · skip
      refine aw_iload_5 C dX7_leave_128 ?_
      refine aw_aload_4 C dX7_leave_130 rfl ?_
      refine aw_g2_1 C (hRq.2.2.1.2 p hp).2.1 dX7_leave_132 (shWE hw (by omega)).1 fl_X7_96 ?_
      refine aw_iadd C dX7_leave_135  ?_
      refine aw_iload_2 C dX7_leave_136 ?_
      refine aw_iconst C dX7_leave_137 k1_2 ?_
      refine aw_irem_n C dX7_leave_138 (by omega) (by omega) (by omega) ?_
      refine aw_iconst C dX7_leave_139 k1_5 ?_
      refine aw_imul_n C dX7_leave_140  ?_
      rw [b5 b (by omega)]
      refine aw_isub C dX7_leave_141  ?_
      refine aw_iretI C hR dX7_leave_142 ?_
      exact ⟨by unfold leaveX leaveK; rw [e]; exact (if_neg (by omega)).symm, hF⟩
    · skip
      refine aw_iconst C dX7_leave_124 k1_0 ?_
      refine aw_goto C dX7_leave_125 (tgt := 142) (by decide) ?_
      refine aw_iretI C hR dX7_leave_142 ?_
      exact ⟨by unfold leaveX leaveK; rw [e]; exact (if_pos (by omega)).symm, hF⟩
  · rw [e]
    refine aw_tableIn C dX7_leave_53 (tgt := 143) (by decide +kernel) (by decide +kernel) (off := 90) (by decide +kernel) (by decide) ?_
    refine aw_iload_5 C dX7_leave_143 ?_
    refine aw_iconst C dX7_leave_145 k1_2 ?_
    refine aw_idiv C dX7_leave_146 (by decide +kernel) ?_
    refine aw_iconst C dX7_leave_147 k1_2 ?_
    refine aw_iadd C dX7_leave_148  ?_
    refine aw_iretI C hR dX7_leave_149 ?_
    exact ⟨by unfold leaveX leaveK; rw [e]; rfl, hF⟩
  · rw [e]
    refine aw_tableIn C dX7_leave_53 (tgt := 150) (by decide +kernel) (by decide +kernel) (off := 97) (by decide +kernel) (by decide) ?_
    refine aw_iload_5 C dX7_leave_150 ?_
    refine aw_iconst C dX7_leave_152 k1_2 ?_
    refine aw_iload_3 C dX7_leave_153 ?_
    refine aw_imul_n C dX7_leave_154  ?_
    refine aw_isub C dX7_leave_155  ?_
    refine aw_aload_4 C dX7_leave_156 rfl ?_
    refine aw_g2_6 C dX7_leave_158 (shWE hw (by omega)).1 fl_X7_105 ?_
    refine aw_iload_2 C dX7_leave_161 ?_
    refine aw_iconst C dX7_leave_162 k1_4 ?_
    refine aw_irem_n C dX7_leave_163 (by omega) (by omega) (by omega) ?_
    refine aw_iald C _ ((hRq.2.2.1.2 p hp).2.2.2.2.2.2 (b % 4) (by omega)) dX7_leave_164 (shWE hw (by omega)).2 rfl (by omega) ?_
    refine aw_iadd C dX7_leave_165  ?_
    refine aw_iconst C dX7_leave_166 k1_4 ?_
    refine aw_isub C dX7_leave_167  ?_
    refine aw_iretI C hR dX7_leave_168 ?_
    exact ⟨by unfold leaveX leaveK; rw [e]; rfl, hF⟩

theorem s_X7_leave {G : GT} {q : S_} {M : Nat → Nat} (w : Nat) {cts : Nat → List Nat} {N : Nat} (p b n : Nat) (hw : isW w) (h : RelW q w M) (hW : WF M) (hC : CyR q cts N) (hN : M 95 ≤ N) (hN6 : N ≤ 6) (hG : Goo M cts) (hp : p < M 92) (hb : b < 8) (hn : n ≤ 8) : Spec G 2 yX7_leave cX7_leave 6 (some .int) [rfn G w, .int (nI p), .int (nI b), .int (nI n)] q (PI (fun r q3 => r = leaveX M cts p b n ∧ Fr SFk q q3)) := by
  by_cases h0 : M 95 = 0
  · exact s_X7_leave_0 w p b n hw h hW hC hN hN6 hG hp hb hn h0
  · exact s_X7_leave_1 w p b n hw h hW hC hN hN6 hG hp hb hn h0
theorem lost_b {M : Nat → Nat} {b : Nat} (hb : b < M 93) : (lostM M / 2 ^ b &&& 1) = 0 ↔ M (4 * b + 3) ≠ 1 := by
  have h := bsum_div (f_toldS M) hb
  rw [Nat.and_one_is_mod]
  show bsum (f_toldS M) (M 93) / 2 ^ b % 2 = 0 ↔ ¬ f_toldS M b
  rw [← h]
  omega

set_option maxRecDepth 100000 in
set_option maxHeartbeats 4000000 in
theorem s_X7_mayCross {G : GT} {q : S_} {M : Nat → Nat} (w : Nat) {cts : Nat → List Nat} {N : Nat} (p b n : Nat) (hw : isW w) (h : RelW q w M) (hW : WF M) (hC : CyR q cts N) (hN : M 95 ≤ N) (hN6 : N ≤ 6) (hG : Goo M cts) (hp : p < M 92) (hb : b < M 93) (hn : n ≤ 8) : Spec G 3 yX7_mayCross cX7_mayCross 5 (some .boolean) [rfn G w, .int (nI p), .int (nI b), .int (nI n)] q (PI (fun r q3 => r = bP (mayX M cts p n b) ∧ Fr SFk q q3)) := by
  refine Spec.intro RX7 (by decide) rfl (Nat.le_of_ble_eq_true rfl) [some (rfn G w), some (.int (nI p)), some (.int (nI b)), some (.int (nI n)), none] rfl ?_
  intro X d hd C hR
  have hc := hW.c
  have hpp := hW.p hp
  have hR1 := h.2.2.1.2 p hp
  have hl := lostM_lt M
  have hpw := pow_nb hc.1
  refine aw_aload_0 C dX7_mayCross_0 rfl ?_
  refine aw_g7_4 C h.2.1 dX7_mayCross_1 (shW0 hw) fl_X7_53 ?_
  refine aw_iload_2 C dX7_mayCross_4 ?_
  refine aw_ishr_n C dX7_mayCross_5 (by omega) (by omega) ?_
  refine aw_iconst C dX7_mayCross_6 k1_1 ?_
  refine aw_iand_n C dX7_mayCross_7  ?_
  refine aw_if_eq_n C dX7_mayCross_8 (tgt := 24) (by decide) (by rw [Nat.and_one_is_mod]; omega) (fun c_8 => ?_) (fun c_8 => ?_)
  · have c8 := (lost_b hb).mp c_8
    refine aw_iconst C dX7_mayCross_24 k1_1 ?_
    refine aw_goto C dX7_mayCross_25 (tgt := 29) (by decide) ?_
    refine aw_istore_4 C dX7_mayCross_29 (by decide) (fun w h => by cases h <;> rfl) ?_
    refine aw_iload_4 C dX7_mayCross_31 ?_
    refine aw_if_eq_n C dX7_mayCross_33 (tgt := 51) (by decide) (by omega) (fun c_33 => absurd c_33 (by decide)) (fun c_33 => ?_)
    refine aw_aload_0 C dX7_mayCross_36 rfl ?_
    refine aw_iload_1 C dX7_mayCross_37 ?_
    refine aw_iload_2 C dX7_mayCross_38 ?_
    refine aw_iload_3 C dX7_mayCross_39 ?_
    refine aw_cV3I C (s_X7_leave w p b n hw h hW hC hN hN6 hG hp (by omega) hn) mf_X7_leave mv_X7_leave (shW0 hw) rfl ml_X7_108 dX7_mayCross_40 (by omega) (Nat.le_of_ble_eq_true rfl) (fun r_40 q_40 h_40 => ?_)
    obtain ⟨rfl, hF⟩ := h_40
    refine aw_iconst C dX7_mayCross_43 k1_1 ?_
    refine aw_icmp_lt C dX7_mayCross_44 (tgt := 51) (by decide)  (fun c_44 => ?_) (fun c_44 => ?_)
    · skip
      refine aw_iconst C dX7_mayCross_51 k1_0 ?_
      refine aw_iretZ C hR dX7_mayCross_52 (by rfl) ?_
      exact ⟨(bP_f (fun z => z.2 c_44)).symm, hF⟩
    · skip
      refine aw_iconst C dX7_mayCross_47 k1_1 ?_
      refine aw_goto C dX7_mayCross_48 (tgt := 52) (by decide) ?_
      refine aw_iretZ C hR dX7_mayCross_52 (by rfl) ?_
      exact ⟨(bP_t ⟨Or.inl c8, c_44⟩).symm, hF⟩
  · have c8 : ¬ M (4 * b + 3) ≠ 1 := fun z => c_8 ((lost_b hb).mpr z)
    refine aw_aload_0 C dX7_mayCross_11 rfl ?_
    refine aw_g7_6 C dX7_mayCross_12 (shW0 hw) fl_X7_23 ?_
    refine aw_iload_1 C dX7_mayCross_15 ?_
    refine aw_pald C _ dX7_mayCross_16 (shW4 hw) rfl (by omega) ?_
    refine aw_g2_0 C hR1.1 dX7_mayCross_17 (shWE hw (by omega)).1 fl_X7_93 ?_
    refine aw_iconst C dX7_mayCross_20 k1_5 ?_
    refine aw_icmp_ne_n C dX7_mayCross_21 (tgt := 28) (by decide) (by omega) (by omega) (fun c_21 => ?_) (fun c_21 => ?_)
    · skip
      refine aw_iconst C dX7_mayCross_28 k1_0 ?_
      refine aw_istore_4 C dX7_mayCross_29 (by decide) (fun w h => by cases h <;> rfl) ?_
      refine aw_iload_4 C dX7_mayCross_31 ?_
      refine aw_if_eq_n C dX7_mayCross_33 (tgt := 51) (by decide) (by omega) (fun c_33 => ?_) (fun c_33 => absurd c_33 (fun z => z rfl))
      refine aw_iconst C dX7_mayCross_51 k1_0 ?_
      refine aw_iretZ C hR dX7_mayCross_52 (by rfl) ?_
      exact ⟨(bP_f (fun z => z.1.elim c8 c_21)).symm, Fr.rf⟩
    · skip
      refine aw_iconst C dX7_mayCross_24 k1_1 ?_
      refine aw_goto C dX7_mayCross_25 (tgt := 29) (by decide) ?_
      refine aw_istore_4 C dX7_mayCross_29 (by decide) (fun w h => by cases h <;> rfl) ?_
      refine aw_iload_4 C dX7_mayCross_31 ?_
      refine aw_if_eq_n C dX7_mayCross_33 (tgt := 51) (by decide) (by omega) (fun c_33 => absurd c_33 (by decide)) (fun c_33 => ?_)
      refine aw_aload_0 C dX7_mayCross_36 rfl ?_
      refine aw_iload_1 C dX7_mayCross_37 ?_
      refine aw_iload_2 C dX7_mayCross_38 ?_
      refine aw_iload_3 C dX7_mayCross_39 ?_
      refine aw_cV3I C (s_X7_leave w p b n hw h hW hC hN hN6 hG hp (by omega) hn) mf_X7_leave mv_X7_leave (shW0 hw) rfl ml_X7_108 dX7_mayCross_40 (by omega) (Nat.le_of_ble_eq_true rfl) (fun r_40 q_40 h_40 => ?_)
      obtain ⟨rfl, hF⟩ := h_40
      refine aw_iconst C dX7_mayCross_43 k1_1 ?_
      refine aw_icmp_lt C dX7_mayCross_44 (tgt := 51) (by decide)  (fun c_44 => ?_) (fun c_44 => ?_)
      · skip
        refine aw_iconst C dX7_mayCross_51 k1_0 ?_
        refine aw_iretZ C hR dX7_mayCross_52 (by rfl) ?_
        exact ⟨(bP_f (fun z => z.2 c_44)).symm, hF⟩
      · skip
        refine aw_iconst C dX7_mayCross_47 k1_1 ?_
        refine aw_goto C dX7_mayCross_48 (tgt := 52) (by decide) ?_
        refine aw_iretZ C hR dX7_mayCross_52 (by rfl) ?_
        exact ⟨(bP_t ⟨Or.inr c_21, c_44⟩).symm, hF⟩
