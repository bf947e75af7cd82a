/-! THE CLASS'S ACTS -/
def ATr (q : S_) (s : TR) : Prop := gI q 97 1 = nI s.1 ∧ ∀ j, j < s.1 → j < 20 → gI q 98 j = s.2 j
def AKn (q : S_) (kd v i : Nat) : Prop := gI q 97 2 = nI kd ∧ gI q 97 3 = nI v ∧ gI q 97 4 = nI i
def SAc (k j : Nat) : Prop := k = 98 ∨ (k = 97 ∧ j = 1)
theorem AKn.fr {q q2 : S_} {kd v i : Nat} (h : AKn q kd v i) (hf : Fr SAc q q2) : AKn q2 kd v i := ⟨(hf.2 _ _ (by unfold SAc; omega)).trans h.1, (hf.2 _ _ (by unfold SAc; omega)).trans h.2.1, (hf.2 _ _ (by unfold SAc; omega)).trans h.2.2⟩
def PAc (z : Int32 × TR) (q : S_) : Int32 → S_ → Prop := fun r q3 => r = z.1 ∧ ATr q3 z.2 ∧ Fr SAc q q3
def RPe (G : GT) (kd v i F : Nat) : Prop := ∀ (q : S_) (s : TR) (fk a dp : Nat) (x : Int32), AKn q kd v i → ATr q s → fk < 7 → a < 3 → rk fk a < F → s.1 + cnF kd F fk a < 2 ^ 20 → dp + F ≤ 40 → Spec G (2 * F + 1) yX0_perform cX0_perform 7 (some .int) [rfn G 97, .int (nI fk), .int (nI a), .int x, .int (nI dp)] q (PI (PAc (acF kd v i F fk a x s) q))

set_option maxRecDepth 100000 in
set_option maxHeartbeats 4000000 in
theorem s_X0_answer_s {G : GT} {F kd v i : Nat} (HP : RPe G kd v i F) {q : S_} (s : TR) (h a dp : Nat) (x : Int32) (hK : AKn q kd v i) (hT : ATr q s) (hkd : kd < 7) (hh : h < 7) (ha : a < 3) (hnz : bdT (3 * h + a) ≠ 0) (hr : rk h a < F + 1) (hs : s.1 + cnB kd (cnF kd F) h a < 2 ^ 20 + 1) (hdp : dp + F ≤ 40) : Spec G (2 * F + 2) yX0_answer cX0_answer 5 (some .int) [rfn G 97, .int (nI (bdT (3 * h + a))), .int (cdk (abN h)), .int x, .int (nI dp)] q (PI (PAc (acB kd v i (acF kd v i F) h a x s) q)) := by
  refine Spec.intro RX0 (by decide) rfl (Nat.le_of_ble_eq_true rfl) [some (rfn G 97), some (.int (nI (bdT (3 * h + a)))), some (.int (cdk (abN h))), some (.int x), some (.int (nI dp))] rfl ?_
  intro X d hd C hR
  refine aw_iload_1 C dX0_answer_0 ?_
  rcases bd_cases h hh a ha hnz with e | e | e | e | e | e | e | e | e | e | e
  · rw [e]
    refine aw_lookup C dX0_answer_1 (by decide +kernel) (off := 99) (by decide +kernel) (tgt := 100) (by decide) ?_
    have hup := up_10 h hh a ha e
    rw [cnB_10 e] at hs
    refine aw_iload_3 C dX0_answer_100 ?_
    refine aw_aload_0 C dX0_answer_101 rfl ?_
    refine aw_g0_4 C hK.2.2 dX0_answer_102 fl_X0_26 ?_
    refine aw_iadd C dX0_answer_105  ?_
    refine aw_iretI C hR dX0_answer_106 ?_
    rw [acB_10 e]
    exact ⟨rfl, hT, Fr.rf⟩
  · rw [e]
    refine aw_lookup C dX0_answer_1 (by decide +kernel) (off := 106) (by decide +kernel) (tgt := 107) (by decide) ?_
    have hup := up_11 h hh a ha e
    rw [cnB_11 e] at hs
    refine aw_aload_0 C dX0_answer_107 rfl ?_
    refine aw_aload_0 C dX0_answer_108 rfl ?_
    refine aw_g0_2 C hK.1 dX0_answer_109 fl_X0_21 ?_
    refine aw_iconst C dX0_answer_112 k1_0 ?_
    refine aw_iload_3 C dX0_answer_113 ?_
    refine aw_iload_4 C dX0_answer_114 ?_
    refine aw_cV4I C (HP _ _ kd 0 dp x hK hT hkd (by decide) (by unfold rk at hr ⊢; have := dpk_4 kd; omega) (by omega) (by omega)) mf_X0_perform mv_X0_perform (sh_97) rfl ml_X0_32 dX0_answer_116 (by omega) (Nat.le_of_ble_eq_true rfl) (fun r_116 q_116 h_116 => ?_)
    obtain ⟨rfl, hT116, hF116⟩ := h_116
    have hK116 := hK.fr hF116
    refine aw_aload_0 C dX0_answer_119 rfl ?_
    refine aw_g0_3 C hK116.2.1 dX0_answer_120 fl_X0_25 ?_
    refine aw_isub C dX0_answer_123  ?_
    refine aw_iretI C hR dX0_answer_124 ?_
    rw [acB_11 e]
    exact ⟨rfl, hT116, hF116⟩
  · rw [e]
    refine aw_lookup C dX0_answer_1 (by decide +kernel) (off := 124) (by decide +kernel) (tgt := 125) (by decide) ?_
    have hup := up_12 h hh a ha e
    rw [cnB_12 e] at hs
    refine aw_aload_0 C dX0_answer_125 rfl ?_
    refine aw_aload_0 C dX0_answer_126 rfl ?_
    refine aw_g0_2 C hK.1 dX0_answer_127 fl_X0_21 ?_
    refine aw_iconst C dX0_answer_130 k1_1 ?_
    refine aw_iload_3 C dX0_answer_131 ?_
    refine aw_iload_4 C dX0_answer_132 ?_
    refine aw_cV4I C (HP _ _ kd 1 dp x hK hT hkd (by decide) (by unfold rk at hr ⊢; have := dpk_4 kd; omega) (by omega) (by omega)) mf_X0_perform mv_X0_perform (sh_97) rfl ml_X0_32 dX0_answer_134 (by omega) (Nat.le_of_ble_eq_true rfl) (fun r_134 q_134 h_134 => ?_)
    obtain ⟨rfl, hT134, hF134⟩ := h_134
    have hK134 := hK.fr hF134
    refine aw_iconst C dX0_answer_137 k1_2 ?_
    refine aw_imul C dX0_answer_138  ?_
    refine aw_iretI C hR dX0_answer_139 ?_
    rw [acB_12 e]
    exact ⟨rfl, hT134, hF134⟩
  · rw [e]
    refine aw_lookup C dX0_answer_1 (by decide +kernel) (off := 139) (by decide +kernel) (tgt := 140) (by decide) ?_
    have hup := up_20 h hh a ha e
    rw [cnB_20 e] at hs
    rw [show cdk (abN h) = nI (abN h) from if_neg (by omega)]
    refine aw_aload_0 C dX0_answer_140 rfl ?_
    refine aw_iload_2 C dX0_answer_141 ?_
    refine aw_iconst C dX0_answer_142 k1_1 ?_
    refine aw_iload_3 C dX0_answer_143 ?_
    refine aw_iload_4 C dX0_answer_144 ?_
    refine aw_cV4I C (HP _ _ (abN h) 1 dp x hK hT hup.2.1 (by decide) (by unfold rk at hr ⊢; omega) (by omega) (by omega)) mf_X0_perform mv_X0_perform (sh_97) rfl ml_X0_32 dX0_answer_146 (by omega) (Nat.le_of_ble_eq_true rfl) (fun r_146 q_146 h_146 => ?_)
    obtain ⟨rfl, hT146, hF146⟩ := h_146
    have hK146 := hK.fr hF146
    refine aw_bipush C dX0_answer_149 k2_6 ?_
    refine aw_ixor C dX0_answer_151  ?_
    refine aw_iretI C hR dX0_answer_152 ?_
    rw [acB_20 e]
    exact ⟨rfl, hT146, hF146⟩
  · rw [e]
    refine aw_lookup C dX0_answer_1 (by decide +kernel) (off := 152) (by decide +kernel) (tgt := 153) (by decide) ?_
    have hup := up_30 h hh a ha e
    rw [cnB_30 e] at hs
    rw [show cdk (abN h) = nI (abN h) from if_neg (by omega)]
    refine aw_aload_0 C dX0_answer_153 rfl ?_
    refine aw_iload_2 C dX0_answer_154 ?_
    refine aw_iconst C dX0_answer_155 k1_0 ?_
    refine aw_iload_3 C dX0_answer_156 ?_
    refine aw_iconst C dX0_answer_157 k1_3 ?_
    refine aw_imul C dX0_answer_158  ?_
    refine aw_iload_4 C dX0_answer_159 ?_
    refine aw_cV4I C (HP _ _ (abN h) 0 dp (x * nI 3) hK hT hup.2.1 (by decide) (by unfold rk at hr ⊢; omega) (by omega) (by omega)) mf_X0_perform mv_X0_perform (sh_97) rfl ml_X0_32 dX0_answer_161 (by omega) (Nat.le_of_ble_eq_true rfl) (fun r_161 q_161 h_161 => ?_)
    obtain ⟨rfl, hT161, hF161⟩ := h_161
    have hK161 := hK.fr hF161
    refine aw_iretI C hR dX0_answer_164 ?_
    rw [acB_30 e]
    exact ⟨rfl, hT161, hF161⟩
  · rw [e]
    refine aw_lookup C dX0_answer_1 (by decide +kernel) (off := 164) (by decide +kernel) (tgt := 165) (by decide) ?_
    have hup := up_40 h hh a ha e
    rw [cnB_40 e] at hs
    rw [show cdk (abN h) = nI (abN h) from if_neg (by omega)]
    refine aw_aload_0 C dX0_answer_165 rfl ?_
    refine aw_iload_2 C dX0_answer_166 ?_
    refine aw_iconst C dX0_answer_167 k1_2 ?_
    refine aw_iload_3 C dX0_answer_168 ?_
    refine aw_iload_4 C dX0_answer_169 ?_
    refine aw_cV4I C (HP _ _ (abN h) 2 dp x hK hT hup.2.1 (by decide) (by unfold rk at hr ⊢; omega) (by omega) (by omega)) mf_X0_perform mv_X0_perform (sh_97) rfl ml_X0_32 dX0_answer_171 (by omega) (Nat.le_of_ble_eq_true rfl) (fun r_171 q_171 h_171 => ?_)
    obtain ⟨rfl, hT171, hF171⟩ := h_171
    have hK171 := hK.fr hF171
    refine aw_aload_0 C dX0_answer_174 rfl ?_
    refine aw_aload_0 C dX0_answer_175 rfl ?_
    refine aw_g0_2 C hK171.1 dX0_answer_176 fl_X0_21 ?_
    refine aw_iconst C dX0_answer_179 k1_1 ?_
    refine aw_iconst C dX0_answer_180 k1_1 ?_
    refine aw_iload_4 C dX0_answer_181 ?_
    refine aw_cV4I C (HP _ _ kd 1 dp (nI 1) hK171 hT171 hkd (by decide) (by unfold rk at hr ⊢; have := dpk_4 kd; omega) (by rw [acF_cn]; omega) (by omega)) mf_X0_perform mv_X0_perform (sh_97) rfl ml_X0_32 dX0_answer_183 (by omega) (Nat.le_of_ble_eq_true rfl) (fun r_183 q_183 h_183 => ?_)
    obtain ⟨rfl, hT183, hF183⟩ := h_183
    have hK183 := hK171.fr hF183
    refine aw_iadd C dX0_answer_186  ?_
    refine aw_iretI C hR dX0_answer_187 ?_
    rw [acB_40 e]
    exact ⟨rfl, hT183, (hF171.tr hF183)⟩
  · rw [e]
    refine aw_lookup C dX0_answer_1 (by decide +kernel) (off := 187) (by decide +kernel) (tgt := 188) (by decide) ?_
    have hup := up_50 h hh a ha e
    rw [cnB_50 e] at hs
    rw [show cdk (abN h) = nI (abN h) from if_neg (by omega)]
    refine aw_aload_0 C dX0_answer_188 rfl ?_
    refine aw_iload_2 C dX0_answer_189 ?_
    refine aw_iconst C dX0_answer_190 k1_0 ?_
    refine aw_iload_3 C dX0_answer_191 ?_
    refine aw_iload_4 C dX0_answer_192 ?_
    refine aw_cV4I C (HP _ _ (abN h) 0 dp x hK hT hup.2.1 (by decide) (by unfold rk at hr ⊢; omega) (by omega) (by omega)) mf_X0_perform mv_X0_perform (sh_97) rfl ml_X0_32 dX0_answer_194 (by omega) (Nat.le_of_ble_eq_true rfl) (fun r_194 q_194 h_194 => ?_)
    obtain ⟨rfl, hT194, hF194⟩ := h_194
    have hK194 := hK.fr hF194
    refine aw_ineg C dX0_answer_197 ?_
    refine aw_iretI C hR dX0_answer_198 ?_
    rw [acB_50 e]
    exact ⟨rfl, hT194, hF194⟩
  · rw [e]
    refine aw_lookup C dX0_answer_1 (by decide +kernel) (off := 198) (by decide +kernel) (tgt := 199) (by decide) ?_
    have hup := up_51 h hh a ha e
    rw [cnB_51 e] at hs
    rw [show cdk (abN h) = nI (abN h) from if_neg (by omega)]
    refine aw_aload_0 C dX0_answer_199 rfl ?_
    refine aw_iload_2 C dX0_answer_200 ?_
    refine aw_iconst C dX0_answer_201 k1_1 ?_
    refine aw_iload_3 C dX0_answer_202 ?_
    refine aw_iconst C dX0_answer_203 k1_1 ?_
    refine aw_iadd C dX0_answer_204  ?_
    refine aw_iload_4 C dX0_answer_205 ?_
    refine aw_cV4I C (HP _ _ (abN h) 1 dp (x + nI 1) hK hT hup.2.1 (by decide) (by unfold rk at hr ⊢; omega) (by omega) (by omega)) mf_X0_perform mv_X0_perform (sh_97) rfl ml_X0_32 dX0_answer_207 (by omega) (Nat.le_of_ble_eq_true rfl) (fun r_207 q_207 h_207 => ?_)
    obtain ⟨rfl, hT207, hF207⟩ := h_207
    have hK207 := hK.fr hF207
    refine aw_iretI C hR dX0_answer_210 ?_
    rw [acB_51 e]
    exact ⟨rfl, hT207, hF207⟩
  · rw [e]
    refine aw_lookup C dX0_answer_1 (by decide +kernel) (off := 210) (by decide +kernel) (tgt := 211) (by decide) ?_
    have hup := up_60 h hh a ha e
    rw [cnB_60 e] at hs
    rw [show cdk (abN h) = nI (abN h) from if_neg (by omega)]
    refine aw_aload_0 C dX0_answer_211 rfl ?_
    refine aw_iload_2 C dX0_answer_212 ?_
    refine aw_iconst C dX0_answer_213 k1_2 ?_
    refine aw_iload_3 C dX0_answer_214 ?_
    refine aw_aload_0 C dX0_answer_215 rfl ?_
    refine aw_g0_4 C hK.2.2 dX0_answer_216 fl_X0_26 ?_
    refine aw_isub C dX0_answer_219  ?_
    refine aw_iload_4 C dX0_answer_220 ?_
    refine aw_cV4I C (HP _ _ (abN h) 2 dp (x - nI i) hK hT hup.2.1 (by decide) (by unfold rk at hr ⊢; omega) (by omega) (by omega)) mf_X0_perform mv_X0_perform (sh_97) rfl ml_X0_32 dX0_answer_222 (by omega) (Nat.le_of_ble_eq_true rfl) (fun r_222 q_222 h_222 => ?_)
    obtain ⟨rfl, hT222, hF222⟩ := h_222
    have hK222 := hK.fr hF222
    refine aw_iretI C hR dX0_answer_225 ?_
    rw [acB_60 e]
    exact ⟨rfl, hT222, hF222⟩
  · rw [e]
    refine aw_lookup C dX0_answer_1 (by decide +kernel) (off := 225) (by decide +kernel) (tgt := 226) (by decide) ?_
    have hup := up_70 h hh a ha e
    rw [cnB_70 e] at hs
    rw [show cdk (abN h) = nI (abN h) from if_neg (by omega)]
    refine aw_aload_0 C dX0_answer_226 rfl ?_
    refine aw_iload_2 C dX0_answer_227 ?_
    refine aw_iconst C dX0_answer_228 k1_1 ?_
    refine aw_iload_3 C dX0_answer_229 ?_
    refine aw_iload_4 C dX0_answer_230 ?_
    refine aw_cV4I C (HP _ _ (abN h) 1 dp x hK hT hup.2.1 (by decide) (by unfold rk at hr ⊢; omega) (by omega) (by omega)) mf_X0_perform mv_X0_perform (sh_97) rfl ml_X0_32 dX0_answer_232 (by omega) (Nat.le_of_ble_eq_true rfl) (fun r_232 q_232 h_232 => ?_)
    obtain ⟨rfl, hT232, hF232⟩ := h_232
    have hK232 := hK.fr hF232
    refine aw_aload_0 C dX0_answer_235 rfl ?_
    refine aw_iload_2 C dX0_answer_236 ?_
    refine aw_iconst C dX0_answer_237 k1_0 ?_
    refine aw_iconst C dX0_answer_238 k1_2 ?_
    refine aw_iload_4 C dX0_answer_239 ?_
    refine aw_cV4I C (HP _ _ (abN h) 0 dp (nI 2) hK232 hT232 hup.2.1 (by decide) (by unfold rk at hr ⊢; omega) (by rw [acF_cn]; omega) (by omega)) mf_X0_perform mv_X0_perform (sh_97) rfl ml_X0_32 dX0_answer_241 (by omega) (Nat.le_of_ble_eq_true rfl) (fun r_241 q_241 h_241 => ?_)
    obtain ⟨rfl, hT241, hF241⟩ := h_241
    have hK241 := hK232.fr hF241
    refine aw_iadd C dX0_answer_244  ?_
    refine aw_iretI C hR dX0_answer_245 ?_
    rw [acB_70 e]
    exact ⟨rfl, hT241, (hF232.tr hF241)⟩
  · rw [e]
    refine aw_lookup C dX0_answer_1 (by decide +kernel) (off := 245) (by decide +kernel) (tgt := 246) (by decide) ?_
    have hup := up_71 h hh a ha e
    rw [cnB_71 e] at hs
    rw [show cdk (abN h) = nI (abN h) from if_neg (by omega)]
    refine aw_aload_0 C dX0_answer_246 rfl ?_
    refine aw_iload_2 C dX0_answer_247 ?_
    refine aw_iconst C dX0_answer_248 k1_0 ?_
    refine aw_iload_3 C dX0_answer_249 ?_
    refine aw_iload_4 C dX0_answer_250 ?_
    refine aw_cV4I C (HP _ _ (abN h) 0 dp x hK hT hup.2.1 (by decide) (by unfold rk at hr ⊢; omega) (by omega) (by omega)) mf_X0_perform mv_X0_perform (sh_97) rfl ml_X0_32 dX0_answer_252 (by omega) (Nat.le_of_ble_eq_true rfl) (fun r_252 q_252 h_252 => ?_)
    obtain ⟨rfl, hT252, hF252⟩ := h_252
    have hK252 := hK.fr hF252
    refine aw_aload_0 C dX0_answer_255 rfl ?_
    refine aw_g0_3 C hK252.2.1 dX0_answer_256 fl_X0_25 ?_
    refine aw_ixor C dX0_answer_259  ?_
    refine aw_iretI C hR dX0_answer_260 ?_
    rw [acB_71 e]
    exact ⟨rfl, hT252, hF252⟩

set_option maxRecDepth 100000 in
set_option maxHeartbeats 4000000 in
theorem s_X0_perform_s {G : GT} {F kd v i : Nat} (HP : RPe G kd v i F) {q : S_} (s : TR) (fk a dp : Nat) (x : Int32) (hK : AKn q kd v i) (hT : ATr q s) (hkd : kd < 7) (hfk : fk < 7) (ha : a < 3) (hr : rk fk a < F + 1) (hs : s.1 + cnF kd (F + 1) fk a < 2 ^ 20) (hdp : dp + (F + 1) ≤ 40) : Spec G (2 * F + 3) yX0_perform cX0_perform 7 (some .int) [rfn G 97, .int (nI fk), .int (nI a), .int x, .int (nI dp)] q (PI (PAc (acF kd v i (F + 1) fk a x s) q)) := by
  refine Spec.intro RX0 (by decide) rfl (Nat.le_of_ble_eq_true rfl) [some (rfn G 97), some (.int (nI fk)), some (.int (nI a)), some (.int x), some (.int (nI dp)), none, none] rfl ?_
  intro X d hd C hR
  refine aw_iload_1 C dX0_perform_0 ?_
  refine aw_istore_5 C dX0_perform_1 (by decide) (fun w h => by cases h <;> rfl) ?_
  refine aw_iconst C dX0_perform_3 k1_0 ?_
  refine aw_istore_6 C dX0_perform_4 (by decide) (fun w h => by cases h <;> rfl) ?_
  have L6 : ∀ (n2 k m : Nat), dpk k < n2 → m + dpk k ≤ 3 → k < 7 → hom fk a = hom k a → AW X G (q) 6 [some (rfn G 97), some (.int (nI fk)), some (.int (nI a)), some (.int x), some (.int (nI dp)), some (.int (nI k)), some (.int (nI m))] [] := by
    refine nat_loop (fun k m h1 h2 hk hkh => by omega) (fun n2 ih k m h1 h2 hk hkh => ?_)
    refine aw_iload_6 C dX0_perform_6 ?_
    refine aw_bipush C dX0_perform_8 k2_7 ?_
    refine aw_icmp_ge_n C dX0_perform_10 (tgt := 45) (by decide) (by omega) (by omega) (fun c_10 => absurd c_10 (by omega)) (fun c_10 => ?_)
    refine aw_iload_5 C dX0_perform_13 ?_
    refine aw_if_lt_n C dX0_perform_15 (by decide) (by omega) ?_
    refine aw_bodiesN C dX0_perform_18 ?_
    refine aw_iload_5 C dX0_perform_21 ?_
    refine aw_iconst C dX0_perform_23 k1_3 ?_
    refine aw_imul_n C dX0_perform_24  ?_
    refine aw_iload_2 C dX0_perform_25 ?_
    refine aw_iadd_n C dX0_perform_26  ?_
    refine aw_bodiesld C (k * 3 + a) dX0_perform_27 rfl (by omega) ?_
    rw [bdT_k _ (by omega), show k * 3 + a = 3 * k + a by omega]
    refine aw_if_ne_n C dX0_perform_28 (tgt := 45) (by decide) (by have := bdT_lt (3 * k + a) (by omega); omega) (fun c_28 => ?_) (fun c_28 => ?_)
    · have hke : hom fk a = k := hkh.trans (hom_e k hk a ha c_28)
      refine aw_iload_5 C dX0_perform_45 ?_
      refine aw_if_lt_n C dX0_perform_47 (by decide) (by omega) ?_
      refine aw_iload_4 C dX0_perform_50 ?_
      refine aw_bipush C dX0_perform_52 k2_40 ?_
      refine aw_icmp_le_n C dX0_perform_54 (tgt := 59) (by decide) (by omega) (by omega) (fun c_54 => ?_) (fun c_54 => absurd c_54 (by omega))
      refine aw_bodiesN C dX0_perform_59 ?_
      refine aw_iload_5 C dX0_perform_62 ?_
      refine aw_iconst C dX0_perform_64 k1_3 ?_
      refine aw_imul_n C dX0_perform_65  ?_
      refine aw_iload_2 C dX0_perform_66 ?_
      refine aw_iadd_n C dX0_perform_67  ?_
      refine aw_bodiesld C (k * 3 + a) dX0_perform_68 rfl (by omega) ?_
      rw [bdT_k _ (by omega), show k * 3 + a = 3 * k + a by omega]
      have hbl := bdT_lt (3 * k + a) (by omega)
      have hcn := cnF_s kd F fk a
      rw [hke] at hcn
      refine aw_istore_6 C dX0_perform_69 (by decide) (fun w h => by cases h <;> rfl) ?_
      refine aw_aload_0 C dX0_perform_71 rfl ?_
      refine aw_g0_1 C hT.1 dX0_perform_72 fl_X0_29 ?_
      refine aw_bipush C dX0_perform_75 k2_20 ?_
      have hq := cn_pos kd F fk a
      refine aw_icmp_ge_n C dX0_perform_77 (tgt := 91) (by decide) (by omega) (by omega) (fun c_77 => ?_) (fun c_77 => ?_)
      · skip
        refine aw_aload_0 C dX0_perform_91 rfl ?_
        refine aw_dup C dX0_perform_92 rfl ?_
        refine aw_g0_1 C hT.1 dX0_perform_93 fl_X0_29 ?_
        refine aw_iconst C dX0_perform_96 k1_1 ?_
        refine aw_iadd_n C dX0_perform_97  ?_
        refine aw_p0_1 C dX0_perform_98 fl_X0_29 ?_
        have hT1 : ATr (sI q 97 1 (nI (s.1 + 1))) (acS s (nI (bdT (3 * k + a)))) := by
          refine ⟨by rw [gI_sI, if_pos ⟨rfl, rfl⟩]; rfl, fun j hj h20 => ?_⟩
          rw [gI_sI, if_neg (by omega)]
          show _ = updN s.2 s.1 (nI (bdT (3 * k + a))) j
          rw [updN_ne (by omega)]
          exact hT.2 j (by omega) h20
        have hF1 : Fr SAc q (sI q 97 1 (nI (s.1 + 1))) := Fr.set (Or.inr ⟨rfl, rfl⟩)
        refine aw_aload_0 C dX0_perform_101 rfl ?_
        refine aw_iload_6 C dX0_perform_102 ?_
        refine aw_aboveN C dX0_perform_104 ?_
        refine aw_iload_5 C dX0_perform_107 ?_
        refine aw_aboveld C k dX0_perform_109 rfl (by omega) ?_
        rw [ab_k k hk]
        refine aw_iload_3 C dX0_perform_110 ?_
        refine aw_iload_4 C dX0_perform_111 ?_
        refine aw_iconst C dX0_perform_113 k1_1 ?_
        refine aw_iadd_n C dX0_perform_114  ?_
        refine aw_cV4I C (s_X0_answer_s HP (acS s (nI (bdT (3 * k + a)))) k a (dp + 1) x (hK.fr hF1) hT1 hkd hk ha (by have := (hom_k fk hfk a ha).2.2; rw [hke] at this; exact this) (by have := (hom_k fk hfk a ha).2.1; rw [hke] at this; unfold rk at hr ⊢; omega) (by show s.1 + 1 + _ < _; omega) (by omega)) mf_X0_answer mv_X0_answer (sh_97) rfl ml_X0_42 dX0_perform_115 (by omega) (Nat.le_of_ble_eq_true rfl) (fun r_115 q_115 h_115 => ?_)
        refine aw_iretI C hR dX0_perform_118 ?_
        rw [acF_s, hke]
        exact ⟨h_115.1, h_115.2.1, hF1.tr h_115.2.2⟩
      · skip
        refine aw_aload_0 C dX0_perform_80 rfl ?_
        refine aw_g0_0 C dX0_perform_81 fl_X0_9 ?_
        refine aw_aload_0 C dX0_perform_84 rfl ?_
        refine aw_g0_1 C hT.1 dX0_perform_85 fl_X0_29 ?_
        refine aw_iload_6 C dX0_perform_88 ?_
        refine aw_iast C _ dX0_perform_90 sh_98 rfl (by omega) ?_
        refine aw_aload_0 C dX0_perform_91 rfl ?_
        refine aw_dup C dX0_perform_92 rfl ?_
        refine aw_g0_1 C (show gI _ 97 1 = nI s.1 by rw [gI_sI, if_neg (by omega)]; exact hT.1) dX0_perform_93 fl_X0_29 ?_
        refine aw_iconst C dX0_perform_96 k1_1 ?_
        refine aw_iadd_n C dX0_perform_97  ?_
        refine aw_p0_1 C dX0_perform_98 fl_X0_29 ?_
        have hT1 : ATr (sI (sI q 98 s.1 (nI (bdT (3 * k + a)))) 97 1 (nI (s.1 + 1))) (acS s (nI (bdT (3 * k + a)))) := by
          refine ⟨by rw [gI_sI, if_pos ⟨rfl, rfl⟩]; rfl, fun j hj h20 => ?_⟩
          rw [gI_sI, if_neg (by omega), gI_sI]
          show _ = updN s.2 s.1 (nI (bdT (3 * k + a))) j
          by_cases e : j = s.1
          · rw [if_pos ⟨rfl, e⟩, e, updN_eq]
          · rw [if_neg (fun z => e z.2), updN_ne e]
            exact hT.2 j (by have : j < s.1 + 1 := hj; omega) h20
        have hF1 : Fr SAc q (sI (sI q 98 s.1 (nI (bdT (3 * k + a)))) 97 1 (nI (s.1 + 1))) := (Fr.set (Or.inl rfl)).put (Or.inr ⟨rfl, rfl⟩)
        refine aw_aload_0 C dX0_perform_101 rfl ?_
        refine aw_iload_6 C dX0_perform_102 ?_
        refine aw_aboveN C dX0_perform_104 ?_
        refine aw_iload_5 C dX0_perform_107 ?_
        refine aw_aboveld C k dX0_perform_109 rfl (by omega) ?_
        rw [ab_k k hk]
        refine aw_iload_3 C dX0_perform_110 ?_
        refine aw_iload_4 C dX0_perform_111 ?_
        refine aw_iconst C dX0_perform_113 k1_1 ?_
        refine aw_iadd_n C dX0_perform_114  ?_
        refine aw_cV4I C (s_X0_answer_s HP (acS s (nI (bdT (3 * k + a)))) k a (dp + 1) x (hK.fr hF1) hT1 hkd hk ha (by have := (hom_k fk hfk a ha).2.2; rw [hke] at this; exact this) (by have := (hom_k fk hfk a ha).2.1; rw [hke] at this; unfold rk at hr ⊢; omega) (by show s.1 + 1 + _ < _; omega) (by omega)) mf_X0_answer mv_X0_answer (sh_97) rfl ml_X0_42 dX0_perform_115 (by omega) (Nat.le_of_ble_eq_true rfl) (fun r_115 q_115 h_115 => ?_)
        refine aw_iretI C hR dX0_perform_118 ?_
        rw [acF_s, hke]
        exact ⟨h_115.1, h_115.2.1, hF1.tr h_115.2.2⟩
    · have hss := hom_s k hk a ha c_28
      refine aw_aboveN C dX0_perform_31 ?_
      refine aw_iload_5 C dX0_perform_34 ?_
      refine aw_aboveld C k dX0_perform_36 rfl (by omega) ?_
      rw [ab_k k hk, show cdk (abN k) = nI (abN k) from if_neg (by omega)]
      refine aw_istore_5 C dX0_perform_37 (by decide) (fun w h => by cases h <;> rfl) ?_
      refine aw_iinc_6 C dX0_perform_39 (by decide) (fun w h => by cases h <;> rfl) (show _ + Int32.ofInt 1 = _ by rw [k1_1, nI_add]) ?_
      refine aw_goto C dX0_perform_42 (tgt := 6) (by decide) ?_
      exact ih (abN k) (m + 1) (by omega) (by omega) hss.2.1 (hkh.trans hss.1)
  exact L6 4 fk 0 (dpk_4 fk) (by have := dpk_4 fk; omega) hfk rfl

theorem RPe_all (G : GT) (kd v i : Nat) (hkd : kd < 7) : ∀ F, RPe G kd v i F := by
  intro F
  induction F with
  | zero => intro q s fk a dp x _ _ _ _ h; exact absurd h (Nat.not_lt_zero _)
  | succ F ih => exact fun q s fk a dp x hK hT hfk ha hr hs hdp => s_X0_perform_s ih s fk a dp x hK hT hkd hfk ha hr hs hdp

set_option maxRecDepth 100000 in
set_option maxHeartbeats 4000000 in
theorem s_X0_begin {G : GT} {q : S_} {M : Nat → Nat} {V : Nat → Int32} (e p a : Nat) (x : Int32) (he : shE e) (hp : PerR q e M p) (hk : M (32 + 10 * p + 0) < 7) (ha : a < 3) (hne : e ≠ 97) : Spec G 26 yX0_begin cX0_begin 5 (some .int) [rfn G 97, rfn G e, .int (nI p), .int (nI a), .int x] q (PI (fun r q3 => r = (acF (M (32 + 10 * p + 0)) (M (32 + 10 * p + 1)) p 12 (M (32 + 10 * p + 0)) a x (0, V)).1 ∧ ATr q3 (acF (M (32 + 10 * p + 0)) (M (32 + 10 * p + 1)) p 12 (M (32 + 10 * p + 0)) a x (0, V)).2 ∧ Fr (fun k _ => k = 97 ∨ k = 98) q q3)) := by
  refine Spec.intro RX0 (by decide) rfl (Nat.le_of_ble_eq_true rfl) [some (rfn G 97), some (rfn G e), some (.int (nI p)), some (.int (nI a)), some (.int x)] rfl ?_
  intro X d hd C hR
  refine aw_aload_0 C dX0_begin_0 rfl ?_
  refine aw_aload_1 C dX0_begin_1 rfl ?_
  refine aw_g2_0 C hp.1 dX0_begin_2 he.1 fl_X0_15 ?_
  refine aw_p0_2 C dX0_begin_5 fl_X0_21 ?_
  refine aw_aload_0 C dX0_begin_8 rfl ?_
  refine aw_aload_1 C dX0_begin_9 rfl ?_
  refine aw_g2_1 C (show gI _ e 1 = nI (M (32 + 10 * p + 1)) from by rw [gI_sI, if_neg (fun z => hne z.1)]; exact hp.2.1) dX0_begin_10 he.1 fl_X0_22 ?_
  refine aw_p0_3 C dX0_begin_13 fl_X0_25 ?_
  refine aw_aload_0 C dX0_begin_16 rfl ?_
  refine aw_iload_2 C dX0_begin_17 ?_
  refine aw_p0_4 C dX0_begin_18 fl_X0_26 ?_
  refine aw_aload_0 C dX0_begin_21 rfl ?_
  refine aw_iconst C dX0_begin_22 k1_0 ?_
  refine aw_p0_1 C dX0_begin_23 fl_X0_29 ?_
  have hK : AKn (sI (sI (sI (sI q 97 2 (nI (M (32 + 10 * p + 0)))) 97 3 (nI (M (32 + 10 * p + 1)))) 97 4 (nI p)) 97 1 (nI 0)) (M (32 + 10 * p + 0)) (M (32 + 10 * p + 1)) p := ⟨by simp [gI_sI], by simp [gI_sI], by simp [gI_sI]⟩
  have hT : ATr (sI (sI (sI (sI q 97 2 (nI (M (32 + 10 * p + 0)))) 97 3 (nI (M (32 + 10 * p + 1)))) 97 4 (nI p)) 97 1 (nI 0)) (0, V) := ⟨by simp [gI_sI], fun j hj => absurd hj (Nat.not_lt_zero j)⟩
  have hF : Fr (fun k _ => k = 97 ∨ k = 98) q (sI (sI (sI (sI q 97 2 (nI (M (32 + 10 * p + 0)))) 97 3 (nI (M (32 + 10 * p + 1)))) 97 4 (nI p)) 97 1 (nI 0)) := (((Fr.set (Or.inl rfl)).put (Or.inl rfl)).put (Or.inl rfl)).put (Or.inl rfl)
  refine aw_aload_0 C dX0_begin_26 rfl ?_
  refine aw_aload_0 C dX0_begin_27 rfl ?_
  refine aw_g0_2 C (show gI _ 97 2 = nI (M (32 + 10 * p + 0)) from by simp [gI_sI]) dX0_begin_28 fl_X0_21 ?_
  refine aw_iload_3 C dX0_begin_31 ?_
  refine aw_iload_4 C dX0_begin_32 ?_
  refine aw_iconst C dX0_begin_34 k1_0 ?_
  refine aw_cV4I C (RPe_all G (M (32 + 10 * p + 0)) (M (32 + 10 * p + 1)) p hk 12 _ (0, V) (M (32 + 10 * p + 0)) a 0 x hK hT hk ha (rk_lt ha) (by have := cnF_lt _ hk _ hk a ha; show 0 + _ < _; omega) (by decide)) mf_X0_perform mv_X0_perform (sh_97) rfl ml_X0_32 dX0_begin_35 (by omega) (Nat.le_of_ble_eq_true rfl) (fun r_35 q_35 h_35 => ?_)
  refine aw_iretI C hR dX0_begin_38 ?_
  exact ⟨h_35.1, h_35.2.1, hF.tr (h_35.2.2.mono (fun k j z => by unfold SAc at z; omega))⟩
