def Sct (k j : Nat) : Prop := SZk k j ∨ k = 134 ∨ k = 135 ∨ (k = 129 ∧ (j = 5 ∨ j = 8))
theorem RR.city {q q2 : S_} {g : GS} {M2 : Nat → Nat} {C2 : Nat → List Nat} {N2 : Nat} (h : RR q g) (hf : Fr Sct q q2) (hM : RelR q2 M2) (hE : RE q2 C2) (hN : gI q2 129 8 = nI N2) (hT : gI q2 129 5 = nI 0) : RR q2 (M2, gK g, gJ g, C2, N2, [], gS g, gE g, gX g, gR g, gV g) := by
  obtain ⟨a1, a2, a3, a4, a5, a6, a7, a8, a9, a10, a11, a12⟩ := h
  have e : ∀ k j, ¬ Sct k j → gI q2 k j = gI q k j := hf.2
  unfold Sct SZk at e
  refine ⟨hM, hE, hN, (e _ _ (by omega)).trans a4, fun hk j hj => (e _ _ (by omega)).trans (a5 hk j hj), hT, fun j hj => absurd hj (Nat.not_lt_zero j), fun t ht => ?_, fun j hj => (e _ _ (by omega)).trans (a9 j hj), fun j hj => (e _ _ (by omega)).trans (a10 j hj), (e _ _ (by omega)).trans a11, fun j hj h2 => (e _ _ (by omega)).trans (a12 j hj h2)⟩
  obtain ⟨b1, b2, b3⟩ := a8 t ht
  refine ⟨(e _ _ (by omega)).trans b1, (e _ _ (by omega)).trans b2, fun j hj => ?_⟩
  rw [← b3 j hj]
  show q2.2 _ _ = q.2 _ _
  rw [hf.1]
theorem Sct_m : ∀ k j, Sct k j → 129 ≤ k := fun k j z => by unfold Sct SZk at z; omega
abbrev isC' (l : List Nat) : Prop := (clsM (chO l) 9 0 0).1 = true ∧ (clsM (chO l) 9 0 0).2.1 = l.length
def f_city (g : GS) : Int32 × GS := if gN g = 6 then (-4, g) else if isC' (gT g) then (nI (gN g), (mu (gM g) 95 (gN g + 1), gK g, gJ g, updN (gC g) (gN g) (gT g), gN g + 1, [], gS g, gE g, gX g, gR g, gV g)) else
  (-10 - nI (clsM (chO (gT g)) 9 0 0).2.1, (gM g, gK g, gJ g, gC g, gN g, [], gS g, gE g, gX g, gR g, gV g))

set_option maxRecDepth 100000 in
set_option maxHeartbeats 4000000 in
theorem s_X9_city {G : GT} {q : S_} {g : GS}  (hg : GOK g) (hRR : RR q g) : Spec G 21 yX9_city cX9_city 2 (some .int) [rfn G 129] q (PI (PG (f_city g) q)) := by
  refine Spec.intro RX9 (by decide) rfl (Nat.le_of_ble_eq_true rfl) [some (rfn G 129), none] rfl ?_
  intro X d hd C hR
  obtain ⟨hW, hCy, h95, hN6, h94, hK, hT1, hT2, hTp, hR1, hSy, hSyJ⟩ := id hg
  obtain ⟨hM, hE, hNr, hKp, hIm, hTl, hTx, hTs, hAb, hBd, hRn, hTr⟩ := id hRR
  have hc := hW.c
  have hG : Goo (gM g) (gC g) := fun k hk => hCy k (by omega)
  refine aw_aload_0 C dX9_city_0 rfl ?_
  refine aw_g9_8 C hNr dX9_city_1 fl_X9_208 ?_
  refine aw_bipush C dX9_city_4 k2_6 ?_
  refine aw_icmp_ne_n C dX9_city_6 (tgt := 12) (by decide) (by omega) (by omega) (fun c_6 => ?_) (fun c_6 => ?_)
  · skip
    refine aw_aload_0 C dX9_city_12 rfl ?_
    refine aw_aload_0 C dX9_city_13 rfl ?_
    refine aw_g9_5 C hTl dX9_city_14 fl_X9_150 ?_
    refine aw_p9_10 C dX9_city_17 fl_X9_160 ?_
    refine aw_iconst C dX9_city_20 k1_0 ?_
    refine aw_istore_1 C dX9_city_21 (by decide) (fun w h => by cases h <;> rfl) ?_
    have L22 : ∀ (n2 k : Nat) (q1 : S_), k ≤ (gT g).length → (gT g).length < k + n2 → Fr (fun k j => k = 136 ∨ (k = 129 ∧ j = 10)) q q1 → gI q1 129 10 = nI (gT g).length → (∀ j, j < k → gI q1 136 j = nI (chO (gT g) j)) → AW X G (q1) 22 [some (rfn G 129), some (.int (nI k))] [] := by
      refine nat_loop (fun k q1 h1 h2 hF1 hsz hrd => by omega) (fun n2 ih k q1 h1 h2 hF1 hsz hrd => ?_)
      refine aw_iload_1 C dX9_city_22 ?_
      refine aw_aload_0 C dX9_city_23 rfl ?_
      refine aw_g9_10 C hsz dX9_city_24 fl_X9_160 ?_
      refine aw_icmp_ge_n C dX9_city_27 (tgt := 48) (by decide) (by omega) (by omega) (fun c_27 => ?_) (fun c_27 => ?_)
      · skip
        have ek : k = (gT g).length := by omega
        rw [ek] at hrd
        obtain ⟨q2, hq2⟩ : ∃ z, sI q1 129 5 (nI 0) = z := ⟨_, rfl⟩
        have hF2 : Fr (fun k j => k = 136 ∨ (k = 129 ∧ (j = 10 ∨ j = 5))) q q2 := by
          rw [← hq2]
          exact (hF1.mono (fun k j z => by omega)).put (by omega)
        have hw0 : wiR q2 := by
          obtain ⟨wi, w1, w2⟩ := hE.2.2.2
          exact ⟨wi, w1, (hF2.2 129 13 (by omega)).trans w2⟩
        have hP0 : PS0 q2 (chO (gT g)) (gT g).length := ⟨by rw [← hq2, gI_sI, if_neg (by omega)]; exact hsz, hw0, hT1, fun j hj => ⟨by rw [← hq2, gI_sI, if_neg (by omega)]; exact hrd j hj, hT2 j hj⟩, fun j hj => by unfold chO; rw [List.getD_eq_getElem?_getD, List.getElem?_eq_none hj]; rfl⟩
        have hE2 : RE q2 (gC g) := hE.w hF2 (fun k j e z => by omega)
        refine aw_aload_0 C dX9_city_48 rfl ?_
        refine aw_iconst C dX9_city_49 k1_0 ?_
        refine aw_p9_5 C dX9_city_50 fl_X9_150 ?_
        rw [hq2]
        refine aw_aload_0 C dX9_city_53 rfl ?_
        refine aw_cV0I C (s_X9_readAll hP0 hE2.1 hE2.2.1) mf_X9_readAll mv_X9_readAll (sh_129) rfl ml_X9_205 dX9_city_54 (by omega) (Nat.le_of_ble_eq_true rfl) (fun r_54 q_54 h_54 => ?_)
        obtain ⟨rfl, ⟨w2, hP2⟩, hF3, -, -⟩ := h_54
        have hw3 : wiR q_54 := ⟨w2, hP2.bd.2.2, hP2.2.2.2.1⟩
        have hE3 : RE q_54 (gC g) := hF3.re (fun k j e z => by unfold SCk at z; omega) hE2 hw3
        have hFa : Fr Sct q q_54 := (hF2.mono (fun k j z => by unfold Sct SZk; omega)).tr (hF3.mono (fun k j z => by unfold SCk at z; unfold Sct SZk; omega))
        have hM3 : RelR q_54 (gM g) := fun j hj => (hF3.2 130 j (by unfold SCk; omega)).trans ((hF2.2 130 j (by omega)).trans (hM j hj))
        have h53 : gI q_54 129 5 = nI 0 := (hF3.2 129 5 (by unfold SCk; omega)).trans (by rw [← hq2, gI_sI, if_pos ⟨rfl, rfl⟩])
        have h83 : gI q_54 129 8 = nI (gN g) := (hF3.2 129 8 (by unfold SCk; omega)).trans ((hF2.2 129 8 (by omega)).trans hNr)
        refine aw_if_ne_b C dX9_city_57 (tgt := 68) (by decide)  (fun c_57 => ?_) (fun c_57 => ?_)
        · skip
          refine aw_iconst C dX9_city_68 k1_0 ?_
          refine aw_istore_1 C dX9_city_69 (by decide) (fun w h => by cases h <;> rfl) ?_
          have L70 : ∀ (n3 k : Nat) (q5 : S_), k ≤ (gT g).length → (gT g).length < k + n3 → Fr (fun a j => a = 134 ∧ 100 * gN g ≤ j ∧ j < 100 * gN g + 100) q_54 q5 → (∀ j, j < k → gI q5 134 (100 * gN g + j) = nI (chO (gT g) j)) → AW X G (q5) 70 [some (rfn G 129), some (.int (nI k))] [] := by
            refine nat_loop (fun k q5 h3 h4 hF5 hrd5 => by omega) (fun n3 ih3 k q5 h3 h4 hF5 hrd5 => ?_)
            refine aw_iload_1 C dX9_city_70 ?_
            refine aw_aload_0 C dX9_city_71 rfl ?_
            refine aw_g9_10 C ((hF5.2 129 10 (by omega)).trans hP2.1) dX9_city_72 fl_X9_160 ?_
            refine aw_icmp_ge_n C dX9_city_75 (tgt := 104) (by decide) (by omega) (by omega) (fun c_75 => ?_) (fun c_75 => ?_)
            · skip
              have ek5 : k = (gT g).length := by omega
              rw [ek5] at hrd5
              refine aw_aload_0 C dX9_city_104 rfl ?_
              refine aw_g9_7 C dX9_city_105 fl_X9_27 ?_
              refine aw_aload_0 C dX9_city_108 rfl ?_
              refine aw_g9_8 C ((hF5.2 129 8 (by omega)).trans h83) dX9_city_109 fl_X9_208 ?_
              refine aw_aload_0 C dX9_city_112 rfl ?_
              refine aw_g9_10 C ((hF5.2 129 10 (by omega)).trans hP2.1) dX9_city_113 fl_X9_160 ?_
              refine aw_iast C _ dX9_city_116 sh_135 rfl (by omega) ?_
              refine aw_aload_0 C dX9_city_117 rfl ?_
              refine aw_dup C dX9_city_118 rfl ?_
              refine aw_g9_8 C ((hF5.2 129 8 (by omega)).trans h83) dX9_city_119 fl_X9_208 ?_
              refine aw_iconst C dX9_city_122 k1_1 ?_
              refine aw_iadd_n C dX9_city_123  ?_
              refine aw_p9_8 C dX9_city_124 fl_X9_208 ?_
              refine aw_aload_0 C dX9_city_127 rfl ?_
              refine aw_g9_0 C dX9_city_128 fl_X9_9 ?_
              refine aw_bipush C dX9_city_131 k2_95 ?_
              refine aw_aload_0 C dX9_city_133 rfl ?_
              refine aw_g9_8 C (show gI _ 129 8 = nI (gN g + 1) by rw [gI_sI, if_pos ⟨rfl, rfl⟩]) dX9_city_134 fl_X9_208 ?_
              refine aw_iast C _ dX9_city_137 sh_130 rfl (by decide) ?_
              refine aw_aload_0 C dX9_city_138 rfl ?_
              refine aw_g9_8 C (show gI _ 129 8 = nI (gN g + 1) by rw [gI_sI, if_neg (by omega), gI_sI, if_pos ⟨rfl, rfl⟩]) dX9_city_139 fl_X9_208 ?_
              refine aw_iconst C dX9_city_142 k1_1 ?_
              refine aw_isub_n C dX9_city_143 (by omega) ?_
              refine aw_iretI C hR dX9_city_144 ?_
              rw [show gN g + 1 - 1 = gN g by omega]
              have hF6 : Fr Sct q q5 := hFa.tr (hF5.mono (fun k j z => by unfold Sct; omega))
              have hF7 : Fr Sct q (sI (sI (sI q5 135 (gN g) (nI (gT g).length)) 129 8 (nI (gN g + 1))) 130 95 (nI (gN g + 1))) := ((hF6.put (by unfold Sct; omega)).put (by unfold Sct; omega)).put (by unfold Sct SZk; omega)
              have hM5 : RelR (sI (sI q5 135 (gN g) (nI (gT g).length)) 129 8 (nI (gN g + 1))) (gM g) := fun j hj => by
                rw [gI_sI, if_neg (by omega), gI_sI, if_neg (by omega), hF5.2 130 j (by omega)]
                exact hM3 j hj
              refine ⟨by unfold f_city; rw [if_neg c_6, if_pos c_57], ?_, hF7.m Sct_m⟩
              unfold f_city
              rw [if_neg c_6, if_pos c_57]
              refine RR.city hRR hF7 (hM5.set (cd_n (by decide)).symm) ?_ (by rw [gI_sI, if_neg (by omega), gI_sI, if_pos ⟨rfl, rfl⟩]) (by rw [gI_sI, if_neg (by omega), gI_sI, if_neg (by omega), gI_sI, if_neg (by omega), hF5.2 129 5 (by omega)]; exact h53)
              refine ⟨fun j hj => ?_, ⟨fun j hj => ?_, fun j hj => ?_⟩, fun k hk => ?_, ?_⟩
              · rw [gI_sI, if_neg (by omega), gI_sI, if_neg (by omega), gI_sI, if_neg (by omega), hF5.2 138 j (by omega)]
                exact hE3.1 j hj
              · rw [gI_sI, if_neg (by omega), gI_sI, if_neg (by omega), gI_sI, if_neg (by omega), hF5.2 139 j (by omega)]
                exact hE3.2.1.1 j hj
              · rw [gI_sI, if_neg (by omega), gI_sI, if_neg (by omega), gI_sI, if_neg (by omega), hF5.2 140 j (by omega)]
                exact hE3.2.1.2 j hj
              · have hC := hE3.2.2.1 k hk
                by_cases e : k = gN g
                · rw [e, updN_eq]
                  refine ⟨by rw [gI_sI, if_neg (by omega), gI_sI, if_neg (by omega), gI_sI, if_pos ⟨rfl, rfl⟩], hT1, fun j hj => ⟨?_, hT2 j hj⟩⟩
                  rw [gI_sI, if_neg (by omega), gI_sI, if_neg (by omega), gI_sI, if_neg (by omega)]
                  exact hrd5 j hj
                · rw [updN_ne e]
                  refine ⟨by rw [gI_sI, if_neg (by omega), gI_sI, if_neg (by omega), gI_sI, if_neg (fun z => e z.2), hF5.2 135 k (by omega)]; exact hC.1, hC.2.1, fun j hj => ⟨?_, (hC.2.2 j hj).2⟩⟩
                  rw [gI_sI, if_neg (by omega), gI_sI, if_neg (by omega), gI_sI, if_neg (by omega), hF5.2 134 (100 * k + j) (by have := hC.2.1; omega)]
                  exact (hC.2.2 j hj).1
              · obtain ⟨wi, w1, w2⟩ := hw3
                refine ⟨wi, w1, ?_⟩
                rw [gI_sI, if_neg (by omega), gI_sI, if_neg (by omega), gI_sI, if_neg (by omega), hF5.2 129 13 (by omega)]
                exact w2
            · skip
              refine aw_aload_0 C dX9_city_78 rfl ?_
              refine aw_g9_6 C dX9_city_79 fl_X9_24 ?_
              refine aw_bipush C dX9_city_82 k2_100 ?_
              refine aw_aload_0 C dX9_city_84 rfl ?_
              refine aw_g9_8 C ((hF5.2 129 8 (by omega)).trans h83) dX9_city_85 fl_X9_208 ?_
              refine aw_imul_n C dX9_city_88  ?_
              refine aw_iload_1 C dX9_city_89 ?_
              refine aw_iadd_n C dX9_city_90  ?_
              refine aw_aload_0 C dX9_city_91 rfl ?_
              refine aw_g9_9 C dX9_city_92 fl_X9_30 ?_
              refine aw_iload_1 C dX9_city_95 ?_
              refine aw_iald C _ ((hF5.2 136 k (by omega)).trans (hP2.rd (j := k) (by omega)).1) dX9_city_96 sh_136 rfl (by omega) ?_
              refine aw_iast C _ dX9_city_97 sh_134 rfl (show 100 * gN g + k < 600 by omega) ?_
              refine aw_iinc_1 C dX9_city_98 (by decide) (fun w h => by cases h <;> rfl) (show _ + Int32.ofInt 1 = _ by rw [k1_1, nI_add]) ?_
              refine aw_goto C dX9_city_101 (tgt := 70) (by decide) ?_
              exact ih3 (k + 1) _ (by omega) (by omega) (hF5.put ⟨rfl, by omega, by omega⟩) (fun j hj => by
                rw [gI_sI]
                split
                · next e => rw [show j = k by omega]
                · next e => exact hrd5 j (by omega))
          exact L70 101 0 _ (by omega) (by omega) Fr.rf (fun j hj => absurd hj (Nat.not_lt_zero j))
        · skip
          refine aw_bipush C dX9_city_60 k2_m10 ?_
          refine aw_aload_0 C dX9_city_62 rfl ?_
          refine aw_g9_11 C hP2.2.1 dX9_city_63 fl_X9_157 ?_
          refine aw_isub C dX9_city_66  ?_
          refine aw_iretI C hR dX9_city_67 ?_
          exact ⟨by unfold f_city; rw [if_neg c_6, if_neg c_57], by unfold f_city; rw [if_neg c_6, if_neg c_57]; exact RR.city hRR hFa hM3 hE3 h83 h53, hFa.m Sct_m⟩
      · skip
        refine aw_aload_0 C dX9_city_30 rfl ?_
        refine aw_g9_9 C dX9_city_31 fl_X9_30 ?_
        refine aw_iload_1 C dX9_city_34 ?_
        refine aw_aload_0 C dX9_city_35 rfl ?_
        refine aw_g9_4 C dX9_city_36 fl_X9_21 ?_
        refine aw_iload_1 C dX9_city_39 ?_
        refine aw_iald C _ ((hF1.2 133 k (by omega)).trans (hTx k (by omega))) dX9_city_40 sh_133 rfl (by omega) ?_
        refine aw_iast C _ dX9_city_41 sh_136 rfl (by omega) ?_
        refine aw_iinc_1 C dX9_city_42 (by decide) (fun w h => by cases h <;> rfl) (show _ + Int32.ofInt 1 = _ by rw [k1_1, nI_add]) ?_
        refine aw_goto C dX9_city_45 (tgt := 22) (by decide) ?_
        exact ih (k + 1) _ (by omega) (by omega) (hF1.put (Or.inl rfl)) (by rw [gI_sI, if_neg (by omega)]; exact hsz) (fun j hj => by
          rw [gI_sI]
          split
          · next e => rw [e.2]
          · next e => exact hrd j (by omega))
    exact L22 101 0 _ (by omega) (by omega) (Fr.set (Or.inr ⟨rfl, rfl⟩)) (by rw [gI_sI, if_pos ⟨rfl, rfl⟩]) (fun j hj => absurd hj (Nat.not_lt_zero j))
  · skip
    refine aw_bipush C dX9_city_9 k2_m4 ?_
    refine aw_iretI C hR dX9_city_11 ?_
    exact PG.here hRR rfl (by unfold f_city; rw [if_pos c_6])
