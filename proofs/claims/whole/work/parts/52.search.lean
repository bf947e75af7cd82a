set_option maxRecDepth 100000 in
set_option maxHeartbeats 4000000 in
theorem s_X6_searchL {G : GT} {q : S_} {M : Nat → Nat} {cts : Nat → List Nat} {N : Nat} {F L0 : List E4} (w p : Nat) (x : Int32) (T : Nat) (hw : isW w) (h : RelW q w M) (hW : WF M) (hC : CyR q cts N) (hN : M 95 ≤ N) (hN6 : N ≤ 6) (hG : Goo M cts) (hLe : bfsF M cts p = F) (hp : p < M 92) (hQ : WQ q L0) (hx : x * nI 256 = tI T) (hT : T < 1536 ∨ T = 5000) : Spec G 4 yX6_search cX6_search 16 (some .int) [rfn G 88, rfn G w, .int (nI p), .int x] q (PI (fun r q3 => ∃ L3, WQ q3 L3 ∧ r = l5 (lngT F T) ∧ gI q3 88 5 = l5 (lngT F T) ∧ ((T ∉ sts F ∧ L3 = F) ∨ FD T F L3 (lngT F T)) ∧ Fr SWs q q3)) := by
  refine Spec.intro RX6 (by decide) rfl (Nat.le_of_ble_eq_true rfl) [some (rfn G 88), some (rfn G w), some (.int (nI p)), some (.int x), none, none, none, none, none, none, none, none, none, none, none, none] rfl ?_
  intro X d hd C hR
  have hc := hW.c
  have hpp := hW.p hp
  have hh := hW.half hp
  have hwb := hw.b
  have hk1 := fun m => GL.bfsk (cts := cts) hW hp m
  have hpw := pow_nb hc.1
  obtain ⟨s0, hs0⟩ : ∃ z, 256 * M (32 + 10 * p + 2) + M (32 + 10 * p + 5) = z := ⟨_, rfl⟩
  have hs15 : s0 < 1536 := by omega
  refine aw_aload_0 C dX6_search_0 rfl ?_
  refine aw_aload_1 C dX6_search_1 rfl ?_
  refine aw_g7_6 C dX6_search_2 (shW0 hw) fl_X6_25 ?_
  refine aw_iload_2 C dX6_search_5 ?_
  refine aw_pald C _ dX6_search_6 (shW4 hw) rfl (by omega) ?_
  refine aw_cV1V C (s_X6_begin (w + 4 + 13 + 2 * p) p hQ (shWE hw (by omega)) (h.2.2.1.2 p hp) hW hp (by omega)) mf_X6_begin mv_X6_begin (sh_88) rfl ml_X6_31 dX6_search_7 (by omega) (Nat.le_of_ble_eq_true rfl) (fun q_7 h_7 => ?_)
  obtain ⟨hQ0, hm0, hF0⟩ := h_7
  rw [hs0] at hQ0
  have hFs : Fr SWs q q_7 := hF0.mono (fun k j z => by unfold SWs; omega)
  have hMay0 : MayR q_7 M cts p := fun b hb n hn => Or.inl (hm0 _ (by omega))
  have hbl : bfsL M cts p 0 = [(s0, 0, 0, 0)] := by rw [← hs0]; rfl
  refine aw_iload_3 C dX6_search_10 ?_
  refine aw_sipush C dX6_search_11 k3_256 ?_
  refine aw_imul C dX6_search_14  ?_
  rw [hx]
  refine aw_istore_4 C dX6_search_15 (by decide) (fun w h => by cases h <;> rfl) ?_
  refine aw_aload_0 C dX6_search_17 rfl ?_
  refine aw_g6_0 C dX6_search_18 fl_X6_9 ?_
  refine aw_iconst C dX6_search_21 k1_0 ?_
  refine aw_iald C _ ((hQ0.2.1 0 (Nat.succ_pos 0)).1.trans (show nI (ent [(s0, 0, 0, 0)] 0).1 = nI s0 from rfl)) dX6_search_22 sh_89 rfl (by decide) ?_
  refine aw_iload_4 C dX6_search_23 ?_
  refine aw_icmp_ne C dX6_search_25 (tgt := 32) (by decide)  (fun c_25 => ?_) (fun c_25 => ?_)
  · have c25 : ¬ s0 = T := fun z => c_25 ((tI_eq hs15 hT).mpr z)
    have hns : T ∉ sts [(s0, 0, 0, 0)] := fun z => c25 (List.mem_singleton.mp z).symm
    refine aw_iconst C dX6_search_32 k1_0 ?_
    refine aw_istore_5 C dX6_search_33 (by decide) (fun w h => by cases h <;> rfl) ?_
    refine aw_iconst C dX6_search_35 k1_0 ?_
    refine aw_istore_6 C dX6_search_36 (by decide) (fun w h => by cases h <;> rfl) ?_
    refine aw_iconst C dX6_search_38 k1_0 ?_
    refine aw_istore_7 C dX6_search_39 (by decide) (fun w h => by cases h <;> rfl) ?_
    have L41 : ∀ (n2 d1 h1 : Nat) (L : List E4) (q1 : S_), d1 ≤ 12 → 12 < d1 + n2 → WQ q1 L → MayR q1 M cts p → Fr SWs q q1 → ((T ∉ sts L ∧ L = bfsL M cts p h1 ∧ (∀ k, h1 ≤ k → k < L.length → (ent L k).2.2.2 = d1) ∧ h1 ≤ L.length) ∨ FD T F L d1) → AW X G (q1) 41 [some (rfn G 88), some (rfn G w), some (.int (nI p)), some (.int x), some (.int (tI T)), some (.int (bP (T ∈ sts L))), some (.int (nI h1)), some (.int (nI d1)), none, none, none, none, none, none, none, none] [] := by
      refine nat_loop (fun d1 h1 L q1 g1 g2 hQ1 hMay1 hF1 hOI => by omega) (fun n2 ih d1 h1 L q1 g1 g2 hQ1 hMay1 hF1 hOI => ?_)
      have hR1 : RelW q1 w M := h.t hW (fun k j z1 z2 => hF1.2 k j (by unfold SWs SFk; omega))
      have hC1 : CyR q1 cts N := hC.t hN6 (fun k j z1 z2 z3 => hF1.2 k j (by unfold SWs SFk; omega))
      refine aw_iload_7 C dX6_search_41 ?_
      refine aw_bipush C dX6_search_43 k2_12 ?_
      refine aw_icmp_ge_n C dX6_search_45 (tgt := 260) (by decide) (by omega) (by omega) (fun c_45 => ?_) (fun c_45 => ?_)
      · skip
        refine aw_aload_0 C dX6_search_260 rfl ?_
        refine aw_iload_5 C dX6_search_261 ?_
        refine aw_if_eq_b C dX6_search_263 (tgt := 271) (by decide)  (fun c_263 => ?_) (fun c_263 => ?_)
        · skip
          refine aw_bipush C dX6_search_271 k2_m5 ?_
          refine aw_p6_5 C dX6_search_273 fl_X6_63 ?_
          refine aw_aload_0 C dX6_search_276 rfl ?_
          refine aw_g6_5 C (show gI _ 88 5 = _ from by rw [gI_sI, if_pos ⟨rfl, rfl⟩]) dX6_search_277 fl_X6_63 ?_
          refine aw_iretI C hR dX6_search_280 ?_
          obtain ⟨hn1, hL, hfar, hle⟩ := hOI.resolve_right (fun z => c_263 z.1)
          have hFL : F = L := by
            rw [← hLe, bfsF_eq, show 1536 = h1 + (1536 - h1) by have := hQ1.2.2.2.1; omega]
            rw [hL] at hfar
            rw [bfs_stop (fun k z1 z2 => by have := hfar k z1 z2; omega), ← hL]
          have hlg : lngT F T = 99 := lngT_no (by rw [hFL]; exact hn1)
          exact ⟨L, hQ1.t (fun k j z => by rw [gI_sI, if_neg (by unfold SWm at z; omega)]), by rw [hlg]; rfl, by rw [hlg, gI_sI, if_pos ⟨rfl, rfl⟩]; rfl, Or.inl ⟨by rw [hFL]; exact hn1, hFL.symm⟩, hF1.put (Or.inl ⟨by omega, by omega⟩)⟩
        · skip
          refine aw_iload_7 C dX6_search_266 ?_
          refine aw_goto C dX6_search_268 (tgt := 273) (by decide) ?_
          refine aw_p6_5 C dX6_search_273 fl_X6_63 ?_
          refine aw_aload_0 C dX6_search_276 rfl ?_
          refine aw_g6_5 C (show gI _ 88 5 = _ from by rw [gI_sI, if_pos ⟨rfl, rfl⟩]) dX6_search_277 fl_X6_63 ?_
          refine aw_iretI C hR dX6_search_280 ?_
          have hfd0 := hOI.resolve_left (fun z => z.1 c_263)
          have hix := hfd0.ix
          rw [← l5_n (show d1 ≠ 99 by omega)]
          exact ⟨L, hQ1.t (fun k j z => by rw [gI_sI, if_neg (by unfold SWm at z; omega)]), by rw [hix.2.1], by rw [hix.2.1, gI_sI, if_pos ⟨rfl, rfl⟩], Or.inr (by rw [hix.2.1]; exact hfd0), hF1.put (Or.inl ⟨by omega, by omega⟩)⟩
      · skip
        refine aw_iload_5 C dX6_search_48 ?_
        refine aw_if_ne_b C dX6_search_50 (tgt := 260) (by decide)  (fun c_50 => ?_) (fun c_50 => ?_)
        · skip
          refine aw_aload_0 C dX6_search_260 rfl ?_
          refine aw_iload_5 C dX6_search_261 ?_
          refine aw_if_eq_b C dX6_search_263 (tgt := 271) (by decide)  (fun c_263 => absurd c_263 (fun z => z c_50)) (fun c_263 => ?_)
          refine aw_iload_7 C dX6_search_266 ?_
          refine aw_goto C dX6_search_268 (tgt := 273) (by decide) ?_
          refine aw_p6_5 C dX6_search_273 fl_X6_63 ?_
          refine aw_aload_0 C dX6_search_276 rfl ?_
          refine aw_g6_5 C (show gI _ 88 5 = _ from by rw [gI_sI, if_pos ⟨rfl, rfl⟩]) dX6_search_277 fl_X6_63 ?_
          refine aw_iretI C hR dX6_search_280 ?_
          have hfd0 := hOI.resolve_left (fun z => z.1 c_50)
          have hix := hfd0.ix
          rw [← l5_n (show d1 ≠ 99 by omega)]
          exact ⟨L, hQ1.t (fun k j z => by rw [gI_sI, if_neg (by unfold SWm at z; omega)]), by rw [hix.2.1], by rw [hix.2.1, gI_sI, if_pos ⟨rfl, rfl⟩], Or.inr (by rw [hix.2.1]; exact hfd0), hF1.put (Or.inl ⟨by omega, by omega⟩)⟩
        · obtain ⟨-, hL, hfar, hle⟩ := hOI.resolve_right (fun z => c_50 z.1)
          refine aw_aload_0 C dX6_search_53 rfl ?_
          refine aw_g6_4 C hQ1.1 dX6_search_54 fl_X6_35 ?_
          refine aw_istore_8 C dX6_search_57 (by decide) (fun w h => by cases h <;> rfl) ?_
          have L59 : ∀ (n3 h2 : Nat) (L2 : List E4) (q2 : S_), h1 ≤ h2 → h2 ≤ L.length → L.length < h2 + n3 → WQ q2 L2 → MayR q2 M cts p → Fr SWs q q2 → ((T ∉ sts L2 ∧ L2 = bfsL M cts p h2 ∧ (∀ k, h2 ≤ k → k < L.length → (ent L2 k).2.2.2 = d1) ∧ (∀ k, L.length ≤ k → k < L2.length → (ent L2 k).2.2.2 = d1 + 1) ∧ L.length ≤ L2.length) ∨ FD T F L2 (d1 + 1)) → AW X G (q2) 59 [some (rfn G 88), some (rfn G w), some (.int (nI p)), some (.int x), some (.int (tI T)), some (.int (bP (T ∈ sts L2))), some (.int (nI h2)), some (.int (nI d1)), some (.int (nI L.length)), none, none, none, none, none, none, none] [] := by
            have hl15o := hQ1.2.2.2.1
            refine nat_loop (fun h2 L2 q2 g3 g4 g5 hQ2 hMay2 hF2 hMI => by omega) (fun n3 ih2 h2 L2 q2 g3 g4 g5 hQ2 hMay2 hF2 hMI => ?_)
            have hR2 : RelW q2 w M := h.t hW (fun k j z1 z2 => hF2.2 k j (by unfold SWs SFk; omega))
            have hC2 : CyR q2 cts N := hC.t hN6 (fun k j z1 z2 z3 => hF2.2 k j (by unfold SWs SFk; omega))
            refine aw_iload_6 C dX6_search_59 ?_
            refine aw_iload_8 C dX6_search_61 ?_
            refine aw_icmp_ge_n C dX6_search_63 (tgt := 254) (by decide) (by omega) (by omega) (fun c_63 => ?_) (fun c_63 => ?_)
            · skip
              refine aw_iinc_7 C dX6_search_254 (by decide) (fun w h => by cases h <;> rfl) (show _ + Int32.ofInt 1 = _ by rw [k1_1, nI_add]) ?_
              refine aw_goto C dX6_search_257 (tgt := 41) (by decide) ?_
              exact (ih (d1 + 1) h2 L2 q2 (by omega) (by omega) hQ2 hMay2 hF2 (hMI.imp (fun z => ⟨z.1, z.2.1, fun k z1 z2 => z.2.2.2.1 k (by omega) z2, by have := z.2.2.2.2; omega⟩) id)).less ⟨Or.inr rfl, Or.inr rfl, Or.inr rfl, Or.inr rfl, Or.inr rfl, Or.inr rfl, Or.inr rfl, Or.inr rfl, Or.inl rfl, Or.inl rfl, Or.inl rfl, Or.inl rfl, Or.inl rfl, Or.inl rfl, Or.inl rfl, Or.inl rfl, trivial⟩
            · skip
              refine aw_iload_5 C dX6_search_66 ?_
              refine aw_if_ne_b C dX6_search_68 (tgt := 254) (by decide)  (fun c_68 => ?_) (fun c_68 => ?_)
              · skip
                refine aw_iinc_7 C dX6_search_254 (by decide) (fun w h => by cases h <;> rfl) (show _ + Int32.ofInt 1 = _ by rw [k1_1, nI_add]) ?_
                refine aw_goto C dX6_search_257 (tgt := 41) (by decide) ?_
                exact (ih (d1 + 1) h2 L2 q2 (by omega) (by omega) hQ2 hMay2 hF2 (Or.inr (hMI.resolve_left (fun z => z.1 c_68)))).less ⟨Or.inr rfl, Or.inr rfl, Or.inr rfl, Or.inr rfl, Or.inr rfl, Or.inr rfl, Or.inr rfl, Or.inr rfl, Or.inl rfl, Or.inl rfl, Or.inl rfl, Or.inl rfl, Or.inl rfl, Or.inl rfl, Or.inl rfl, Or.inl rfl, trivial⟩
              · obtain ⟨-, hL2, hf1, hf2, hle2⟩ := hMI.resolve_right (fun z => c_68 z.1)
                have hlt2 : h2 < L2.length := by omega
                have hG2 : GL M L2 := by rw [hL2]; exact hk1 h2
                have hE2 := hG2.2.2.2 h2 hlt2
                have hfd := hf1 h2 (Nat.le_refl _) (by omega)
                have hpop := pop_le ((ent L2 h2).1 % 256)
                have hl15 := hQ2.2.2.2.1
                refine aw_aload_0 C dX6_search_71 rfl ?_
                refine aw_g6_0 C dX6_search_72 fl_X6_9 ?_
                refine aw_iload_6 C dX6_search_75 ?_
                refine aw_iald C _ (hQ2.2.1 h2 hlt2).1 dX6_search_77 sh_89 rfl (by omega) ?_
                refine aw_sipush C dX6_search_78 k3_256 ?_
                refine aw_idiv_n C dX6_search_81 (by omega) (by omega) (by omega) ?_
                refine aw_istore_9 C dX6_search_82 (by decide) (fun w h => by cases h <;> rfl) ?_
                refine aw_aload_0 C dX6_search_84 rfl ?_
                refine aw_g6_0 C dX6_search_85 fl_X6_9 ?_
                refine aw_iload_6 C dX6_search_88 ?_
                refine aw_iald C _ (hQ2.2.1 h2 hlt2).1 dX6_search_90 sh_89 rfl (by omega) ?_
                refine aw_sipush C dX6_search_91 k3_256 ?_
                refine aw_irem_n C dX6_search_94 (by omega) (by omega) (by omega) ?_
                refine aw_istore_10 C dX6_search_95 (by decide) (fun w h => by cases h <;> rfl) ?_
                refine aw_iload_10 C dX6_search_97 ?_
                refine aw_cS1IE C (s_J6_bitCount_0f7a4 ((ent L2 h2).1 % 256) (by omega)) mf_J6_bitCount_0f7a4 ms_J6_bitCount_0f7a4 ml_X6_39 dX6_search_99 (by omega) (Nat.le_of_ble_eq_true rfl) ?_
                refine aw_istore_11 C dX6_search_102 (by decide) (fun w h => by cases h <;> rfl) ?_
                refine aw_iconst C dX6_search_104 k1_0 ?_
                refine aw_istore_12 C dX6_search_105 (by decide) (fun w h => by cases h <;> rfl) ?_
                have L107 : ∀ (n4 b : Nat) (L3 : List E4) (q3 : S_), b ≤ M 93 → M 93 < b + n4 → WQ q3 L3 → MayR q3 M cts p → Fr SWs q q3 → ((T ∉ sts L3 ∧ L3 = procB M cts p L2 h2 b) ∨ FD T F L3 (d1 + 1)) → AW X G (q3) 107 [some (rfn G 88), some (rfn G w), some (.int (nI p)), some (.int x), some (.int (tI T)), some (.int (bP (T ∈ sts L3))), some (.int (nI h2)), some (.int (nI d1)), some (.int (nI L.length)), some (.int (nI ((ent L2 h2).1 / 256))), some (.int (nI ((ent L2 h2).1 % 256))), some (.int (nI (pop ((ent L2 h2).1 % 256)))), some (.int (nI b)), none, none, none] [] := by
                  refine nat_loop (fun b L3 q3 g6 g7 hQ3 hMay3 hF3 hII => by omega) (fun n4 ih3 b L3 q3 g6 g7 hQ3 hMay3 hF3 hII => ?_)
                  have hR3 : RelW q3 w M := h.t hW (fun k j z1 z2 => hF3.2 k j (by unfold SWs SFk; omega))
                  have hC3 : CyR q3 cts N := hC.t hN6 (fun k j z1 z2 z3 => hF3.2 k j (by unfold SWs SFk; omega))
                  refine aw_iload_12 C dX6_search_107 ?_
                  refine aw_aload_1 C dX6_search_109 rfl ?_
                  refine aw_g7_0 C hR3.1.1 dX6_search_110 (shW0 hw) fl_X6_45 ?_
                  refine aw_icmp_ge_n C dX6_search_113 (tgt := 248) (by decide) (by omega) (by omega) (fun c_113 => ?_) (fun c_113 => ?_)
                  · skip
                    refine aw_iinc_6 C dX6_search_248 (by decide) (fun w h => by cases h <;> rfl) (show _ + Int32.ofInt 1 = _ by rw [k1_1, nI_add]) ?_
                    refine aw_goto C dX6_search_251 (tgt := 59) (by decide) ?_
                    exact (ih2 (h2 + 1) L3 q3 (by omega) (by omega) (by omega) hQ3 hMay3 hF3 (hII.imp (fun z => by
                      have hb : b = M 93 := by omega
                      obtain ⟨z1, z2⟩ := z
                      rw [hb] at z2
                      have hlen := procB_len (M := M) (cts := cts) (i := p) (k := h2) (b := M 93) (L := L2)
                      rw [← z2] at hlen
                      refine ⟨z1, ?_, fun k y1 y2 => ?_, fun k y1 y2 => ?_, by omega⟩
                      · have e3 : bfsL M cts p (h2 + 1) = procB M cts p (bfsL M cts p h2) h2 (M 93) := if_pos (show h2 < (bfsL M cts p h2).length from by rw [← hL2]; exact hlt2)
                        rw [e3, ← hL2, z2]
                      · rw [z2, procB_ent (by omega)]
                        exact hf1 k (by omega) y2
                      · by_cases y3 : k < L2.length
                        · rw [z2, procB_ent y3]
                          exact hf2 k y1 y3
                        · rw [z2] at y2 ⊢
                          rw [procB_new (M 93) k (by omega) y2, hfd]) id)).less ⟨Or.inr rfl, Or.inr rfl, Or.inr rfl, Or.inr rfl, Or.inr rfl, Or.inr rfl, Or.inr rfl, Or.inr rfl, Or.inr rfl, Or.inl rfl, Or.inl rfl, Or.inl rfl, Or.inl rfl, Or.inl rfl, Or.inl rfl, Or.inl rfl, trivial⟩
                  · skip
                    refine aw_iload_5 C dX6_search_116 ?_
                    refine aw_if_ne_b C dX6_search_118 (tgt := 248) (by decide)  (fun c_118 => ?_) (fun c_118 => ?_)
                    · skip
                      refine aw_iinc_6 C dX6_search_248 (by decide) (fun w h => by cases h <;> rfl) (show _ + Int32.ofInt 1 = _ by rw [k1_1, nI_add]) ?_
                      refine aw_goto C dX6_search_251 (tgt := 59) (by decide) ?_
                      exact (ih2 (h2 + 1) L3 q3 (by omega) (by omega) (by omega) hQ3 hMay3 hF3 (Or.inr (hII.resolve_left (fun z => z.1 c_118)))).less ⟨Or.inr rfl, Or.inr rfl, Or.inr rfl, Or.inr rfl, Or.inr rfl, Or.inr rfl, Or.inr rfl, Or.inr rfl, Or.inr rfl, Or.inl rfl, Or.inl rfl, Or.inl rfl, Or.inl rfl, Or.inl rfl, Or.inl rfl, Or.inl rfl, trivial⟩
                    · obtain ⟨-, hL3⟩ := hII.resolve_right (fun z => c_118 z.1)
                      have hb93 : b < M 93 := by omega
                      have hbb := hW.b hb93
                      have hG3 : GL M L3 := by rw [hL3]; exact hG2.proc hW hlt2 b (by omega)
                      have hpb := procB_s M cts p L2 h2 b
                      refine aw_aload_1 C dX6_search_121 rfl ?_
                      refine aw_iload_12 C dX6_search_122 ?_
                      refine aw_iload_9 C dX6_search_124 ?_
                      refine aw_cV2IE C (s_X7_otherEnd w b ((ent L2 h2).1 / 256) hw hR3 hW hb93 (by omega)) mf_X7_otherEnd mv_X7_otherEnd (shW0 hw) rfl ml_X6_48 dX6_search_126 (by omega) (Nat.le_of_ble_eq_true rfl) ?_
                      refine aw_istore_13 C dX6_search_129 (by decide) (fun w h => by cases h <;> rfl) ?_
                      refine aw_iload_13 C dX6_search_131 ?_
                      refine aw_if_ge C dX6_search_133 (tgt := 139) (by decide)  (fun c_133 => ?_) (fun c_133 => ?_)
                      · have c133 : adjP M ((ent L2 h2).1 / 256) b := (oe_ge (by omega)).mp c_133
                        rw [show oeM M b ((ent L2 h2).1 / 256) = nI (M (4 * b + 0) + M (4 * b + 1) - (ent L2 h2).1 / 256) from if_pos c133]
                        refine aw_iload_12 C dX6_search_139 ?_
                        refine aw_bipush C dX6_search_141 k2_9 ?_
                        refine aw_imul_n C dX6_search_143  ?_
                        refine aw_iload_11 C dX6_search_144 ?_
                        refine aw_iadd_n C dX6_search_146  ?_
                        refine aw_istore_14 C dX6_search_147 (by decide) (fun w h => by cases h <;> rfl) ?_
                        refine aw_aload_0 C dX6_search_149 rfl ?_
                        refine aw_g6_3 C dX6_search_150 fl_X6_22 ?_
                        refine aw_iload_14 C dX6_search_153 ?_
                        refine aw_iald C _ rfl dX6_search_155 sh_92 rfl (show (b * 9 + pop ((ent L2 h2).1 % 256)) < 72 by omega) ?_
                        refine aw_if_ne C dX6_search_156 (tgt := 183) (by decide)  (fun c_156 => ?_) (fun c_156 => ?_)
                        · skip
                          have hmv : gI q3 92 (b * 9 + pop ((ent L2 h2).1 % 256)) = (if mayX M cts p (pop ((ent L2 h2).1 % 256)) b then nI 1 else nI 2) := (hMay3 b (by omega) (pop ((ent L2 h2).1 % 256)) hpop).resolve_left (fun z => c_156 (by rw [z]; rfl))
                          have hQ4 : WQ q3 L3 := hQ3
                          have hMay4 : MayR q3 M cts p := hMay3
                          have hF4 : Fr SWs q q3 := hF3
                          obtain ⟨q4, hq4⟩ : ∃ z, q3 = z := ⟨_, rfl⟩
                          rw [hq4] at hmv hQ4 hMay4 hF4
                          rw [hq4]
                          have hR4 : RelW q4 w M := h.t hW (fun k j z1 z2 => hF4.2 k j (by unfold SWs SFk; omega))
                          have hC4 : CyR q4 cts N := hC.t hN6 (fun k j z1 z2 z3 => hF4.2 k j (by unfold SWs SFk; omega))
                          refine aw_aload_0 C dX6_search_183 rfl ?_
                          refine aw_g6_3 C dX6_search_184 fl_X6_22 ?_
                          refine aw_iload_14 C dX6_search_187 ?_
                          refine aw_iald C _ hmv dX6_search_189 sh_92 rfl (show (b * 9 + pop ((ent L2 h2).1 % 256)) < 72 by omega) ?_
                          refine aw_iconst C dX6_search_190 k1_1 ?_
                          refine aw_icmp_ne C dX6_search_191 (tgt := 242) (by decide)  (fun c_191 => ?_) (fun c_191 => ?_)
                          · have hnm : ¬ mayX M cts p (pop ((ent L2 h2).1 % 256)) b := fun z => c_191 (if_pos z)
                            have hns : ¬ ((ent L2 h2).2.2.2 < 12 ∧ stepC M cts p (ent L2 h2).1 b) := fun z => hnm z.2.2
                            rw [if_neg hns] at hpb
                            refine aw_iinc_12 C dX6_search_242 (by decide) (fun w h => by cases h <;> rfl) (show _ + Int32.ofInt 1 = _ by rw [k1_1, nI_add]) ?_
                            refine aw_goto C dX6_search_245 (tgt := 107) (by decide) ?_
                            exact (ih3 (b + 1) L3 q4 (by omega) (by omega) hQ4 hMay4 hF4 (Or.inl ⟨c_118, by rw [hpb, ← hL3]⟩)).less ⟨Or.inr rfl, Or.inr rfl, Or.inr rfl, Or.inr rfl, Or.inr rfl, Or.inr rfl, Or.inr rfl, Or.inr rfl, Or.inr rfl, Or.inr rfl, Or.inr rfl, Or.inr rfl, Or.inr rfl, Or.inl rfl, Or.inl rfl, Or.inl rfl, trivial⟩
                          · have hmx : mayX M cts p (pop ((ent L2 h2).1 % 256)) b := Decidable.byContradiction (fun z => absurd c_191 (by rw [if_neg z]; decide +kernel))
                            have hst : (ent L2 h2).2.2.2 < 12 ∧ stepC M cts p (ent L2 h2).1 b := ⟨by omega, c133, hmx⟩
                            rw [if_pos hst, ← hL3] at hpb
                            have hhl := halfM_lt hW hb93 hE2.2.1
                            have hnx : (nxtS M (ent L2 h2).1 b) < 1536 := by unfold nxtS; rcases c133 with z | z <;> omega
                            refine aw_iload_13 C dX6_search_194 ?_
                            refine aw_sipush C dX6_search_196 k3_256 ?_
                            refine aw_imul_n C dX6_search_199  ?_
                            refine aw_aload_1 C dX6_search_200 rfl ?_
                            refine aw_iload_10 C dX6_search_201 ?_
                            refine aw_iload_12 C dX6_search_203 ?_
                            refine aw_cV2IE C (s_X7_halfBehind w ((ent L2 h2).1 % 256) b hw hR4 hW hb93 hE2.2.1) mf_X7_halfBehind mv_X7_halfBehind (shW0 hw) rfl ml_X6_56 dX6_search_205 (by omega) (Nat.le_of_ble_eq_true rfl) ?_
                            refine aw_iadd_n C dX6_search_208  ?_
                            rw [show (M (4 * b + 0) + M (4 * b + 1) - (ent L2 h2).1 / 256) * 256 + halfM M ((ent L2 h2).1 % 256) b = (nxtS M (ent L2 h2).1 b) from by unfold nxtS; rw [Nat.mul_comm]]
                            refine aw_istore_15 C dX6_search_209 (by decide) (fun w h => by cases h <;> rfl) ?_
                            refine aw_aload_0 C dX6_search_211 rfl ?_
                            refine aw_iload_15 C dX6_search_212 ?_
                            refine aw_iload_6 C dX6_search_214 ?_
                            refine aw_bipush C dX6_search_216 k2_8 ?_
                            refine aw_imul_n C dX6_search_218  ?_
                            refine aw_iload_12 C dX6_search_219 ?_
                            refine aw_iadd_n C dX6_search_221  ?_
                            refine aw_cV2I C (s_X6_meet (nxtS M (ent L2 h2).1 b) ((ent L2 h2).2.2.2 + 1) (nI (h2 * 8 + b)) h2 b hQ4 hnx (fun z => hG3.room hnx z) (fun _ => rfl)) mf_X6_meet mv_X6_meet (sh_88) rfl ml_X6_59 dX6_search_222 (by omega) (Nat.le_of_ble_eq_true rfl) (fun r_222 q_222 h_222 => ?_)
                            obtain ⟨rfl, hQ5, hF5⟩ := h_222
                            have hF6 : Fr SWs q q_222 := hF4.tr (hF5.mono (fun k j z => by unfold SWm at z; unfold SWs; omega))
                            have hMay5 : MayR q_222 M cts p := hMay4.t (fun j => hF5.2 92 j (by unfold SWm; omega))
                            refine aw_if_eq_b C dX6_search_225 (tgt := 239) (by decide)  (fun c_225 => ?_) (fun c_225 => ?_)
                            · have c225 := Decidable.not_not.mp c_225
                              have ha : arrB L3 ((nxtS M (ent L2 h2).1 b), h2, b, (ent L2 h2).2.2.2 + 1) = L3 := if_pos c225
                              refine aw_iconst C dX6_search_239 k1_0 ?_
                              have hnf : T ∉ sts (arrB L3 ((nxtS M (ent L2 h2).1 b), h2, b, (ent L2 h2).2.2.2 + 1)) := by rw [ha]; exact c_118
                              rw [← bP_f hnf]
                              refine aw_istore_5 C dX6_search_240 (by decide) (fun w h => by cases h <;> rfl) ?_
                              refine aw_iinc_12 C dX6_search_242 (by decide) (fun w h => by cases h <;> rfl) (show _ + Int32.ofInt 1 = _ by rw [k1_1, nI_add]) ?_
                              refine aw_goto C dX6_search_245 (tgt := 107) (by decide) ?_
                              exact (ih3 (b + 1) (arrB L3 ((nxtS M (ent L2 h2).1 b), h2, b, (ent L2 h2).2.2.2 + 1)) q_222 (by omega) (by omega) hQ5 hMay5 hF6 (Or.inl ⟨hnf, hpb.symm⟩)).less ⟨Or.inr rfl, Or.inr rfl, Or.inr rfl, Or.inr rfl, Or.inr rfl, Or.inr rfl, Or.inr rfl, Or.inr rfl, Or.inr rfl, Or.inr rfl, Or.inr rfl, Or.inr rfl, Or.inr rfl, Or.inl rfl, Or.inl rfl, Or.inl rfl, trivial⟩
                            · have ha : arrB L3 ((nxtS M (ent L2 h2).1 b), h2, b, (ent L2 h2).2.2.2 + 1) = L3 ++ [((nxtS M (ent L2 h2).1 b), h2, b, (ent L2 h2).2.2.2 + 1)] := if_neg c_225
                              refine aw_iload_15 C dX6_search_228 ?_
                              refine aw_iload_4 C dX6_search_230 ?_
                              refine aw_icmp_ne C dX6_search_232 (tgt := 239) (by decide)  (fun c_232 => ?_) (fun c_232 => ?_)
                              · have c232 : ¬ (nxtS M (ent L2 h2).1 b) = T := fun z => c_232 ((tI_eq hnx hT).mpr z)
                                have hnf : T ∉ sts (arrB L3 ((nxtS M (ent L2 h2).1 b), h2, b, (ent L2 h2).2.2.2 + 1)) := by
                                  rw [ha]
                                  unfold sts
                                  rw [List.map_append]
                                  intro z
                                  rcases List.mem_append.mp z with y | y
                                  · exact c_118 y
                                  · exact c232 (List.mem_singleton.mp y).symm
                                refine aw_iconst C dX6_search_239 k1_0 ?_
                                rw [← bP_f hnf]
                                refine aw_istore_5 C dX6_search_240 (by decide) (fun w h => by cases h <;> rfl) ?_
                                refine aw_iinc_12 C dX6_search_242 (by decide) (fun w h => by cases h <;> rfl) (show _ + Int32.ofInt 1 = _ by rw [k1_1, nI_add]) ?_
                                refine aw_goto C dX6_search_245 (tgt := 107) (by decide) ?_
                                exact (ih3 (b + 1) (arrB L3 ((nxtS M (ent L2 h2).1 b), h2, b, (ent L2 h2).2.2.2 + 1)) q_222 (by omega) (by omega) hQ5 hMay5 hF6 (Or.inl ⟨hnf, hpb.symm⟩)).less ⟨Or.inr rfl, Or.inr rfl, Or.inr rfl, Or.inr rfl, Or.inr rfl, Or.inr rfl, Or.inr rfl, Or.inr rfl, Or.inr rfl, Or.inr rfl, Or.inr rfl, Or.inr rfl, Or.inr rfl, Or.inl rfl, Or.inl rfl, Or.inl rfl, trivial⟩
                              · have c232 : (nxtS M (ent L2 h2).1 b) = T := (tI_eq hnx hT).mp c_232
                                have hfd5 : FD T F (arrB L3 ((nxtS M (ent L2 h2).1 b), h2, b, (ent L2 h2).2.2.2 + 1)) (d1 + 1) := by
                                  have hpre := bfs_preF (M := M) (cts := cts) (i := p) (h := h2) (b := b + 1) (by rw [← hL2]; exact hlt2) (by omega) (by omega)
                                  rw [← hL2, hpb, hLe] at hpre
                                  rw [ha] at hpre ⊢
                                  have hl : (L3 ++ [((nxtS M (ent L2 h2).1 b), h2, b, (ent L2 h2).2.2.2 + 1)]).length - 1 = L3.length := by rw [List.length_append]; rfl
                                  refine ⟨by unfold sts; rw [List.map_append]; exact List.mem_append.mpr (Or.inr (List.mem_singleton.mpr c232.symm)), hpre, by rw [List.length_append]; exact Nat.succ_pos _, ?_, ?_, fun k hk => ?_⟩
                                  · rw [hl, ent_last]
                                    exact c232
                                  · rw [hl, ent_last]
                                    show (ent L2 h2).2.2.2 + 1 = d1 + 1
                                    rw [hfd]
                                  · rw [hl] at hk
                                    rw [ent_app hk]
                                    exact fun z => c_118 (mem_sts.mpr ⟨k, hk, z⟩)
                                refine aw_iconst C dX6_search_235 k1_1 ?_
                                refine aw_goto C dX6_search_236 (tgt := 240) (by decide) ?_
                                rw [← bP_t hfd5.1]
                                refine aw_istore_5 C dX6_search_240 (by decide) (fun w h => by cases h <;> rfl) ?_
                                refine aw_iinc_12 C dX6_search_242 (by decide) (fun w h => by cases h <;> rfl) (show _ + Int32.ofInt 1 = _ by rw [k1_1, nI_add]) ?_
                                refine aw_goto C dX6_search_245 (tgt := 107) (by decide) ?_
                                exact (ih3 (b + 1) (arrB L3 ((nxtS M (ent L2 h2).1 b), h2, b, (ent L2 h2).2.2.2 + 1)) q_222 (by omega) (by omega) hQ5 hMay5 hF6 (Or.inr hfd5)).less ⟨Or.inr rfl, Or.inr rfl, Or.inr rfl, Or.inr rfl, Or.inr rfl, Or.inr rfl, Or.inr rfl, Or.inr rfl, Or.inr rfl, Or.inr rfl, Or.inr rfl, Or.inr rfl, Or.inr rfl, Or.inl rfl, Or.inl rfl, Or.inl rfl, trivial⟩
                        · skip
                          refine aw_aload_0 C dX6_search_159 rfl ?_
                          refine aw_g6_3 C dX6_search_160 fl_X6_22 ?_
                          refine aw_iload_14 C dX6_search_163 ?_
                          refine aw_aload_1 C dX6_search_165 rfl ?_
                          refine aw_iload_2 C dX6_search_166 ?_
                          refine aw_iload_12 C dX6_search_167 ?_
                          refine aw_iload_11 C dX6_search_169 ?_
                          refine aw_cV3I C (s_X7_mayCross w p b (pop ((ent L2 h2).1 % 256)) hw hR3 hW hC3 hN hN6 hG hp hb93 hpop) mf_X7_mayCross mv_X7_mayCross (shW0 hw) rfl ml_X6_52 dX6_search_171 (by omega) (Nat.le_of_ble_eq_true rfl) (fun r_171 q_171 h_171 => ?_)
                          obtain ⟨rfl, hF171⟩ := h_171
                          refine aw_if_eq_b C dX6_search_174 (tgt := 181) (by decide)  (fun c_174 => ?_) (fun c_174 => ?_)
                          · skip
                            refine aw_iconst C dX6_search_181 k1_2 ?_
                            refine aw_iast C _ dX6_search_182 sh_92 rfl (show (b * 9 + pop ((ent L2 h2).1 % 256)) < 72 by omega) ?_
                            have hmv : gI (sI q_171 92 (b * 9 + pop ((ent L2 h2).1 % 256)) (nI 2)) 92 (b * 9 + pop ((ent L2 h2).1 % 256)) = (if mayX M cts p (pop ((ent L2 h2).1 % 256)) b then nI 1 else nI 2) := by rw [gI_sI, if_pos ⟨rfl, rfl⟩]; exact (if_neg c_174).symm
                            have hQ4 : WQ (sI q_171 92 (b * 9 + pop ((ent L2 h2).1 % 256)) (nI 2)) L3 := (hQ3.t (fun k j z => hF171.2 k j (by unfold SWm at z; unfold SFk; omega))).t (fun k j z => by rw [gI_sI, if_neg (by unfold SWm at z; omega)])
                            have hMay4 : MayR (sI q_171 92 (b * 9 + pop ((ent L2 h2).1 % 256)) (nI 2)) M cts p := fun b2 hb2 n2 hn2 => by
                              have h171 := (hMay3.t (q2 := q_171) (fun j => hF171.2 92 j (by unfold SFk; omega))) b2 hb2 n2 hn2
                              rw [gI_sI]
                              by_cases y : b2 * 9 + n2 = (b * 9 + pop ((ent L2 h2).1 % 256))
                              · have y1 : b2 = b := by omega
                                have y2 : n2 = pop ((ent L2 h2).1 % 256) := by omega
                                rw [if_pos ⟨rfl, y⟩, y1, y2]
                                exact Or.inr (if_neg c_174).symm
                              · rw [if_neg (fun z => y z.2)]
                                exact h171
                            have hF4 : Fr SWs q (sI q_171 92 (b * 9 + pop ((ent L2 h2).1 % 256)) (nI 2)) := (hF3.tr (hF171.mono (fun k j z => Or.inr z))).put (Or.inl ⟨by omega, by omega⟩)
                            generalize (sI q_171 92 (b * 9 + pop ((ent L2 h2).1 % 256)) (nI 2)) = q4 at hmv hQ4 hMay4 hF4 ⊢
                            have hR4 : RelW q4 w M := h.t hW (fun k j z1 z2 => hF4.2 k j (by unfold SWs SFk; omega))
                            have hC4 : CyR q4 cts N := hC.t hN6 (fun k j z1 z2 z3 => hF4.2 k j (by unfold SWs SFk; omega))
                            refine aw_aload_0 C dX6_search_183 rfl ?_
                            refine aw_g6_3 C dX6_search_184 fl_X6_22 ?_
                            refine aw_iload_14 C dX6_search_187 ?_
                            refine aw_iald C _ hmv dX6_search_189 sh_92 rfl (show (b * 9 + pop ((ent L2 h2).1 % 256)) < 72 by omega) ?_
                            refine aw_iconst C dX6_search_190 k1_1 ?_
                            refine aw_icmp_ne C dX6_search_191 (tgt := 242) (by decide)  (fun c_191 => ?_) (fun c_191 => ?_)
                            · have hnm : ¬ mayX M cts p (pop ((ent L2 h2).1 % 256)) b := fun z => c_191 (if_pos z)
                              have hns : ¬ ((ent L2 h2).2.2.2 < 12 ∧ stepC M cts p (ent L2 h2).1 b) := fun z => hnm z.2.2
                              rw [if_neg hns] at hpb
                              refine aw_iinc_12 C dX6_search_242 (by decide) (fun w h => by cases h <;> rfl) (show _ + Int32.ofInt 1 = _ by rw [k1_1, nI_add]) ?_
                              refine aw_goto C dX6_search_245 (tgt := 107) (by decide) ?_
                              exact (ih3 (b + 1) L3 q4 (by omega) (by omega) hQ4 hMay4 hF4 (Or.inl ⟨c_118, by rw [hpb, ← hL3]⟩)).less ⟨Or.inr rfl, Or.inr rfl, Or.inr rfl, Or.inr rfl, Or.inr rfl, Or.inr rfl, Or.inr rfl, Or.inr rfl, Or.inr rfl, Or.inr rfl, Or.inr rfl, Or.inr rfl, Or.inr rfl, Or.inl rfl, Or.inl rfl, Or.inl rfl, trivial⟩
                            · have hmx : mayX M cts p (pop ((ent L2 h2).1 % 256)) b := Decidable.byContradiction (fun z => absurd c_191 (by rw [if_neg z]; decide +kernel))
                              have hst : (ent L2 h2).2.2.2 < 12 ∧ stepC M cts p (ent L2 h2).1 b := ⟨by omega, c133, hmx⟩
                              rw [if_pos hst, ← hL3] at hpb
                              have hhl := halfM_lt hW hb93 hE2.2.1
                              have hnx : (nxtS M (ent L2 h2).1 b) < 1536 := by unfold nxtS; rcases c133 with z | z <;> omega
                              refine aw_iload_13 C dX6_search_194 ?_
                              refine aw_sipush C dX6_search_196 k3_256 ?_
                              refine aw_imul_n C dX6_search_199  ?_
                              refine aw_aload_1 C dX6_search_200 rfl ?_
                              refine aw_iload_10 C dX6_search_201 ?_
                              refine aw_iload_12 C dX6_search_203 ?_
                              refine aw_cV2IE C (s_X7_halfBehind w ((ent L2 h2).1 % 256) b hw hR4 hW hb93 hE2.2.1) mf_X7_halfBehind mv_X7_halfBehind (shW0 hw) rfl ml_X6_56 dX6_search_205 (by omega) (Nat.le_of_ble_eq_true rfl) ?_
                              refine aw_iadd_n C dX6_search_208  ?_
                              rw [show (M (4 * b + 0) + M (4 * b + 1) - (ent L2 h2).1 / 256) * 256 + halfM M ((ent L2 h2).1 % 256) b = (nxtS M (ent L2 h2).1 b) from by unfold nxtS; rw [Nat.mul_comm]]
                              refine aw_istore_15 C dX6_search_209 (by decide) (fun w h => by cases h <;> rfl) ?_
                              refine aw_aload_0 C dX6_search_211 rfl ?_
                              refine aw_iload_15 C dX6_search_212 ?_
                              refine aw_iload_6 C dX6_search_214 ?_
                              refine aw_bipush C dX6_search_216 k2_8 ?_
                              refine aw_imul_n C dX6_search_218  ?_
                              refine aw_iload_12 C dX6_search_219 ?_
                              refine aw_iadd_n C dX6_search_221  ?_
                              refine aw_cV2I C (s_X6_meet (nxtS M (ent L2 h2).1 b) ((ent L2 h2).2.2.2 + 1) (nI (h2 * 8 + b)) h2 b hQ4 hnx (fun z => hG3.room hnx z) (fun _ => rfl)) mf_X6_meet mv_X6_meet (sh_88) rfl ml_X6_59 dX6_search_222 (by omega) (Nat.le_of_ble_eq_true rfl) (fun r_222 q_222 h_222 => ?_)
                              obtain ⟨rfl, hQ5, hF5⟩ := h_222
                              have hF6 : Fr SWs q q_222 := hF4.tr (hF5.mono (fun k j z => by unfold SWm at z; unfold SWs; omega))
                              have hMay5 : MayR q_222 M cts p := hMay4.t (fun j => hF5.2 92 j (by unfold SWm; omega))
                              refine aw_if_eq_b C dX6_search_225 (tgt := 239) (by decide)  (fun c_225 => ?_) (fun c_225 => ?_)
                              · have c225 := Decidable.not_not.mp c_225
                                have ha : arrB L3 ((nxtS M (ent L2 h2).1 b), h2, b, (ent L2 h2).2.2.2 + 1) = L3 := if_pos c225
                                refine aw_iconst C dX6_search_239 k1_0 ?_
                                have hnf : T ∉ sts (arrB L3 ((nxtS M (ent L2 h2).1 b), h2, b, (ent L2 h2).2.2.2 + 1)) := by rw [ha]; exact c_118
                                rw [← bP_f hnf]
                                refine aw_istore_5 C dX6_search_240 (by decide) (fun w h => by cases h <;> rfl) ?_
                                refine aw_iinc_12 C dX6_search_242 (by decide) (fun w h => by cases h <;> rfl) (show _ + Int32.ofInt 1 = _ by rw [k1_1, nI_add]) ?_
                                refine aw_goto C dX6_search_245 (tgt := 107) (by decide) ?_
                                exact (ih3 (b + 1) (arrB L3 ((nxtS M (ent L2 h2).1 b), h2, b, (ent L2 h2).2.2.2 + 1)) q_222 (by omega) (by omega) hQ5 hMay5 hF6 (Or.inl ⟨hnf, hpb.symm⟩)).less ⟨Or.inr rfl, Or.inr rfl, Or.inr rfl, Or.inr rfl, Or.inr rfl, Or.inr rfl, Or.inr rfl, Or.inr rfl, Or.inr rfl, Or.inr rfl, Or.inr rfl, Or.inr rfl, Or.inr rfl, Or.inl rfl, Or.inl rfl, Or.inl rfl, trivial⟩
                              · have ha : arrB L3 ((nxtS M (ent L2 h2).1 b), h2, b, (ent L2 h2).2.2.2 + 1) = L3 ++ [((nxtS M (ent L2 h2).1 b), h2, b, (ent L2 h2).2.2.2 + 1)] := if_neg c_225
                                refine aw_iload_15 C dX6_search_228 ?_
                                refine aw_iload_4 C dX6_search_230 ?_
                                refine aw_icmp_ne C dX6_search_232 (tgt := 239) (by decide)  (fun c_232 => ?_) (fun c_232 => ?_)
                                · have c232 : ¬ (nxtS M (ent L2 h2).1 b) = T := fun z => c_232 ((tI_eq hnx hT).mpr z)
                                  have hnf : T ∉ sts (arrB L3 ((nxtS M (ent L2 h2).1 b), h2, b, (ent L2 h2).2.2.2 + 1)) := by
                                    rw [ha]
                                    unfold sts
                                    rw [List.map_append]
                                    intro z
                                    rcases List.mem_append.mp z with y | y
                                    · exact c_118 y
                                    · exact c232 (List.mem_singleton.mp y).symm
                                  refine aw_iconst C dX6_search_239 k1_0 ?_
                                  rw [← bP_f hnf]
                                  refine aw_istore_5 C dX6_search_240 (by decide) (fun w h => by cases h <;> rfl) ?_
                                  refine aw_iinc_12 C dX6_search_242 (by decide) (fun w h => by cases h <;> rfl) (show _ + Int32.ofInt 1 = _ by rw [k1_1, nI_add]) ?_
                                  refine aw_goto C dX6_search_245 (tgt := 107) (by decide) ?_
                                  exact (ih3 (b + 1) (arrB L3 ((nxtS M (ent L2 h2).1 b), h2, b, (ent L2 h2).2.2.2 + 1)) q_222 (by omega) (by omega) hQ5 hMay5 hF6 (Or.inl ⟨hnf, hpb.symm⟩)).less ⟨Or.inr rfl, Or.inr rfl, Or.inr rfl, Or.inr rfl, Or.inr rfl, Or.inr rfl, Or.inr rfl, Or.inr rfl, Or.inr rfl, Or.inr rfl, Or.inr rfl, Or.inr rfl, Or.inr rfl, Or.inl rfl, Or.inl rfl, Or.inl rfl, trivial⟩
                                · have c232 : (nxtS M (ent L2 h2).1 b) = T := (tI_eq hnx hT).mp c_232
                                  have hfd5 : FD T F (arrB L3 ((nxtS M (ent L2 h2).1 b), h2, b, (ent L2 h2).2.2.2 + 1)) (d1 + 1) := by
                                    have hpre := bfs_preF (M := M) (cts := cts) (i := p) (h := h2) (b := b + 1) (by rw [← hL2]; exact hlt2) (by omega) (by omega)
                                    rw [← hL2, hpb, hLe] at hpre
                                    rw [ha] at hpre ⊢
                                    have hl : (L3 ++ [((nxtS M (ent L2 h2).1 b), h2, b, (ent L2 h2).2.2.2 + 1)]).length - 1 = L3.length := by rw [List.length_append]; rfl
                                    refine ⟨by unfold sts; rw [List.map_append]; exact List.mem_append.mpr (Or.inr (List.mem_singleton.mpr c232.symm)), hpre, by rw [List.length_append]; exact Nat.succ_pos _, ?_, ?_, fun k hk => ?_⟩
                                    · rw [hl, ent_last]
                                      exact c232
                                    · rw [hl, ent_last]
                                      show (ent L2 h2).2.2.2 + 1 = d1 + 1
                                      rw [hfd]
                                    · rw [hl] at hk
                                      rw [ent_app hk]
                                      exact fun z => c_118 (mem_sts.mpr ⟨k, hk, z⟩)
                                  refine aw_iconst C dX6_search_235 k1_1 ?_
                                  refine aw_goto C dX6_search_236 (tgt := 240) (by decide) ?_
                                  rw [← bP_t hfd5.1]
                                  refine aw_istore_5 C dX6_search_240 (by decide) (fun w h => by cases h <;> rfl) ?_
                                  refine aw_iinc_12 C dX6_search_242 (by decide) (fun w h => by cases h <;> rfl) (show _ + Int32.ofInt 1 = _ by rw [k1_1, nI_add]) ?_
                                  refine aw_goto C dX6_search_245 (tgt := 107) (by decide) ?_
                                  exact (ih3 (b + 1) (arrB L3 ((nxtS M (ent L2 h2).1 b), h2, b, (ent L2 h2).2.2.2 + 1)) q_222 (by omega) (by omega) hQ5 hMay5 hF6 (Or.inr hfd5)).less ⟨Or.inr rfl, Or.inr rfl, Or.inr rfl, Or.inr rfl, Or.inr rfl, Or.inr rfl, Or.inr rfl, Or.inr rfl, Or.inr rfl, Or.inr rfl, Or.inr rfl, Or.inr rfl, Or.inr rfl, Or.inl rfl, Or.inl rfl, Or.inl rfl, trivial⟩
                          · skip
                            refine aw_iconst C dX6_search_177 k1_1 ?_
                            refine aw_goto C dX6_search_178 (tgt := 182) (by decide) ?_
                            refine aw_iast C _ dX6_search_182 sh_92 rfl (show (b * 9 + pop ((ent L2 h2).1 % 256)) < 72 by omega) ?_
                            have hmv : gI (sI q_171 92 (b * 9 + pop ((ent L2 h2).1 % 256)) (nI 1)) 92 (b * 9 + pop ((ent L2 h2).1 % 256)) = (if mayX M cts p (pop ((ent L2 h2).1 % 256)) b then nI 1 else nI 2) := by rw [gI_sI, if_pos ⟨rfl, rfl⟩]; exact (if_pos c_174).symm
                            have hQ4 : WQ (sI q_171 92 (b * 9 + pop ((ent L2 h2).1 % 256)) (nI 1)) L3 := (hQ3.t (fun k j z => hF171.2 k j (by unfold SWm at z; unfold SFk; omega))).t (fun k j z => by rw [gI_sI, if_neg (by unfold SWm at z; omega)])
                            have hMay4 : MayR (sI q_171 92 (b * 9 + pop ((ent L2 h2).1 % 256)) (nI 1)) M cts p := fun b2 hb2 n2 hn2 => by
                              have h171 := (hMay3.t (q2 := q_171) (fun j => hF171.2 92 j (by unfold SFk; omega))) b2 hb2 n2 hn2
                              rw [gI_sI]
                              by_cases y : b2 * 9 + n2 = (b * 9 + pop ((ent L2 h2).1 % 256))
                              · have y1 : b2 = b := by omega
                                have y2 : n2 = pop ((ent L2 h2).1 % 256) := by omega
                                rw [if_pos ⟨rfl, y⟩, y1, y2]
                                exact Or.inr (if_pos c_174).symm
                              · rw [if_neg (fun z => y z.2)]
                                exact h171
                            have hF4 : Fr SWs q (sI q_171 92 (b * 9 + pop ((ent L2 h2).1 % 256)) (nI 1)) := (hF3.tr (hF171.mono (fun k j z => Or.inr z))).put (Or.inl ⟨by omega, by omega⟩)
                            generalize (sI q_171 92 (b * 9 + pop ((ent L2 h2).1 % 256)) (nI 1)) = q4 at hmv hQ4 hMay4 hF4 ⊢
                            have hR4 : RelW q4 w M := h.t hW (fun k j z1 z2 => hF4.2 k j (by unfold SWs SFk; omega))
                            have hC4 : CyR q4 cts N := hC.t hN6 (fun k j z1 z2 z3 => hF4.2 k j (by unfold SWs SFk; omega))
                            refine aw_aload_0 C dX6_search_183 rfl ?_
                            refine aw_g6_3 C dX6_search_184 fl_X6_22 ?_
                            refine aw_iload_14 C dX6_search_187 ?_
                            refine aw_iald C _ hmv dX6_search_189 sh_92 rfl (show (b * 9 + pop ((ent L2 h2).1 % 256)) < 72 by omega) ?_
                            refine aw_iconst C dX6_search_190 k1_1 ?_
                            refine aw_icmp_ne C dX6_search_191 (tgt := 242) (by decide)  (fun c_191 => ?_) (fun c_191 => ?_)
                            · have hnm : ¬ mayX M cts p (pop ((ent L2 h2).1 % 256)) b := fun z => c_191 (if_pos z)
                              have hns : ¬ ((ent L2 h2).2.2.2 < 12 ∧ stepC M cts p (ent L2 h2).1 b) := fun z => hnm z.2.2
                              rw [if_neg hns] at hpb
                              refine aw_iinc_12 C dX6_search_242 (by decide) (fun w h => by cases h <;> rfl) (show _ + Int32.ofInt 1 = _ by rw [k1_1, nI_add]) ?_
                              refine aw_goto C dX6_search_245 (tgt := 107) (by decide) ?_
                              exact (ih3 (b + 1) L3 q4 (by omega) (by omega) hQ4 hMay4 hF4 (Or.inl ⟨c_118, by rw [hpb, ← hL3]⟩)).less ⟨Or.inr rfl, Or.inr rfl, Or.inr rfl, Or.inr rfl, Or.inr rfl, Or.inr rfl, Or.inr rfl, Or.inr rfl, Or.inr rfl, Or.inr rfl, Or.inr rfl, Or.inr rfl, Or.inr rfl, Or.inl rfl, Or.inl rfl, Or.inl rfl, trivial⟩
                            · have hmx : mayX M cts p (pop ((ent L2 h2).1 % 256)) b := Decidable.byContradiction (fun z => absurd c_191 (by rw [if_neg z]; decide +kernel))
                              have hst : (ent L2 h2).2.2.2 < 12 ∧ stepC M cts p (ent L2 h2).1 b := ⟨by omega, c133, hmx⟩
                              rw [if_pos hst, ← hL3] at hpb
                              have hhl := halfM_lt hW hb93 hE2.2.1
                              have hnx : (nxtS M (ent L2 h2).1 b) < 1536 := by unfold nxtS; rcases c133 with z | z <;> omega
                              refine aw_iload_13 C dX6_search_194 ?_
                              refine aw_sipush C dX6_search_196 k3_256 ?_
                              refine aw_imul_n C dX6_search_199  ?_
                              refine aw_aload_1 C dX6_search_200 rfl ?_
                              refine aw_iload_10 C dX6_search_201 ?_
                              refine aw_iload_12 C dX6_search_203 ?_
                              refine aw_cV2IE C (s_X7_halfBehind w ((ent L2 h2).1 % 256) b hw hR4 hW hb93 hE2.2.1) mf_X7_halfBehind mv_X7_halfBehind (shW0 hw) rfl ml_X6_56 dX6_search_205 (by omega) (Nat.le_of_ble_eq_true rfl) ?_
                              refine aw_iadd_n C dX6_search_208  ?_
                              rw [show (M (4 * b + 0) + M (4 * b + 1) - (ent L2 h2).1 / 256) * 256 + halfM M ((ent L2 h2).1 % 256) b = (nxtS M (ent L2 h2).1 b) from by unfold nxtS; rw [Nat.mul_comm]]
                              refine aw_istore_15 C dX6_search_209 (by decide) (fun w h => by cases h <;> rfl) ?_
                              refine aw_aload_0 C dX6_search_211 rfl ?_
                              refine aw_iload_15 C dX6_search_212 ?_
                              refine aw_iload_6 C dX6_search_214 ?_
                              refine aw_bipush C dX6_search_216 k2_8 ?_
                              refine aw_imul_n C dX6_search_218  ?_
                              refine aw_iload_12 C dX6_search_219 ?_
                              refine aw_iadd_n C dX6_search_221  ?_
                              refine aw_cV2I C (s_X6_meet (nxtS M (ent L2 h2).1 b) ((ent L2 h2).2.2.2 + 1) (nI (h2 * 8 + b)) h2 b hQ4 hnx (fun z => hG3.room hnx z) (fun _ => rfl)) mf_X6_meet mv_X6_meet (sh_88) rfl ml_X6_59 dX6_search_222 (by omega) (Nat.le_of_ble_eq_true rfl) (fun r_222 q_222 h_222 => ?_)
                              obtain ⟨rfl, hQ5, hF5⟩ := h_222
                              have hF6 : Fr SWs q q_222 := hF4.tr (hF5.mono (fun k j z => by unfold SWm at z; unfold SWs; omega))
                              have hMay5 : MayR q_222 M cts p := hMay4.t (fun j => hF5.2 92 j (by unfold SWm; omega))
                              refine aw_if_eq_b C dX6_search_225 (tgt := 239) (by decide)  (fun c_225 => ?_) (fun c_225 => ?_)
                              · have c225 := Decidable.not_not.mp c_225
                                have ha : arrB L3 ((nxtS M (ent L2 h2).1 b), h2, b, (ent L2 h2).2.2.2 + 1) = L3 := if_pos c225
                                refine aw_iconst C dX6_search_239 k1_0 ?_
                                have hnf : T ∉ sts (arrB L3 ((nxtS M (ent L2 h2).1 b), h2, b, (ent L2 h2).2.2.2 + 1)) := by rw [ha]; exact c_118
                                rw [← bP_f hnf]
                                refine aw_istore_5 C dX6_search_240 (by decide) (fun w h => by cases h <;> rfl) ?_
                                refine aw_iinc_12 C dX6_search_242 (by decide) (fun w h => by cases h <;> rfl) (show _ + Int32.ofInt 1 = _ by rw [k1_1, nI_add]) ?_
                                refine aw_goto C dX6_search_245 (tgt := 107) (by decide) ?_
                                exact (ih3 (b + 1) (arrB L3 ((nxtS M (ent L2 h2).1 b), h2, b, (ent L2 h2).2.2.2 + 1)) q_222 (by omega) (by omega) hQ5 hMay5 hF6 (Or.inl ⟨hnf, hpb.symm⟩)).less ⟨Or.inr rfl, Or.inr rfl, Or.inr rfl, Or.inr rfl, Or.inr rfl, Or.inr rfl, Or.inr rfl, Or.inr rfl, Or.inr rfl, Or.inr rfl, Or.inr rfl, Or.inr rfl, Or.inr rfl, Or.inl rfl, Or.inl rfl, Or.inl rfl, trivial⟩
                              · have ha : arrB L3 ((nxtS M (ent L2 h2).1 b), h2, b, (ent L2 h2).2.2.2 + 1) = L3 ++ [((nxtS M (ent L2 h2).1 b), h2, b, (ent L2 h2).2.2.2 + 1)] := if_neg c_225
                                refine aw_iload_15 C dX6_search_228 ?_
                                refine aw_iload_4 C dX6_search_230 ?_
                                refine aw_icmp_ne C dX6_search_232 (tgt := 239) (by decide)  (fun c_232 => ?_) (fun c_232 => ?_)
                                · have c232 : ¬ (nxtS M (ent L2 h2).1 b) = T := fun z => c_232 ((tI_eq hnx hT).mpr z)
                                  have hnf : T ∉ sts (arrB L3 ((nxtS M (ent L2 h2).1 b), h2, b, (ent L2 h2).2.2.2 + 1)) := by
                                    rw [ha]
                                    unfold sts
                                    rw [List.map_append]
                                    intro z
                                    rcases List.mem_append.mp z with y | y
                                    · exact c_118 y
                                    · exact c232 (List.mem_singleton.mp y).symm
                                  refine aw_iconst C dX6_search_239 k1_0 ?_
                                  rw [← bP_f hnf]
                                  refine aw_istore_5 C dX6_search_240 (by decide) (fun w h => by cases h <;> rfl) ?_
                                  refine aw_iinc_12 C dX6_search_242 (by decide) (fun w h => by cases h <;> rfl) (show _ + Int32.ofInt 1 = _ by rw [k1_1, nI_add]) ?_
                                  refine aw_goto C dX6_search_245 (tgt := 107) (by decide) ?_
                                  exact (ih3 (b + 1) (arrB L3 ((nxtS M (ent L2 h2).1 b), h2, b, (ent L2 h2).2.2.2 + 1)) q_222 (by omega) (by omega) hQ5 hMay5 hF6 (Or.inl ⟨hnf, hpb.symm⟩)).less ⟨Or.inr rfl, Or.inr rfl, Or.inr rfl, Or.inr rfl, Or.inr rfl, Or.inr rfl, Or.inr rfl, Or.inr rfl, Or.inr rfl, Or.inr rfl, Or.inr rfl, Or.inr rfl, Or.inr rfl, Or.inl rfl, Or.inl rfl, Or.inl rfl, trivial⟩
                                · have c232 : (nxtS M (ent L2 h2).1 b) = T := (tI_eq hnx hT).mp c_232
                                  have hfd5 : FD T F (arrB L3 ((nxtS M (ent L2 h2).1 b), h2, b, (ent L2 h2).2.2.2 + 1)) (d1 + 1) := by
                                    have hpre := bfs_preF (M := M) (cts := cts) (i := p) (h := h2) (b := b + 1) (by rw [← hL2]; exact hlt2) (by omega) (by omega)
                                    rw [← hL2, hpb, hLe] at hpre
                                    rw [ha] at hpre ⊢
                                    have hl : (L3 ++ [((nxtS M (ent L2 h2).1 b), h2, b, (ent L2 h2).2.2.2 + 1)]).length - 1 = L3.length := by rw [List.length_append]; rfl
                                    refine ⟨by unfold sts; rw [List.map_append]; exact List.mem_append.mpr (Or.inr (List.mem_singleton.mpr c232.symm)), hpre, by rw [List.length_append]; exact Nat.succ_pos _, ?_, ?_, fun k hk => ?_⟩
                                    · rw [hl, ent_last]
                                      exact c232
                                    · rw [hl, ent_last]
                                      show (ent L2 h2).2.2.2 + 1 = d1 + 1
                                      rw [hfd]
                                    · rw [hl] at hk
                                      rw [ent_app hk]
                                      exact fun z => c_118 (mem_sts.mpr ⟨k, hk, z⟩)
                                  refine aw_iconst C dX6_search_235 k1_1 ?_
                                  refine aw_goto C dX6_search_236 (tgt := 240) (by decide) ?_
                                  rw [← bP_t hfd5.1]
                                  refine aw_istore_5 C dX6_search_240 (by decide) (fun w h => by cases h <;> rfl) ?_
                                  refine aw_iinc_12 C dX6_search_242 (by decide) (fun w h => by cases h <;> rfl) (show _ + Int32.ofInt 1 = _ by rw [k1_1, nI_add]) ?_
                                  refine aw_goto C dX6_search_245 (tgt := 107) (by decide) ?_
                                  exact (ih3 (b + 1) (arrB L3 ((nxtS M (ent L2 h2).1 b), h2, b, (ent L2 h2).2.2.2 + 1)) q_222 (by omega) (by omega) hQ5 hMay5 hF6 (Or.inr hfd5)).less ⟨Or.inr rfl, Or.inr rfl, Or.inr rfl, Or.inr rfl, Or.inr rfl, Or.inr rfl, Or.inr rfl, Or.inr rfl, Or.inr rfl, Or.inr rfl, Or.inr rfl, Or.inr rfl, Or.inr rfl, Or.inl rfl, Or.inl rfl, Or.inl rfl, trivial⟩
                      · have c133 : ¬ adjP M ((ent L2 h2).1 / 256) b := fun z => c_133 ((oe_ge (by omega)).mpr z)
                        have hns : ¬ ((ent L2 h2).2.2.2 < 12 ∧ stepC M cts p (ent L2 h2).1 b) := fun z => c133 z.2.1
                        rw [if_neg hns] at hpb
                        refine aw_goto C dX6_search_136 (tgt := 242) (by decide) ?_
                        refine aw_iinc_12 C dX6_search_242 (by decide) (fun w h => by cases h <;> rfl) (show _ + Int32.ofInt 1 = _ by rw [k1_1, nI_add]) ?_
                        refine aw_goto C dX6_search_245 (tgt := 107) (by decide) ?_
                        exact (ih3 (b + 1) L3 q3 (by omega) (by omega) hQ3 hMay3 hF3 (Or.inl ⟨c_118, by rw [hpb, ← hL3]⟩)).less ⟨Or.inr rfl, Or.inr rfl, Or.inr rfl, Or.inr rfl, Or.inr rfl, Or.inr rfl, Or.inr rfl, Or.inr rfl, Or.inr rfl, Or.inr rfl, Or.inr rfl, Or.inr rfl, Or.inr rfl, Or.inl rfl, Or.inl rfl, Or.inl rfl, trivial⟩
                exact L107 (M 93 + 1) 0 L2 q2 (by omega) (by omega) hQ2 hMay2 hF2 (Or.inl ⟨c_68, rfl⟩)
          exact L59 (L.length + 1) h1 L q1 (Nat.le_refl _) hle (by omega) hQ1 hMay1 hF1 (Or.inl ⟨c_50, hL, hfar, fun k z1 z2 => absurd z2 (by omega), Nat.le_refl _⟩)
    have h41 := L41 13 0 0 [(s0, 0, 0, 0)] q_7 (by omega) (by omega) hQ0 hMay0 hFs (Or.inl ⟨hns, hbl.symm, fun k z1 z2 => by have z3 : k < 1 := z2; rw [show k = 0 by omega]; rfl, Nat.zero_le _⟩)
    rw [bP_f hns] at h41
    exact h41
  · have c25 : s0 = T := (tI_eq hs15 hT).mp c_25
    have hns : T ∈ sts [(s0, 0, 0, 0)] := List.mem_singleton.mpr c25.symm
    refine aw_iconst C dX6_search_28 k1_1 ?_
    refine aw_goto C dX6_search_29 (tgt := 33) (by decide) ?_
    refine aw_istore_5 C dX6_search_33 (by decide) (fun w h => by cases h <;> rfl) ?_
    refine aw_iconst C dX6_search_35 k1_0 ?_
    refine aw_istore_6 C dX6_search_36 (by decide) (fun w h => by cases h <;> rfl) ?_
    refine aw_iconst C dX6_search_38 k1_0 ?_
    refine aw_istore_7 C dX6_search_39 (by decide) (fun w h => by cases h <;> rfl) ?_
    have L41 : ∀ (n2 d1 h1 : Nat) (L : List E4) (q1 : S_), d1 ≤ 12 → 12 < d1 + n2 → WQ q1 L → MayR q1 M cts p → Fr SWs q q1 → ((T ∉ sts L ∧ L = bfsL M cts p h1 ∧ (∀ k, h1 ≤ k → k < L.length → (ent L k).2.2.2 = d1) ∧ h1 ≤ L.length) ∨ FD T F L d1) → AW X G (q1) 41 [some (rfn G 88), some (rfn G w), some (.int (nI p)), some (.int x), some (.int (tI T)), some (.int (bP (T ∈ sts L))), some (.int (nI h1)), some (.int (nI d1)), none, none, none, none, none, none, none, none] [] := by
      refine nat_loop (fun d1 h1 L q1 g1 g2 hQ1 hMay1 hF1 hOI => by omega) (fun n2 ih d1 h1 L q1 g1 g2 hQ1 hMay1 hF1 hOI => ?_)
      have hR1 : RelW q1 w M := h.t hW (fun k j z1 z2 => hF1.2 k j (by unfold SWs SFk; omega))
      have hC1 : CyR q1 cts N := hC.t hN6 (fun k j z1 z2 z3 => hF1.2 k j (by unfold SWs SFk; omega))
      refine aw_iload_7 C dX6_search_41 ?_
      refine aw_bipush C dX6_search_43 k2_12 ?_
      refine aw_icmp_ge_n C dX6_search_45 (tgt := 260) (by decide) (by omega) (by omega) (fun c_45 => ?_) (fun c_45 => ?_)
      · skip
        refine aw_aload_0 C dX6_search_260 rfl ?_
        refine aw_iload_5 C dX6_search_261 ?_
        refine aw_if_eq_b C dX6_search_263 (tgt := 271) (by decide)  (fun c_263 => ?_) (fun c_263 => ?_)
        · skip
          refine aw_bipush C dX6_search_271 k2_m5 ?_
          refine aw_p6_5 C dX6_search_273 fl_X6_63 ?_
          refine aw_aload_0 C dX6_search_276 rfl ?_
          refine aw_g6_5 C (show gI _ 88 5 = _ from by rw [gI_sI, if_pos ⟨rfl, rfl⟩]) dX6_search_277 fl_X6_63 ?_
          refine aw_iretI C hR dX6_search_280 ?_
          obtain ⟨hn1, hL, hfar, hle⟩ := hOI.resolve_right (fun z => c_263 z.1)
          have hFL : F = L := by
            rw [← hLe, bfsF_eq, show 1536 = h1 + (1536 - h1) by have := hQ1.2.2.2.1; omega]
            rw [hL] at hfar
            rw [bfs_stop (fun k z1 z2 => by have := hfar k z1 z2; omega), ← hL]
          have hlg : lngT F T = 99 := lngT_no (by rw [hFL]; exact hn1)
          exact ⟨L, hQ1.t (fun k j z => by rw [gI_sI, if_neg (by unfold SWm at z; omega)]), by rw [hlg]; rfl, by rw [hlg, gI_sI, if_pos ⟨rfl, rfl⟩]; rfl, Or.inl ⟨by rw [hFL]; exact hn1, hFL.symm⟩, hF1.put (Or.inl ⟨by omega, by omega⟩)⟩
        · skip
          refine aw_iload_7 C dX6_search_266 ?_
          refine aw_goto C dX6_search_268 (tgt := 273) (by decide) ?_
          refine aw_p6_5 C dX6_search_273 fl_X6_63 ?_
          refine aw_aload_0 C dX6_search_276 rfl ?_
          refine aw_g6_5 C (show gI _ 88 5 = _ from by rw [gI_sI, if_pos ⟨rfl, rfl⟩]) dX6_search_277 fl_X6_63 ?_
          refine aw_iretI C hR dX6_search_280 ?_
          have hfd0 := hOI.resolve_left (fun z => z.1 c_263)
          have hix := hfd0.ix
          rw [← l5_n (show d1 ≠ 99 by omega)]
          exact ⟨L, hQ1.t (fun k j z => by rw [gI_sI, if_neg (by unfold SWm at z; omega)]), by rw [hix.2.1], by rw [hix.2.1, gI_sI, if_pos ⟨rfl, rfl⟩], Or.inr (by rw [hix.2.1]; exact hfd0), hF1.put (Or.inl ⟨by omega, by omega⟩)⟩
      · skip
        refine aw_iload_5 C dX6_search_48 ?_
        refine aw_if_ne_b C dX6_search_50 (tgt := 260) (by decide)  (fun c_50 => ?_) (fun c_50 => ?_)
        · skip
          refine aw_aload_0 C dX6_search_260 rfl ?_
          refine aw_iload_5 C dX6_search_261 ?_
          refine aw_if_eq_b C dX6_search_263 (tgt := 271) (by decide)  (fun c_263 => absurd c_263 (fun z => z c_50)) (fun c_263 => ?_)
          refine aw_iload_7 C dX6_search_266 ?_
          refine aw_goto C dX6_search_268 (tgt := 273) (by decide) ?_
          refine aw_p6_5 C dX6_search_273 fl_X6_63 ?_
          refine aw_aload_0 C dX6_search_276 rfl ?_
          refine aw_g6_5 C (show gI _ 88 5 = _ from by rw [gI_sI, if_pos ⟨rfl, rfl⟩]) dX6_search_277 fl_X6_63 ?_
          refine aw_iretI C hR dX6_search_280 ?_
          have hfd0 := hOI.resolve_left (fun z => z.1 c_50)
          have hix := hfd0.ix
          rw [← l5_n (show d1 ≠ 99 by omega)]
          exact ⟨L, hQ1.t (fun k j z => by rw [gI_sI, if_neg (by unfold SWm at z; omega)]), by rw [hix.2.1], by rw [hix.2.1, gI_sI, if_pos ⟨rfl, rfl⟩], Or.inr (by rw [hix.2.1]; exact hfd0), hF1.put (Or.inl ⟨by omega, by omega⟩)⟩
        · obtain ⟨-, hL, hfar, hle⟩ := hOI.resolve_right (fun z => c_50 z.1)
          refine aw_aload_0 C dX6_search_53 rfl ?_
          refine aw_g6_4 C hQ1.1 dX6_search_54 fl_X6_35 ?_
          refine aw_istore_8 C dX6_search_57 (by decide) (fun w h => by cases h <;> rfl) ?_
          have L59 : ∀ (n3 h2 : Nat) (L2 : List E4) (q2 : S_), h1 ≤ h2 → h2 ≤ L.length → L.length < h2 + n3 → WQ q2 L2 → MayR q2 M cts p → Fr SWs q q2 → ((T ∉ sts L2 ∧ L2 = bfsL M cts p h2 ∧ (∀ k, h2 ≤ k → k < L.length → (ent L2 k).2.2.2 = d1) ∧ (∀ k, L.length ≤ k → k < L2.length → (ent L2 k).2.2.2 = d1 + 1) ∧ L.length ≤ L2.length) ∨ FD T F L2 (d1 + 1)) → AW X G (q2) 59 [some (rfn G 88), some (rfn G w), some (.int (nI p)), some (.int x), some (.int (tI T)), some (.int (bP (T ∈ sts L2))), some (.int (nI h2)), some (.int (nI d1)), some (.int (nI L.length)), none, none, none, none, none, none, none] [] := by
            have hl15o := hQ1.2.2.2.1
            refine nat_loop (fun h2 L2 q2 g3 g4 g5 hQ2 hMay2 hF2 hMI => by omega) (fun n3 ih2 h2 L2 q2 g3 g4 g5 hQ2 hMay2 hF2 hMI => ?_)
            have hR2 : RelW q2 w M := h.t hW (fun k j z1 z2 => hF2.2 k j (by unfold SWs SFk; omega))
            have hC2 : CyR q2 cts N := hC.t hN6 (fun k j z1 z2 z3 => hF2.2 k j (by unfold SWs SFk; omega))
            refine aw_iload_6 C dX6_search_59 ?_
            refine aw_iload_8 C dX6_search_61 ?_
            refine aw_icmp_ge_n C dX6_search_63 (tgt := 254) (by decide) (by omega) (by omega) (fun c_63 => ?_) (fun c_63 => ?_)
            · skip
              refine aw_iinc_7 C dX6_search_254 (by decide) (fun w h => by cases h <;> rfl) (show _ + Int32.ofInt 1 = _ by rw [k1_1, nI_add]) ?_
              refine aw_goto C dX6_search_257 (tgt := 41) (by decide) ?_
              exact (ih (d1 + 1) h2 L2 q2 (by omega) (by omega) hQ2 hMay2 hF2 (hMI.imp (fun z => ⟨z.1, z.2.1, fun k z1 z2 => z.2.2.2.1 k (by omega) z2, by have := z.2.2.2.2; omega⟩) id)).less ⟨Or.inr rfl, Or.inr rfl, Or.inr rfl, Or.inr rfl, Or.inr rfl, Or.inr rfl, Or.inr rfl, Or.inr rfl, Or.inl rfl, Or.inl rfl, Or.inl rfl, Or.inl rfl, Or.inl rfl, Or.inl rfl, Or.inl rfl, Or.inl rfl, trivial⟩
            · skip
              refine aw_iload_5 C dX6_search_66 ?_
              refine aw_if_ne_b C dX6_search_68 (tgt := 254) (by decide)  (fun c_68 => ?_) (fun c_68 => ?_)
              · skip
                refine aw_iinc_7 C dX6_search_254 (by decide) (fun w h => by cases h <;> rfl) (show _ + Int32.ofInt 1 = _ by rw [k1_1, nI_add]) ?_
                refine aw_goto C dX6_search_257 (tgt := 41) (by decide) ?_
                exact (ih (d1 + 1) h2 L2 q2 (by omega) (by omega) hQ2 hMay2 hF2 (Or.inr (hMI.resolve_left (fun z => z.1 c_68)))).less ⟨Or.inr rfl, Or.inr rfl, Or.inr rfl, Or.inr rfl, Or.inr rfl, Or.inr rfl, Or.inr rfl, Or.inr rfl, Or.inl rfl, Or.inl rfl, Or.inl rfl, Or.inl rfl, Or.inl rfl, Or.inl rfl, Or.inl rfl, Or.inl rfl, trivial⟩
              · obtain ⟨-, hL2, hf1, hf2, hle2⟩ := hMI.resolve_right (fun z => c_68 z.1)
                have hlt2 : h2 < L2.length := by omega
                have hG2 : GL M L2 := by rw [hL2]; exact hk1 h2
                have hE2 := hG2.2.2.2 h2 hlt2
                have hfd := hf1 h2 (Nat.le_refl _) (by omega)
                have hpop := pop_le ((ent L2 h2).1 % 256)
                have hl15 := hQ2.2.2.2.1
                refine aw_aload_0 C dX6_search_71 rfl ?_
                refine aw_g6_0 C dX6_search_72 fl_X6_9 ?_
                refine aw_iload_6 C dX6_search_75 ?_
                refine aw_iald C _ (hQ2.2.1 h2 hlt2).1 dX6_search_77 sh_89 rfl (by omega) ?_
                refine aw_sipush C dX6_search_78 k3_256 ?_
                refine aw_idiv_n C dX6_search_81 (by omega) (by omega) (by omega) ?_
                refine aw_istore_9 C dX6_search_82 (by decide) (fun w h => by cases h <;> rfl) ?_
                refine aw_aload_0 C dX6_search_84 rfl ?_
                refine aw_g6_0 C dX6_search_85 fl_X6_9 ?_
                refine aw_iload_6 C dX6_search_88 ?_
                refine aw_iald C _ (hQ2.2.1 h2 hlt2).1 dX6_search_90 sh_89 rfl (by omega) ?_
                refine aw_sipush C dX6_search_91 k3_256 ?_
                refine aw_irem_n C dX6_search_94 (by omega) (by omega) (by omega) ?_
                refine aw_istore_10 C dX6_search_95 (by decide) (fun w h => by cases h <;> rfl) ?_
                refine aw_iload_10 C dX6_search_97 ?_
                refine aw_cS1IE C (s_J6_bitCount_0f7a4 ((ent L2 h2).1 % 256) (by omega)) mf_J6_bitCount_0f7a4 ms_J6_bitCount_0f7a4 ml_X6_39 dX6_search_99 (by omega) (Nat.le_of_ble_eq_true rfl) ?_
                refine aw_istore_11 C dX6_search_102 (by decide) (fun w h => by cases h <;> rfl) ?_
                refine aw_iconst C dX6_search_104 k1_0 ?_
                refine aw_istore_12 C dX6_search_105 (by decide) (fun w h => by cases h <;> rfl) ?_
                have L107 : ∀ (n4 b : Nat) (L3 : List E4) (q3 : S_), b ≤ M 93 → M 93 < b + n4 → WQ q3 L3 → MayR q3 M cts p → Fr SWs q q3 → ((T ∉ sts L3 ∧ L3 = procB M cts p L2 h2 b) ∨ FD T F L3 (d1 + 1)) → AW X G (q3) 107 [some (rfn G 88), some (rfn G w), some (.int (nI p)), some (.int x), some (.int (tI T)), some (.int (bP (T ∈ sts L3))), some (.int (nI h2)), some (.int (nI d1)), some (.int (nI L.length)), some (.int (nI ((ent L2 h2).1 / 256))), some (.int (nI ((ent L2 h2).1 % 256))), some (.int (nI (pop ((ent L2 h2).1 % 256)))), some (.int (nI b)), none, none, none] [] := by
                  refine nat_loop (fun b L3 q3 g6 g7 hQ3 hMay3 hF3 hII => by omega) (fun n4 ih3 b L3 q3 g6 g7 hQ3 hMay3 hF3 hII => ?_)
                  have hR3 : RelW q3 w M := h.t hW (fun k j z1 z2 => hF3.2 k j (by unfold SWs SFk; omega))
                  have hC3 : CyR q3 cts N := hC.t hN6 (fun k j z1 z2 z3 => hF3.2 k j (by unfold SWs SFk; omega))
                  refine aw_iload_12 C dX6_search_107 ?_
                  refine aw_aload_1 C dX6_search_109 rfl ?_
                  refine aw_g7_0 C hR3.1.1 dX6_search_110 (shW0 hw) fl_X6_45 ?_
                  refine aw_icmp_ge_n C dX6_search_113 (tgt := 248) (by decide) (by omega) (by omega) (fun c_113 => ?_) (fun c_113 => ?_)
                  · skip
                    refine aw_iinc_6 C dX6_search_248 (by decide) (fun w h => by cases h <;> rfl) (show _ + Int32.ofInt 1 = _ by rw [k1_1, nI_add]) ?_
                    refine aw_goto C dX6_search_251 (tgt := 59) (by decide) ?_
                    exact (ih2 (h2 + 1) L3 q3 (by omega) (by omega) (by omega) hQ3 hMay3 hF3 (hII.imp (fun z => by
                      have hb : b = M 93 := by omega
                      obtain ⟨z1, z2⟩ := z
                      rw [hb] at z2
                      have hlen := procB_len (M := M) (cts := cts) (i := p) (k := h2) (b := M 93) (L := L2)
                      rw [← z2] at hlen
                      refine ⟨z1, ?_, fun k y1 y2 => ?_, fun k y1 y2 => ?_, by omega⟩
                      · have e3 : bfsL M cts p (h2 + 1) = procB M cts p (bfsL M cts p h2) h2 (M 93) := if_pos (show h2 < (bfsL M cts p h2).length from by rw [← hL2]; exact hlt2)
                        rw [e3, ← hL2, z2]
                      · rw [z2, procB_ent (by omega)]
                        exact hf1 k (by omega) y2
                      · by_cases y3 : k < L2.length
                        · rw [z2, procB_ent y3]
                          exact hf2 k y1 y3
                        · rw [z2] at y2 ⊢
                          rw [procB_new (M 93) k (by omega) y2, hfd]) id)).less ⟨Or.inr rfl, Or.inr rfl, Or.inr rfl, Or.inr rfl, Or.inr rfl, Or.inr rfl, Or.inr rfl, Or.inr rfl, Or.inr rfl, Or.inl rfl, Or.inl rfl, Or.inl rfl, Or.inl rfl, Or.inl rfl, Or.inl rfl, Or.inl rfl, trivial⟩
                  · skip
                    refine aw_iload_5 C dX6_search_116 ?_
                    refine aw_if_ne_b C dX6_search_118 (tgt := 248) (by decide)  (fun c_118 => ?_) (fun c_118 => ?_)
                    · skip
                      refine aw_iinc_6 C dX6_search_248 (by decide) (fun w h => by cases h <;> rfl) (show _ + Int32.ofInt 1 = _ by rw [k1_1, nI_add]) ?_
                      refine aw_goto C dX6_search_251 (tgt := 59) (by decide) ?_
                      exact (ih2 (h2 + 1) L3 q3 (by omega) (by omega) (by omega) hQ3 hMay3 hF3 (Or.inr (hII.resolve_left (fun z => z.1 c_118)))).less ⟨Or.inr rfl, Or.inr rfl, Or.inr rfl, Or.inr rfl, Or.inr rfl, Or.inr rfl, Or.inr rfl, Or.inr rfl, Or.inr rfl, Or.inl rfl, Or.inl rfl, Or.inl rfl, Or.inl rfl, Or.inl rfl, Or.inl rfl, Or.inl rfl, trivial⟩
                    · obtain ⟨-, hL3⟩ := hII.resolve_right (fun z => c_118 z.1)
                      have hb93 : b < M 93 := by omega
                      have hbb := hW.b hb93
                      have hG3 : GL M L3 := by rw [hL3]; exact hG2.proc hW hlt2 b (by omega)
                      have hpb := procB_s M cts p L2 h2 b
                      refine aw_aload_1 C dX6_search_121 rfl ?_
                      refine aw_iload_12 C dX6_search_122 ?_
                      refine aw_iload_9 C dX6_search_124 ?_
                      refine aw_cV2IE C (s_X7_otherEnd w b ((ent L2 h2).1 / 256) hw hR3 hW hb93 (by omega)) mf_X7_otherEnd mv_X7_otherEnd (shW0 hw) rfl ml_X6_48 dX6_search_126 (by omega) (Nat.le_of_ble_eq_true rfl) ?_
                      refine aw_istore_13 C dX6_search_129 (by decide) (fun w h => by cases h <;> rfl) ?_
                      refine aw_iload_13 C dX6_search_131 ?_
                      refine aw_if_ge C dX6_search_133 (tgt := 139) (by decide)  (fun c_133 => ?_) (fun c_133 => ?_)
                      · have c133 : adjP M ((ent L2 h2).1 / 256) b := (oe_ge (by omega)).mp c_133
                        rw [show oeM M b ((ent L2 h2).1 / 256) = nI (M (4 * b + 0) + M (4 * b + 1) - (ent L2 h2).1 / 256) from if_pos c133]
                        refine aw_iload_12 C dX6_search_139 ?_
                        refine aw_bipush C dX6_search_141 k2_9 ?_
                        refine aw_imul_n C dX6_search_143  ?_
                        refine aw_iload_11 C dX6_search_144 ?_
                        refine aw_iadd_n C dX6_search_146  ?_
                        refine aw_istore_14 C dX6_search_147 (by decide) (fun w h => by cases h <;> rfl) ?_
                        refine aw_aload_0 C dX6_search_149 rfl ?_
                        refine aw_g6_3 C dX6_search_150 fl_X6_22 ?_
                        refine aw_iload_14 C dX6_search_153 ?_
                        refine aw_iald C _ rfl dX6_search_155 sh_92 rfl (show (b * 9 + pop ((ent L2 h2).1 % 256)) < 72 by omega) ?_
                        refine aw_if_ne C dX6_search_156 (tgt := 183) (by decide)  (fun c_156 => ?_) (fun c_156 => ?_)
                        · skip
                          have hmv : gI q3 92 (b * 9 + pop ((ent L2 h2).1 % 256)) = (if mayX M cts p (pop ((ent L2 h2).1 % 256)) b then nI 1 else nI 2) := (hMay3 b (by omega) (pop ((ent L2 h2).1 % 256)) hpop).resolve_left (fun z => c_156 (by rw [z]; rfl))
                          have hQ4 : WQ q3 L3 := hQ3
                          have hMay4 : MayR q3 M cts p := hMay3
                          have hF4 : Fr SWs q q3 := hF3
                          obtain ⟨q4, hq4⟩ : ∃ z, q3 = z := ⟨_, rfl⟩
                          rw [hq4] at hmv hQ4 hMay4 hF4
                          rw [hq4]
                          have hR4 : RelW q4 w M := h.t hW (fun k j z1 z2 => hF4.2 k j (by unfold SWs SFk; omega))
                          have hC4 : CyR q4 cts N := hC.t hN6 (fun k j z1 z2 z3 => hF4.2 k j (by unfold SWs SFk; omega))
                          refine aw_aload_0 C dX6_search_183 rfl ?_
                          refine aw_g6_3 C dX6_search_184 fl_X6_22 ?_
                          refine aw_iload_14 C dX6_search_187 ?_
                          refine aw_iald C _ hmv dX6_search_189 sh_92 rfl (show (b * 9 + pop ((ent L2 h2).1 % 256)) < 72 by omega) ?_
                          refine aw_iconst C dX6_search_190 k1_1 ?_
                          refine aw_icmp_ne C dX6_search_191 (tgt := 242) (by decide)  (fun c_191 => ?_) (fun c_191 => ?_)
                          · have hnm : ¬ mayX M cts p (pop ((ent L2 h2).1 % 256)) b := fun z => c_191 (if_pos z)
                            have hns : ¬ ((ent L2 h2).2.2.2 < 12 ∧ stepC M cts p (ent L2 h2).1 b) := fun z => hnm z.2.2
                            rw [if_neg hns] at hpb
                            refine aw_iinc_12 C dX6_search_242 (by decide) (fun w h => by cases h <;> rfl) (show _ + Int32.ofInt 1 = _ by rw [k1_1, nI_add]) ?_
                            refine aw_goto C dX6_search_245 (tgt := 107) (by decide) ?_
                            exact (ih3 (b + 1) L3 q4 (by omega) (by omega) hQ4 hMay4 hF4 (Or.inl ⟨c_118, by rw [hpb, ← hL3]⟩)).less ⟨Or.inr rfl, Or.inr rfl, Or.inr rfl, Or.inr rfl, Or.inr rfl, Or.inr rfl, Or.inr rfl, Or.inr rfl, Or.inr rfl, Or.inr rfl, Or.inr rfl, Or.inr rfl, Or.inr rfl, Or.inl rfl, Or.inl rfl, Or.inl rfl, trivial⟩
                          · have hmx : mayX M cts p (pop ((ent L2 h2).1 % 256)) b := Decidable.byContradiction (fun z => absurd c_191 (by rw [if_neg z]; decide +kernel))
                            have hst : (ent L2 h2).2.2.2 < 12 ∧ stepC M cts p (ent L2 h2).1 b := ⟨by omega, c133, hmx⟩
                            rw [if_pos hst, ← hL3] at hpb
                            have hhl := halfM_lt hW hb93 hE2.2.1
                            have hnx : (nxtS M (ent L2 h2).1 b) < 1536 := by unfold nxtS; rcases c133 with z | z <;> omega
                            refine aw_iload_13 C dX6_search_194 ?_
                            refine aw_sipush C dX6_search_196 k3_256 ?_
                            refine aw_imul_n C dX6_search_199  ?_
                            refine aw_aload_1 C dX6_search_200 rfl ?_
                            refine aw_iload_10 C dX6_search_201 ?_
                            refine aw_iload_12 C dX6_search_203 ?_
                            refine aw_cV2IE C (s_X7_halfBehind w ((ent L2 h2).1 % 256) b hw hR4 hW hb93 hE2.2.1) mf_X7_halfBehind mv_X7_halfBehind (shW0 hw) rfl ml_X6_56 dX6_search_205 (by omega) (Nat.le_of_ble_eq_true rfl) ?_
                            refine aw_iadd_n C dX6_search_208  ?_
                            rw [show (M (4 * b + 0) + M (4 * b + 1) - (ent L2 h2).1 / 256) * 256 + halfM M ((ent L2 h2).1 % 256) b = (nxtS M (ent L2 h2).1 b) from by unfold nxtS; rw [Nat.mul_comm]]
                            refine aw_istore_15 C dX6_search_209 (by decide) (fun w h => by cases h <;> rfl) ?_
                            refine aw_aload_0 C dX6_search_211 rfl ?_
                            refine aw_iload_15 C dX6_search_212 ?_
                            refine aw_iload_6 C dX6_search_214 ?_
                            refine aw_bipush C dX6_search_216 k2_8 ?_
                            refine aw_imul_n C dX6_search_218  ?_
                            refine aw_iload_12 C dX6_search_219 ?_
                            refine aw_iadd_n C dX6_search_221  ?_
                            refine aw_cV2I C (s_X6_meet (nxtS M (ent L2 h2).1 b) ((ent L2 h2).2.2.2 + 1) (nI (h2 * 8 + b)) h2 b hQ4 hnx (fun z => hG3.room hnx z) (fun _ => rfl)) mf_X6_meet mv_X6_meet (sh_88) rfl ml_X6_59 dX6_search_222 (by omega) (Nat.le_of_ble_eq_true rfl) (fun r_222 q_222 h_222 => ?_)
                            obtain ⟨rfl, hQ5, hF5⟩ := h_222
                            have hF6 : Fr SWs q q_222 := hF4.tr (hF5.mono (fun k j z => by unfold SWm at z; unfold SWs; omega))
                            have hMay5 : MayR q_222 M cts p := hMay4.t (fun j => hF5.2 92 j (by unfold SWm; omega))
                            refine aw_if_eq_b C dX6_search_225 (tgt := 239) (by decide)  (fun c_225 => ?_) (fun c_225 => ?_)
                            · have c225 := Decidable.not_not.mp c_225
                              have ha : arrB L3 ((nxtS M (ent L2 h2).1 b), h2, b, (ent L2 h2).2.2.2 + 1) = L3 := if_pos c225
                              refine aw_iconst C dX6_search_239 k1_0 ?_
                              have hnf : T ∉ sts (arrB L3 ((nxtS M (ent L2 h2).1 b), h2, b, (ent L2 h2).2.2.2 + 1)) := by rw [ha]; exact c_118
                              rw [← bP_f hnf]
                              refine aw_istore_5 C dX6_search_240 (by decide) (fun w h => by cases h <;> rfl) ?_
                              refine aw_iinc_12 C dX6_search_242 (by decide) (fun w h => by cases h <;> rfl) (show _ + Int32.ofInt 1 = _ by rw [k1_1, nI_add]) ?_
                              refine aw_goto C dX6_search_245 (tgt := 107) (by decide) ?_
                              exact (ih3 (b + 1) (arrB L3 ((nxtS M (ent L2 h2).1 b), h2, b, (ent L2 h2).2.2.2 + 1)) q_222 (by omega) (by omega) hQ5 hMay5 hF6 (Or.inl ⟨hnf, hpb.symm⟩)).less ⟨Or.inr rfl, Or.inr rfl, Or.inr rfl, Or.inr rfl, Or.inr rfl, Or.inr rfl, Or.inr rfl, Or.inr rfl, Or.inr rfl, Or.inr rfl, Or.inr rfl, Or.inr rfl, Or.inr rfl, Or.inl rfl, Or.inl rfl, Or.inl rfl, trivial⟩
                            · have ha : arrB L3 ((nxtS M (ent L2 h2).1 b), h2, b, (ent L2 h2).2.2.2 + 1) = L3 ++ [((nxtS M (ent L2 h2).1 b), h2, b, (ent L2 h2).2.2.2 + 1)] := if_neg c_225
                              refine aw_iload_15 C dX6_search_228 ?_
                              refine aw_iload_4 C dX6_search_230 ?_
                              refine aw_icmp_ne C dX6_search_232 (tgt := 239) (by decide)  (fun c_232 => ?_) (fun c_232 => ?_)
                              · have c232 : ¬ (nxtS M (ent L2 h2).1 b) = T := fun z => c_232 ((tI_eq hnx hT).mpr z)
                                have hnf : T ∉ sts (arrB L3 ((nxtS M (ent L2 h2).1 b), h2, b, (ent L2 h2).2.2.2 + 1)) := by
                                  rw [ha]
                                  unfold sts
                                  rw [List.map_append]
                                  intro z
                                  rcases List.mem_append.mp z with y | y
                                  · exact c_118 y
                                  · exact c232 (List.mem_singleton.mp y).symm
                                refine aw_iconst C dX6_search_239 k1_0 ?_
                                rw [← bP_f hnf]
                                refine aw_istore_5 C dX6_search_240 (by decide) (fun w h => by cases h <;> rfl) ?_
                                refine aw_iinc_12 C dX6_search_242 (by decide) (fun w h => by cases h <;> rfl) (show _ + Int32.ofInt 1 = _ by rw [k1_1, nI_add]) ?_
                                refine aw_goto C dX6_search_245 (tgt := 107) (by decide) ?_
                                exact (ih3 (b + 1) (arrB L3 ((nxtS M (ent L2 h2).1 b), h2, b, (ent L2 h2).2.2.2 + 1)) q_222 (by omega) (by omega) hQ5 hMay5 hF6 (Or.inl ⟨hnf, hpb.symm⟩)).less ⟨Or.inr rfl, Or.inr rfl, Or.inr rfl, Or.inr rfl, Or.inr rfl, Or.inr rfl, Or.inr rfl, Or.inr rfl, Or.inr rfl, Or.inr rfl, Or.inr rfl, Or.inr rfl, Or.inr rfl, Or.inl rfl, Or.inl rfl, Or.inl rfl, trivial⟩
                              · have c232 : (nxtS M (ent L2 h2).1 b) = T := (tI_eq hnx hT).mp c_232
                                have hfd5 : FD T F (arrB L3 ((nxtS M (ent L2 h2).1 b), h2, b, (ent L2 h2).2.2.2 + 1)) (d1 + 1) := by
                                  have hpre := bfs_preF (M := M) (cts := cts) (i := p) (h := h2) (b := b + 1) (by rw [← hL2]; exact hlt2) (by omega) (by omega)
                                  rw [← hL2, hpb, hLe] at hpre
                                  rw [ha] at hpre ⊢
                                  have hl : (L3 ++ [((nxtS M (ent L2 h2).1 b), h2, b, (ent L2 h2).2.2.2 + 1)]).length - 1 = L3.length := by rw [List.length_append]; rfl
                                  refine ⟨by unfold sts; rw [List.map_append]; exact List.mem_append.mpr (Or.inr (List.mem_singleton.mpr c232.symm)), hpre, by rw [List.length_append]; exact Nat.succ_pos _, ?_, ?_, fun k hk => ?_⟩
                                  · rw [hl, ent_last]
                                    exact c232
                                  · rw [hl, ent_last]
                                    show (ent L2 h2).2.2.2 + 1 = d1 + 1
                                    rw [hfd]
                                  · rw [hl] at hk
                                    rw [ent_app hk]
                                    exact fun z => c_118 (mem_sts.mpr ⟨k, hk, z⟩)
                                refine aw_iconst C dX6_search_235 k1_1 ?_
                                refine aw_goto C dX6_search_236 (tgt := 240) (by decide) ?_
                                rw [← bP_t hfd5.1]
                                refine aw_istore_5 C dX6_search_240 (by decide) (fun w h => by cases h <;> rfl) ?_
                                refine aw_iinc_12 C dX6_search_242 (by decide) (fun w h => by cases h <;> rfl) (show _ + Int32.ofInt 1 = _ by rw [k1_1, nI_add]) ?_
                                refine aw_goto C dX6_search_245 (tgt := 107) (by decide) ?_
                                exact (ih3 (b + 1) (arrB L3 ((nxtS M (ent L2 h2).1 b), h2, b, (ent L2 h2).2.2.2 + 1)) q_222 (by omega) (by omega) hQ5 hMay5 hF6 (Or.inr hfd5)).less ⟨Or.inr rfl, Or.inr rfl, Or.inr rfl, Or.inr rfl, Or.inr rfl, Or.inr rfl, Or.inr rfl, Or.inr rfl, Or.inr rfl, Or.inr rfl, Or.inr rfl, Or.inr rfl, Or.inr rfl, Or.inl rfl, Or.inl rfl, Or.inl rfl, trivial⟩
                        · skip
                          refine aw_aload_0 C dX6_search_159 rfl ?_
                          refine aw_g6_3 C dX6_search_160 fl_X6_22 ?_
                          refine aw_iload_14 C dX6_search_163 ?_
                          refine aw_aload_1 C dX6_search_165 rfl ?_
                          refine aw_iload_2 C dX6_search_166 ?_
                          refine aw_iload_12 C dX6_search_167 ?_
                          refine aw_iload_11 C dX6_search_169 ?_
                          refine aw_cV3I C (s_X7_mayCross w p b (pop ((ent L2 h2).1 % 256)) hw hR3 hW hC3 hN hN6 hG hp hb93 hpop) mf_X7_mayCross mv_X7_mayCross (shW0 hw) rfl ml_X6_52 dX6_search_171 (by omega) (Nat.le_of_ble_eq_true rfl) (fun r_171 q_171 h_171 => ?_)
                          obtain ⟨rfl, hF171⟩ := h_171
                          refine aw_if_eq_b C dX6_search_174 (tgt := 181) (by decide)  (fun c_174 => ?_) (fun c_174 => ?_)
                          · skip
                            refine aw_iconst C dX6_search_181 k1_2 ?_
                            refine aw_iast C _ dX6_search_182 sh_92 rfl (show (b * 9 + pop ((ent L2 h2).1 % 256)) < 72 by omega) ?_
                            have hmv : gI (sI q_171 92 (b * 9 + pop ((ent L2 h2).1 % 256)) (nI 2)) 92 (b * 9 + pop ((ent L2 h2).1 % 256)) = (if mayX M cts p (pop ((ent L2 h2).1 % 256)) b then nI 1 else nI 2) := by rw [gI_sI, if_pos ⟨rfl, rfl⟩]; exact (if_neg c_174).symm
                            have hQ4 : WQ (sI q_171 92 (b * 9 + pop ((ent L2 h2).1 % 256)) (nI 2)) L3 := (hQ3.t (fun k j z => hF171.2 k j (by unfold SWm at z; unfold SFk; omega))).t (fun k j z => by rw [gI_sI, if_neg (by unfold SWm at z; omega)])
                            have hMay4 : MayR (sI q_171 92 (b * 9 + pop ((ent L2 h2).1 % 256)) (nI 2)) M cts p := fun b2 hb2 n2 hn2 => by
                              have h171 := (hMay3.t (q2 := q_171) (fun j => hF171.2 92 j (by unfold SFk; omega))) b2 hb2 n2 hn2
                              rw [gI_sI]
                              by_cases y : b2 * 9 + n2 = (b * 9 + pop ((ent L2 h2).1 % 256))
                              · have y1 : b2 = b := by omega
                                have y2 : n2 = pop ((ent L2 h2).1 % 256) := by omega
                                rw [if_pos ⟨rfl, y⟩, y1, y2]
                                exact Or.inr (if_neg c_174).symm
                              · rw [if_neg (fun z => y z.2)]
                                exact h171
                            have hF4 : Fr SWs q (sI q_171 92 (b * 9 + pop ((ent L2 h2).1 % 256)) (nI 2)) := (hF3.tr (hF171.mono (fun k j z => Or.inr z))).put (Or.inl ⟨by omega, by omega⟩)
                            generalize (sI q_171 92 (b * 9 + pop ((ent L2 h2).1 % 256)) (nI 2)) = q4 at hmv hQ4 hMay4 hF4 ⊢
                            have hR4 : RelW q4 w M := h.t hW (fun k j z1 z2 => hF4.2 k j (by unfold SWs SFk; omega))
                            have hC4 : CyR q4 cts N := hC.t hN6 (fun k j z1 z2 z3 => hF4.2 k j (by unfold SWs SFk; omega))
                            refine aw_aload_0 C dX6_search_183 rfl ?_
                            refine aw_g6_3 C dX6_search_184 fl_X6_22 ?_
                            refine aw_iload_14 C dX6_search_187 ?_
                            refine aw_iald C _ hmv dX6_search_189 sh_92 rfl (show (b * 9 + pop ((ent L2 h2).1 % 256)) < 72 by omega) ?_
                            refine aw_iconst C dX6_search_190 k1_1 ?_
                            refine aw_icmp_ne C dX6_search_191 (tgt := 242) (by decide)  (fun c_191 => ?_) (fun c_191 => ?_)
                            · have hnm : ¬ mayX M cts p (pop ((ent L2 h2).1 % 256)) b := fun z => c_191 (if_pos z)
                              have hns : ¬ ((ent L2 h2).2.2.2 < 12 ∧ stepC M cts p (ent L2 h2).1 b) := fun z => hnm z.2.2
                              rw [if_neg hns] at hpb
                              refine aw_iinc_12 C dX6_search_242 (by decide) (fun w h => by cases h <;> rfl) (show _ + Int32.ofInt 1 = _ by rw [k1_1, nI_add]) ?_
                              refine aw_goto C dX6_search_245 (tgt := 107) (by decide) ?_
                              exact (ih3 (b + 1) L3 q4 (by omega) (by omega) hQ4 hMay4 hF4 (Or.inl ⟨c_118, by rw [hpb, ← hL3]⟩)).less ⟨Or.inr rfl, Or.inr rfl, Or.inr rfl, Or.inr rfl, Or.inr rfl, Or.inr rfl, Or.inr rfl, Or.inr rfl, Or.inr rfl, Or.inr rfl, Or.inr rfl, Or.inr rfl, Or.inr rfl, Or.inl rfl, Or.inl rfl, Or.inl rfl, trivial⟩
                            · have hmx : mayX M cts p (pop ((ent L2 h2).1 % 256)) b := Decidable.byContradiction (fun z => absurd c_191 (by rw [if_neg z]; decide +kernel))
                              have hst : (ent L2 h2).2.2.2 < 12 ∧ stepC M cts p (ent L2 h2).1 b := ⟨by omega, c133, hmx⟩
                              rw [if_pos hst, ← hL3] at hpb
                              have hhl := halfM_lt hW hb93 hE2.2.1
                              have hnx : (nxtS M (ent L2 h2).1 b) < 1536 := by unfold nxtS; rcases c133 with z | z <;> omega
                              refine aw_iload_13 C dX6_search_194 ?_
                              refine aw_sipush C dX6_search_196 k3_256 ?_
                              refine aw_imul_n C dX6_search_199  ?_
                              refine aw_aload_1 C dX6_search_200 rfl ?_
                              refine aw_iload_10 C dX6_search_201 ?_
                              refine aw_iload_12 C dX6_search_203 ?_
                              refine aw_cV2IE C (s_X7_halfBehind w ((ent L2 h2).1 % 256) b hw hR4 hW hb93 hE2.2.1) mf_X7_halfBehind mv_X7_halfBehind (shW0 hw) rfl ml_X6_56 dX6_search_205 (by omega) (Nat.le_of_ble_eq_true rfl) ?_
                              refine aw_iadd_n C dX6_search_208  ?_
                              rw [show (M (4 * b + 0) + M (4 * b + 1) - (ent L2 h2).1 / 256) * 256 + halfM M ((ent L2 h2).1 % 256) b = (nxtS M (ent L2 h2).1 b) from by unfold nxtS; rw [Nat.mul_comm]]
                              refine aw_istore_15 C dX6_search_209 (by decide) (fun w h => by cases h <;> rfl) ?_
                              refine aw_aload_0 C dX6_search_211 rfl ?_
                              refine aw_iload_15 C dX6_search_212 ?_
                              refine aw_iload_6 C dX6_search_214 ?_
                              refine aw_bipush C dX6_search_216 k2_8 ?_
                              refine aw_imul_n C dX6_search_218  ?_
                              refine aw_iload_12 C dX6_search_219 ?_
                              refine aw_iadd_n C dX6_search_221  ?_
                              refine aw_cV2I C (s_X6_meet (nxtS M (ent L2 h2).1 b) ((ent L2 h2).2.2.2 + 1) (nI (h2 * 8 + b)) h2 b hQ4 hnx (fun z => hG3.room hnx z) (fun _ => rfl)) mf_X6_meet mv_X6_meet (sh_88) rfl ml_X6_59 dX6_search_222 (by omega) (Nat.le_of_ble_eq_true rfl) (fun r_222 q_222 h_222 => ?_)
                              obtain ⟨rfl, hQ5, hF5⟩ := h_222
                              have hF6 : Fr SWs q q_222 := hF4.tr (hF5.mono (fun k j z => by unfold SWm at z; unfold SWs; omega))
                              have hMay5 : MayR q_222 M cts p := hMay4.t (fun j => hF5.2 92 j (by unfold SWm; omega))
                              refine aw_if_eq_b C dX6_search_225 (tgt := 239) (by decide)  (fun c_225 => ?_) (fun c_225 => ?_)
                              · have c225 := Decidable.not_not.mp c_225
                                have ha : arrB L3 ((nxtS M (ent L2 h2).1 b), h2, b, (ent L2 h2).2.2.2 + 1) = L3 := if_pos c225
                                refine aw_iconst C dX6_search_239 k1_0 ?_
                                have hnf : T ∉ sts (arrB L3 ((nxtS M (ent L2 h2).1 b), h2, b, (ent L2 h2).2.2.2 + 1)) := by rw [ha]; exact c_118
                                rw [← bP_f hnf]
                                refine aw_istore_5 C dX6_search_240 (by decide) (fun w h => by cases h <;> rfl) ?_
                                refine aw_iinc_12 C dX6_search_242 (by decide) (fun w h => by cases h <;> rfl) (show _ + Int32.ofInt 1 = _ by rw [k1_1, nI_add]) ?_
                                refine aw_goto C dX6_search_245 (tgt := 107) (by decide) ?_
                                exact (ih3 (b + 1) (arrB L3 ((nxtS M (ent L2 h2).1 b), h2, b, (ent L2 h2).2.2.2 + 1)) q_222 (by omega) (by omega) hQ5 hMay5 hF6 (Or.inl ⟨hnf, hpb.symm⟩)).less ⟨Or.inr rfl, Or.inr rfl, Or.inr rfl, Or.inr rfl, Or.inr rfl, Or.inr rfl, Or.inr rfl, Or.inr rfl, Or.inr rfl, Or.inr rfl, Or.inr rfl, Or.inr rfl, Or.inr rfl, Or.inl rfl, Or.inl rfl, Or.inl rfl, trivial⟩
                              · have ha : arrB L3 ((nxtS M (ent L2 h2).1 b), h2, b, (ent L2 h2).2.2.2 + 1) = L3 ++ [((nxtS M (ent L2 h2).1 b), h2, b, (ent L2 h2).2.2.2 + 1)] := if_neg c_225
                                refine aw_iload_15 C dX6_search_228 ?_
                                refine aw_iload_4 C dX6_search_230 ?_
                                refine aw_icmp_ne C dX6_search_232 (tgt := 239) (by decide)  (fun c_232 => ?_) (fun c_232 => ?_)
                                · have c232 : ¬ (nxtS M (ent L2 h2).1 b) = T := fun z => c_232 ((tI_eq hnx hT).mpr z)
                                  have hnf : T ∉ sts (arrB L3 ((nxtS M (ent L2 h2).1 b), h2, b, (ent L2 h2).2.2.2 + 1)) := by
                                    rw [ha]
                                    unfold sts
                                    rw [List.map_append]
                                    intro z
                                    rcases List.mem_append.mp z with y | y
                                    · exact c_118 y
                                    · exact c232 (List.mem_singleton.mp y).symm
                                  refine aw_iconst C dX6_search_239 k1_0 ?_
                                  rw [← bP_f hnf]
                                  refine aw_istore_5 C dX6_search_240 (by decide) (fun w h => by cases h <;> rfl) ?_
                                  refine aw_iinc_12 C dX6_search_242 (by decide) (fun w h => by cases h <;> rfl) (show _ + Int32.ofInt 1 = _ by rw [k1_1, nI_add]) ?_
                                  refine aw_goto C dX6_search_245 (tgt := 107) (by decide) ?_
                                  exact (ih3 (b + 1) (arrB L3 ((nxtS M (ent L2 h2).1 b), h2, b, (ent L2 h2).2.2.2 + 1)) q_222 (by omega) (by omega) hQ5 hMay5 hF6 (Or.inl ⟨hnf, hpb.symm⟩)).less ⟨Or.inr rfl, Or.inr rfl, Or.inr rfl, Or.inr rfl, Or.inr rfl, Or.inr rfl, Or.inr rfl, Or.inr rfl, Or.inr rfl, Or.inr rfl, Or.inr rfl, Or.inr rfl, Or.inr rfl, Or.inl rfl, Or.inl rfl, Or.inl rfl, trivial⟩
                                · have c232 : (nxtS M (ent L2 h2).1 b) = T := (tI_eq hnx hT).mp c_232
                                  have hfd5 : FD T F (arrB L3 ((nxtS M (ent L2 h2).1 b), h2, b, (ent L2 h2).2.2.2 + 1)) (d1 + 1) := by
                                    have hpre := bfs_preF (M := M) (cts := cts) (i := p) (h := h2) (b := b + 1) (by rw [← hL2]; exact hlt2) (by omega) (by omega)
                                    rw [← hL2, hpb, hLe] at hpre
                                    rw [ha] at hpre ⊢
                                    have hl : (L3 ++ [((nxtS M (ent L2 h2).1 b), h2, b, (ent L2 h2).2.2.2 + 1)]).length - 1 = L3.length := by rw [List.length_append]; rfl
                                    refine ⟨by unfold sts; rw [List.map_append]; exact List.mem_append.mpr (Or.inr (List.mem_singleton.mpr c232.symm)), hpre, by rw [List.length_append]; exact Nat.succ_pos _, ?_, ?_, fun k hk => ?_⟩
                                    · rw [hl, ent_last]
                                      exact c232
                                    · rw [hl, ent_last]
                                      show (ent L2 h2).2.2.2 + 1 = d1 + 1
                                      rw [hfd]
                                    · rw [hl] at hk
                                      rw [ent_app hk]
                                      exact fun z => c_118 (mem_sts.mpr ⟨k, hk, z⟩)
                                  refine aw_iconst C dX6_search_235 k1_1 ?_
                                  refine aw_goto C dX6_search_236 (tgt := 240) (by decide) ?_
                                  rw [← bP_t hfd5.1]
                                  refine aw_istore_5 C dX6_search_240 (by decide) (fun w h => by cases h <;> rfl) ?_
                                  refine aw_iinc_12 C dX6_search_242 (by decide) (fun w h => by cases h <;> rfl) (show _ + Int32.ofInt 1 = _ by rw [k1_1, nI_add]) ?_
                                  refine aw_goto C dX6_search_245 (tgt := 107) (by decide) ?_
                                  exact (ih3 (b + 1) (arrB L3 ((nxtS M (ent L2 h2).1 b), h2, b, (ent L2 h2).2.2.2 + 1)) q_222 (by omega) (by omega) hQ5 hMay5 hF6 (Or.inr hfd5)).less ⟨Or.inr rfl, Or.inr rfl, Or.inr rfl, Or.inr rfl, Or.inr rfl, Or.inr rfl, Or.inr rfl, Or.inr rfl, Or.inr rfl, Or.inr rfl, Or.inr rfl, Or.inr rfl, Or.inr rfl, Or.inl rfl, Or.inl rfl, Or.inl rfl, trivial⟩
                          · skip
                            refine aw_iconst C dX6_search_177 k1_1 ?_
                            refine aw_goto C dX6_search_178 (tgt := 182) (by decide) ?_
                            refine aw_iast C _ dX6_search_182 sh_92 rfl (show (b * 9 + pop ((ent L2 h2).1 % 256)) < 72 by omega) ?_
                            have hmv : gI (sI q_171 92 (b * 9 + pop ((ent L2 h2).1 % 256)) (nI 1)) 92 (b * 9 + pop ((ent L2 h2).1 % 256)) = (if mayX M cts p (pop ((ent L2 h2).1 % 256)) b then nI 1 else nI 2) := by rw [gI_sI, if_pos ⟨rfl, rfl⟩]; exact (if_pos c_174).symm
                            have hQ4 : WQ (sI q_171 92 (b * 9 + pop ((ent L2 h2).1 % 256)) (nI 1)) L3 := (hQ3.t (fun k j z => hF171.2 k j (by unfold SWm at z; unfold SFk; omega))).t (fun k j z => by rw [gI_sI, if_neg (by unfold SWm at z; omega)])
                            have hMay4 : MayR (sI q_171 92 (b * 9 + pop ((ent L2 h2).1 % 256)) (nI 1)) M cts p := fun b2 hb2 n2 hn2 => by
                              have h171 := (hMay3.t (q2 := q_171) (fun j => hF171.2 92 j (by unfold SFk; omega))) b2 hb2 n2 hn2
                              rw [gI_sI]
                              by_cases y : b2 * 9 + n2 = (b * 9 + pop ((ent L2 h2).1 % 256))
                              · have y1 : b2 = b := by omega
                                have y2 : n2 = pop ((ent L2 h2).1 % 256) := by omega
                                rw [if_pos ⟨rfl, y⟩, y1, y2]
                                exact Or.inr (if_pos c_174).symm
                              · rw [if_neg (fun z => y z.2)]
                                exact h171
                            have hF4 : Fr SWs q (sI q_171 92 (b * 9 + pop ((ent L2 h2).1 % 256)) (nI 1)) := (hF3.tr (hF171.mono (fun k j z => Or.inr z))).put (Or.inl ⟨by omega, by omega⟩)
                            generalize (sI q_171 92 (b * 9 + pop ((ent L2 h2).1 % 256)) (nI 1)) = q4 at hmv hQ4 hMay4 hF4 ⊢
                            have hR4 : RelW q4 w M := h.t hW (fun k j z1 z2 => hF4.2 k j (by unfold SWs SFk; omega))
                            have hC4 : CyR q4 cts N := hC.t hN6 (fun k j z1 z2 z3 => hF4.2 k j (by unfold SWs SFk; omega))
                            refine aw_aload_0 C dX6_search_183 rfl ?_
                            refine aw_g6_3 C dX6_search_184 fl_X6_22 ?_
                            refine aw_iload_14 C dX6_search_187 ?_
                            refine aw_iald C _ hmv dX6_search_189 sh_92 rfl (show (b * 9 + pop ((ent L2 h2).1 % 256)) < 72 by omega) ?_
                            refine aw_iconst C dX6_search_190 k1_1 ?_
                            refine aw_icmp_ne C dX6_search_191 (tgt := 242) (by decide)  (fun c_191 => ?_) (fun c_191 => ?_)
                            · have hnm : ¬ mayX M cts p (pop ((ent L2 h2).1 % 256)) b := fun z => c_191 (if_pos z)
                              have hns : ¬ ((ent L2 h2).2.2.2 < 12 ∧ stepC M cts p (ent L2 h2).1 b) := fun z => hnm z.2.2
                              rw [if_neg hns] at hpb
                              refine aw_iinc_12 C dX6_search_242 (by decide) (fun w h => by cases h <;> rfl) (show _ + Int32.ofInt 1 = _ by rw [k1_1, nI_add]) ?_
                              refine aw_goto C dX6_search_245 (tgt := 107) (by decide) ?_
                              exact (ih3 (b + 1) L3 q4 (by omega) (by omega) hQ4 hMay4 hF4 (Or.inl ⟨c_118, by rw [hpb, ← hL3]⟩)).less ⟨Or.inr rfl, Or.inr rfl, Or.inr rfl, Or.inr rfl, Or.inr rfl, Or.inr rfl, Or.inr rfl, Or.inr rfl, Or.inr rfl, Or.inr rfl, Or.inr rfl, Or.inr rfl, Or.inr rfl, Or.inl rfl, Or.inl rfl, Or.inl rfl, trivial⟩
                            · have hmx : mayX M cts p (pop ((ent L2 h2).1 % 256)) b := Decidable.byContradiction (fun z => absurd c_191 (by rw [if_neg z]; decide +kernel))
                              have hst : (ent L2 h2).2.2.2 < 12 ∧ stepC M cts p (ent L2 h2).1 b := ⟨by omega, c133, hmx⟩
                              rw [if_pos hst, ← hL3] at hpb
                              have hhl := halfM_lt hW hb93 hE2.2.1
                              have hnx : (nxtS M (ent L2 h2).1 b) < 1536 := by unfold nxtS; rcases c133 with z | z <;> omega
                              refine aw_iload_13 C dX6_search_194 ?_
                              refine aw_sipush C dX6_search_196 k3_256 ?_
                              refine aw_imul_n C dX6_search_199  ?_
                              refine aw_aload_1 C dX6_search_200 rfl ?_
                              refine aw_iload_10 C dX6_search_201 ?_
                              refine aw_iload_12 C dX6_search_203 ?_
                              refine aw_cV2IE C (s_X7_halfBehind w ((ent L2 h2).1 % 256) b hw hR4 hW hb93 hE2.2.1) mf_X7_halfBehind mv_X7_halfBehind (shW0 hw) rfl ml_X6_56 dX6_search_205 (by omega) (Nat.le_of_ble_eq_true rfl) ?_
                              refine aw_iadd_n C dX6_search_208  ?_
                              rw [show (M (4 * b + 0) + M (4 * b + 1) - (ent L2 h2).1 / 256) * 256 + halfM M ((ent L2 h2).1 % 256) b = (nxtS M (ent L2 h2).1 b) from by unfold nxtS; rw [Nat.mul_comm]]
                              refine aw_istore_15 C dX6_search_209 (by decide) (fun w h => by cases h <;> rfl) ?_
                              refine aw_aload_0 C dX6_search_211 rfl ?_
                              refine aw_iload_15 C dX6_search_212 ?_
                              refine aw_iload_6 C dX6_search_214 ?_
                              refine aw_bipush C dX6_search_216 k2_8 ?_
                              refine aw_imul_n C dX6_search_218  ?_
                              refine aw_iload_12 C dX6_search_219 ?_
                              refine aw_iadd_n C dX6_search_221  ?_
                              refine aw_cV2I C (s_X6_meet (nxtS M (ent L2 h2).1 b) ((ent L2 h2).2.2.2 + 1) (nI (h2 * 8 + b)) h2 b hQ4 hnx (fun z => hG3.room hnx z) (fun _ => rfl)) mf_X6_meet mv_X6_meet (sh_88) rfl ml_X6_59 dX6_search_222 (by omega) (Nat.le_of_ble_eq_true rfl) (fun r_222 q_222 h_222 => ?_)
                              obtain ⟨rfl, hQ5, hF5⟩ := h_222
                              have hF6 : Fr SWs q q_222 := hF4.tr (hF5.mono (fun k j z => by unfold SWm at z; unfold SWs; omega))
                              have hMay5 : MayR q_222 M cts p := hMay4.t (fun j => hF5.2 92 j (by unfold SWm; omega))
                              refine aw_if_eq_b C dX6_search_225 (tgt := 239) (by decide)  (fun c_225 => ?_) (fun c_225 => ?_)
                              · have c225 := Decidable.not_not.mp c_225
                                have ha : arrB L3 ((nxtS M (ent L2 h2).1 b), h2, b, (ent L2 h2).2.2.2 + 1) = L3 := if_pos c225
                                refine aw_iconst C dX6_search_239 k1_0 ?_
                                have hnf : T ∉ sts (arrB L3 ((nxtS M (ent L2 h2).1 b), h2, b, (ent L2 h2).2.2.2 + 1)) := by rw [ha]; exact c_118
                                rw [← bP_f hnf]
                                refine aw_istore_5 C dX6_search_240 (by decide) (fun w h => by cases h <;> rfl) ?_
                                refine aw_iinc_12 C dX6_search_242 (by decide) (fun w h => by cases h <;> rfl) (show _ + Int32.ofInt 1 = _ by rw [k1_1, nI_add]) ?_
                                refine aw_goto C dX6_search_245 (tgt := 107) (by decide) ?_
                                exact (ih3 (b + 1) (arrB L3 ((nxtS M (ent L2 h2).1 b), h2, b, (ent L2 h2).2.2.2 + 1)) q_222 (by omega) (by omega) hQ5 hMay5 hF6 (Or.inl ⟨hnf, hpb.symm⟩)).less ⟨Or.inr rfl, Or.inr rfl, Or.inr rfl, Or.inr rfl, Or.inr rfl, Or.inr rfl, Or.inr rfl, Or.inr rfl, Or.inr rfl, Or.inr rfl, Or.inr rfl, Or.inr rfl, Or.inr rfl, Or.inl rfl, Or.inl rfl, Or.inl rfl, trivial⟩
                              · have ha : arrB L3 ((nxtS M (ent L2 h2).1 b), h2, b, (ent L2 h2).2.2.2 + 1) = L3 ++ [((nxtS M (ent L2 h2).1 b), h2, b, (ent L2 h2).2.2.2 + 1)] := if_neg c_225
                                refine aw_iload_15 C dX6_search_228 ?_
                                refine aw_iload_4 C dX6_search_230 ?_
                                refine aw_icmp_ne C dX6_search_232 (tgt := 239) (by decide)  (fun c_232 => ?_) (fun c_232 => ?_)
                                · have c232 : ¬ (nxtS M (ent L2 h2).1 b) = T := fun z => c_232 ((tI_eq hnx hT).mpr z)
                                  have hnf : T ∉ sts (arrB L3 ((nxtS M (ent L2 h2).1 b), h2, b, (ent L2 h2).2.2.2 + 1)) := by
                                    rw [ha]
                                    unfold sts
                                    rw [List.map_append]
                                    intro z
                                    rcases List.mem_append.mp z with y | y
                                    · exact c_118 y
                                    · exact c232 (List.mem_singleton.mp y).symm
                                  refine aw_iconst C dX6_search_239 k1_0 ?_
                                  rw [← bP_f hnf]
                                  refine aw_istore_5 C dX6_search_240 (by decide) (fun w h => by cases h <;> rfl) ?_
                                  refine aw_iinc_12 C dX6_search_242 (by decide) (fun w h => by cases h <;> rfl) (show _ + Int32.ofInt 1 = _ by rw [k1_1, nI_add]) ?_
                                  refine aw_goto C dX6_search_245 (tgt := 107) (by decide) ?_
                                  exact (ih3 (b + 1) (arrB L3 ((nxtS M (ent L2 h2).1 b), h2, b, (ent L2 h2).2.2.2 + 1)) q_222 (by omega) (by omega) hQ5 hMay5 hF6 (Or.inl ⟨hnf, hpb.symm⟩)).less ⟨Or.inr rfl, Or.inr rfl, Or.inr rfl, Or.inr rfl, Or.inr rfl, Or.inr rfl, Or.inr rfl, Or.inr rfl, Or.inr rfl, Or.inr rfl, Or.inr rfl, Or.inr rfl, Or.inr rfl, Or.inl rfl, Or.inl rfl, Or.inl rfl, trivial⟩
                                · have c232 : (nxtS M (ent L2 h2).1 b) = T := (tI_eq hnx hT).mp c_232
                                  have hfd5 : FD T F (arrB L3 ((nxtS M (ent L2 h2).1 b), h2, b, (ent L2 h2).2.2.2 + 1)) (d1 + 1) := by
                                    have hpre := bfs_preF (M := M) (cts := cts) (i := p) (h := h2) (b := b + 1) (by rw [← hL2]; exact hlt2) (by omega) (by omega)
                                    rw [← hL2, hpb, hLe] at hpre
                                    rw [ha] at hpre ⊢
                                    have hl : (L3 ++ [((nxtS M (ent L2 h2).1 b), h2, b, (ent L2 h2).2.2.2 + 1)]).length - 1 = L3.length := by rw [List.length_append]; rfl
                                    refine ⟨by unfold sts; rw [List.map_append]; exact List.mem_append.mpr (Or.inr (List.mem_singleton.mpr c232.symm)), hpre, by rw [List.length_append]; exact Nat.succ_pos _, ?_, ?_, fun k hk => ?_⟩
                                    · rw [hl, ent_last]
                                      exact c232
                                    · rw [hl, ent_last]
                                      show (ent L2 h2).2.2.2 + 1 = d1 + 1
                                      rw [hfd]
                                    · rw [hl] at hk
                                      rw [ent_app hk]
                                      exact fun z => c_118 (mem_sts.mpr ⟨k, hk, z⟩)
                                  refine aw_iconst C dX6_search_235 k1_1 ?_
                                  refine aw_goto C dX6_search_236 (tgt := 240) (by decide) ?_
                                  rw [← bP_t hfd5.1]
                                  refine aw_istore_5 C dX6_search_240 (by decide) (fun w h => by cases h <;> rfl) ?_
                                  refine aw_iinc_12 C dX6_search_242 (by decide) (fun w h => by cases h <;> rfl) (show _ + Int32.ofInt 1 = _ by rw [k1_1, nI_add]) ?_
                                  refine aw_goto C dX6_search_245 (tgt := 107) (by decide) ?_
                                  exact (ih3 (b + 1) (arrB L3 ((nxtS M (ent L2 h2).1 b), h2, b, (ent L2 h2).2.2.2 + 1)) q_222 (by omega) (by omega) hQ5 hMay5 hF6 (Or.inr hfd5)).less ⟨Or.inr rfl, Or.inr rfl, Or.inr rfl, Or.inr rfl, Or.inr rfl, Or.inr rfl, Or.inr rfl, Or.inr rfl, Or.inr rfl, Or.inr rfl, Or.inr rfl, Or.inr rfl, Or.inr rfl, Or.inl rfl, Or.inl rfl, Or.inl rfl, trivial⟩
                      · have c133 : ¬ adjP M ((ent L2 h2).1 / 256) b := fun z => c_133 ((oe_ge (by omega)).mpr z)
                        have hns : ¬ ((ent L2 h2).2.2.2 < 12 ∧ stepC M cts p (ent L2 h2).1 b) := fun z => c133 z.2.1
                        rw [if_neg hns] at hpb
                        refine aw_goto C dX6_search_136 (tgt := 242) (by decide) ?_
                        refine aw_iinc_12 C dX6_search_242 (by decide) (fun w h => by cases h <;> rfl) (show _ + Int32.ofInt 1 = _ by rw [k1_1, nI_add]) ?_
                        refine aw_goto C dX6_search_245 (tgt := 107) (by decide) ?_
                        exact (ih3 (b + 1) L3 q3 (by omega) (by omega) hQ3 hMay3 hF3 (Or.inl ⟨c_118, by rw [hpb, ← hL3]⟩)).less ⟨Or.inr rfl, Or.inr rfl, Or.inr rfl, Or.inr rfl, Or.inr rfl, Or.inr rfl, Or.inr rfl, Or.inr rfl, Or.inr rfl, Or.inr rfl, Or.inr rfl, Or.inr rfl, Or.inr rfl, Or.inl rfl, Or.inl rfl, Or.inl rfl, trivial⟩
                exact L107 (M 93 + 1) 0 L2 q2 (by omega) (by omega) hQ2 hMay2 hF2 (Or.inl ⟨c_68, rfl⟩)
          exact L59 (L.length + 1) h1 L q1 (Nat.le_refl _) hle (by omega) hQ1 hMay1 hF1 (Or.inl ⟨c_50, hL, hfar, fun k z1 z2 => absurd z2 (by omega), Nat.le_refl _⟩)
    rw [← bP_t hns]
    exact L41 13 0 0 [(s0, 0, 0, 0)] q_7 (by omega) (by omega) hQ0 hMay0 hFs (Or.inr ⟨hns, by
      obtain ⟨t, ht⟩ := bfs_pre M cts p 0 1536
      exact ⟨t, by rw [← hLe, bfsF_eq, show 1536 = 0 + 1536 from rfl, ht, hbl]⟩, Nat.succ_pos 0, c25, rfl, fun k z => absurd z (Nat.not_lt_zero k)⟩)
