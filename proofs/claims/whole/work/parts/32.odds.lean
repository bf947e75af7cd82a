theorem PGl.same {q q3 : S_} {g : GS} {v r : Int64} {fr : Int64 × GS} (h : RR q g) (hr : r = v) (hf : fr = (v, g)) (hF : Fr SZk q q3) (hM : RelR q3 (gM g)) (hE : RE q3 (gC g)) : PGl fr q r q3 := by
  subst hf
  exact ⟨hr, h.keep hF hM hE, hF.m SZ_m⟩
theorem PGl.here {q : S_} {g : GS} {v r : Int64} {fr : Int64 × GS} (h : RR q g) (hr : r = v) (hf : fr = (v, g)) : PGl fr q r q := PGl.same h hr hf Fr.rf h.1 h.2.1
def noL : Int64 := -9223372036854775808
def f_mean (g : GS) (w : Int32) : Int64 × GS := (if inN w 2 ∧ gM g 92 ≠ 0 then fracM (halvesM (gM g) (gM g 92)) (gM g 92) w else noL, g)
def oddU (M : Nat → Nat) (cts : Nat → List Nat) (p x : Nat) : Nat → Nat
  | 0 => 0
  | b + 1 => oddU M cts p x b + if longM (mu M (4 * b + 3) 1) cts p x = 99 then 0 else 1
theorem oddU_le (M : Nat → Nat) (cts : Nat → List Nat) (p x : Nat) : ∀ k, oddU M cts p x k ≤ k := by
  intro k
  induction k with
  | zero => exact Nat.le_refl 0
  | succ k ih =>
    unfold oddU
    split <;> omega
def f_odds (g : GS) (p x w : Int32) : Int64 × GS := (if inN p (gM g 92) ∧ inN x 6 ∧ inN w 2 ∧ gM g 93 ≠ 0 then fracM (oddU (gM g) (gC g) (u32 p) (u32 x) (gM g 93)) (gM g 93) w else noL, g)

set_option maxRecDepth 100000 in
set_option maxHeartbeats 4000000 in
theorem s_X9_mean {G : GT} {q : S_} {g : GS} (w : Int32) (hg : GOK g) (hRR : RR q g) : Spec G 3 yX9_mean cX9_mean 2 (some .long) [rfn G 129, .int w] q (PL (PGl (f_mean g w) q)) := by
  refine Spec.intro RX9 (by decide) rfl (Nat.le_of_ble_eq_true rfl) [some (rfn G 129), some (.int w)] rfl ?_
  intro X d hd C hR
  obtain ⟨hW, hCy, h95, hN6, h94, hK, hT1, hT2, hTp, hR1, hSy, hSyJ⟩ := id hg
  obtain ⟨hM, hE, hNr, hKp, hIm, hTl, hTx, hTs, hAb, hBd, hRn, hTr⟩ := id hRR
  have hc := hW.c
  have hG : Goo (gM g) (gC g) := fun k hk => hCy k (by omega)
  refine aw_iload_1 C dX9_mean_0 ?_
  refine aw_iconst C dX9_mean_1 k1_0 ?_
  refine aw_iconst C dX9_mean_2 k1_1 ?_
  refine aw_cS3IE C (s_X9_isIn _ _ _) mf_X9_isIn ms_X9_isIn ml_X9_98 dX9_mean_3 (by omega) (Nat.le_of_ble_eq_true rfl) ?_
  refine aw_if_eq_b C dX9_mean_6 (tgt := 39) (by decide)  (fun c_6 => ?_) (fun c_6 => ?_)
  · skip
    refine aw_ldc2 C dX9_mean_39 kc_X9_271 ?_
    refine aw_lretL C hR dX9_mean_42 ?_
    exact PGl.here hRR rfl (by unfold f_mean; rw [if_neg (fun z => c_6 ((inN_le (by omega)).mpr z.1))]; rfl)
  · have c6 := (inN_le (by omega)).mp c_6
    refine aw_aload_0 C dX9_mean_9 rfl ?_
    refine aw_g9_0 C dX9_mean_10 fl_X9_9 ?_
    refine aw_bipush C dX9_mean_13 k2_92 ?_
    refine aw_iald C _ (hM.n (by omega) (by decide)) dX9_mean_15 sh_130 rfl (by decide) ?_
    refine aw_if_le_n C dX9_mean_16 (tgt := 39) (by decide) (by omega) (fun c_16 => ?_) (fun c_16 => ?_)
    · skip
      refine aw_ldc2 C dX9_mean_39 kc_X9_271 ?_
      refine aw_lretL C hR dX9_mean_42 ?_
      exact PGl.here hRR rfl (by unfold f_mean; rw [if_neg (fun z => z.2 c_16)]; rfl)
    · skip
      refine aw_aload_0 C dX9_mean_19 rfl ?_
      refine aw_cV0IE C (s_X9_halves hM hW) mf_X9_halves mv_X9_halves (sh_129) rfl ml_X9_251 dX9_mean_20 (by omega) (Nat.le_of_ble_eq_true rfl) ?_
      have hh8 := halvesM_le (gM g) (gM g 92)
      refine aw_i2l C dX9_mean_23 ?_
      rw [kL_i _ (by omega)]
      refine aw_aload_0 C dX9_mean_24 rfl ?_
      refine aw_g9_0 C dX9_mean_25 fl_X9_9 ?_
      refine aw_bipush C dX9_mean_28 k2_92 ?_
      refine aw_iald C _ (hM.n (by omega) (by decide)) dX9_mean_30 sh_130 rfl (by decide) ?_
      refine aw_i2l C dX9_mean_31 ?_
      rw [kL_i _ (by omega)]
      refine aw_iload_1 C dX9_mean_32 ?_
      refine aw_cS3LE C (s_X9_fraction _ _ w (by omega) (by omega) (by omega)) mf_X9_fraction ms_X9_fraction ml_X9_277 dX9_mean_33 (by omega) (Nat.le_of_ble_eq_true rfl) ?_
      refine aw_goto C dX9_mean_36 (tgt := 42) (by decide) ?_
      refine aw_lretL C hR dX9_mean_42 ?_
      exact PGl.here hRR rfl (by unfold f_mean; rw [if_pos ⟨c6, c_16⟩])

set_option maxRecDepth 100000 in
set_option maxHeartbeats 4000000 in
theorem s_X9_loseN {G : GT} {q : S_} {M : Nat → Nat} (b v : Nat) (hM : RelR q M) (hW : WF M) (hb : b < M 93) (hv : v < 2) : Spec G 3 yX9_lose cX9_lose 4 (some .int) [rfn G 129, .int (nI b), .int (nI v)] q (PI (fun r q3 => r = nI (M (4 * b + 3)) ∧ RelR q3 (mu M (4 * b + 3) v) ∧ Fr (fun k _ => k = 130) q q3)) := by
  refine Spec.intro RX9 (by decide) rfl (Nat.le_of_ble_eq_true rfl) [some (rfn G 129), some (.int (nI b)), some (.int (nI v)), none] rfl ?_
  intro X d hd C hR
  have hc := hW.c
  refine aw_aload_0 C dX9_lose_0 rfl ?_
  refine aw_iload_1 C dX9_lose_1 ?_
  refine aw_cV1IE C (s_X9_isBridge _ (hM.n (by omega) (by decide)) (by omega)) mf_X9_isBridge mv_X9_isBridge (sh_129) rfl ml_X9_130 dX9_lose_2 (by omega) (Nat.le_of_ble_eq_true rfl) ?_
  refine aw_if_ne_b C dX9_lose_5 (tgt := 10) (by decide)  (fun c_5 => ?_) (fun c_5 => absurd c_5 (fun z => z (inN_nI hb (by omega))))
  refine aw_aload_0 C dX9_lose_10 rfl ?_
  refine aw_g9_0 C dX9_lose_11 fl_X9_9 ?_
  refine aw_iconst C dX9_lose_14 k1_4 ?_
  refine aw_iload_1 C dX9_lose_15 ?_
  refine aw_imul_n C dX9_lose_16  ?_
  refine aw_iconst C dX9_lose_17 k1_3 ?_
  refine aw_iadd_n C dX9_lose_18  ?_
  refine aw_iald C _ (hM.n (by omega) (by unfold isOpt; omega)) dX9_lose_19 sh_130 rfl (by omega) ?_
  refine aw_istore_3 C dX9_lose_20 (by decide) (fun w h => by cases h <;> rfl) ?_
  refine aw_aload_0 C dX9_lose_21 rfl ?_
  refine aw_g9_0 C dX9_lose_22 fl_X9_9 ?_
  refine aw_iconst C dX9_lose_25 k1_4 ?_
  refine aw_iload_1 C dX9_lose_26 ?_
  refine aw_imul_n C dX9_lose_27  ?_
  refine aw_iconst C dX9_lose_28 k1_3 ?_
  refine aw_iadd_n C dX9_lose_29  ?_
  refine aw_iload_2 C dX9_lose_30 ?_
  refine aw_if_eq_n C dX9_lose_31 (tgt := 38) (by decide) (by omega) (fun c_31 => ?_) (fun c_31 => ?_)
  · skip
    refine aw_iconst C dX9_lose_38 k1_0 ?_
    refine aw_iast C _ dX9_lose_39 sh_130 rfl (by omega) ?_
    refine aw_iload_3 C dX9_lose_40 ?_
    refine aw_iretI C hR dX9_lose_41 ?_
    exact ⟨rfl, by rw [c_31]; exact hM.set (cd_n (by unfold isOpt; omega)).symm, (by repeat first | refine Fr.put ?_ rfl | exact Fr.rf)⟩
  · skip
    refine aw_iconst C dX9_lose_34 k1_1 ?_
    refine aw_goto C dX9_lose_35 (tgt := 39) (by decide) ?_
    refine aw_iast C _ dX9_lose_39 sh_130 rfl (by omega) ?_
    refine aw_iload_3 C dX9_lose_40 ?_
    refine aw_iretI C hR dX9_lose_41 ?_
    exact ⟨rfl, by rw [show v = 1 by omega]; exact hM.set (cd_n (by unfold isOpt; omega)).symm, (by repeat first | refine Fr.put ?_ rfl | exact Fr.rf)⟩

set_option maxRecDepth 100000 in
set_option maxHeartbeats 4000000 in
theorem s_X9_odds {G : GT} {q : S_} {g : GS} (p x w : Int32) (hg : GOK g) (hRR : RR q g) : Spec G 26 yX9_odds cX9_odds 7 (some .long) [rfn G 129, .int p, .int x, .int w] q (PL (PGl (f_odds g p x w) q)) := by
  refine Spec.intro RX9 (by decide) rfl (Nat.le_of_ble_eq_true rfl) [some (rfn G 129), some (.int p), some (.int x), some (.int w), none, none, none] rfl ?_
  intro X d hd C hR
  obtain ⟨hW, hCy, h95, hN6, h94, hK, hT1, hT2, hTp, hR1, hSy, hSyJ⟩ := id hg
  obtain ⟨hM, hE, hNr, hKp, hIm, hTl, hTx, hTs, hAb, hBd, hRn, hTr⟩ := id hRR
  have hc := hW.c
  have hG : Goo (gM g) (gC g) := fun k hk => hCy k (by omega)
  refine aw_aload_0 C dX9_odds_0 rfl ?_
  refine aw_iload_1 C dX9_odds_1 ?_
  refine aw_cV1IE C (s_X9_isOne _ (hM.n (by omega) (by decide)) (by omega)) mf_X9_isOne mv_X9_isOne (sh_129) rfl ml_X9_114 dX9_odds_2 (by omega) (Nat.le_of_ble_eq_true rfl) ?_
  refine aw_if_eq_b C dX9_odds_5 (tgt := 34) (by decide)  (fun c_5 => ?_) (fun c_5 => ?_)
  · skip
    refine aw_ldc2 C dX9_odds_34 kc_X9_271 ?_
    refine aw_lretL C hR dX9_odds_37 ?_
    exact PGl.here hRR rfl (by unfold f_odds; rw [if_neg (fun z => c_5 z.1)]; rfl)
  · skip
    refine aw_iload_2 C dX9_odds_8 ?_
    refine aw_cS1IE C (s_X9_isQuarter _) mf_X9_isQuarter ms_X9_isQuarter ml_X9_106 dX9_odds_9 (by omega) (Nat.le_of_ble_eq_true rfl) ?_
    refine aw_if_eq_b C dX9_odds_12 (tgt := 34) (by decide)  (fun c_12 => ?_) (fun c_12 => ?_)
    · skip
      refine aw_ldc2 C dX9_odds_34 kc_X9_271 ?_
      refine aw_lretL C hR dX9_odds_37 ?_
      exact PGl.here hRR rfl (by unfold f_odds; rw [if_neg (fun z => c_12 z.2.1)]; rfl)
    · skip
      refine aw_iload_3 C dX9_odds_15 ?_
      refine aw_iconst C dX9_odds_16 k1_0 ?_
      refine aw_iconst C dX9_odds_17 k1_1 ?_
      refine aw_cS3IE C (s_X9_isIn _ _ _) mf_X9_isIn ms_X9_isIn ml_X9_98 dX9_odds_18 (by omega) (Nat.le_of_ble_eq_true rfl) ?_
      refine aw_if_eq_b C dX9_odds_21 (tgt := 34) (by decide)  (fun c_21 => ?_) (fun c_21 => ?_)
      · skip
        refine aw_ldc2 C dX9_odds_34 kc_X9_271 ?_
        refine aw_lretL C hR dX9_odds_37 ?_
        exact PGl.here hRR rfl (by unfold f_odds; rw [if_neg (fun z => c_21 ((inN_le (by omega)).mpr z.2.2.1))]; rfl)
      · obtain ⟨p, hp1, hp2, rfl⟩ := inN_of c_5
        have hu : u32 (nI p) = p := nI_clamp hp2
        have hp := hW.p hp1
        obtain ⟨x, hx1, hx2, rfl⟩ := inN_of c_12
        have hux : u32 (nI x) = x := nI_clamp hx2
        have c21 := (inN_le (by omega)).mp c_21
        refine aw_aload_0 C dX9_odds_24 rfl ?_
        refine aw_g9_0 C dX9_odds_25 fl_X9_9 ?_
        refine aw_bipush C dX9_odds_28 k2_93 ?_
        refine aw_iald C _ (hM.n (by omega) (by decide)) dX9_odds_30 sh_130 rfl (by decide) ?_
        refine aw_if_ne_n C dX9_odds_31 (tgt := 38) (by decide) (by omega) (fun c_31 => ?_) (fun c_31 => ?_)
        · skip
          refine aw_iconst C dX9_odds_38 k1_0 ?_
          refine aw_istore_4 C dX9_odds_39 (by decide) (fun w h => by cases h <;> rfl) ?_
          refine aw_iconst C dX9_odds_41 k1_0 ?_
          refine aw_istore_5 C dX9_odds_42 (by decide) (fun w h => by cases h <;> rfl) ?_
          have L44 : ∀ (n2 b : Nat) (q1 : S_), b ≤ gM g 93 → gM g 93 < b + n2 → RelR q1 (gM g) → RE q1 (gC g) → Fr SZk q q1 → AW X G (q1) 44 [some (rfn G 129), some (.int (nI p)), some (.int (nI x)), some (.int w), some (.int (nI (oddU (gM g) (gC g) p x b))), some (.int (nI b)), none] [] := by
            refine nat_loop (fun b q1 h1 h2 hM1 hE1 hF1 => by omega) (fun n2 ih b q1 h1 h2 hM1 hE1 hF1 => ?_)
            refine aw_iload_5 C dX9_odds_44 ?_
            refine aw_aload_0 C dX9_odds_46 rfl ?_
            refine aw_g9_0 C dX9_odds_47 fl_X9_9 ?_
            refine aw_bipush C dX9_odds_50 k2_93 ?_
            refine aw_iald C _ (hM1.n (by omega) (by decide)) dX9_odds_52 sh_130 rfl (by decide) ?_
            refine aw_icmp_ge_n C dX9_odds_53 (tgt := 110) (by decide) (by omega) (by omega) (fun c_53 => ?_) (fun c_53 => ?_)
            · skip
              refine aw_iload_4 C dX9_odds_110 ?_
              refine aw_i2l C dX9_odds_112 ?_
              have ho8 := oddU_le (gM g) (gC g) p x b
              have eb : b = gM g 93 := by omega
              subst eb
              rw [kL_i _ (by omega)]
              refine aw_aload_0 C dX9_odds_113 rfl ?_
              refine aw_g9_0 C dX9_odds_114 fl_X9_9 ?_
              refine aw_bipush C dX9_odds_117 k2_93 ?_
              refine aw_iald C _ (hM1.n (by omega) (by decide)) dX9_odds_119 sh_130 rfl (by decide) ?_
              refine aw_i2l C dX9_odds_120 ?_
              rw [kL_i _ (by omega)]
              refine aw_iload_3 C dX9_odds_121 ?_
              refine aw_cS3LE C (s_X9_fraction _ _ w (by omega) (by omega) (by omega)) mf_X9_fraction ms_X9_fraction ml_X9_277 dX9_odds_122 (by omega) (Nat.le_of_ble_eq_true rfl) ?_
              refine aw_lretL C hR dX9_odds_125 ?_
              exact PGl.same hRR rfl (by unfold f_odds; rw [if_pos ⟨c_5, c_12, c21, c_31⟩, hu, hux]) hF1 hM1 hE1
            · skip
              refine aw_aload_0 C dX9_odds_56 rfl ?_
              refine aw_iload_5 C dX9_odds_57 ?_
              refine aw_iconst C dX9_odds_59 k1_1 ?_
              refine aw_cV2I C (s_X9_loseN b 1 hM1 hW (by omega) (by omega)) mf_X9_lose mv_X9_lose (sh_129) rfl ml_X9_273 dX9_odds_60 (by omega) (Nat.le_of_ble_eq_true rfl) (fun r_60 q_60 h_60 => ?_)
              obtain ⟨rfl, hM3, hF3⟩ := h_60
              have hb3 := (hW.b (show b < gM g 93 by omega)).2.2.2.2
              have hW3 := hW.lost (show b < gM g 93 by omega) (show 1 < 2 by omega)
              have hE3 := hE1.w hF3 (fun k j e z => by omega)
              refine aw_istore_6 C dX9_odds_63 (by decide) (fun w h => by cases h <;> rfl) ?_
              refine aw_iload_4 C dX9_odds_65 ?_
              refine aw_aload_0 C dX9_odds_67 rfl ?_
              refine aw_iload_1 C dX9_odds_68 ?_
              refine aw_iload_2 C dX9_odds_69 ?_
              refine aw_cV2I C (s_X9_longTo p x hM3 hW3 hE3 (hG.of (mu_ne (by omega))) (by rw [mu_ne (by omega)]; exact hp1) hx1) mf_X9_longTo mv_X9_longTo (sh_129) rfl ml_X9_239 dX9_odds_70 (by omega) (Nat.le_of_ble_eq_true rfl) (fun r_70 q_70 h_70 => ?_)
              obtain ⟨rfl, -, hM4, hE4, hF4⟩ := h_70
              have hl4 := longM_le (cts := gC g) (i := p) (t := x) hW3 (by rw [mu_ne (by omega)]; exact hp1)
              refine aw_bipush C dX9_odds_73 k2_m5 ?_
              refine aw_icmp_ne C dX9_odds_75 (tgt := 82) (by decide)  (fun c_75 => ?_) (fun c_75 => ?_)
              · have hx9 : longM (mu (gM g) (4 * b + 3) 1) (gC g) p x ≠ 99 := fun z => c_75 (by rw [z]; rfl)
                refine aw_iconst C dX9_odds_82 k1_1 ?_
                refine aw_iadd_n C dX9_odds_83  ?_
                rw [show oddU (gM g) (gC g) p x b + 1 = oddU (gM g) (gC g) p x (b + 1) from by rw [oddU, if_neg hx9]]
                refine aw_istore_4 C dX9_odds_84 (by decide) (fun w h => by cases h <;> rfl) ?_
                refine aw_aload_0 C dX9_odds_86 rfl ?_
                refine aw_iload_5 C dX9_odds_87 ?_
                refine aw_iload_6 C dX9_odds_89 ?_
                refine aw_iconst C dX9_odds_91 k1_1 ?_
                refine aw_icmp_ne_n C dX9_odds_92 (tgt := 99) (by decide) (by omega) (by omega) (fun c_92 => ?_) (fun c_92 => ?_)
                · skip
                  refine aw_iconst C dX9_odds_99 k1_0 ?_
                  refine aw_cV2I C (s_X9_loseN b 0 hM4 hW3 (by rw [mu_ne (by omega)]; omega) (by omega)) mf_X9_lose mv_X9_lose (sh_129) rfl ml_X9_273 dX9_odds_100 (by omega) (Nat.le_of_ble_eq_true rfl) (fun r_100 q_100 h_100 => ?_)
                  obtain ⟨-, hM5, hF5⟩ := h_100
                  rw [mu_mu, show mu (gM g) (4 * b + 3) 0 = gM g from (congrArg (mu (gM g) (4 * b + 3)) (show 0 = gM g (4 * b + 3) by omega)).trans (mu_self _ _)] at hM5
                  refine aw_pop C dX9_odds_103 rfl ?_
                  refine aw_iinc_5 C dX9_odds_104 (by decide) (fun w h => by cases h <;> rfl) (show _ + Int32.ofInt 1 = _ by rw [k1_1, nI_add]) ?_
                  refine aw_goto C dX9_odds_107 (tgt := 44) (by decide) ?_
                  exact (ih (b + 1) q_100 (by omega) (by omega) hM5 (hE4.w hF5 (fun k j e z => by omega)) (((hF1.tr (hF3.mono (fun k j z => by unfold SZk; omega))).tr (hF4.mono SY_Z)).tr (hF5.mono (fun k j z => by unfold SZk; omega)))).less ⟨Or.inr rfl, Or.inr rfl, Or.inr rfl, Or.inr rfl, Or.inr rfl, Or.inr rfl, Or.inl rfl, trivial⟩
                · skip
                  refine aw_iconst C dX9_odds_95 k1_1 ?_
                  refine aw_goto C dX9_odds_96 (tgt := 100) (by decide) ?_
                  refine aw_cV2I C (s_X9_loseN b 1 hM4 hW3 (by rw [mu_ne (by omega)]; omega) (by omega)) mf_X9_lose mv_X9_lose (sh_129) rfl ml_X9_273 dX9_odds_100 (by omega) (Nat.le_of_ble_eq_true rfl) (fun r_100 q_100 h_100 => ?_)
                  obtain ⟨-, hM5, hF5⟩ := h_100
                  rw [mu_mu, show mu (gM g) (4 * b + 3) 1 = gM g from (congrArg (mu (gM g) (4 * b + 3)) c_92.symm).trans (mu_self _ _)] at hM5
                  refine aw_pop C dX9_odds_103 rfl ?_
                  refine aw_iinc_5 C dX9_odds_104 (by decide) (fun w h => by cases h <;> rfl) (show _ + Int32.ofInt 1 = _ by rw [k1_1, nI_add]) ?_
                  refine aw_goto C dX9_odds_107 (tgt := 44) (by decide) ?_
                  exact (ih (b + 1) q_100 (by omega) (by omega) hM5 (hE4.w hF5 (fun k j e z => by omega)) (((hF1.tr (hF3.mono (fun k j z => by unfold SZk; omega))).tr (hF4.mono SY_Z)).tr (hF5.mono (fun k j z => by unfold SZk; omega)))).less ⟨Or.inr rfl, Or.inr rfl, Or.inr rfl, Or.inr rfl, Or.inr rfl, Or.inr rfl, Or.inl rfl, trivial⟩
              · have hx9 : longM (mu (gM g) (4 * b + 3) 1) (gC g) p x = 99 := Decidable.byContradiction (fun z => absurd c_75 (by unfold l5; rw [if_neg z]; exact m5_ne (by omega)))
                refine aw_iconst C dX9_odds_78 k1_0 ?_
                refine aw_goto C dX9_odds_79 (tgt := 83) (by decide) ?_
                refine aw_iadd_n C dX9_odds_83  ?_
                rw [show oddU (gM g) (gC g) p x b + 0 = oddU (gM g) (gC g) p x (b + 1) from by rw [oddU, if_pos hx9]]
                refine aw_istore_4 C dX9_odds_84 (by decide) (fun w h => by cases h <;> rfl) ?_
                refine aw_aload_0 C dX9_odds_86 rfl ?_
                refine aw_iload_5 C dX9_odds_87 ?_
                refine aw_iload_6 C dX9_odds_89 ?_
                refine aw_iconst C dX9_odds_91 k1_1 ?_
                refine aw_icmp_ne_n C dX9_odds_92 (tgt := 99) (by decide) (by omega) (by omega) (fun c_92 => ?_) (fun c_92 => ?_)
                · skip
                  refine aw_iconst C dX9_odds_99 k1_0 ?_
                  refine aw_cV2I C (s_X9_loseN b 0 hM4 hW3 (by rw [mu_ne (by omega)]; omega) (by omega)) mf_X9_lose mv_X9_lose (sh_129) rfl ml_X9_273 dX9_odds_100 (by omega) (Nat.le_of_ble_eq_true rfl) (fun r_100 q_100 h_100 => ?_)
                  obtain ⟨-, hM5, hF5⟩ := h_100
                  rw [mu_mu, show mu (gM g) (4 * b + 3) 0 = gM g from (congrArg (mu (gM g) (4 * b + 3)) (show 0 = gM g (4 * b + 3) by omega)).trans (mu_self _ _)] at hM5
                  refine aw_pop C dX9_odds_103 rfl ?_
                  refine aw_iinc_5 C dX9_odds_104 (by decide) (fun w h => by cases h <;> rfl) (show _ + Int32.ofInt 1 = _ by rw [k1_1, nI_add]) ?_
                  refine aw_goto C dX9_odds_107 (tgt := 44) (by decide) ?_
                  exact (ih (b + 1) q_100 (by omega) (by omega) hM5 (hE4.w hF5 (fun k j e z => by omega)) (((hF1.tr (hF3.mono (fun k j z => by unfold SZk; omega))).tr (hF4.mono SY_Z)).tr (hF5.mono (fun k j z => by unfold SZk; omega)))).less ⟨Or.inr rfl, Or.inr rfl, Or.inr rfl, Or.inr rfl, Or.inr rfl, Or.inr rfl, Or.inl rfl, trivial⟩
                · skip
                  refine aw_iconst C dX9_odds_95 k1_1 ?_
                  refine aw_goto C dX9_odds_96 (tgt := 100) (by decide) ?_
                  refine aw_cV2I C (s_X9_loseN b 1 hM4 hW3 (by rw [mu_ne (by omega)]; omega) (by omega)) mf_X9_lose mv_X9_lose (sh_129) rfl ml_X9_273 dX9_odds_100 (by omega) (Nat.le_of_ble_eq_true rfl) (fun r_100 q_100 h_100 => ?_)
                  obtain ⟨-, hM5, hF5⟩ := h_100
                  rw [mu_mu, show mu (gM g) (4 * b + 3) 1 = gM g from (congrArg (mu (gM g) (4 * b + 3)) c_92.symm).trans (mu_self _ _)] at hM5
                  refine aw_pop C dX9_odds_103 rfl ?_
                  refine aw_iinc_5 C dX9_odds_104 (by decide) (fun w h => by cases h <;> rfl) (show _ + Int32.ofInt 1 = _ by rw [k1_1, nI_add]) ?_
                  refine aw_goto C dX9_odds_107 (tgt := 44) (by decide) ?_
                  exact (ih (b + 1) q_100 (by omega) (by omega) hM5 (hE4.w hF5 (fun k j e z => by omega)) (((hF1.tr (hF3.mono (fun k j z => by unfold SZk; omega))).tr (hF4.mono SY_Z)).tr (hF5.mono (fun k j z => by unfold SZk; omega)))).less ⟨Or.inr rfl, Or.inr rfl, Or.inr rfl, Or.inr rfl, Or.inr rfl, Or.inr rfl, Or.inl rfl, trivial⟩
          exact L44 (gM g 93 + 1) 0 q (by omega) (by omega) hM hE Fr.rf
        · skip
          refine aw_ldc2 C dX9_odds_34 kc_X9_271 ?_
          refine aw_lretL C hR dX9_odds_37 ?_
          exact PGl.here hRR rfl (by unfold f_odds; rw [if_neg (fun z => z.2.2.2 c_31)]; rfl)
