theorem WF.lost {M : Nat → Nat} (h : WF M) {c v : Nat} (hc : c < M 93) (hv : v < 2) : WF (mu M (4 * c + 3) v) := by
  have hcc := h.c
  have e : ∀ j, j ≠ 4 * c + 3 → mu M (4 * c + 3) v j = M j := fun j hj => mu_ne hj
  refine ⟨?_, fun b hb => ?_, fun i hi => ?_, fun r hr => ?_, fun r hr => ?_, fun r hr => ?_, fun i hi => ?_⟩
  · rw [e 93 (by omega), e 92 (by omega), e 94 (by omega), e 95 (by omega), e 96 (by omega), e 112 (by omega), e 129 (by omega)]
    exact hcc
  · rw [e 93 (by omega)] at hb ⊢
    have a := h.b hb
    rw [e (4 * b + 0) (by omega), e (4 * b + 1) (by omega), e (4 * b + 2) (by omega)]
    refine ⟨a.2.1, a.2.2.1, a.2.2.2.1, ?_⟩
    unfold mu
    split
    · exact hv
    · exact a.2.2.2.2
  · rw [e 92 (by omega)] at hi
    have a := h.p hi
    rw [e (32 + 10 * i + 0) (by omega), e (32 + 10 * i + 1) (by omega), e (32 + 10 * i + 2) (by omega), e (32 + 10 * i + 3) (by omega), e (32 + 10 * i + 4) (by omega), e (32 + 10 * i + 5) (by omega), e 93 (by omega)]
    exact ⟨a.2.1, a.2.2.1, a.2.2.2.1, a.2.2.2.2.1, a.2.2.2.2.2.1, a.2.2.2.2.2.2.1, fun r hr => by rw [e _ (by omega)]; exact a.2.2.2.2.2.2.2 r hr⟩
  · rw [e 96 (by omega)] at hr
    rw [e _ (by omega), e _ (by omega), e _ (by omega), e _ (by omega)]
    exact h.2.2.2.1 r hr
  · rw [e 112 (by omega)] at hr
    rw [e _ (by omega), e _ (by omega), e _ (by omega), e _ (by omega)]
    exact h.2.2.2.2.1 r hr
  · rw [e 129 (by omega)] at hr
    rw [e _ (by omega), e _ (by omega), e _ (by omega)]
    exact h.2.2.2.2.2.1 r hr
  · rw [e _ (by omega)]
    exact h.2.2.2.2.2.2 i hi
def planS (M : Nat → Nat) (cts : Nat → List Nat) (H : Nat → Nat) (r : Nat) : Nat → Nat := if M (113 + 2 * r) = 0 then hourM H cts else if M (113 + 2 * r) = 3 then mu H (32 + 10 * M (114 + 2 * r) + 4) 99 else mu H (4 * M (114 + 2 * r) + 3) (2 - M (113 + 2 * r))
def planE (M : Nat → Nat) (cts : Nat → List Nat) : Nat → Nat → Nat
  | 0 => M
  | r + 1 => planS M cts (planE M cts r) r
theorem planE_ok {M : Nat → Nat} {cts : Nat → List Nat} (hW : WF M) (hh : M 94 < 90000) : ∀ r, r ≤ M 112 → WF (planE M cts r) ∧ planE M cts r 94 ≤ M 94 + r ∧ ∀ j, 92 ≤ j ∧ j ≠ 94 → planE M cts r j = M j := by
  intro r
  induction r with
  | zero => intro _; exact ⟨hW, Nat.le_refl _, fun _ _ => rfl⟩
  | succ r ih =>
    intro hr
    obtain ⟨h1, h2, h3⟩ := ih (by omega)
    have hc := hW.c
    have hp := hW.2.2.2.2.1 r (by omega)
    show WF (planS M cts (planE M cts r) r) ∧ planS M cts (planE M cts r) r 94 ≤ _ ∧ ∀ j, _ → planS M cts (planE M cts r) r j = _
    unfold planS
    split
    · exact ⟨hourM_WF h1 (by omega), by rw [hourM_94]; omega, fun j hj => (hourM_hi h1 (Or.inr hj)).trans (h3 j hj)⟩
    · split
      · next z =>
        have hi := hp.2.2 z
        have hi6 := (hW.p hi).1
        exact ⟨h1.per (by rw [h3 92 (by omega)]; exact hi) (by omega) (by omega) (by omega) (by omega) (by omega) (by omega) (by omega) (by omega), by rw [mu_ne (by omega)]; omega, fun j hj => (mu_ne (by omega)).trans (h3 j hj)⟩
      · next y z =>
        have hi := hp.2.1 (by omega)
        exact ⟨h1.lost (by rw [h3 93 (by omega)]; exact hi) (by omega), by rw [mu_ne (by omega)]; omega, fun j hj => (mu_ne (by omega)).trans (h3 j hj)⟩
def f_ends (g : GS) (w : Int32) : Int32 × GS := (if ¬ inN w 2 then -1 else if w = 0 then nI (donesM (planE (gM g) (gC g) (gM g 112)) (gM g 92)) else nI (halvesM (planE (gM g) (gC g) (gM g 112)) (gM g 92)), g)
theorem planE_0 {M : Nat → Nat} {cts : Nat → List Nat} {r : Nat} (h : M (113 + 2 * r) = 0) : planE M cts (r + 1) = hourM (planE M cts r) cts := if_pos h
theorem planE_3 {M : Nat → Nat} {cts : Nat → List Nat} {r : Nat} (h0 : ¬ M (113 + 2 * r) = 0) (h : M (113 + 2 * r) = 3) : planE M cts (r + 1) = mu (planE M cts r) (32 + 10 * M (114 + 2 * r) + 4) 99 := (if_neg h0).trans (if_pos h)
theorem planE_1 {M : Nat → Nat} {cts : Nat → List Nat} {r : Nat} (h0 : ¬ M (113 + 2 * r) = 0) (h : ¬ M (113 + 2 * r) = 3) : planE M cts (r + 1) = mu (planE M cts r) (4 * M (114 + 2 * r) + 3) (2 - M (113 + 2 * r)) := (if_neg h0).trans (if_neg h)
theorem k130H {q q2 : S_} (h : Fr (fun k _ => k = 130) q q2) : Fr (fun k j => SHk k j) q q2 := h.mono (fun k j z => Or.inr z)

set_option maxRecDepth 100000 in
set_option maxHeartbeats 4000000 in
theorem s_X9_ends {G : GT} {q : S_} {g : GS} (w : Int32) (hg : GOK g) (hRR : RR q g) : Spec G 28 yX9_ends cX9_ends 5 (some .int) [rfn G 129, .int w] q (PI (PG (f_ends g w) q)) := by
  refine Spec.intro RX9 (by decide) rfl (Nat.le_of_ble_eq_true rfl) [some (rfn G 129), some (.int w), none, none, none] rfl ?_
  intro X d hd C hR
  obtain ⟨hW, hCy, h95, hN6, h94, hK, hT1, hT2, hTp, hR1, hSy, hSyJ⟩ := id hg
  obtain ⟨hM, hE, hNr, hKp, hIm, hTl, hTx, hTs, hAb, hBd, hRn, hTr⟩ := id hRR
  have hc := hW.c
  have hG : Goo (gM g) (gC g) := fun k hk => hCy k (by omega)
  refine aw_iload_1 C dX9_ends_0 ?_
  refine aw_iconst C dX9_ends_1 k1_0 ?_
  refine aw_iconst C dX9_ends_2 k1_1 ?_
  refine aw_cS3IE C (s_X9_isIn _ _ _) mf_X9_isIn ms_X9_isIn ml_X9_98 dX9_ends_3 (by omega) (Nat.le_of_ble_eq_true rfl) ?_
  refine aw_if_ne_b C dX9_ends_6 (tgt := 11) (by decide)  (fun c_6 => ?_) (fun c_6 => ?_)
  · have c6 := (inN_le (by omega)).mp c_6
    refine aw_aload_0 C dX9_ends_11 rfl ?_
    refine aw_g9_0 C dX9_ends_12 fl_X9_9 ?_
    refine aw_aload_0 C dX9_ends_15 rfl ?_
    refine aw_g9_1 C dX9_ends_16 fl_X9_15 ?_
    refine aw_cS2VE C (s_X9_move 130 131 sh_130 sh_131 (by decide)) mf_X9_move ms_X9_move ml_X9_94 dX9_ends_19 (by omega) (Nat.le_of_ble_eq_true rfl) ?_
    have hMc : RelR (cpI q 130 131 146) (gM g) := fun j hj => by rw [gI_cpI, if_neg (by omega)]; exact hM j hj
    have hEc : RE (cpI q 130 131 146) (gC g) := hE.w (⟨rfl, fun k j hn => by rw [gI_cpI, if_neg (fun z => hn z.1)]⟩ : Fr (fun k j => k = 131) q (cpI q 130 131 146)) (fun k j e z => by omega)
    refine aw_iconst C dX9_ends_22 k1_0 ?_
    refine aw_istore_2 C dX9_ends_23 (by decide) (fun w h => by cases h <;> rfl) ?_
    have L24 : ∀ (n2 r : Nat) (q1 : S_), r ≤ gM g 112 → gM g 112 < r + n2 → RelR q1 (planE (gM g) (gC g) r) → RE q1 (gC g) → Fr SHk (cpI q 130 131 146) q1 → AW X G (q1) 24 [some (rfn G 129), some (.int w), some (.int (nI r)), none, none] [] := by
      refine nat_loop (fun r q1 h1 h2 hM1 hE1 hF1 => by omega) (fun n2 ih r q1 h1 h2 hM1 hE1 hF1 => ?_)
      refine aw_iload_2 C dX9_ends_24 ?_
      refine aw_aload_0 C dX9_ends_25 rfl ?_
      refine aw_g9_0 C dX9_ends_26 fl_X9_9 ?_
      have ho := planE_ok (cts := gC g) hW (by omega) r h1
      have hoH := ho.2.2
      refine aw_bipush C dX9_ends_29 k2_112 ?_
      refine aw_iald C _ ((hM1.n (by omega) (by decide)).trans (by rw [hoH 112 (by omega)])) dX9_ends_31 sh_130 rfl (by decide) ?_
      refine aw_icmp_ge_n C dX9_ends_32 (tgt := 108) (by decide) (by omega) (by omega) (fun c_32 => ?_) (fun c_32 => ?_)
      · have er : r = gM g 112 := by omega
        subst er
        refine aw_iload_1 C dX9_ends_108 ?_
        refine aw_if_ne C dX9_ends_109 (tgt := 119) (by decide)  (fun c_109 => ?_) (fun c_109 => ?_)
        · skip
          refine aw_aload_0 C dX9_ends_119 rfl ?_
          refine aw_cV0IE C (s_X9_halves hM1 ho.1) mf_X9_halves mv_X9_halves (sh_129) rfl ml_X9_251 dX9_ends_120 (by omega) (Nat.le_of_ble_eq_true rfl) ?_
          rw [hoH 92 (by omega)]
          refine aw_istore_2 C dX9_ends_123 (by decide) (fun w h => by cases h <;> rfl) ?_
          refine aw_aload_0 C dX9_ends_124 rfl ?_
          refine aw_g9_1 C dX9_ends_125 fl_X9_15 ?_
          refine aw_aload_0 C dX9_ends_128 rfl ?_
          refine aw_g9_0 C dX9_ends_129 fl_X9_9 ?_
          have hEq : RE q1 (gC g) := hE1
          obtain ⟨hMb, hFb⟩ := back_now hM hF1
          have hEb : RE (cpI q1 131 130 146) (gC g) := hEq.w (⟨rfl, fun k j hn => by rw [gI_cpI, if_neg (fun z => hn z.1)]⟩ : Fr (fun k j => k = 130) q1 (cpI q1 131 130 146)) (fun k j e z => by omega)
          refine aw_cS2VE C (s_X9_move 131 130 sh_131 sh_130 (by decide)) mf_X9_move ms_X9_move ml_X9_94 dX9_ends_132 (by omega) (Nat.le_of_ble_eq_true rfl) ?_
          refine aw_iload_2 C dX9_ends_135 ?_
          refine aw_iretI C hR dX9_ends_136 ?_
          exact PG.same hRR rfl (by unfold f_ends; rw [if_neg (fun z => z c6), if_neg c_109]) (hFb.mono (fun k j z => z.elim (SY_Z k j) (fun y => by unfold SZk; omega))) hMb hEb
        · skip
          refine aw_aload_0 C dX9_ends_112 rfl ?_
          refine aw_cV0IE C (s_X9_dones hM1 ho.1) mf_X9_dones mv_X9_dones (sh_129) rfl ml_X9_248 dX9_ends_113 (by omega) (Nat.le_of_ble_eq_true rfl) ?_
          rw [hoH 92 (by omega)]
          refine aw_goto C dX9_ends_116 (tgt := 123) (by decide) ?_
          refine aw_istore_2 C dX9_ends_123 (by decide) (fun w h => by cases h <;> rfl) ?_
          refine aw_aload_0 C dX9_ends_124 rfl ?_
          refine aw_g9_1 C dX9_ends_125 fl_X9_15 ?_
          refine aw_aload_0 C dX9_ends_128 rfl ?_
          refine aw_g9_0 C dX9_ends_129 fl_X9_9 ?_
          have hEq : RE q1 (gC g) := hE1
          obtain ⟨hMb, hFb⟩ := back_now hM hF1
          have hEb : RE (cpI q1 131 130 146) (gC g) := hEq.w (⟨rfl, fun k j hn => by rw [gI_cpI, if_neg (fun z => hn z.1)]⟩ : Fr (fun k j => k = 130) q1 (cpI q1 131 130 146)) (fun k j e z => by omega)
          refine aw_cS2VE C (s_X9_move 131 130 sh_131 sh_130 (by decide)) mf_X9_move ms_X9_move ml_X9_94 dX9_ends_132 (by omega) (Nat.le_of_ble_eq_true rfl) ?_
          refine aw_iload_2 C dX9_ends_135 ?_
          refine aw_iretI C hR dX9_ends_136 ?_
          exact PG.same hRR rfl (by unfold f_ends; rw [if_neg (fun z => z c6), if_pos c_109]) (hFb.mono (fun k j z => z.elim (SY_Z k j) (fun y => by unfold SZk; omega))) hMb hEb
      · have hpr := hW.2.2.2.2.1 r (by omega)
        refine aw_aload_0 C dX9_ends_35 rfl ?_
        refine aw_g9_0 C dX9_ends_36 fl_X9_9 ?_
        refine aw_bipush C dX9_ends_39 k2_113 ?_
        refine aw_iconst C dX9_ends_41 k1_2 ?_
        refine aw_iload_2 C dX9_ends_42 ?_
        refine aw_imul_n C dX9_ends_43  ?_
        refine aw_iadd_n C dX9_ends_44  ?_
        refine aw_iald C _ ((hM1.n (by omega) (by unfold isOpt; omega)).trans (by rw [hoH _ (by omega)])) dX9_ends_45 sh_130 rfl (by omega) ?_
        refine aw_istore_3 C dX9_ends_46 (by decide) (fun w h => by cases h <;> rfl) ?_
        refine aw_aload_0 C dX9_ends_47 rfl ?_
        refine aw_g9_0 C dX9_ends_48 fl_X9_9 ?_
        refine aw_bipush C dX9_ends_51 k2_114 ?_
        refine aw_iconst C dX9_ends_53 k1_2 ?_
        refine aw_iload_2 C dX9_ends_54 ?_
        refine aw_imul_n C dX9_ends_55  ?_
        refine aw_iadd_n C dX9_ends_56  ?_
        refine aw_iald C _ ((hM1.n (by omega) (by unfold isOpt; omega)).trans (by rw [hoH _ (by omega)])) dX9_ends_57 sh_130 rfl (by omega) ?_
        refine aw_istore_4 C dX9_ends_58 (by decide) (fun w h => by cases h <;> rfl) ?_
        refine aw_iload_3 C dX9_ends_60 ?_
        refine aw_if_ne_n C dX9_ends_61 (tgt := 71) (by decide) (by omega) (fun c_61 => ?_) (fun c_61 => ?_)
        · skip
          refine aw_iload_3 C dX9_ends_71 ?_
          refine aw_iconst C dX9_ends_72 k1_3 ?_
          refine aw_icmp_ne_n C dX9_ends_73 (tgt := 88) (by decide) (by omega) (by omega) (fun c_73 => ?_) (fun c_73 => ?_)
          · skip
            have hb6 := hpr.2.1 (by omega)
            refine aw_aload_0 C dX9_ends_88 rfl ?_
            refine aw_g9_0 C dX9_ends_89 fl_X9_9 ?_
            refine aw_iconst C dX9_ends_92 k1_4 ?_
            refine aw_iload_4 C dX9_ends_93 ?_
            refine aw_imul_n C dX9_ends_95  ?_
            refine aw_iconst C dX9_ends_96 k1_3 ?_
            refine aw_iadd_n C dX9_ends_97  ?_
            refine aw_iconst C dX9_ends_98 k1_2 ?_
            refine aw_iload_3 C dX9_ends_99 ?_
            refine aw_isub_n C dX9_ends_100 (by omega) ?_
            refine aw_iast C _ dX9_ends_101 sh_130 rfl (by omega) ?_
            refine aw_iinc_2 C dX9_ends_102 (by decide) (fun w h => by cases h <;> rfl) (show _ + Int32.ofInt 1 = _ by rw [k1_1, nI_add]) ?_
            refine aw_goto C dX9_ends_105 (tgt := 24) (by decide) ?_
            exact (ih (r + 1) _ (by omega) (by omega) (by rw [planE_1 c_61 c_73]; exact hM1.set (cd_n (by unfold isOpt; omega)).symm) (hE1.w (Fr.set (S := fun k _ => k = 130) rfl) (fun k j e z => by omega)) (hF1.tr (k130H (Fr.set (S := fun k _ => k = 130) rfl)))).less ⟨Or.inr rfl, Or.inr rfl, Or.inr rfl, Or.inl rfl, Or.inl rfl, trivial⟩
          · skip
            have hi6 := (hW.p (hpr.2.2 c_73)).1
            refine aw_aload_0 C dX9_ends_76 rfl ?_
            refine aw_iload_4 C dX9_ends_77 ?_
            refine aw_iconst C dX9_ends_79 k1_4 ?_
            refine aw_iconst C dX9_ends_80 k1_m1 ?_
            refine aw_cV3I C (s_X9_changeM hM1 (gM g (114 + 2 * r)) 4 99 (cd_m (by unfold isOpt; omega)).symm (by omega)) mf_X9_change mv_X9_change (sh_129) rfl ml_X9_110 dX9_ends_81 (by omega) (Nat.le_of_ble_eq_true rfl) (fun r_81 q_81 h_81 => ?_)
            obtain ⟨-, hM2, hF2⟩ := h_81
            refine aw_pop C dX9_ends_84 rfl ?_
            refine aw_goto C dX9_ends_85 (tgt := 102) (by decide) ?_
            refine aw_iinc_2 C dX9_ends_102 (by decide) (fun w h => by cases h <;> rfl) (show _ + Int32.ofInt 1 = _ by rw [k1_1, nI_add]) ?_
            refine aw_goto C dX9_ends_105 (tgt := 24) (by decide) ?_
            exact (ih (r + 1) q_81 (by omega) (by omega) (by rw [planE_3 c_61 c_73]; exact hM2) (hE1.w hF2 (fun k j e z => by omega)) (hF1.tr (k130H hF2))).less ⟨Or.inr rfl, Or.inr rfl, Or.inr rfl, Or.inl rfl, Or.inl rfl, trivial⟩
        · skip
          refine aw_aload_0 C dX9_ends_64 rfl ?_
          refine aw_cV0V C (s_X9_hour hM1 ho.1 hE1 (hG.of (hoH 95 (by omega))) (by have := ho.2.1; omega)) mf_X9_hour mv_X9_hour (sh_129) rfl ml_X9_242 dX9_ends_65 (by omega) (Nat.le_of_ble_eq_true rfl) (fun q_65 h_65 => ?_)
          obtain ⟨hM2, hE2, hF2⟩ := h_65
          refine aw_goto C dX9_ends_68 (tgt := 102) (by decide) ?_
          refine aw_iinc_2 C dX9_ends_102 (by decide) (fun w h => by cases h <;> rfl) (show _ + Int32.ofInt 1 = _ by rw [k1_1, nI_add]) ?_
          refine aw_goto C dX9_ends_105 (tgt := 24) (by decide) ?_
          exact (ih (r + 1) q_65 (by omega) (by omega) (by rw [planE_0 c_61]; exact hM2) hE2 (hF1.tr hF2)).less ⟨Or.inr rfl, Or.inr rfl, Or.inr rfl, Or.inl rfl, Or.inl rfl, trivial⟩
    exact L24 (gM g 112 + 1) 0 _ (by omega) (by omega) hMc hEc Fr.rf
  · skip
    refine aw_iconst C dX9_ends_9 k1_m1 ?_
    refine aw_iretI C hR dX9_ends_10 ?_
    exact PG.here hRR rfl (by unfold f_ends; rw [if_pos (fun z => c_6 ((inN_le (by omega)).mpr z))])
