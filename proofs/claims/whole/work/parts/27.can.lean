set_option maxRecDepth 100000 in
set_option maxHeartbeats 4000000 in
theorem s_X9_fits {G : GT} {q : S_} {M : Nat → Nat} {cts : Nat → List Nat} (i w h : Nat) (hM : RelR q M) (hW : WF M) (hE : RE q cts) (hG : Goo M cts) (hi : i < M 92) (hh : M 94 < 90000) (hwh : (w = 1 ∧ h = 9) ∨ (w = 2 ∧ h = 5)) : Spec G 28 yX9_fits cX9_fits 7 (some .int) [rfn G 129, .int (nI i), .int (nI w), .int (nI h)] q (PI (fun r q3 => r = nI (bsum (fitP M cts i w) (h + 1)) ∧ RelR q3 M ∧ RE q3 cts ∧ Fr SZk q q3)) := by
  refine Spec.intro RX9 (by decide) rfl (Nat.le_of_ble_eq_true rfl) [some (rfn G 129), some (.int (nI i)), some (.int (nI w)), some (.int (nI h)), none, none, none] rfl ?_
  intro X d hd C hR
  have hc := hW.c
  have hp := hW.p hi
  have hx := bsum_lt (fitP M cts i w)
  have hj95 : ∀ x, mu M (32 + 10 * i + w) x 95 = M 95 := fun x => mu_ne (by omega)
  have hj92 : ∀ x, mu M (32 + 10 * i + w) x 92 = M 92 := fun x => mu_ne (by omega)
  have hj94 : ∀ x, mu M (32 + 10 * i + w) x 94 = M 94 := fun x => mu_ne (by omega)
  refine aw_aload_0 C dX9_fits_0 rfl ?_
  refine aw_iload_1 C dX9_fits_1 ?_
  refine aw_iload_2 C dX9_fits_2 ?_
  refine aw_cV2IE C (s_X9_oneN hM i w rfl (by omega) (by unfold isOpt; omega)) mf_X9_one mv_X9_one (sh_129) rfl ml_X9_102 dX9_fits_3 (by omega) (Nat.le_of_ble_eq_true rfl) ?_
  refine aw_istore_4 C dX9_fits_6 (by decide) (fun w h => by cases h <;> rfl) ?_
  refine aw_iconst C dX9_fits_8 k1_0 ?_
  refine aw_istore_5 C dX9_fits_9 (by decide) (fun w h => by cases h <;> rfl) ?_
  refine aw_iconst C dX9_fits_11 k1_0 ?_
  refine aw_istore_6 C dX9_fits_12 (by decide) (fun w h => by cases h <;> rfl) ?_
  have L14 : ∀ (n2 v x : Nat) (q1 : S_), v ≤ h + 1 → h + 1 < v + n2 → RelR q1 (mu M (32 + 10 * i + w) x) → RE q1 cts → Fr SZk q q1 → AW X G (q1) 14 [some (rfn G 129), some (.int (nI i)), some (.int (nI w)), some (.int (nI h)), some (.int (nI (M (32 + 10 * i + w)))), some (.int (nI (bsum (fitP M cts i w) v))), some (.int (nI v))] [] := by
    refine nat_loop (fun v x q1 h1 h2 hM1 hE1 hF1 => by omega) (fun n2 ih v x q1 h1 h2 hM1 hE1 hF1 => ?_)
    refine aw_iload_6 C dX9_fits_14 ?_
    refine aw_iload_3 C dX9_fits_16 ?_
    refine aw_icmp_gt_n C dX9_fits_17 (tgt := 56) (by decide) (by omega) (by omega) (fun c_17 => ?_) (fun c_17 => ?_)
    · skip
      refine aw_aload_0 C dX9_fits_56 rfl ?_
      refine aw_iload_1 C dX9_fits_57 ?_
      refine aw_iload_2 C dX9_fits_58 ?_
      refine aw_iload_4 C dX9_fits_59 ?_
      refine aw_cV3I C (s_X9_changeM hM1 i w (M (32 + 10 * i + w)) (cd_n (by unfold isOpt; omega)).symm (by omega)) mf_X9_change mv_X9_change (sh_129) rfl ml_X9_110 dX9_fits_61 (by omega) (Nat.le_of_ble_eq_true rfl) (fun r_61 q_61 h_61 => ?_)
      obtain ⟨-, hM2, hF2⟩ := h_61
      rw [mu_mu, mu_self] at hM2
      refine aw_pop C dX9_fits_64 rfl ?_
      refine aw_iload_5 C dX9_fits_65 ?_
      refine aw_iretI C hR dX9_fits_67 ?_
      exact ⟨by rw [show h + 1 = v by omega], hM2, hE1.w hF2 (fun k j e z => by omega), hF1.tr (hF2.mono (fun k j z => by unfold SZk; omega))⟩
    · skip
      refine aw_aload_0 C dX9_fits_20 rfl ?_
      refine aw_iload_1 C dX9_fits_21 ?_
      refine aw_iload_2 C dX9_fits_22 ?_
      refine aw_iload_6 C dX9_fits_23 ?_
      refine aw_cV3I C (s_X9_changeM hM1 i w v (cd_n (by unfold isOpt; omega)).symm (by omega)) mf_X9_change mv_X9_change (sh_129) rfl ml_X9_110 dX9_fits_25 (by omega) (Nat.le_of_ble_eq_true rfl) (fun r_25 q_25 h_25 => ?_)
      obtain ⟨-, hM2, hF2⟩ := h_25
      rw [mu_mu] at hM2
      have hW2 := hW.per hi (w := w) (v := v) (by omega) (by omega) (by omega) (by omega) (by omega) (by omega) (by omega) (by omega)
      refine aw_pop C dX9_fits_28 rfl ?_
      refine aw_iload_5 C dX9_fits_29 ?_
      refine aw_aload_0 C dX9_fits_31 rfl ?_
      refine aw_iload_1 C dX9_fits_32 ?_
      refine aw_cV1I C (s_X9_isAllSeen i hM2 hW2 (hE1.w hF2 (fun k j e z => by omega)) (hG.of (hj95 v)) (by rw [hj92]; exact hi) (by rw [hj94]; exact hh)) mf_X9_isAllSeen mv_X9_isAllSeen (sh_129) rfl ml_X9_265 dX9_fits_33 (by omega) (Nat.le_of_ble_eq_true rfl) (fun r_33 q_33 h_33 => ?_)
      obtain ⟨rfl, hM3, hE3, hF3⟩ := h_33
      refine aw_if_eq_b C dX9_fits_36 (tgt := 46) (by decide)  (fun c_36 => ?_) (fun c_36 => ?_)
      · skip
        refine aw_iconst C dX9_fits_46 k1_0 ?_
        refine aw_ior_n C dX9_fits_47  ?_
        rw [Nat.or_zero, bsum_f (show ¬ fitP M cts i w v from c_36)]
        refine aw_istore_5 C dX9_fits_48 (by decide) (fun w h => by cases h <;> rfl) ?_
        refine aw_iinc_6 C dX9_fits_50 (by decide) (fun w h => by cases h <;> rfl) (show _ + Int32.ofInt 1 = _ by rw [k1_1, nI_add]) ?_
        refine aw_goto C dX9_fits_53 (tgt := 14) (by decide) ?_
        exact ih (v + 1) v q_33 (by omega) (by omega) hM3 hE3 ((hF1.tr (hF2.mono (fun k j z => by unfold SZk; omega))).tr hF3)
      · skip
        refine aw_iconst C dX9_fits_39 k1_1 ?_
        refine aw_iload_6 C dX9_fits_40 ?_
        refine aw_ishl_n C dX9_fits_42 (by omega) (by rw [Nat.one_mul]; have := Nat.pow_le_pow_right (n := 2) (by decide) (show v ≤ 9 by omega); omega) ?_
        rw [Nat.one_mul]
        refine aw_goto C dX9_fits_43 (tgt := 47) (by decide) ?_
        refine aw_ior_n C dX9_fits_47  ?_
        rw [or_pow (hx v), bsum_t (show fitP M cts i w v from c_36)]
        refine aw_istore_5 C dX9_fits_48 (by decide) (fun w h => by cases h <;> rfl) ?_
        refine aw_iinc_6 C dX9_fits_50 (by decide) (fun w h => by cases h <;> rfl) (show _ + Int32.ofInt 1 = _ by rw [k1_1, nI_add]) ?_
        refine aw_goto C dX9_fits_53 (tgt := 14) (by decide) ?_
        exact ih (v + 1) v q_33 (by omega) (by omega) hM3 hE3 ((hF1.tr (hF2.mono (fun k j z => by unfold SZk; omega))).tr hF3)
  exact L14 (h + 2) 0 (M (32 + 10 * i + w)) q (by omega) (by omega) (by rw [mu_self]; exact hM) hE Fr.rf

def f_from (g : GS) (p : Int32) : Int32 × GS := (if inN p (gM g 92) then nI (bsum (fitP (gM g) (gC g) (u32 p) 2) 6) else -1, g)
def cntU (f : Nat → Prop) [DecidablePred f] : Nat → Nat
  | 0 => 0
  | d + 1 => cntU f d + if f (9 - d) then 1 else 0
def lstU (f : Nat → Prop) [DecidablePred f] : Nat → Nat
  | 0 => 99
  | d + 1 => if f (9 - d) then 9 - d else lstU f d
theorem cntU_le (f : Nat → Prop) [DecidablePred f] : ∀ d, cntU f d ≤ d := by
  intro d
  induction d with
  | zero => exact Nat.le_refl 0
  | succ d ih =>
    unfold cntU
    split <;> omega
def f_can (g : GS) (p w : Int32) : Int32 × GS := (if ¬ (inN p (gM g 92) ∧ inN w 2) then -1 else if w = 0 then nI (cntU (fitP (gM g) (gC g) (u32 p) 1) 10) else l5 (lstU (fitP (gM g) (gC g) (u32 p) 1) 10), g)
def vI (d : Nat) : Int32 := if d < 10 then nI (9 - d) else -1
theorem vI_s : ∀ d, d < 10 → vI d + Int32.ofInt (-1) = vI (d + 1) := by decide +kernel
theorem vI_lt : ∀ d, d < 11 → (vI d < 0 ↔ d = 10) := by decide +kernel
theorem bit_K : ∀ h, h < 1024 → ∀ b, b < 10 → nI h >>> (nI b &&& 31) &&& nI 1 = nI (h / 2 ^ b % 2) := by decide +kernel

set_option maxRecDepth 100000 in
set_option maxHeartbeats 4000000 in
theorem s_X9_from {G : GT} {q : S_} {g : GS} (p : Int32) (hg : GOK g) (hRR : RR q g) : Spec G 29 yX9_from cX9_from 2 (some .int) [rfn G 129, .int p] q (PI (PG (f_from g p) q)) := by
  refine Spec.intro RX9 (by decide) rfl (Nat.le_of_ble_eq_true rfl) [some (rfn G 129), some (.int p)] rfl ?_
  intro X d hd C hR
  obtain ⟨hW, hCy, h95, hN6, h94, hK, hT1, hT2, hTp, hR1, hSy, hSyJ⟩ := id hg
  obtain ⟨hM, hE, hNr, hKp, hIm, hTl, hTx, hTs, hAb, hBd, hRn, hTr⟩ := id hRR
  have hc := hW.c
  have hG : Goo (gM g) (gC g) := fun k hk => hCy k (by omega)
  refine aw_aload_0 C dX9_from_0 rfl ?_
  refine aw_iload_1 C dX9_from_1 ?_
  refine aw_cV1IE C (s_X9_isOne _ (hM.n (by omega) (by decide)) (by omega)) mf_X9_isOne mv_X9_isOne (sh_129) rfl ml_X9_114 dX9_from_2 (by omega) (Nat.le_of_ble_eq_true rfl) ?_
  refine aw_if_eq_b C dX9_from_5 (tgt := 18) (by decide)  (fun c_5 => ?_) (fun c_5 => ?_)
  · skip
    refine aw_iconst C dX9_from_18 k1_m1 ?_
    refine aw_iretI C hR dX9_from_19 ?_
    exact PG.here hRR rfl (by unfold f_from; rw [if_neg c_5])
  · obtain ⟨p, hp1, hp2, rfl⟩ := inN_of c_5
    have hu : u32 (nI p) = p := nI_clamp hp2
    have hp := hW.p hp1
    refine aw_aload_0 C dX9_from_8 rfl ?_
    refine aw_iload_1 C dX9_from_9 ?_
    refine aw_iconst C dX9_from_10 k1_2 ?_
    refine aw_iconst C dX9_from_11 k1_5 ?_
    refine aw_cV3I C (s_X9_fits p 2 5 hM hW hE hG hp1 (by omega) (by omega)) mf_X9_fits mv_X9_fits (sh_129) rfl ml_X9_268 dX9_from_12 (by omega) (Nat.le_of_ble_eq_true rfl) (fun r_12 q_12 h_12 => ?_)
    obtain ⟨rfl, hM2, hE2, hF2⟩ := h_12
    refine aw_goto C dX9_from_15 (tgt := 19) (by decide) ?_
    refine aw_iretI C hR dX9_from_19 ?_
    exact PG.same hRR rfl (by unfold f_from; rw [if_pos c_5, hu]) hF2 hM2 hE2

set_option maxRecDepth 100000 in
set_option maxHeartbeats 4000000 in
theorem s_X9_can {G : GT} {q : S_} {g : GS} (p : Int32) (w : Int32) (hg : GOK g) (hRR : RR q g) : Spec G 29 yX9_can cX9_can 7 (some .int) [rfn G 129, .int p, .int w] q (PI (PG (f_can g p w) q)) := by
  refine Spec.intro RX9 (by decide) rfl (Nat.le_of_ble_eq_true rfl) [some (rfn G 129), some (.int p), some (.int w), none, none, none, none] rfl ?_
  intro X d hd C hR
  obtain ⟨hW, hCy, h95, hN6, h94, hK, hT1, hT2, hTp, hR1, hSy, hSyJ⟩ := id hg
  obtain ⟨hM, hE, hNr, hKp, hIm, hTl, hTx, hTs, hAb, hBd, hRn, hTr⟩ := id hRR
  have hc := hW.c
  have hG : Goo (gM g) (gC g) := fun k hk => hCy k (by omega)
  refine aw_aload_0 C dX9_can_0 rfl ?_
  refine aw_iload_1 C dX9_can_1 ?_
  refine aw_cV1IE C (s_X9_isOne _ (hM.n (by omega) (by decide)) (by omega)) mf_X9_isOne mv_X9_isOne (sh_129) rfl ml_X9_114 dX9_can_2 (by omega) (Nat.le_of_ble_eq_true rfl) ?_
  refine aw_if_eq_b C dX9_can_5 (tgt := 17) (by decide)  (fun c_5 => ?_) (fun c_5 => ?_)
  · skip
    refine aw_iconst C dX9_can_17 k1_m1 ?_
    refine aw_iretI C hR dX9_can_18 ?_
    exact PG.here hRR rfl (by unfold f_can; rw [if_pos (fun z => c_5 z.1)])
  · skip
    refine aw_iload_2 C dX9_can_8 ?_
    refine aw_iconst C dX9_can_9 k1_0 ?_
    refine aw_iconst C dX9_can_10 k1_1 ?_
    refine aw_cS3IE C (s_X9_isIn _ _ _) mf_X9_isIn ms_X9_isIn ml_X9_98 dX9_can_11 (by omega) (Nat.le_of_ble_eq_true rfl) ?_
    refine aw_if_ne_b C dX9_can_14 (tgt := 19) (by decide)  (fun c_14 => ?_) (fun c_14 => ?_)
    · obtain ⟨p, hp1, hp2, rfl⟩ := inN_of c_5
      have hu : u32 (nI p) = p := nI_clamp hp2
      have hp := hW.p hp1
      have c14 := (inN_le (by omega)).mp c_14
      refine aw_aload_0 C dX9_can_19 rfl ?_
      refine aw_iload_1 C dX9_can_20 ?_
      refine aw_iconst C dX9_can_21 k1_1 ?_
      refine aw_bipush C dX9_can_22 k2_9 ?_
      refine aw_cV3I C (s_X9_fits p 1 9 hM hW hE hG hp1 (by omega) (by omega)) mf_X9_fits mv_X9_fits (sh_129) rfl ml_X9_268 dX9_can_24 (by omega) (Nat.le_of_ble_eq_true rfl) (fun r_24 q_24 h_24 => ?_)
      obtain ⟨rfl, hM2, hE2, hF2⟩ := h_24
      have hS : bsum (fitP (gM g) (gC g) p 1) 10 < 1024 := bsum_lt _ 10
      have hbt : ∀ j, j < 10 → (bsum (fitP (gM g) (gC g) p 1) 10 / 2 ^ j % 2 = 1 ↔ fitP (gM g) (gC g) p 1 j) := fun j hj => bsum_div _ hj
      refine aw_istore_3 C dX9_can_27 (by decide) (fun w h => by cases h <;> rfl) ?_
      refine aw_iconst C dX9_can_28 k1_0 ?_
      refine aw_istore_4 C dX9_can_29 (by decide) (fun w h => by cases h <;> rfl) ?_
      refine aw_bipush C dX9_can_31 k2_m5 ?_
      refine aw_istore_5 C dX9_can_33 (by decide) (fun w h => by cases h <;> rfl) ?_
      refine aw_bipush C dX9_can_35 k2_9 ?_
      refine aw_istore_6 C dX9_can_37 (by decide) (fun w h => by cases h <;> rfl) ?_
      have L39 : ∀ (n2 d1 : Nat), d1 ≤ 10 → 10 < d1 + n2 → AW X G (q_24) 39 [some (rfn G 129), some (.int (nI p)), some (.int w), some (.int (nI (bsum (fitP (gM g) (gC g) p 1) 10))), some (.int (nI (cntU (fitP (gM g) (gC g) p 1) d1))), some (.int (l5 (lstU (fitP (gM g) (gC g) p 1) d1))), some (.int (vI d1))] [] := by
        refine nat_loop (fun d1 h1 h2 => by omega) (fun n2 ih d1 h1 h2 => ?_)
        refine aw_iload_6 C dX9_can_39 ?_
        refine aw_if_lt C dX9_can_41 (tgt := 80) (by decide)  (fun c_41 => ?_) (fun c_41 => ?_)
        · have e10 : d1 = 10 := (vI_lt d1 (by omega)).mp c_41
          refine aw_iload_2 C dX9_can_80 ?_
          refine aw_if_ne C dX9_can_81 (tgt := 89) (by decide)  (fun c_81 => ?_) (fun c_81 => ?_)
          · skip
            refine aw_iload_5 C dX9_can_89 ?_
            refine aw_iretI C hR dX9_can_91 ?_
            exact PG.same hRR rfl (by unfold f_can; rw [if_neg (fun z => z ⟨c_5, c14⟩), if_neg c_81, hu, e10]) hF2 hM2 hE2
          · skip
            refine aw_iload_4 C dX9_can_84 ?_
            refine aw_goto C dX9_can_86 (tgt := 91) (by decide) ?_
            refine aw_iretI C hR dX9_can_91 ?_
            exact PG.same hRR rfl (by unfold f_can; rw [if_neg (fun z => z ⟨c_5, c14⟩), if_pos c_81, hu, e10]) hF2 hM2 hE2
        · have e10 : d1 ≠ 10 := fun z => c_41 ((vI_lt d1 (by omega)).mpr z)
          rw [show vI d1 = nI (9 - d1) from if_pos (by omega)]
          refine aw_iload_4 C dX9_can_44 ?_
          refine aw_iload_3 C dX9_can_46 ?_
          refine aw_iload_6 C dX9_can_47 ?_
          refine aw_ishr C dX9_can_49  ?_
          refine aw_iconst C dX9_can_50 k1_1 ?_
          refine aw_iand C dX9_can_51  ?_
          rw [bit_K _ hS (9 - d1) (by omega)]
          refine aw_iadd_n C dX9_can_52  ?_
          refine aw_istore_4 C dX9_can_53 (by decide) (fun w h => by cases h <;> rfl) ?_
          refine aw_iload_3 C dX9_can_55 ?_
          refine aw_iload_6 C dX9_can_56 ?_
          refine aw_ishr C dX9_can_58  ?_
          refine aw_iconst C dX9_can_59 k1_1 ?_
          refine aw_iand C dX9_can_60  ?_
          rw [bit_K _ hS (9 - d1) (by omega)]
          refine aw_iconst C dX9_can_61 k1_1 ?_
          refine aw_icmp_ne_n C dX9_can_62 (tgt := 70) (by decide) (by omega) (by omega) (fun c_62 => ?_) (fun c_62 => ?_)
          · have hnf : ¬ fitP (gM g) (gC g) p 1 (9 - d1) := fun z => c_62 ((hbt _ (by omega)).mpr z)
            refine aw_iload_5 C dX9_can_70 ?_
            refine aw_istore_5 C dX9_can_72 (by decide) (fun w h => by cases h <;> rfl) ?_
            refine aw_iinc_6 C dX9_can_74 (by decide) (fun w h => by cases h <;> rfl) (show nI (9 - d1) + Int32.ofInt (-1) = vI (d1 + 1) from (congrArg (· + Int32.ofInt (-1)) (show nI (9 - d1) = vI d1 from (if_pos (by omega)).symm)).trans (vI_s d1 (by omega))) ?_
            refine aw_goto C dX9_can_77 (tgt := 39) (by decide) ?_
            rw [show cntU (fitP (gM g) (gC g) p 1) d1 + bsum (fitP (gM g) (gC g) p 1) 10 / 2 ^ (9 - d1) % 2 = cntU (fitP (gM g) (gC g) p 1) (d1 + 1) from by rw [cntU, if_neg hnf, show bsum (fitP (gM g) (gC g) p 1) 10 / 2 ^ (9 - d1) % 2 = 0 by omega], show lstU (fitP (gM g) (gC g) p 1) d1 = lstU (fitP (gM g) (gC g) p 1) (d1 + 1) from by rw [lstU, if_neg hnf]]
            exact ih (d1 + 1) (by omega) (by omega)
          · have hnf := (hbt _ (by omega)).mp c_62
            refine aw_iload_6 C dX9_can_65 ?_
            refine aw_goto C dX9_can_67 (tgt := 72) (by decide) ?_
            refine aw_istore_5 C dX9_can_72 (by decide) (fun w h => by cases h <;> rfl) ?_
            refine aw_iinc_6 C dX9_can_74 (by decide) (fun w h => by cases h <;> rfl) (show nI (9 - d1) + Int32.ofInt (-1) = vI (d1 + 1) from (congrArg (· + Int32.ofInt (-1)) (show nI (9 - d1) = vI d1 from (if_pos (by omega)).symm)).trans (vI_s d1 (by omega))) ?_
            refine aw_goto C dX9_can_77 (tgt := 39) (by decide) ?_
            rw [show cntU (fitP (gM g) (gC g) p 1) d1 + bsum (fitP (gM g) (gC g) p 1) 10 / 2 ^ (9 - d1) % 2 = cntU (fitP (gM g) (gC g) p 1) (d1 + 1) from by rw [cntU, if_pos hnf, c_62], show nI (9 - d1) = l5 (lstU (fitP (gM g) (gC g) p 1) (d1 + 1)) from by rw [lstU, if_pos hnf]; unfold l5; rw [if_neg (by omega)]]
            exact ih (d1 + 1) (by omega) (by omega)
      exact L39 11 0 (by omega) (by omega)
    · skip
      refine aw_iconst C dX9_can_17 k1_m1 ?_
      refine aw_iretI C hR dX9_can_18 ?_
      exact PG.here hRR rfl (by unfold f_can; rw [if_pos (fun z => c_14 ((inN_le (by omega)).mpr z.2))])
