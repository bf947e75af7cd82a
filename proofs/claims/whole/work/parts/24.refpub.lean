abbrev f_toldS (M : Nat → Nat) (b : Nat) : Prop := M (4 * b + 3) = 1
def f_told (g : GS) (w : Int32) : Int32 × GS := (if w = nI 0 then nI (gM g 94) else if w = nI 1 then nI (darkM (gM g) (gC g)) else if w = nI 2 then nI (donesM (gM g) (gM g 92)) else if w = nI 3 then nI (halvesM (gM g) (gM g 92)) else if w = nI 4 then nI (bsum (f_toldS (gM g)) (gM g 93)) else -1, g)
def f_cross (g : GS) (p b : Int32) : Int32 × GS := if ¬ (inN p (gM g 92) ∧ inN b (gM g 93)) then (-1, g) else if ¬ (adjP (gM g) (gM g (32 + 10 * u32 p + 2)) (u32 b) ∧ mayP (gM g) (gC g) (u32 p) (u32 b)) then (-3, g) else (nI (crossM (gM g) (u32 p) (u32 b) (32 + 10 * u32 p + 2)), (crossM (gM g) (u32 p) (u32 b), g.2))
theorem PG.after {q q1 q3 : S_} {fr : Int32 × GS} {r : Int32} (h : FrM q q1) (h2 : PG fr q1 r q3) : PG fr q r q3 := ⟨h2.1, h2.2.1, h.tr h2.2.2⟩
theorem PG.n {q q3 : S_} {g : GS} {M2 : Nat → Nat} {v r : Int32} {fr : Int32 × GS} (h : RR q g) (hr : r = v) (hf : fr = (v, (M2, g.2))) (hF : Fr SZk q q3) (hM : RelR q3 M2) (hE : RE q3 (gC g)) : PG fr q r q3 := by
  subst hf
  exact ⟨hr, h.keep hF hM hE, hF.m SZ_m⟩
def zM (M : Nat → Nat) (i : Nat) : Nat → Nat → Nat
  | 0 => M
  | k + 1 => mu (zM M i k) (32 + 10 * i + k) 0
theorem zM_o {M : Nat → Nat} {i j : Nat} (h : ¬ (32 + 10 * i ≤ j ∧ j < 32 + 10 * i + 10)) : ∀ k, k ≤ 10 → zM M i k j = M j := by
  intro k
  induction k with
  | zero => intro _; rfl
  | succ k ih => intro hk; exact (mu_ne (by omega)).trans (ih (by omega))
def addP (M : Nat → Nat) (k v x : Nat) : Nat → Nat := mu (mu (mu (mu (mu (mu (zM M (M 92) 10) (32 + 10 * M 92 + 0) k) (32 + 10 * M 92 + 1) v) (32 + 10 * M 92 + 2) x) (32 + 10 * M 92 + 3) x) (32 + 10 * M 92 + 4) 99) 92 (M 92 + 1)
def f_one (g : GS) (k v x : Int32) : Int32 × GS := if ¬ (inN k 7 ∧ inN x 6) then (-1, g) else if ¬ inN v 10 then (-2, g) else if gM g 92 = 6 then (-4, g) else (nI (gM g 92), (addP (gM g) (u32 k) (u32 v) (u32 x), g.2))

set_option maxRecDepth 100000 in
set_option maxHeartbeats 4000000 in
theorem s_X9_told {G : GT} {q : S_} {g : GS} (w : Int32) (hg : GOK g) (hRR : RR q g) : Spec G 22 yX9_told cX9_told 4 (some .int) [rfn G 129, .int w] q (PI (PG (f_told g w) q)) := by
  refine Spec.intro RX9 (by decide) rfl (Nat.le_of_ble_eq_true rfl) [some (rfn G 129), some (.int w), none, none] rfl ?_
  intro X d hd C hR
  obtain ⟨hW, hCy, h95, hN6, h94, hK, hT1, hT2, hTp, hR1, hSy, hSyJ⟩ := id hg
  obtain ⟨hM, hE, hNr, hKp, hIm, hTl, hTx, hTs, hAb, hBd, hRn, hTr⟩ := id hRR
  have hc := hW.c
  have hG : Goo (gM g) (gC g) := fun k hk => hCy k (by omega)
  refine aw_iconst C dX9_told_0 k1_0 ?_
  refine aw_istore_2 C dX9_told_1 (by decide) (fun w h => by cases h <;> rfl) ?_
  refine aw_iload_1 C dX9_told_2 ?_
  rcases sw5 w with rfl | rfl | rfl | rfl | rfl | hout
  · skip
    refine aw_tableIn C dX9_told_3 (off := 33) (tgt := 36) (by decide +kernel) (by decide +kernel) (by decide +kernel) (by decide) ?_
    refine aw_aload_0 C dX9_told_36 rfl ?_
    refine aw_g9_0 C dX9_told_37 fl_X9_9 ?_
    refine aw_bipush C dX9_told_40 k2_94 ?_
    refine aw_iald C _ (hM.n (by omega) (by decide)) dX9_told_42 sh_130 rfl (by decide) ?_
    refine aw_iretI C hR dX9_told_43 ?_
    exact PG.here hRR rfl rfl
  · skip
    refine aw_tableIn C dX9_told_3 (off := 41) (tgt := 44) (by decide +kernel) (by decide +kernel) (by decide +kernel) (by decide) ?_
    refine aw_aload_0 C dX9_told_44 rfl ?_
    refine aw_iconst C dX9_told_45 k1_0 ?_
    refine aw_iconst C dX9_told_46 k1_0 ?_
    refine aw_cV2V C (s_X9_readFor 0 0 hM hW hE hG (by omega) (by omega)) mf_X9_readFor mv_X9_readFor (sh_129) rfl ml_X9_211 dX9_told_47 (by omega) (Nat.le_of_ble_eq_true rfl) (fun q_47 h_47 => ?_)
    obtain ⟨-, hdk, hF2, hE2⟩ := h_47
    refine aw_aload_0 C dX9_told_50 rfl ?_
    refine aw_g9_15 C rfl dX9_told_51 fl_X9_193 ?_
    refine aw_iretI C hR dX9_told_54 ?_
    exact PG.same hRR hdk rfl (hF2.mono SQ_Z) (hF2.rel (fun j z => by unfold SQk at z; omega) hM) hE2
  · skip
    refine aw_tableIn C dX9_told_3 (off := 52) (tgt := 55) (by decide +kernel) (by decide +kernel) (by decide +kernel) (by decide) ?_
    refine aw_aload_0 C dX9_told_55 rfl ?_
    refine aw_cV0IE C (s_X9_dones hM hW) mf_X9_dones mv_X9_dones (sh_129) rfl ml_X9_248 dX9_told_56 (by omega) (Nat.le_of_ble_eq_true rfl) ?_
    refine aw_iretI C hR dX9_told_59 ?_
    exact PG.here hRR rfl rfl
  · skip
    refine aw_tableIn C dX9_told_3 (off := 57) (tgt := 60) (by decide +kernel) (by decide +kernel) (by decide +kernel) (by decide) ?_
    refine aw_aload_0 C dX9_told_60 rfl ?_
    refine aw_cV0IE C (s_X9_halves hM hW) mf_X9_halves mv_X9_halves (sh_129) rfl ml_X9_251 dX9_told_61 (by omega) (Nat.le_of_ble_eq_true rfl) ?_
    refine aw_iretI C hR dX9_told_64 ?_
    exact PG.here hRR rfl rfl
  · skip
    refine aw_tableIn C dX9_told_3 (off := 62) (tgt := 65) (by decide +kernel) (by decide +kernel) (by decide +kernel) (by decide) ?_
    refine aw_iconst C dX9_told_65 k1_0 ?_
    refine aw_istore_3 C dX9_told_66 (by decide) (fun w h => by cases h <;> rfl) ?_
    have L67 : ∀ (n2 k : Nat), k ≤ gM g 93 → gM g 93 < k + n2 → AW X G (q) 67 [some (rfn G 129), some (.int (nI 4)), some (.int (nI (bsum (f_toldS (gM g)) k))), some (.int (nI k))] [] := by
      refine nat_loop (fun k h1 h2 => by omega) (fun n2 ih k h1 h2 => ?_)
      have hx := bsum_lt (f_toldS (gM g))
      refine aw_iload_3 C dX9_told_67 ?_
      refine aw_aload_0 C dX9_told_68 rfl ?_
      refine aw_g9_0 C dX9_told_69 fl_X9_9 ?_
      refine aw_bipush C dX9_told_72 k2_93 ?_
      refine aw_iald C _ (hM.n (by omega) (by decide)) dX9_told_74 sh_130 rfl (by decide) ?_
      refine aw_icmp_ge_n C dX9_told_75 (tgt := 102) (by decide) (by omega) (by omega) (fun c_75 => ?_) (fun c_75 => ?_)
      · skip
        refine aw_iload_2 C dX9_told_102 ?_
        refine aw_iretI C hR dX9_told_103 ?_
        exact PG.here hRR (congrArg (fun z => nI (bsum (f_toldS (gM g)) z)) (show k = gM g 93 by omega)) rfl
      · skip
        have hbb := hW.b (b := k) (by omega)
        refine aw_iload_2 C dX9_told_78 ?_
        refine aw_aload_0 C dX9_told_79 rfl ?_
        refine aw_iload_3 C dX9_told_80 ?_
        refine aw_cV1IE C (s_X9_isLostN hM k (by omega) (by omega)) mf_X9_isLost mv_X9_isLost (sh_129) rfl ml_X9_214 dX9_told_81 (by omega) (Nat.le_of_ble_eq_true rfl) ?_
        refine aw_if_eq_b C dX9_told_84 (tgt := 93) (by decide)  (fun c_84 => ?_) (fun c_84 => ?_)
        · skip
          refine aw_iconst C dX9_told_93 k1_0 ?_
          refine aw_ior_n C dX9_told_94  ?_
          rw [Nat.or_zero, bsum_f (show ¬ f_toldS (gM g) k from c_84)]
          refine aw_istore_2 C dX9_told_95 (by decide) (fun w h => by cases h <;> rfl) ?_
          refine aw_iinc_3 C dX9_told_96 (by decide) (fun w h => by cases h <;> rfl) (show _ + Int32.ofInt 1 = _ by rw [k1_1, nI_add]) ?_
          refine aw_goto C dX9_told_99 (tgt := 67) (by decide) ?_
          exact ih (k + 1) (by omega) (by omega)
        · skip
          refine aw_iconst C dX9_told_87 k1_1 ?_
          refine aw_iload_3 C dX9_told_88 ?_
          refine aw_ishl_n C dX9_told_89 (by omega) (by rw [Nat.one_mul]; have := Nat.pow_le_pow_right (n := 2) (by decide) (show k ≤ 8 by omega); omega) ?_
          rw [Nat.one_mul]
          refine aw_goto C dX9_told_90 (tgt := 94) (by decide) ?_
          refine aw_ior_n C dX9_told_94  ?_
          rw [or_pow (hx k), bsum_t (show f_toldS (gM g) k from c_84)]
          refine aw_istore_2 C dX9_told_95 (by decide) (fun w h => by cases h <;> rfl) ?_
          refine aw_iinc_3 C dX9_told_96 (by decide) (fun w h => by cases h <;> rfl) (show _ + Int32.ofInt 1 = _ by rw [k1_1, nI_add]) ?_
          refine aw_goto C dX9_told_99 (tgt := 67) (by decide) ?_
          exact ih (k + 1) (by omega) (by omega)
    exact L67 (gM g 93 + 1) 0 (by omega) (by omega)
  · skip
    refine aw_tableOut C dX9_told_3 (tgt := 104) (out_of (n := 5) hout (by decide)) (by decide) ?_
    refine aw_iconst C dX9_told_104 k1_m1 ?_
    refine aw_iretI C hR dX9_told_105 ?_
    exact PG.here hRR rfl (by
      have hk : ∀ k, k < 5 → ¬ w = nI k := fun k h e => hout (by rw [e]; exact inN_nI h (by omega))
      unfold f_told
      rw [if_neg (hk 0 (by decide)), if_neg (hk 1 (by decide)), if_neg (hk 2 (by decide)), if_neg (hk 3 (by decide)), if_neg (hk 4 (by decide))])

set_option maxRecDepth 100000 in
set_option maxHeartbeats 4000000 in
theorem s_X9_cross {G : GT} {q : S_} {g : GS} (p : Int32) (b : Int32) (hg : GOK g) (hRR : RR q g) : Spec G 25 yX9_cross cX9_cross 3 (some .int) [rfn G 129, .int p, .int b] q (PI (PG (f_cross g p b) q)) := by
  refine Spec.intro RX9 (by decide) rfl (Nat.le_of_ble_eq_true rfl) [some (rfn G 129), some (.int p), some (.int b)] rfl ?_
  intro X d hd C hR
  obtain ⟨hW, hCy, h95, hN6, h94, hK, hT1, hT2, hTp, hR1, hSy, hSyJ⟩ := id hg
  obtain ⟨hM, hE, hNr, hKp, hIm, hTl, hTx, hTs, hAb, hBd, hRn, hTr⟩ := id hRR
  have hc := hW.c
  have hG : Goo (gM g) (gC g) := fun k hk => hCy k (by omega)
  refine aw_aload_0 C dX9_cross_0 rfl ?_
  refine aw_iload_1 C dX9_cross_1 ?_
  refine aw_cV1IE C (s_X9_isOne _ (hM.n (by omega) (by decide)) (by omega)) mf_X9_isOne mv_X9_isOne (sh_129) rfl ml_X9_114 dX9_cross_2 (by omega) (Nat.le_of_ble_eq_true rfl) ?_
  refine aw_if_eq_b C dX9_cross_5 (tgt := 16) (by decide)  (fun c_5 => ?_) (fun c_5 => ?_)
  · skip
    refine aw_iconst C dX9_cross_16 k1_m1 ?_
    refine aw_iretI C hR dX9_cross_17 ?_
    exact PG.here hRR rfl (by unfold f_cross; rw [if_pos (fun z => c_5 z.1)])
  · skip
    refine aw_aload_0 C dX9_cross_8 rfl ?_
    refine aw_iload_2 C dX9_cross_9 ?_
    refine aw_cV1IE C (s_X9_isBridge _ (hM.n (by omega) (by decide)) (by omega)) mf_X9_isBridge mv_X9_isBridge (sh_129) rfl ml_X9_130 dX9_cross_10 (by omega) (Nat.le_of_ble_eq_true rfl) ?_
    refine aw_if_ne_b C dX9_cross_13 (tgt := 18) (by decide)  (fun c_13 => ?_) (fun c_13 => ?_)
    · obtain ⟨p, hp1, hp2, rfl⟩ := inN_of c_5
      have hu : u32 (nI p) = p := nI_clamp hp2
      have hp := hW.p hp1
      obtain ⟨b, hb1, hb2, rfl⟩ := inN_of c_13
      have hub : u32 (nI b) = b := nI_clamp hb2
      have hbb := hW.b hb1
      refine aw_aload_0 C dX9_cross_18 rfl ?_
      refine aw_iload_1 C dX9_cross_19 ?_
      refine aw_cV1I C (s_X9_may p hM hW hE hG hp1) mf_X9_may mv_X9_may (sh_129) rfl ml_X9_127 dX9_cross_20 (by omega) (Nat.le_of_ble_eq_true rfl) (fun r_20 q_20 h_20 => ?_)
      obtain ⟨rfl, hF2, hE2⟩ := h_20
      have hM2 : RelR q_20 (gM g) := hF2.rel (fun j z => by unfold SQk at z; omega) hM
      have hR1 : RR q_20 g := hRR.keep (hF2.mono SQ_Z) hM2 hE2
      have hS := bsum_lt (fun b => adjP (gM g) (gM g (32 + 10 * p + 2)) b ∧ mayP (gM g) (gC g) p b) (gM g 93)
      have hS2 := pow_nb hc.1
      refine aw_iload_2 C dX9_cross_23 ?_
      refine aw_ishr C dX9_cross_24  ?_
      refine aw_iconst C dX9_cross_25 k1_1 ?_
      refine aw_iand C dX9_cross_26  ?_
      rw [bit_I _ (by omega) b (by omega)]
      refine aw_if_ne_n C dX9_cross_27 (tgt := 33) (by decide) (by omega) (fun c_27 => ?_) (fun c_27 => ?_)
      · have hbt := (bsum_div (fun b => adjP (gM g) (gM g (32 + 10 * p + 2)) b ∧ mayP (gM g) (gC g) p b) hb1).mp (by omega)
        refine aw_aload_0 C dX9_cross_33 rfl ?_
        refine aw_iload_1 C dX9_cross_34 ?_
        refine aw_iload_2 C dX9_cross_35 ?_
        refine aw_cV2V C (s_X9_crosses p b hM2 hW hp1 hb1 hbt.1) mf_X9_crosses mv_X9_crosses (sh_129) rfl ml_X9_139 dX9_cross_36 (by omega) (Nat.le_of_ble_eq_true rfl) (fun q_36 h_36 => ?_)
        obtain ⟨hM3, hF3⟩ := h_36
        refine aw_aload_0 C dX9_cross_39 rfl ?_
        refine aw_iload_1 C dX9_cross_40 ?_
        refine aw_iconst C dX9_cross_41 k1_2 ?_
        refine aw_cV2IE C (s_X9_oneN hM3 p 2 rfl (by omega) (by unfold isOpt; omega)) mf_X9_one mv_X9_one (sh_129) rfl ml_X9_102 dX9_cross_42 (by omega) (Nat.le_of_ble_eq_true rfl) ?_
        refine aw_iretI C hR dX9_cross_45 ?_
        exact PG.after (hF2.m (fun k j z => SZ_m k j (SQ_Z k j z))) (PG.m hR1 rfl (by unfold f_cross; rw [if_neg (fun z => z ⟨c_5, c_13⟩), hu, hub, if_neg (fun z => z hbt)]) hF3 hM3)
      · have hbt : ¬ (adjP (gM g) (gM g (32 + 10 * p + 2)) b ∧ mayP (gM g) (gC g) p b) := fun z => by
          have := (bsum_div (fun b => adjP (gM g) (gM g (32 + 10 * p + 2)) b ∧ mayP (gM g) (gC g) p b) hb1).mpr z
          omega
        refine aw_bipush C dX9_cross_30 k2_m3 ?_
        refine aw_iretI C hR dX9_cross_32 ?_
        exact PG.same hRR rfl (by unfold f_cross; rw [if_neg (fun z => z ⟨c_5, c_13⟩), hu, hub, if_pos hbt]) (hF2.mono SQ_Z) hM2 hE2
    · skip
      refine aw_iconst C dX9_cross_16 k1_m1 ?_
      refine aw_iretI C hR dX9_cross_17 ?_
      exact PG.here hRR rfl (by unfold f_cross; rw [if_pos (fun z => c_13 z.2)])

set_option maxRecDepth 100000 in
set_option maxHeartbeats 4000000 in
theorem s_X9_isSwap {G : GT} {q : S_} {M : Nat → Nat} (a b : Nat) (hM : RelR q M) (hW : WF M) (ha : a < M 93) (hb : b < M 93) : Spec G 2 yX9_isSwap cX9_isSwap 3 (some .boolean) [rfn G 129, .int (nI a), .int (nI b)] q (PI fun r2 q3 => r2 = bP (swP M a b) ∧ q3 = q) := by
  refine Spec.intro RX9 (by decide) rfl (Nat.le_of_ble_eq_true rfl) [some (rfn G 129), some (.int (nI a)), some (.int (nI b))] rfl ?_
  intro X d hd C hR
  have hc := hW.c
  have ha1 := hW.b ha
  have hb1 := hW.b hb
  refine aw_iload_1 C dX9_isSwap_0 ?_
  refine aw_iload_2 C dX9_isSwap_1 ?_
  refine aw_icmp_eq_n C dX9_isSwap_2 (tgt := 36) (by decide) (by omega) (by omega) (fun c_2 => ?_) (fun c_2 => ?_)
  · skip
    refine aw_iconst C dX9_isSwap_36 k1_0 ?_
    refine aw_iretZ C hR dX9_isSwap_37 (by first | rfl | exact bP_nar) ?_
    exact ⟨(bP_f (fun z => z.1 c_2)).symm, rfl⟩
  · skip
    refine aw_aload_0 C dX9_isSwap_5 rfl ?_
    refine aw_iload_1 C dX9_isSwap_6 ?_
    refine aw_cV1IE C (s_X9_sisterN hM a (by omega)) mf_X9_sister mv_X9_sister (sh_129) rfl ml_X9_136 dX9_isSwap_7 (by omega) (Nat.le_of_ble_eq_true rfl) ?_
    refine aw_iconst C dX9_isSwap_10 k1_m1 ?_
    refine aw_icmp_eq C dX9_isSwap_11 (tgt := 36) (by decide)  (fun c_11 => ?_) (fun c_11 => ?_)
    · have h1 : M (4 * a + 2) = 99 := ((cd_m1 (by omega)).mp c_11).2
      refine aw_iconst C dX9_isSwap_36 k1_0 ?_
      refine aw_iretZ C hR dX9_isSwap_37 (by first | rfl | exact bP_nar) ?_
      exact ⟨(bP_f (fun z => z.2.1 h1)).symm, rfl⟩
    · have h1 : M (4 * a + 2) ≠ 99 := fun z => c_11 ((cd_m1 (by omega)).mpr ⟨by unfold isOpt; omega, z⟩)
      refine aw_aload_0 C dX9_isSwap_14 rfl ?_
      refine aw_iload_2 C dX9_isSwap_15 ?_
      refine aw_cV1IE C (s_X9_sisterN hM b (by omega)) mf_X9_sister mv_X9_sister (sh_129) rfl ml_X9_136 dX9_isSwap_16 (by omega) (Nat.le_of_ble_eq_true rfl) ?_
      refine aw_iconst C dX9_isSwap_19 k1_m1 ?_
      refine aw_icmp_eq C dX9_isSwap_20 (tgt := 36) (by decide)  (fun c_20 => ?_) (fun c_20 => ?_)
      · have h2 : M (4 * b + 2) = 99 := ((cd_m1 (by omega)).mp c_20).2
        refine aw_iconst C dX9_isSwap_36 k1_0 ?_
        refine aw_iretZ C hR dX9_isSwap_37 (by first | rfl | exact bP_nar) ?_
        exact ⟨(bP_f (fun z => z.2.2.1 h2)).symm, rfl⟩
      · have h2 : M (4 * b + 2) ≠ 99 := fun z => c_20 ((cd_m1 (by omega)).mpr ⟨by unfold isOpt; omega, z⟩)
        refine aw_aload_0 C dX9_isSwap_23 rfl ?_
        refine aw_iload_1 C dX9_isSwap_24 ?_
        refine aw_cV1IE C (s_X9_sisterN hM a (by omega)) mf_X9_sister mv_X9_sister (sh_129) rfl ml_X9_136 dX9_isSwap_25 (by omega) (Nat.le_of_ble_eq_true rfl) ?_
        rw [cd_v h1]
        refine aw_iload_2 C dX9_isSwap_28 ?_
        refine aw_icmp_eq_n C dX9_isSwap_29 (tgt := 36) (by decide) (by omega) (by omega) (fun c_29 => ?_) (fun c_29 => ?_)
        · skip
          refine aw_iconst C dX9_isSwap_36 k1_0 ?_
          refine aw_iretZ C hR dX9_isSwap_37 (by first | rfl | exact bP_nar) ?_
          exact ⟨(bP_f (fun z => z.2.2.2 c_29)).symm, rfl⟩
        · skip
          refine aw_iconst C dX9_isSwap_32 k1_1 ?_
          refine aw_goto C dX9_isSwap_33 (tgt := 37) (by decide) ?_
          refine aw_iretZ C hR dX9_isSwap_37 (by first | rfl | exact bP_nar) ?_
          exact ⟨(bP_t ⟨c_2, h1, h2, c_29⟩).symm, rfl⟩

set_option maxRecDepth 100000 in
set_option maxHeartbeats 4000000 in
theorem s_X9_goSwap {G : GT} {q : S_} {M : Nat → Nat} (a b : Nat) (hM : RelR q M) (hW : WF M) (ha : a < M 93) (hb : b < M 93) (h1 : M (4 * a + 2) ≠ 99) (h2 : M (4 * b + 2) ≠ 99) : Spec G 2 yX9_goSwap cX9_goSwap 5 none [rfn G 129, .int (nI a), .int (nI b)] q (PV (fun q3 => RelR q3 (swM M a b) ∧ Fr (fun k _ => k = 130) q q3)) := by
  refine Spec.intro RX9 (by decide) rfl (Nat.le_of_ble_eq_true rfl) [some (rfn G 129), some (.int (nI a)), some (.int (nI b)), none, none] rfl ?_
  intro X d hd C hR
  have hc := hW.c
  have ha1 := hW.b ha
  have hb1 := hW.b hb
  refine aw_aload_0 C dX9_goSwap_0 rfl ?_
  refine aw_iload_1 C dX9_goSwap_1 ?_
  refine aw_cV1IE C (s_X9_sisterN hM a (by omega)) mf_X9_sister mv_X9_sister (sh_129) rfl ml_X9_136 dX9_goSwap_2 (by omega) (Nat.le_of_ble_eq_true rfl) ?_
  rw [cd_v h1]
  refine aw_istore_3 C dX9_goSwap_5 (by decide) (fun w h => by cases h <;> rfl) ?_
  refine aw_aload_0 C dX9_goSwap_6 rfl ?_
  refine aw_iload_2 C dX9_goSwap_7 ?_
  refine aw_cV1IE C (s_X9_sisterN hM b (by omega)) mf_X9_sister mv_X9_sister (sh_129) rfl ml_X9_136 dX9_goSwap_8 (by omega) (Nat.le_of_ble_eq_true rfl) ?_
  rw [cd_v h2]
  refine aw_istore_4 C dX9_goSwap_11 (by decide) (fun w h => by cases h <;> rfl) ?_
  refine aw_aload_0 C dX9_goSwap_13 rfl ?_
  refine aw_g9_0 C dX9_goSwap_14 fl_X9_9 ?_
  refine aw_iconst C dX9_goSwap_17 k1_4 ?_
  refine aw_iload_1 C dX9_goSwap_18 ?_
  refine aw_imul_n C dX9_goSwap_19  ?_
  refine aw_iconst C dX9_goSwap_20 k1_2 ?_
  refine aw_iadd_n C dX9_goSwap_21  ?_
  refine aw_iload_4 C dX9_goSwap_22 ?_
  refine aw_iast C _ dX9_goSwap_24 sh_130 rfl (by omega) ?_
  refine aw_aload_0 C dX9_goSwap_25 rfl ?_
  refine aw_g9_0 C dX9_goSwap_26 fl_X9_9 ?_
  refine aw_iconst C dX9_goSwap_29 k1_4 ?_
  refine aw_iload_4 C dX9_goSwap_30 ?_
  refine aw_imul_n C dX9_goSwap_32  ?_
  refine aw_iconst C dX9_goSwap_33 k1_2 ?_
  refine aw_iadd_n C dX9_goSwap_34  ?_
  refine aw_iload_1 C dX9_goSwap_35 ?_
  refine aw_iast C _ dX9_goSwap_36 sh_130 rfl (by omega) ?_
  refine aw_aload_0 C dX9_goSwap_37 rfl ?_
  refine aw_g9_0 C dX9_goSwap_38 fl_X9_9 ?_
  refine aw_iconst C dX9_goSwap_41 k1_4 ?_
  refine aw_iload_2 C dX9_goSwap_42 ?_
  refine aw_imul_n C dX9_goSwap_43  ?_
  refine aw_iconst C dX9_goSwap_44 k1_2 ?_
  refine aw_iadd_n C dX9_goSwap_45  ?_
  refine aw_iload_3 C dX9_goSwap_46 ?_
  refine aw_iast C _ dX9_goSwap_47 sh_130 rfl (by omega) ?_
  refine aw_aload_0 C dX9_goSwap_48 rfl ?_
  refine aw_g9_0 C dX9_goSwap_49 fl_X9_9 ?_
  refine aw_iconst C dX9_goSwap_52 k1_4 ?_
  refine aw_iload_3 C dX9_goSwap_53 ?_
  refine aw_imul_n C dX9_goSwap_54  ?_
  refine aw_iconst C dX9_goSwap_55 k1_2 ?_
  refine aw_iadd_n C dX9_goSwap_56  ?_
  refine aw_iload_2 C dX9_goSwap_57 ?_
  refine aw_iast C _ dX9_goSwap_58 sh_130 rfl (by omega) ?_
  refine aw_vretV C hR dX9_goSwap_59 ?_
  exact ⟨(((hM.set (j := 4 * a + 2) (v := M (4 * b + 2)) (cd_v (by omega)).symm).set (j := 4 * M (4 * b + 2) + 2) (v := a) (cd_v (by omega)).symm).set (j := 4 * b + 2) (v := M (4 * a + 2)) (cd_v (by omega)).symm).set (j := 4 * M (4 * a + 2) + 2) (v := b) (cd_v (by omega)).symm, (by repeat first | refine Fr.put ?_ rfl | exact Fr.rf)⟩

set_option maxRecDepth 100000 in
set_option maxHeartbeats 4000000 in
theorem s_X9_swap {G : GT} {q : S_} {g : GS} (a : Int32) (b : Int32) (hg : GOK g) (hRR : RR q g) : Spec G 3 yX9_swap cX9_swap 3 (some .int) [rfn G 129, .int a, .int b] q (PI (PG (f_swap g a b) q)) := by
  refine Spec.intro RX9 (by decide) rfl (Nat.le_of_ble_eq_true rfl) [some (rfn G 129), some (.int a), some (.int b)] rfl ?_
  intro X d hd C hR
  obtain ⟨hW, hCy, h95, hN6, h94, hK, hT1, hT2, hTp, hR1, hSy, hSyJ⟩ := id hg
  obtain ⟨hM, hE, hNr, hKp, hIm, hTl, hTx, hTs, hAb, hBd, hRn, hTr⟩ := id hRR
  have hc := hW.c
  have hG : Goo (gM g) (gC g) := fun k hk => hCy k (by omega)
  refine aw_aload_0 C dX9_swap_0 rfl ?_
  refine aw_iload_1 C dX9_swap_1 ?_
  refine aw_cV1IE C (s_X9_isBridge _ (hM.n (by omega) (by decide)) (by omega)) mf_X9_isBridge mv_X9_isBridge (sh_129) rfl ml_X9_130 dX9_swap_2 (by omega) (Nat.le_of_ble_eq_true rfl) ?_
  refine aw_if_eq_b C dX9_swap_5 (tgt := 16) (by decide)  (fun c_5 => ?_) (fun c_5 => ?_)
  · skip
    refine aw_iconst C dX9_swap_16 k1_m1 ?_
    refine aw_iretI C hR dX9_swap_17 ?_
    exact PG.here hRR rfl (by unfold f_swap; rw [if_pos (fun z => c_5 z.1)])
  · skip
    refine aw_aload_0 C dX9_swap_8 rfl ?_
    refine aw_iload_2 C dX9_swap_9 ?_
    refine aw_cV1IE C (s_X9_isBridge _ (hM.n (by omega) (by decide)) (by omega)) mf_X9_isBridge mv_X9_isBridge (sh_129) rfl ml_X9_130 dX9_swap_10 (by omega) (Nat.le_of_ble_eq_true rfl) ?_
    refine aw_if_ne_b C dX9_swap_13 (tgt := 18) (by decide)  (fun c_13 => ?_) (fun c_13 => ?_)
    · obtain ⟨a, ha1, ha2, rfl⟩ := inN_of c_5
      have hua : u32 (nI a) = a := nI_clamp ha2
      have haa := hW.b ha1
      obtain ⟨b, hb1, hb2, rfl⟩ := inN_of c_13
      have hub : u32 (nI b) = b := nI_clamp hb2
      have hbb := hW.b hb1
      refine aw_aload_0 C dX9_swap_18 rfl ?_
      refine aw_iload_1 C dX9_swap_19 ?_
      refine aw_iload_2 C dX9_swap_20 ?_
      refine aw_cV2IE C (s_X9_isSwap a b hM hW ha1 hb1) mf_X9_isSwap mv_X9_isSwap (sh_129) rfl ml_X9_143 dX9_swap_21 (by omega) (Nat.le_of_ble_eq_true rfl) ?_
      refine aw_if_ne_b C dX9_swap_24 (tgt := 30) (by decide)  (fun c_24 => ?_) (fun c_24 => ?_)
      · skip
        refine aw_aload_0 C dX9_swap_30 rfl ?_
        refine aw_iload_1 C dX9_swap_31 ?_
        refine aw_iload_2 C dX9_swap_32 ?_
        refine aw_cV2V C (s_X9_goSwap a b hM hW ha1 hb1 c_24.2.1 c_24.2.2.1) mf_X9_goSwap mv_X9_goSwap (sh_129) rfl ml_X9_147 dX9_swap_33 (by omega) (Nat.le_of_ble_eq_true rfl) (fun q_33 h_33 => ?_)
        obtain ⟨hM2, hF2⟩ := h_33
        refine aw_aload_0 C dX9_swap_36 rfl ?_
        refine aw_iload_1 C dX9_swap_37 ?_
        refine aw_cV1IE C (s_X9_sisterN hM2 a (by omega)) mf_X9_sister mv_X9_sister (sh_129) rfl ml_X9_136 dX9_swap_38 (by omega) (Nat.le_of_ble_eq_true rfl) ?_
        refine aw_iretI C hR dX9_swap_41 ?_
        exact PG.m hRR rfl (by unfold f_swap; rw [if_neg (fun z => z ⟨c_5, c_13⟩), hua, hub, if_neg (fun z => z c_24)]) hF2 hM2
      · skip
        refine aw_bipush C dX9_swap_27 k2_m3 ?_
        refine aw_iretI C hR dX9_swap_29 ?_
        exact PG.here hRR rfl (by unfold f_swap; rw [if_neg (fun z => z ⟨c_5, c_13⟩), hua, hub, if_pos c_24])
    · skip
      refine aw_iconst C dX9_swap_16 k1_m1 ?_
      refine aw_iretI C hR dX9_swap_17 ?_
      exact PG.here hRR rfl (by unfold f_swap; rw [if_pos (fun z => c_13 z.2)])

set_option maxRecDepth 100000 in
set_option maxHeartbeats 4000000 in
theorem s_X9_row {G : GT} {q : S_} {g : GS} (p : Int32) (k : Int32) (n : Int32) (hg : GOK g) (hRR : RR q g) : Spec G 3 yX9_row cX9_row 4 (some .int) [rfn G 129, .int p, .int k, .int n] q (PI (PG (f_row g p k n) q)) := by
  refine Spec.intro RX9 (by decide) rfl (Nat.le_of_ble_eq_true rfl) [some (rfn G 129), some (.int p), some (.int k), some (.int n)] rfl ?_
  intro X d hd C hR
  obtain ⟨hW, hCy, h95, hN6, h94, hK, hT1, hT2, hTp, hR1, hSy, hSyJ⟩ := id hg
  obtain ⟨hM, hE, hNr, hKp, hIm, hTl, hTx, hTs, hAb, hBd, hRn, hTr⟩ := id hRR
  have hc := hW.c
  have hG : Goo (gM g) (gC g) := fun k hk => hCy k (by omega)
  refine aw_aload_0 C dX9_row_0 rfl ?_
  refine aw_iload_1 C dX9_row_1 ?_
  refine aw_cV1IE C (s_X9_isOne _ (hM.n (by omega) (by decide)) (by omega)) mf_X9_isOne mv_X9_isOne (sh_129) rfl ml_X9_114 dX9_row_2 (by omega) (Nat.le_of_ble_eq_true rfl) ?_
  refine aw_if_eq_b C dX9_row_5 (tgt := 17) (by decide)  (fun c_5 => ?_) (fun c_5 => ?_)
  · skip
    refine aw_iconst C dX9_row_17 k1_m1 ?_
    refine aw_iretI C hR dX9_row_18 ?_
    exact PG.here hRR rfl (by unfold f_row; rw [if_pos (fun z => c_5 z.1)])
  · skip
    refine aw_iload_2 C dX9_row_8 ?_
    refine aw_iconst C dX9_row_9 k1_0 ?_
    refine aw_iconst C dX9_row_10 k1_3 ?_
    refine aw_cS3IE C (s_X9_isIn _ _ _) mf_X9_isIn ms_X9_isIn ml_X9_98 dX9_row_11 (by omega) (Nat.le_of_ble_eq_true rfl) ?_
    refine aw_if_ne_b C dX9_row_14 (tgt := 19) (by decide)  (fun c_14 => ?_) (fun c_14 => ?_)
    · obtain ⟨p, hp1, hp2, rfl⟩ := inN_of c_5
      have hu : u32 (nI p) = p := nI_clamp hp2
      have hp := hW.p hp1
      have c14 := (inN_le (by omega)).mp c_14
      obtain ⟨k, hk1, hk2, rfl⟩ := inN_of c14
      have huk : u32 (nI k) = k := nI_clamp hk2
      refine aw_iload_3 C dX9_row_19 ?_
      refine aw_iconst C dX9_row_20 k1_0 ?_
      refine aw_bipush C dX9_row_21 k2_9 ?_
      refine aw_cS3IE C (s_X9_isIn _ _ _) mf_X9_isIn ms_X9_isIn ml_X9_98 dX9_row_23 (by omega) (Nat.le_of_ble_eq_true rfl) ?_
      refine aw_if_ne_b C dX9_row_26 (tgt := 32) (by decide)  (fun c_26 => ?_) (fun c_26 => ?_)
      · have c26 := (inN_le (by omega)).mp c_26
        obtain ⟨n, hn1, hn2, rfl⟩ := inN_of c26
        have hun : u32 (nI n) = n := nI_clamp hn2
        refine aw_aload_0 C dX9_row_32 rfl ?_
        refine aw_iload_1 C dX9_row_33 ?_
        refine aw_iconst C dX9_row_34 k1_0 ?_
        refine aw_cV2IE C (s_X9_oneN hM p 0 rfl (by omega) (by unfold isOpt; omega)) mf_X9_one mv_X9_one (sh_129) rfl ml_X9_102 dX9_row_35 (by omega) (Nat.le_of_ble_eq_true rfl) ?_
        refine aw_bipush C dX9_row_38 k2_6 ?_
        refine aw_icmp_ne_n C dX9_row_40 (tgt := 56) (by decide) (by omega) (by omega) (fun c_40 => ?_) (fun c_40 => ?_)
        · skip
          refine aw_bipush C dX9_row_56 k2_m3 ?_
          refine aw_iretI C hR dX9_row_58 ?_
          exact PG.here hRR rfl (by unfold f_row; rw [if_neg (fun z => z ⟨c_5, c14⟩), if_neg (fun z => z c26), hu, if_neg c_40])
        · skip
          refine aw_aload_0 C dX9_row_43 rfl ?_
          refine aw_iload_1 C dX9_row_44 ?_
          refine aw_bipush C dX9_row_45 k2_6 ?_
          refine aw_iload_2 C dX9_row_47 ?_
          refine aw_iadd_n C dX9_row_48  ?_
          refine aw_iload_3 C dX9_row_49 ?_
          refine aw_cV3I C (s_X9_changeM hM p (6 + k) n (cd_n (by unfold isOpt; omega)).symm (by omega)) mf_X9_change mv_X9_change (sh_129) rfl ml_X9_110 dX9_row_50 (by omega) (Nat.le_of_ble_eq_true rfl) (fun r_50 q_50 h_50 => ?_)
          obtain ⟨hr, hM2, hF2⟩ := h_50
          refine aw_goto C dX9_row_53 (tgt := 58) (by decide) ?_
          refine aw_iretI C hR dX9_row_58 ?_
          exact PG.m hRR (hr.trans (cd_n (by unfold isOpt; omega))) (by unfold f_row; rw [if_neg (fun z => z ⟨c_5, c14⟩), if_neg (fun z => z c26), hu, huk, hun, if_pos c_40]) hF2 hM2
      · skip
        refine aw_bipush C dX9_row_29 k2_m2 ?_
        refine aw_iretI C hR dX9_row_31 ?_
        exact PG.here hRR rfl (by unfold f_row; rw [if_neg (fun z => z ⟨c_5, c14⟩), if_pos (fun z => c_26 ((inN_le (by omega)).mpr z))])
    · skip
      refine aw_iconst C dX9_row_17 k1_m1 ?_
      refine aw_iretI C hR dX9_row_18 ?_
      exact PG.here hRR rfl (by unfold f_row; rw [if_pos (fun z => c_14 ((inN_le (by omega)).mpr z.2))])

set_option maxRecDepth 100000 in
set_option maxHeartbeats 4000000 in
theorem s_X9_pass {G : GT} {q : S_} {g : GS} (n : Int32) (hg : GOK g) (hRR : RR q g) : Spec G 28 yX9_pass cX9_pass 2 (some .int) [rfn G 129, .int n] q (PI (PG (f_pass g n) q)) := by
  refine Spec.intro RX9 (by decide) rfl (Nat.le_of_ble_eq_true rfl) [some (rfn G 129), some (.int n)] rfl ?_
  intro X d hd C hR
  obtain ⟨hW, hCy, h95, hN6, h94, hK, hT1, hT2, hTp, hR1, hSy, hSyJ⟩ := id hg
  obtain ⟨hM, hE, hNr, hKp, hIm, hTl, hTx, hTs, hAb, hBd, hRn, hTr⟩ := id hRR
  have hc := hW.c
  have hG : Goo (gM g) (gC g) := fun k hk => hCy k (by omega)
  refine aw_iload_1 C dX9_pass_0 ?_
  refine aw_iconst C dX9_pass_1 k1_0 ?_
  refine aw_bipush C dX9_pass_2 k2_12 ?_
  refine aw_cS3IE C (s_X9_isIn _ _ _) mf_X9_isIn ms_X9_isIn ml_X9_98 dX9_pass_4 (by omega) (Nat.le_of_ble_eq_true rfl) ?_
  refine aw_if_ne_b C dX9_pass_7 (tgt := 13) (by decide)  (fun c_7 => ?_) (fun c_7 => ?_)
  · have c7 := (inN_le (by omega)).mp c_7
    obtain ⟨n, hn1, hn2, rfl⟩ := inN_of c7
    have hun : u32 (nI n) = n := nI_clamp hn2
    refine aw_aload_0 C dX9_pass_13 rfl ?_
    refine aw_g9_0 C dX9_pass_14 fl_X9_9 ?_
    refine aw_bipush C dX9_pass_17 k2_94 ?_
    refine aw_iald C _ (hM.n (by omega) (by decide)) dX9_pass_19 sh_130 rfl (by decide) ?_
    refine aw_iload_1 C dX9_pass_20 ?_
    refine aw_iadd_n C dX9_pass_21  ?_
    refine aw_sipush C dX9_pass_22 k3_9999 ?_
    refine aw_icmp_le_n C dX9_pass_25 (tgt := 31) (by decide) (by omega) (by omega) (fun c_25 => ?_) (fun c_25 => ?_)
    · skip
      refine aw_aload_0 C dX9_pass_31 rfl ?_
      refine aw_iload_1 C dX9_pass_32 ?_
      refine aw_cV1V C (s_X9_hours n hM hW hE hG (by omega)) mf_X9_hours mv_X9_hours (sh_129) rfl ml_X9_254 dX9_pass_33 (by omega) (Nat.le_of_ble_eq_true rfl) (fun q_33 h_33 => ?_)
      obtain ⟨hM2, hE2, hF2⟩ := h_33
      have hok := hoursM_ok (cts := gC g) hW n (by omega)
      refine aw_aload_0 C dX9_pass_36 rfl ?_
      refine aw_g9_0 C dX9_pass_37 fl_X9_9 ?_
      refine aw_bipush C dX9_pass_40 k2_94 ?_
      refine aw_iald C _ ((hM2.n (by omega) (by decide)).trans (by rw [hok.2.1])) dX9_pass_42 sh_130 rfl (by decide) ?_
      refine aw_iretI C hR dX9_pass_43 ?_
      exact PG.n hRR rfl (by unfold f_pass; rw [if_neg (fun z => z c7), hun, if_neg (by omega)]) (hF2.mono SH_Z) hM2 hE2
    · skip
      refine aw_bipush C dX9_pass_28 k2_m3 ?_
      refine aw_iretI C hR dX9_pass_30 ?_
      exact PG.here hRR rfl (by unfold f_pass; rw [if_neg (fun z => z c7), hun, if_pos (by omega)])
  · skip
    refine aw_bipush C dX9_pass_10 k2_m2 ?_
    refine aw_iretI C hR dX9_pass_12 ?_
    exact PG.here hRR rfl (by unfold f_pass; rw [if_pos (fun z => c_7 ((inN_le (by omega)).mpr z))])
