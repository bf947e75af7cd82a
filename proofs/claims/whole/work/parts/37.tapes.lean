theorem kL_toInt {n : Nat} (h : n < 2 ^ 31) : (kL n).toInt = n := Int64.toInt_ofNat_of_lt (by omega)
theorem nI_L {n : Nat} (h : n < 2 ^ 31) : (nI n).toInt64 = kL n := Int64.toInt.inj (by rw [Int32.toInt_toInt64, nI_toInt h, kL_toInt h])
theorem nI_addL {a b : Nat} (h : a < 2 ^ 30) (h2 : b < 2 ^ 30) : (nI a).toInt64 + (nI b).toInt64 = kL (a + b) := Int64.toInt.inj (by rw [lg_i2l_add, nI_toInt (by omega), nI_toInt (by omega), kL_toInt (by omega)]; omega)
theorem kL_32 {n : Nat} (h : n < 2 ^ 31) : (kL n).toInt32 = nI n := by rw [← nI_L h, lg_l2i_i2l]
theorem subI {e i : Nat} (he : e < 2 ^ 31) (hi : i < 2 ^ 31) : (nI e - nI i).toInt = (e : Int) - i := by
  rw [Int32.toInt_sub, nI_toInt he, nI_toInt hi]
  exact Int.bmod_eq_of_le (by omega) (by omega)
theorem sub_ge {e i n : Nat} (he : e < 2 ^ 31) (hi : i < 2 ^ 31) (hn : n < 2 ^ 31) : nI n ≤ nI e - nI i ↔ i ≤ e ∧ n ≤ e - i := by
  rw [Int32.le_iff_toInt_le, nI_toInt hn, subI he hi]
  omega

set_option maxRecDepth 100000 in
set_option maxHeartbeats 4000000 in
theorem s_X9_item {G : GT} {q : S_} {g : GS} (t : Int32) (i : Int32) (v : Int64) (hg : GOK g) (hRR : RR q g) : Spec G 3 yX9_item cX9_item 6 (some .int) [rfn G 129, .int t, .int i, .long v] q (PI (PG (f_item g t i v) q)) := by
  refine Spec.intro RX9 (by decide) rfl (Nat.le_of_ble_eq_true rfl) [some (rfn G 129), some (.int t), some (.int i), some (.long v), none, none] rfl ?_
  intro X d hd C hR
  obtain ⟨hW, hCy, h95, hN6, h94, hK, hT1, hT2, hTp, hR1, hSy, hSyJ⟩ := id hg
  obtain ⟨hM, hE, hNr, hKp, hIm, hTl, hTx, hTs, hAb, hBd, hRn, hTr⟩ := id hRR
  have hc := hW.c
  have hG : Goo (gM g) (gC g) := fun k hk => hCy k (by omega)
  refine aw_iload_1 C dX9_item_0 ?_
  refine aw_cS1IE C (s_X9_isTape _) mf_X9_isTape ms_X9_isTape ml_X9_294 dX9_item_1 (by omega) (Nat.le_of_ble_eq_true rfl) ?_
  refine aw_if_ne_b C dX9_item_4 (tgt := 9) (by decide)  (fun c_4 => ?_) (fun c_4 => ?_)
  · obtain ⟨t, ht1, ht2, rfl⟩ := inN_of c_4
    have hut : u32 (nI t) = t := nI_clamp ht2
    have htp := hTp t ht1
    have hts := hTs t ht1
    refine aw_aload_0 C dX9_item_9 rfl ?_
    refine aw_g9_32 C dX9_item_10 fl_X9_77 ?_
    refine aw_iload_1 C dX9_item_13 ?_
    refine aw_iald C _ hts.1 dX9_item_14 sh_151 rfl (by omega) ?_
    refine aw_if_ge C dX9_item_15 (tgt := 21) (by decide)  (fun c_15 => ?_) (fun c_15 => ?_)
    · have h9 : gS g t ≠ 9 := fun z => Int32.not_lt.mpr c_15 ((cs9_lt htp.1).mpr z)
      refine aw_iload_2 C dX9_item_21 ?_
      refine aw_iconst C dX9_item_22 k1_0 ?_
      refine aw_aload_0 C dX9_item_23 rfl ?_
      refine aw_g9_33 C dX9_item_24 fl_X9_80 ?_
      refine aw_iload_1 C dX9_item_27 ?_
      refine aw_iald C _ hts.2.1 dX9_item_28 sh_152 rfl (by omega) ?_
      refine aw_iconst C dX9_item_29 k1_1 ?_
      refine aw_isub C dX9_item_30  ?_
      refine aw_cS3IE C (s_X9_isIn _ _ _) mf_X9_isIn ms_X9_isIn ml_X9_98 dX9_item_31 (by omega) (Nat.le_of_ble_eq_true rfl) ?_
      refine aw_if_ne_b C dX9_item_34 (tgt := 40) (by decide)  (fun c_34 => ?_) (fun c_34 => ?_)
      · have c34 := (inN_pred (by omega)).mp c_34
        obtain ⟨i, hi1, hi2, rfl⟩ := inN_of c34
        have hui : u32 (nI i) = i := nI_clamp hi2
        refine aw_aload_0 C dX9_item_40 rfl ?_
        refine aw_g9_32 C dX9_item_41 fl_X9_77 ?_
        refine aw_iload_1 C dX9_item_44 ?_
        refine aw_iald C _ (hts.1.trans (if_neg h9)) dX9_item_45 sh_151 rfl (by omega) ?_
        refine aw_istore_5 C dX9_item_46 (by decide) (fun w h => by cases h <;> rfl) ?_
        refine aw_aload_0 C dX9_item_48 rfl ?_
        refine aw_g9_34 C dX9_item_49 fl_X9_83 ?_
        refine aw_bipush C dX9_item_52 k2_60 ?_
        refine aw_iload_1 C dX9_item_54 ?_
        refine aw_imul_n C dX9_item_55  ?_
        refine aw_iload_2 C dX9_item_56 ?_
        refine aw_iadd_n C dX9_item_57  ?_
        refine aw_iload_5 C dX9_item_58 ?_
        refine aw_if_ne_n C dX9_item_60 (tgt := 70) (by decide) (by omega) (fun c_60 => ?_) (fun c_60 => ?_)
        · skip
          refine aw_iload_5 C dX9_item_70 ?_
          refine aw_iconst C dX9_item_72 k1_1 ?_
          refine aw_icmp_ne_n C dX9_item_73 (tgt := 83) (by decide) (by omega) (by omega) (fun c_73 => ?_) (fun c_73 => ?_)
          · skip
            refine aw_iload_5 C dX9_item_83 ?_
            refine aw_iconst C dX9_item_85 k1_2 ?_
            refine aw_icmp_ne_n C dX9_item_86 (tgt := 95) (by decide) (by omega) (by omega) (fun c_86 => ?_) (fun c_86 => ?_)
            · skip
              refine aw_iload_5 C dX9_item_95 ?_
              refine aw_iconst C dX9_item_97 k1_3 ?_
              refine aw_icmp_ne_n C dX9_item_98 (tgt := 105) (by decide) (by omega) (by omega) (fun c_98 => ?_) (fun c_98 => ?_)
              · skip
                refine aw_lload_3 C dX9_item_105 ?_
                refine aw_lconst C dX9_item_106 rfl ?_
                refine aw_lcmp C dX9_item_107 ?_
                refine aw_if_eq C dX9_item_108 (tgt := 115) (by decide)  (fun c_108 => ?_) (fun c_108 => ?_)
                · skip
                  refine aw_lconst C dX9_item_115 rfl ?_
                  refine aw_last C _ dX9_item_116 sh_153 rfl (show 60 * t + i < 360 by omega) ?_
                  refine aw_iconst C dX9_item_117 k1_1 ?_
                  refine aw_iretI C hR dX9_item_118 ?_
                  refine PG.tp (S2 := gS g) (E2 := gE g) (X2 := updN (gX g) t (updN (gX g t) i (asIt (gS g t) v))) hRR rfl ?_ (fun k j hk => rfl) (fun k j hk => ?_) (fun a ha => ⟨(hTs a ha).1, (hTs a ha).2.1, fun j hj => ?_⟩)
                  · unfold f_item
                    rw [if_neg (fun z => z c_4), hut, if_neg h9, if_neg (fun z => z c34), hui]
                  · rw [gL_sL, if_neg (by omega)]
                  · rw [gL_sL]
                    by_cases e : a = t
                    · rw [e, updN_eq]
                      by_cases e2 : j = i
                      · rw [e2, updN_eq, if_pos ⟨rfl, rfl⟩]
                        unfold asIt; rw [if_neg c_60, if_neg c_73, if_neg c_86, if_neg c_98, show (Int64.ofNat ((0 : Fin 2) : Nat)) = (if v = 0 then 0 else 1) from (if_pos ((lg_cmp_eq _ _).mp c_108)).symm]
                      · rw [updN_ne e2, if_neg (by omega)]
                        exact hts.2.2 j hj
                    · rw [updN_ne e, if_neg (by omega)]
                      exact (hTs a ha).2.2 j hj
                · skip
                  refine aw_lconst C dX9_item_111 rfl ?_
                  refine aw_goto C dX9_item_112 (tgt := 116) (by decide) ?_
                  refine aw_last C _ dX9_item_116 sh_153 rfl (show 60 * t + i < 360 by omega) ?_
                  refine aw_iconst C dX9_item_117 k1_1 ?_
                  refine aw_iretI C hR dX9_item_118 ?_
                  refine PG.tp (S2 := gS g) (E2 := gE g) (X2 := updN (gX g) t (updN (gX g t) i (asIt (gS g t) v))) hRR rfl ?_ (fun k j hk => rfl) (fun k j hk => ?_) (fun a ha => ⟨(hTs a ha).1, (hTs a ha).2.1, fun j hj => ?_⟩)
                  · unfold f_item
                    rw [if_neg (fun z => z c_4), hut, if_neg h9, if_neg (fun z => z c34), hui]
                  · rw [gL_sL, if_neg (by omega)]
                  · rw [gL_sL]
                    by_cases e : a = t
                    · rw [e, updN_eq]
                      by_cases e2 : j = i
                      · rw [e2, updN_eq, if_pos ⟨rfl, rfl⟩]
                        unfold asIt; rw [if_neg c_60, if_neg c_73, if_neg c_86, if_neg c_98, show (Int64.ofNat ((1 : Fin 2) : Nat)) = (if v = 0 then 0 else 1) from (if_neg (fun z => c_108 ((lg_cmp_eq _ _).mpr z))).symm]
                      · rw [updN_ne e2, if_neg (by omega)]
                        exact hts.2.2 j hj
                    · rw [updN_ne e, if_neg (by omega)]
                      exact (hTs a ha).2.2 j hj
              · skip
                refine aw_lload_3 C dX9_item_101 ?_
                refine aw_goto C dX9_item_102 (tgt := 116) (by decide) ?_
                refine aw_last C _ dX9_item_116 sh_153 rfl (show 60 * t + i < 360 by omega) ?_
                refine aw_iconst C dX9_item_117 k1_1 ?_
                refine aw_iretI C hR dX9_item_118 ?_
                refine PG.tp (S2 := gS g) (E2 := gE g) (X2 := updN (gX g) t (updN (gX g t) i (asIt (gS g t) v))) hRR rfl ?_ (fun k j hk => rfl) (fun k j hk => ?_) (fun a ha => ⟨(hTs a ha).1, (hTs a ha).2.1, fun j hj => ?_⟩)
                · unfold f_item
                  rw [if_neg (fun z => z c_4), hut, if_neg h9, if_neg (fun z => z c34), hui]
                · rw [gL_sL, if_neg (by omega)]
                · rw [gL_sL]
                  by_cases e : a = t
                  · rw [e, updN_eq]
                    by_cases e2 : j = i
                    · rw [e2, updN_eq, if_pos ⟨rfl, rfl⟩]
                      unfold asIt; rw [if_neg c_60, if_neg c_73, if_neg c_86, if_pos c_98]
                    · rw [updN_ne e2, if_neg (by omega)]
                      exact hts.2.2 j hj
                  · rw [updN_ne e, if_neg (by omega)]
                    exact (hTs a ha).2.2 j hj
            · skip
              refine aw_lload_3 C dX9_item_89 ?_
              refine aw_l2i C dX9_item_90 ?_
              refine aw_i2l C dX9_item_91 ?_
              refine aw_goto C dX9_item_92 (tgt := 116) (by decide) ?_
              refine aw_last C _ dX9_item_116 sh_153 rfl (show 60 * t + i < 360 by omega) ?_
              refine aw_iconst C dX9_item_117 k1_1 ?_
              refine aw_iretI C hR dX9_item_118 ?_
              refine PG.tp (S2 := gS g) (E2 := gE g) (X2 := updN (gX g) t (updN (gX g t) i (asIt (gS g t) v))) hRR rfl ?_ (fun k j hk => rfl) (fun k j hk => ?_) (fun a ha => ⟨(hTs a ha).1, (hTs a ha).2.1, fun j hj => ?_⟩)
              · unfold f_item
                rw [if_neg (fun z => z c_4), hut, if_neg h9, if_neg (fun z => z c34), hui]
              · rw [gL_sL, if_neg (by omega)]
              · rw [gL_sL]
                by_cases e : a = t
                · rw [e, updN_eq]
                  by_cases e2 : j = i
                  · rw [e2, updN_eq, if_pos ⟨rfl, rfl⟩]
                    unfold asIt; rw [if_neg c_60, if_neg c_73, if_pos c_86]
                  · rw [updN_ne e2, if_neg (by omega)]
                    exact hts.2.2 j hj
                · rw [updN_ne e, if_neg (by omega)]
                  exact (hTs a ha).2.2 j hj
          · skip
            refine aw_lload_3 C dX9_item_76 ?_
            refine aw_l2i C dX9_item_77 ?_
            refine aw_i2s C dX9_item_78 ?_
            refine aw_i2l C dX9_item_79 ?_
            refine aw_goto C dX9_item_80 (tgt := 116) (by decide) ?_
            refine aw_last C _ dX9_item_116 sh_153 rfl (show 60 * t + i < 360 by omega) ?_
            refine aw_iconst C dX9_item_117 k1_1 ?_
            refine aw_iretI C hR dX9_item_118 ?_
            refine PG.tp (S2 := gS g) (E2 := gE g) (X2 := updN (gX g) t (updN (gX g t) i (asIt (gS g t) v))) hRR rfl ?_ (fun k j hk => rfl) (fun k j hk => ?_) (fun a ha => ⟨(hTs a ha).1, (hTs a ha).2.1, fun j hj => ?_⟩)
            · unfold f_item
              rw [if_neg (fun z => z c_4), hut, if_neg h9, if_neg (fun z => z c34), hui]
            · rw [gL_sL, if_neg (by omega)]
            · rw [gL_sL]
              by_cases e : a = t
              · rw [e, updN_eq]
                by_cases e2 : j = i
                · rw [e2, updN_eq, if_pos ⟨rfl, rfl⟩]
                  unfold asIt; rw [if_neg c_60, if_pos c_73]
                · rw [updN_ne e2, if_neg (by omega)]
                  exact hts.2.2 j hj
              · rw [updN_ne e, if_neg (by omega)]
                exact (hTs a ha).2.2 j hj
        · skip
          refine aw_lload_3 C dX9_item_63 ?_
          refine aw_l2i C dX9_item_64 ?_
          refine aw_i2b C dX9_item_65 ?_
          refine aw_i2l C dX9_item_66 ?_
          refine aw_goto C dX9_item_67 (tgt := 116) (by decide) ?_
          refine aw_last C _ dX9_item_116 sh_153 rfl (show 60 * t + i < 360 by omega) ?_
          refine aw_iconst C dX9_item_117 k1_1 ?_
          refine aw_iretI C hR dX9_item_118 ?_
          refine PG.tp (S2 := gS g) (E2 := gE g) (X2 := updN (gX g) t (updN (gX g t) i (asIt (gS g t) v))) hRR rfl ?_ (fun k j hk => rfl) (fun k j hk => ?_) (fun a ha => ⟨(hTs a ha).1, (hTs a ha).2.1, fun j hj => ?_⟩)
          · unfold f_item
            rw [if_neg (fun z => z c_4), hut, if_neg h9, if_neg (fun z => z c34), hui]
          · rw [gL_sL, if_neg (by omega)]
          · rw [gL_sL]
            by_cases e : a = t
            · rw [e, updN_eq]
              by_cases e2 : j = i
              · rw [e2, updN_eq, if_pos ⟨rfl, rfl⟩]
                unfold asIt; rw [if_pos c_60]
              · rw [updN_ne e2, if_neg (by omega)]
                exact hts.2.2 j hj
            · rw [updN_ne e, if_neg (by omega)]
              exact (hTs a ha).2.2 j hj
      · skip
        refine aw_bipush C dX9_item_37 k2_m13 ?_
        refine aw_iretI C hR dX9_item_39 ?_
        exact PG.here hRR rfl (by unfold f_item; rw [if_neg (fun z => z c_4), hut, if_neg h9, if_pos (fun z => c_34 ((inN_pred (by omega)).mpr z))])
    · have h9 : gS g t = 9 := (cs9_lt htp.1).mp (Int32.not_le.mp c_15)
      refine aw_bipush C dX9_item_18 k2_m11 ?_
      refine aw_iretI C hR dX9_item_20 ?_
      exact PG.here hRR rfl (by unfold f_item; rw [if_neg (fun z => z c_4), hut, if_pos h9])
  · skip
    refine aw_iconst C dX9_item_7 k1_m1 ?_
    refine aw_iretI C hR dX9_item_8 ?_
    exact PG.here hRR rfl (by unfold f_item; rw [if_pos c_4])

set_option maxRecDepth 100000 in
set_option maxHeartbeats 4000000 in
theorem s_X9_read {G : GT} {q : S_} {g : GS} (t i : Int32) (hg : GOK g) (hRR : RR q g) : Spec G 3 yX9_read cX9_read 3 (some .long) [rfn G 129, .int t, .int i] q (PL (PGl (f_read g t i) q)) := by
  refine Spec.intro RX9 (by decide) rfl (Nat.le_of_ble_eq_true rfl) [some (rfn G 129), some (.int t), some (.int i)] rfl ?_
  intro X d hd C hR
  obtain ⟨hW, hCy, h95, hN6, h94, hK, hT1, hT2, hTp, hR1, hSy, hSyJ⟩ := id hg
  obtain ⟨hM, hE, hNr, hKp, hIm, hTl, hTx, hTs, hAb, hBd, hRn, hTr⟩ := id hRR
  have hc := hW.c
  have hG : Goo (gM g) (gC g) := fun k hk => hCy k (by omega)
  refine aw_iload_1 C dX9_read_0 ?_
  refine aw_cS1IE C (s_X9_isTape _) mf_X9_isTape ms_X9_isTape ml_X9_294 dX9_read_1 (by omega) (Nat.le_of_ble_eq_true rfl) ?_
  refine aw_if_eq_b C dX9_read_4 (tgt := 37) (by decide)  (fun c_4 => ?_) (fun c_4 => ?_)
  · skip
    refine aw_ldc2 C dX9_read_37 kc_X9_271 ?_
    refine aw_lretL C hR dX9_read_40 ?_
    exact PGl.here hRR rfl (by unfold f_read; rw [if_neg (fun z => c_4 z.1)]; rfl)
  · obtain ⟨t, ht1, ht2, rfl⟩ := inN_of c_4
    have hut : u32 (nI t) = t := nI_clamp ht2
    have htp := hTp t ht1
    have hts := hTs t ht1
    refine aw_iload_2 C dX9_read_7 ?_
    refine aw_iconst C dX9_read_8 k1_0 ?_
    refine aw_aload_0 C dX9_read_9 rfl ?_
    refine aw_g9_33 C dX9_read_10 fl_X9_80 ?_
    refine aw_iload_1 C dX9_read_13 ?_
    refine aw_iald C _ hts.2.1 dX9_read_14 sh_152 rfl (by omega) ?_
    refine aw_iconst C dX9_read_15 k1_1 ?_
    refine aw_isub C dX9_read_16  ?_
    refine aw_cS3IE C (s_X9_isIn _ _ _) mf_X9_isIn ms_X9_isIn ml_X9_98 dX9_read_17 (by omega) (Nat.le_of_ble_eq_true rfl) ?_
    refine aw_if_eq_b C dX9_read_20 (tgt := 37) (by decide)  (fun c_20 => ?_) (fun c_20 => ?_)
    · skip
      refine aw_ldc2 C dX9_read_37 kc_X9_271 ?_
      refine aw_lretL C hR dX9_read_40 ?_
      exact PGl.here hRR rfl (by unfold f_read; rw [if_neg (fun z => c_20 ((inN_pred (by omega)).mpr (by have h2 := z.2; rwa [hut] at h2)))]; rfl)
    · have c20 := (inN_pred (by omega)).mp c_20
      obtain ⟨i, hi1, hi2, rfl⟩ := inN_of c20
      have hui : u32 (nI i) = i := nI_clamp hi2
      refine aw_aload_0 C dX9_read_23 rfl ?_
      refine aw_g9_34 C dX9_read_24 fl_X9_83 ?_
      refine aw_bipush C dX9_read_27 k2_60 ?_
      refine aw_iload_1 C dX9_read_29 ?_
      refine aw_imul_n C dX9_read_30  ?_
      refine aw_iload_2 C dX9_read_31 ?_
      refine aw_iadd_n C dX9_read_32  ?_
      refine aw_lald C _ dX9_read_33 sh_153 rfl (show 60 * t + i < 360 by omega) ?_
      refine aw_goto C dX9_read_34 (tgt := 40) (by decide) ?_
      refine aw_lretL C hR dX9_read_40 ?_
      exact PGl.here hRR (hts.2.2 i (by omega)) (by unfold f_read; rw [if_pos ⟨c_4, by rw [hut]; exact c20⟩, hut, hui])

set_option maxRecDepth 100000 in
set_option maxHeartbeats 4000000 in
theorem s_X9_shift {G : GT} {q : S_} {g : GS} (t : Int32) (i : Int32) (o : Int32) (j : Int32) (n : Int32) (hg : GOK g) (hRR : RR q g) : Spec G 3 yX9_shift cX9_shift 7 (some .int) [rfn G 129, .int t, .int i, .int o, .int j, .int n] q (PI (PG (f_shift g t i o j n) q)) := by
  refine Spec.intro RX9 (by decide) rfl (Nat.le_of_ble_eq_true rfl) [some (rfn G 129), some (.int t), some (.int i), some (.int o), some (.int j), some (.int n), none] rfl ?_
  intro X d hd C hR
  obtain ⟨hW, hCy, h95, hN6, h94, hK, hT1, hT2, hTp, hR1, hSy, hSyJ⟩ := id hg
  obtain ⟨hM, hE, hNr, hKp, hIm, hTl, hTx, hTs, hAb, hBd, hRn, hTr⟩ := id hRR
  have hc := hW.c
  have hG : Goo (gM g) (gC g) := fun k hk => hCy k (by omega)
  refine aw_iload_1 C dX9_shift_0 ?_
  refine aw_cS1IE C (s_X9_isTape _) mf_X9_isTape ms_X9_isTape ml_X9_294 dX9_shift_1 (by omega) (Nat.le_of_ble_eq_true rfl) ?_
  refine aw_if_eq_b C dX9_shift_4 (tgt := 14) (by decide)  (fun c_4 => ?_) (fun c_4 => ?_)
  · skip
    refine aw_iconst C dX9_shift_14 k1_m1 ?_
    refine aw_iretI C hR dX9_shift_15 ?_
    exact PG.here hRR rfl (by unfold f_shift; rw [if_pos (fun z => c_4 z.1)])
  · skip
    refine aw_iload_3 C dX9_shift_7 ?_
    refine aw_cS1IE C (s_X9_isTape _) mf_X9_isTape ms_X9_isTape ml_X9_294 dX9_shift_8 (by omega) (Nat.le_of_ble_eq_true rfl) ?_
    refine aw_if_ne_b C dX9_shift_11 (tgt := 16) (by decide)  (fun c_11 => ?_) (fun c_11 => ?_)
    · obtain ⟨t, ht1, ht2, rfl⟩ := inN_of c_4
      have hut : u32 (nI t) = t := nI_clamp ht2
      have htp := hTp t ht1
      have hts := hTs t ht1
      obtain ⟨o, ho1, ho2, rfl⟩ := inN_of c_11
      have huo : u32 (nI o) = o := nI_clamp ho2
      have hop := hTp o ho1
      have hos := hTs o ho1
      refine aw_aload_0 C dX9_shift_16 rfl ?_
      refine aw_g9_32 C dX9_shift_17 fl_X9_77 ?_
      refine aw_iload_1 C dX9_shift_20 ?_
      refine aw_iald C _ hts.1 dX9_shift_21 sh_151 rfl (by omega) ?_
      refine aw_if_lt C dX9_shift_22 (tgt := 34) (by decide)  (fun c_22 => ?_) (fun c_22 => ?_)
      · have h9 : gS g t = 9 := (cs9_lt htp.1).mp c_22
        refine aw_bipush C dX9_shift_34 k2_m11 ?_
        refine aw_iretI C hR dX9_shift_36 ?_
        exact PG.here hRR rfl (by unfold f_shift; rw [if_neg (fun z => z ⟨c_4, c_11⟩), hut, huo, if_pos (Or.inl h9)])
      · have h9 : gS g t ≠ 9 := fun z => c_22 ((cs9_lt htp.1).mpr z)
        refine aw_aload_0 C dX9_shift_25 rfl ?_
        refine aw_g9_32 C dX9_shift_26 fl_X9_77 ?_
        refine aw_iload_3 C dX9_shift_29 ?_
        refine aw_iald C _ hos.1 dX9_shift_30 sh_151 rfl (by omega) ?_
        refine aw_if_ge C dX9_shift_31 (tgt := 37) (by decide)  (fun c_31 => ?_) (fun c_31 => ?_)
        · have h92 : gS g o ≠ 9 := fun z => Int32.not_lt.mpr c_31 ((cs9_lt hop.1).mpr z)
          refine aw_aload_0 C dX9_shift_37 rfl ?_
          refine aw_g9_32 C dX9_shift_38 fl_X9_77 ?_
          refine aw_iload_1 C dX9_shift_41 ?_
          refine aw_iald C _ (hts.1.trans (if_neg h9)) dX9_shift_42 sh_151 rfl (by omega) ?_
          refine aw_aload_0 C dX9_shift_43 rfl ?_
          refine aw_g9_32 C dX9_shift_44 fl_X9_77 ?_
          refine aw_iload_3 C dX9_shift_47 ?_
          refine aw_iald C _ (hos.1.trans (if_neg h92)) dX9_shift_48 sh_151 rfl (by omega) ?_
          refine aw_icmp_eq_n C dX9_shift_49 (tgt := 55) (by decide) (by omega) (by omega) (fun c_49 => ?_) (fun c_49 => ?_)
          · skip
            refine aw_iload_5 C dX9_shift_55 ?_
            refine aw_if_lt C dX9_shift_57 (tgt := 96) (by decide)  (fun c_57 => ?_) (fun c_57 => ?_)
            · skip
              refine aw_bipush C dX9_shift_96 k2_m13 ?_
              refine aw_iretI C hR dX9_shift_98 ?_
              exact PG.here hRR rfl (by unfold f_shift; rw [if_neg (fun z => z ⟨c_4, c_11⟩), hut, huo, if_neg (fun z => z.elim h9 h92), if_neg (fun z => z c_49), if_pos (fun z => z.1.2.1 c_57)])
            · obtain ⟨n, hn1, rfl⟩ := nI_of c_57
              have hun : u32 (nI n) = n := nI_clamp hn1
              refine aw_iload_2 C dX9_shift_60 ?_
              refine aw_if_lt C dX9_shift_61 (tgt := 96) (by decide)  (fun c_61 => ?_) (fun c_61 => ?_)
              · skip
                refine aw_bipush C dX9_shift_96 k2_m13 ?_
                refine aw_iretI C hR dX9_shift_98 ?_
                exact PG.here hRR rfl (by unfold f_shift; rw [if_neg (fun z => z ⟨c_4, c_11⟩), hut, huo, if_neg (fun z => z.elim h9 h92), if_neg (fun z => z c_49), if_pos (fun z => z.1.1.1 c_61)])
              · obtain ⟨i, hi1, rfl⟩ := nI_of c_61
                have hui : u32 (nI i) = i := nI_clamp hi1
                refine aw_iload_4 C dX9_shift_64 ?_
                refine aw_if_lt C dX9_shift_66 (tgt := 96) (by decide)  (fun c_66 => ?_) (fun c_66 => ?_)
                · skip
                  refine aw_bipush C dX9_shift_96 k2_m13 ?_
                  refine aw_iretI C hR dX9_shift_98 ?_
                  exact PG.here hRR rfl (by unfold f_shift; rw [if_neg (fun z => z ⟨c_4, c_11⟩), hut, huo, if_neg (fun z => z.elim h9 h92), if_neg (fun z => z c_49), if_pos (fun z => z.2.1.1 c_66)])
                · obtain ⟨j, hj1, rfl⟩ := nI_of c_66
                  have huj : u32 (nI j) = j := nI_clamp hj1
                  refine aw_iload_5 C dX9_shift_69 ?_
                  refine aw_aload_0 C dX9_shift_71 rfl ?_
                  refine aw_g9_33 C dX9_shift_72 fl_X9_80 ?_
                  refine aw_iload_1 C dX9_shift_75 ?_
                  refine aw_iald C _ hts.2.1 dX9_shift_76 sh_152 rfl (by omega) ?_
                  refine aw_iload_2 C dX9_shift_77 ?_
                  refine aw_isub C dX9_shift_78  ?_
                  refine aw_icmp_gt C dX9_shift_79 (tgt := 96) (by decide)  (fun c_79 => ?_) (fun c_79 => ?_)
                  · skip
                    refine aw_bipush C dX9_shift_96 k2_m13 ?_
                    refine aw_iretI C hR dX9_shift_98 ?_
                    exact PG.here hRR rfl (by unfold f_shift; rw [if_neg (fun z => z ⟨c_4, c_11⟩), hut, huo, if_neg (fun z => z.elim h9 h92), if_neg (fun z => z c_49), if_pos (fun z => Int32.not_le.mpr c_79 ((sub_ge (by omega) hi1 hn1).mpr (by have a := (inN_iff hi1).mp z.1.1; have b := (inN_iff hn1).mp z.1.2; rw [hui] at b; omega)))])
                  · have c79 := (sub_ge (by omega) hi1 hn1).mp (Int32.not_lt.mp c_79)
                    refine aw_iload_5 C dX9_shift_82 ?_
                    refine aw_aload_0 C dX9_shift_84 rfl ?_
                    refine aw_g9_33 C dX9_shift_85 fl_X9_80 ?_
                    refine aw_iload_3 C dX9_shift_88 ?_
                    refine aw_iald C _ hos.2.1 dX9_shift_89 sh_152 rfl (by omega) ?_
                    refine aw_iload_4 C dX9_shift_90 ?_
                    refine aw_isub C dX9_shift_92  ?_
                    refine aw_icmp_le C dX9_shift_93 (tgt := 99) (by decide)  (fun c_93 => ?_) (fun c_93 => ?_)
                    · have c93 := (sub_ge (by omega) hj1 hn1).mp c_93
                      refine aw_iconst C dX9_shift_99 k1_0 ?_
                      refine aw_istore_6 C dX9_shift_100 (by decide) (fun w h => by cases h <;> rfl) ?_
                      have L102 : ∀ (n2 k : Nat), k ≤ n → n < k + n2 → AW X G (cpL q 153 (60 * t + i) 154 0 k) 102 [some (rfn G 129), some (.int (nI t)), some (.int (nI i)), some (.int (nI o)), some (.int (nI j)), some (.int (nI n)), some (.int (nI k))] [] := by
                        refine nat_loop (fun k h1 h2 => by omega) (fun n2 ih k h1 h2 => ?_)
                        refine aw_iload_6 C dX9_shift_102 ?_
                        refine aw_iload_5 C dX9_shift_104 ?_
                        refine aw_icmp_ge_n C dX9_shift_106 (tgt := 136) (by decide) (by omega) (by omega) (fun c_106 => ?_) (fun c_106 => ?_)
                        · skip
                          refine aw_iconst C dX9_shift_136 k1_0 ?_
                          refine aw_istore_6 C dX9_shift_137 (by decide) (fun w h => by cases h <;> rfl) ?_
                          have L139 : ∀ (n3 m : Nat), m ≤ n → n < m + n3 → AW X G (cpL (cpL q 153 (60 * t + i) 154 0 n) 154 0 153 (60 * o + j) m) 139 [some (rfn G 129), some (.int (nI t)), some (.int (nI i)), some (.int (nI o)), some (.int (nI j)), some (.int (nI n)), some (.int (nI m))] [] := by
                            refine nat_loop (fun m g1 g2 => by omega) (fun n3 ih3 m g1 g2 => ?_)
                            refine aw_iload_6 C dX9_shift_139 ?_
                            refine aw_iload_5 C dX9_shift_141 ?_
                            refine aw_icmp_ge_n C dX9_shift_143 (tgt := 174) (by decide) (by omega) (by omega) (fun c_143 => ?_) (fun c_143 => ?_)
                            · skip
                              refine aw_iload_5 C dX9_shift_174 ?_
                              refine aw_iretI C hR dX9_shift_176 ?_
                              have em : m = n := by omega
                              rw [em]
                              refine PG.tp (S2 := gS g) (E2 := gE g) (X2 := updN (gX g) o (fun c => if j ≤ c ∧ c < j + n then gX g t (i + (c - j)) else gX g o c)) hRR rfl ?_ (fun k j hk => rfl) (fun a b hk => ?_) (fun a ha => ⟨(hTs a ha).1, (hTs a ha).2.1, fun c hc => ?_⟩)
                              · unfold f_shift
                                rw [if_neg (fun z => z ⟨c_4, c_11⟩), hut, huo, if_neg (fun z => z.elim h9 h92), if_neg (fun z => z c_49), if_neg (fun z => z ⟨⟨inN_nI (by omega) hi1, inN_nI (by rw [hui]; omega) hn1⟩, ⟨inN_nI (by omega) hj1, inN_nI (by rw [huj]; omega) hn1⟩⟩), hui, huj, hun]
                              · rw [gL_cpL, if_neg (by omega), gL_cpL, if_neg (by omega)]
                              · rw [gL_cpL]
                                by_cases e : a = o
                                · rw [e, updN_eq]
                                  by_cases e2 : j ≤ c ∧ c < j + n
                                  · rw [if_pos ⟨rfl, by omega, by omega⟩, gL_cpL, if_pos ⟨rfl, by omega, by omega⟩, if_pos e2, ← hts.2.2 (i + (c - j)) (by omega)]
                                    exact congrArg (gL q 153) (by omega)
                                  · rw [if_neg (by omega), gL_cpL, if_neg (by omega), if_neg e2]
                                    exact hos.2.2 c hc
                                · rw [updN_ne e, if_neg (by omega), gL_cpL, if_neg (by omega)]
                                  exact (hTs a ha).2.2 c hc
                            · skip
                              refine aw_aload_0 C dX9_shift_146 rfl ?_
                              refine aw_g9_34 C dX9_shift_147 fl_X9_83 ?_
                              refine aw_bipush C dX9_shift_150 k2_60 ?_
                              refine aw_iload_3 C dX9_shift_152 ?_
                              refine aw_imul_n C dX9_shift_153  ?_
                              refine aw_iload_4 C dX9_shift_154 ?_
                              refine aw_iadd_n C dX9_shift_156  ?_
                              refine aw_iload_6 C dX9_shift_157 ?_
                              refine aw_iadd_n C dX9_shift_159  ?_
                              refine aw_aload_0 C dX9_shift_160 rfl ?_
                              refine aw_g9_35 C dX9_shift_161 fl_X9_87 ?_
                              refine aw_iload_6 C dX9_shift_164 ?_
                              refine aw_lald C _ dX9_shift_166 sh_154 rfl (show m < 60 by omega) ?_
                              refine aw_last C _ dX9_shift_167 sh_153 rfl (show 60 * o + j + m < 360 by omega) ?_
                              refine aw_iinc_6 C dX9_shift_168 (by decide) (fun w h => by cases h <;> rfl) (show _ + Int32.ofInt 1 = _ by rw [k1_1, nI_add]) ?_
                              refine aw_goto C dX9_shift_171 (tgt := 139) (by decide) ?_
                              have hs := cpL_s (q := cpL q 153 (60 * t + i) 154 0 n) (k1 := 154) (b1 := 0) (k2 := 153) (b2 := 60 * o + j) (n := m) (by decide)
                              rw [Nat.zero_add] at hs
                              rw [hs]
                              exact ih3 (m + 1) (by omega) (by omega)
                          have ek : k = n := by omega
                          rw [ek]
                          have h139 := L139 (n + 1) 0 (by omega) (by omega)
                          rw [cpL_0] at h139
                          exact h139
                        · skip
                          refine aw_aload_0 C dX9_shift_109 rfl ?_
                          refine aw_g9_35 C dX9_shift_110 fl_X9_87 ?_
                          refine aw_iload_6 C dX9_shift_113 ?_
                          refine aw_aload_0 C dX9_shift_115 rfl ?_
                          refine aw_g9_34 C dX9_shift_116 fl_X9_83 ?_
                          refine aw_bipush C dX9_shift_119 k2_60 ?_
                          refine aw_iload_1 C dX9_shift_121 ?_
                          refine aw_imul_n C dX9_shift_122  ?_
                          refine aw_iload_2 C dX9_shift_123 ?_
                          refine aw_iadd_n C dX9_shift_124  ?_
                          refine aw_iload_6 C dX9_shift_125 ?_
                          refine aw_iadd_n C dX9_shift_127  ?_
                          refine aw_lald C _ dX9_shift_128 sh_153 rfl (show 60 * t + i + k < 360 by omega) ?_
                          refine aw_last C _ dX9_shift_129 sh_154 rfl (show k < 60 by omega) ?_
                          refine aw_iinc_6 C dX9_shift_130 (by decide) (fun w h => by cases h <;> rfl) (show _ + Int32.ofInt 1 = _ by rw [k1_1, nI_add]) ?_
                          refine aw_goto C dX9_shift_133 (tgt := 102) (by decide) ?_
                          have hs := cpL_s (q := q) (k1 := 153) (b1 := 60 * t + i) (k2 := 154) (b2 := 0) (n := k) (by decide)
                          rw [Nat.zero_add] at hs
                          rw [hs]
                          exact ih (k + 1) (by omega) (by omega)
                      have h102 := L102 (n + 1) 0 (by omega) (by omega)
                      rw [cpL_0] at h102
                      exact h102
                    · skip
                      refine aw_bipush C dX9_shift_96 k2_m13 ?_
                      refine aw_iretI C hR dX9_shift_98 ?_
                      exact PG.here hRR rfl (by unfold f_shift; rw [if_neg (fun z => z ⟨c_4, c_11⟩), hut, huo, if_neg (fun z => z.elim h9 h92), if_neg (fun z => z c_49), if_pos (fun z => c_93 ((sub_ge (by omega) hj1 hn1).mpr (by have a := (inN_iff hj1).mp z.2.1; have b := (inN_iff hn1).mp z.2.2; rw [huj] at b; omega)))])
          · skip
            refine aw_bipush C dX9_shift_52 k2_m12 ?_
            refine aw_iretI C hR dX9_shift_54 ?_
            exact PG.here hRR rfl (by unfold f_shift; rw [if_neg (fun z => z ⟨c_4, c_11⟩), hut, huo, if_neg (fun z => z.elim h9 h92), if_pos c_49])
        · have h92 : gS g o = 9 := (cs9_lt hop.1).mp (Int32.not_le.mp c_31)
          refine aw_bipush C dX9_shift_34 k2_m11 ?_
          refine aw_iretI C hR dX9_shift_36 ?_
          exact PG.here hRR rfl (by unfold f_shift; rw [if_neg (fun z => z ⟨c_4, c_11⟩), hut, huo, if_pos (Or.inr h92)])
    · skip
      refine aw_iconst C dX9_shift_14 k1_m1 ?_
      refine aw_iretI C hR dX9_shift_15 ?_
      exact PG.here hRR rfl (by unfold f_shift; rw [if_pos (fun z => c_11 z.2)])

theorem judF_s (M : Nat → Nat) (X : Nat → Int64) (e : Nat) (i : Int32) (m k : Nat) : judF M X e i (m + 1) k = if ¬ (inN i (e - k)) then 100 + k else if X (u32 i + k) = kL (M (32 + 10 * k + 5)) then judF M X e i m (k + 1) else k := rfl
theorem cs9_m {x : Nat} (h : x = 9 ∨ x < 5) : cs9 x = -1 ↔ x = 9 := by
  unfold cs9
  split
  · next z => exact ⟨fun _ => z, fun _ => rfl⟩
  · next z => exact ⟨fun y => absurd y (m1_ne (by omega)), fun y => absurd y z⟩
theorem l5_n {x : Nat} (h : x ≠ 99) : l5 x = nI x := if_neg h

set_option maxRecDepth 100000 in
set_option maxHeartbeats 4000000 in
theorem s_X9_judge {G : GT} {q : S_} {g : GS} (t : Int32) (i : Int32) (hg : GOK g) (hRR : RR q g) : Spec G 3 yX9_judge cX9_judge 6 (some .int) [rfn G 129, .int t, .int i] q (PI (PG (f_judge g t i) q)) := by
  refine Spec.intro RX9 (by decide) rfl (Nat.le_of_ble_eq_true rfl) [some (rfn G 129), some (.int t), some (.int i), none, none, none] rfl ?_
  intro X d hd C hR
  obtain ⟨hW, hCy, h95, hN6, h94, hK, hT1, hT2, hTp, hR1, hSy, hSyJ⟩ := id hg
  obtain ⟨hM, hE, hNr, hKp, hIm, hTl, hTx, hTs, hAb, hBd, hRn, hTr⟩ := id hRR
  have hc := hW.c
  have hG : Goo (gM g) (gC g) := fun k hk => hCy k (by omega)
  refine aw_iload_1 C dX9_judge_0 ?_
  refine aw_cS1IE C (s_X9_isTape _) mf_X9_isTape ms_X9_isTape ml_X9_294 dX9_judge_1 (by omega) (Nat.le_of_ble_eq_true rfl) ?_
  refine aw_if_ne_b C dX9_judge_4 (tgt := 9) (by decide)  (fun c_4 => ?_) (fun c_4 => ?_)
  · obtain ⟨t, ht1, ht2, rfl⟩ := inN_of c_4
    have hut : u32 (nI t) = t := nI_clamp ht2
    have htp := hTp t ht1
    have hts := hTs t ht1
    refine aw_aload_0 C dX9_judge_9 rfl ?_
    refine aw_g9_32 C dX9_judge_10 fl_X9_77 ?_
    refine aw_iload_1 C dX9_judge_13 ?_
    refine aw_iald C _ hts.1 dX9_judge_14 sh_151 rfl (by omega) ?_
    refine aw_iconst C dX9_judge_15 k1_m1 ?_
    refine aw_icmp_eq C dX9_judge_16 (tgt := 32) (by decide)  (fun c_16 => ?_) (fun c_16 => ?_)
    · have hS : ¬ (gS g t ≠ 9 ∧ gS g t ≠ 1) := fun z => z.1 ((cs9_m htp.1).mp c_16)
      refine aw_iconst C dX9_judge_32 k1_0 ?_
      refine aw_istore_3 C dX9_judge_33 (by decide) (fun w h => by cases h <;> rfl) ?_
      have L34 : ∀ (n2 k : Nat), k ≤ gM g 92 → gM g 92 < k + n2 → judF (gM g) (gX g t) (gE g t) i (gM g 92) 0 = judF (gM g) (gX g t) (gE g t) i (gM g 92 - k) k → AW X G (q) 34 [some (rfn G 129), some (.int (nI t)), some (.int i), some (.int (nI k)), none, none] [] := by
        refine nat_loop (fun k h1 h2 hJ => by omega) (fun n2 ih k h1 h2 hJ => ?_)
        refine aw_iload_3 C dX9_judge_34 ?_
        refine aw_aload_0 C dX9_judge_35 rfl ?_
        refine aw_g9_0 C dX9_judge_36 fl_X9_9 ?_
        refine aw_bipush C dX9_judge_39 k2_92 ?_
        refine aw_iald C _ (hM.n (by omega) (by decide)) dX9_judge_41 sh_130 rfl (by decide) ?_
        refine aw_icmp_ge_n C dX9_judge_42 (tgt := 106) (by decide) (by omega) (by omega) (fun c_42 => ?_) (fun c_42 => ?_)
        · skip
          refine aw_bipush C dX9_judge_106 k2_m5 ?_
          refine aw_iretI C hR dX9_judge_108 ?_
          exact PG.here hRR rfl (by unfold f_judge; rw [if_neg (fun z => z c_4), hut, if_neg hS, hJ, show gM g 92 - k = 0 by omega]; rfl)
        · have hJ2 := (hJ.trans ((congrArg (fun z => judF (gM g) (gX g t) (gE g t) i z k) (show gM g 92 - k = gM g 92 - (k + 1) + 1 by omega)).trans (judF_s _ _ _ _ _ _)))
          have hph := hW.half (show k < gM g 92 by omega)
          refine aw_iload_2 C dX9_judge_45 ?_
          refine aw_i2l C dX9_judge_46 ?_
          refine aw_iload_3 C dX9_judge_47 ?_
          refine aw_i2l C dX9_judge_48 ?_
          refine aw_ladd C dX9_judge_49  ?_
          refine aw_lstore_4 C dX9_judge_50 (by decide) (fun w h => by cases h <;> rfl) ?_
          refine aw_iload_2 C dX9_judge_52 ?_
          refine aw_if_lt C dX9_judge_53 (tgt := 69) (by decide)  (fun c_53 => ?_) (fun c_53 => ?_)
          · have hJ3 := hJ2.trans (if_pos (fun z => z.1 c_53))
            refine aw_bipush C dX9_judge_69 k2_100 ?_
            refine aw_iload_3 C dX9_judge_71 ?_
            refine aw_iadd_n C dX9_judge_72  ?_
            refine aw_iretI C hR dX9_judge_73 ?_
            exact PG.here hRR (l5_n (by omega)).symm (by unfold f_judge; rw [if_neg (fun z => z c_4), hut, if_neg hS, hJ3])
          · obtain ⟨a, ha1, rfl⟩ := nI_of c_53
            have hua : u32 (nI a) = a := nI_clamp ha1
            refine aw_lload_4 C dX9_judge_56 ?_
            refine aw_aload_0 C dX9_judge_58 rfl ?_
            refine aw_g9_33 C dX9_judge_59 fl_X9_80 ?_
            refine aw_iload_1 C dX9_judge_62 ?_
            refine aw_iald C _ hts.2.1 dX9_judge_63 sh_152 rfl (by omega) ?_
            refine aw_i2l C dX9_judge_64 ?_
            rw [nI_L (n := gE g t) (by omega)]
            refine aw_lcmp C dX9_judge_65 ?_
            refine aw_if_lt C dX9_judge_66 (tgt := 74) (by decide)  (fun c_66 => ?_) (fun c_66 => ?_)
            · have c66 : a + k < gE g t := by
                have h1 := Int64.lt_iff_toInt_lt.mp ((lg_cmp_lt _ _).mp c_66)
                rw [lg_i2l_add, nI_toInt (by omega), nI_toInt (by omega), kL_toInt (by omega)] at h1
                omega
              rw [if_neg (fun z => z (inN_nI (show a < gE g t - k by omega) ha1)), hua] at hJ2
              rw [nI_addL (by omega) (by omega)]
              refine aw_aload_0 C dX9_judge_74 rfl ?_
              refine aw_g9_34 C dX9_judge_75 fl_X9_83 ?_
              refine aw_bipush C dX9_judge_78 k2_60 ?_
              refine aw_iload_1 C dX9_judge_80 ?_
              refine aw_imul_n C dX9_judge_81  ?_
              refine aw_lload_4 C dX9_judge_82 ?_
              refine aw_l2i C dX9_judge_84 ?_
              rw [kL_32 (by omega)]
              refine aw_iadd_n C dX9_judge_85  ?_
              refine aw_lald C _ dX9_judge_86 sh_153 rfl (show 60 * t + (a + k) < 360 by omega) ?_
              refine aw_aload_0 C dX9_judge_87 rfl ?_
              refine aw_iload_3 C dX9_judge_88 ?_
              refine aw_iconst C dX9_judge_89 k1_5 ?_
              refine aw_cV2IE C (s_X9_oneN hM k 5 rfl (by omega) (by unfold isOpt; omega)) mf_X9_one mv_X9_one (sh_129) rfl ml_X9_102 dX9_judge_90 (by omega) (Nat.le_of_ble_eq_true rfl) ?_
              refine aw_i2l C dX9_judge_93 ?_
              rw [nI_L (n := gM g (32 + 10 * k + 5)) (by omega)]
              refine aw_lcmp C dX9_judge_94 ?_
              refine aw_if_eq C dX9_judge_95 (tgt := 100) (by decide)  (fun c_95 => ?_) (fun c_95 => ?_)
              · rw [if_pos ((hts.2.2 (a + k) (by omega)).symm.trans ((lg_cmp_eq _ _).mp c_95))] at hJ2
                refine aw_iinc_3 C dX9_judge_100 (by decide) (fun w h => by cases h <;> rfl) (show _ + Int32.ofInt 1 = _ by rw [k1_1, nI_add]) ?_
                refine aw_goto C dX9_judge_103 (tgt := 34) (by decide) ?_
                exact (ih (k + 1) (by omega) (by omega) hJ2).less ⟨Or.inr rfl, Or.inr rfl, Or.inr rfl, Or.inr rfl, Or.inl rfl, Or.inl rfl, trivial⟩
              · rw [if_neg (fun z => c_95 ((lg_cmp_eq _ _).mpr ((hts.2.2 (a + k) (by omega)).trans z)))] at hJ2
                refine aw_iload_3 C dX9_judge_98 ?_
                refine aw_iretI C hR dX9_judge_99 ?_
                exact PG.here hRR (l5_n (by omega)).symm (by unfold f_judge; rw [if_neg (fun z => z c_4), hut, if_neg hS, hJ2])
            · have hJ3 := hJ2.trans (if_pos (fun z => c_66 ((lg_cmp_lt _ _).mpr (Int64.lt_iff_toInt_lt.mpr (by
                have h2 := (inN_iff ha1).mp z
                rw [lg_i2l_add, nI_toInt (by omega), nI_toInt (by omega), kL_toInt (by omega)]
                omega)))))
              refine aw_bipush C dX9_judge_69 k2_100 ?_
              refine aw_iload_3 C dX9_judge_71 ?_
              refine aw_iadd_n C dX9_judge_72  ?_
              refine aw_iretI C hR dX9_judge_73 ?_
              exact PG.here hRR (l5_n (by omega)).symm (by unfold f_judge; rw [if_neg (fun z => z c_4), hut, if_neg hS, hJ3])
      exact L34 (gM g 92 + 1) 0 (by omega) (by omega) rfl
    · have h9 : gS g t ≠ 9 := fun z => c_16 ((cs9_m htp.1).mpr z)
      refine aw_aload_0 C dX9_judge_19 rfl ?_
      refine aw_g9_32 C dX9_judge_20 fl_X9_77 ?_
      refine aw_iload_1 C dX9_judge_23 ?_
      refine aw_iald C _ (hts.1.trans (if_neg h9)) dX9_judge_24 sh_151 rfl (by omega) ?_
      refine aw_iconst C dX9_judge_25 k1_1 ?_
      refine aw_icmp_eq_n C dX9_judge_26 (tgt := 32) (by decide) (by omega) (by omega) (fun c_26 => ?_) (fun c_26 => ?_)
      · have hS : ¬ (gS g t ≠ 9 ∧ gS g t ≠ 1) := fun z => z.2 c_26
        refine aw_iconst C dX9_judge_32 k1_0 ?_
        refine aw_istore_3 C dX9_judge_33 (by decide) (fun w h => by cases h <;> rfl) ?_
        have L34 : ∀ (n2 k : Nat), k ≤ gM g 92 → gM g 92 < k + n2 → judF (gM g) (gX g t) (gE g t) i (gM g 92) 0 = judF (gM g) (gX g t) (gE g t) i (gM g 92 - k) k → AW X G (q) 34 [some (rfn G 129), some (.int (nI t)), some (.int i), some (.int (nI k)), none, none] [] := by
          refine nat_loop (fun k h1 h2 hJ => by omega) (fun n2 ih k h1 h2 hJ => ?_)
          refine aw_iload_3 C dX9_judge_34 ?_
          refine aw_aload_0 C dX9_judge_35 rfl ?_
          refine aw_g9_0 C dX9_judge_36 fl_X9_9 ?_
          refine aw_bipush C dX9_judge_39 k2_92 ?_
          refine aw_iald C _ (hM.n (by omega) (by decide)) dX9_judge_41 sh_130 rfl (by decide) ?_
          refine aw_icmp_ge_n C dX9_judge_42 (tgt := 106) (by decide) (by omega) (by omega) (fun c_42 => ?_) (fun c_42 => ?_)
          · skip
            refine aw_bipush C dX9_judge_106 k2_m5 ?_
            refine aw_iretI C hR dX9_judge_108 ?_
            exact PG.here hRR rfl (by unfold f_judge; rw [if_neg (fun z => z c_4), hut, if_neg hS, hJ, show gM g 92 - k = 0 by omega]; rfl)
          · have hJ2 := (hJ.trans ((congrArg (fun z => judF (gM g) (gX g t) (gE g t) i z k) (show gM g 92 - k = gM g 92 - (k + 1) + 1 by omega)).trans (judF_s _ _ _ _ _ _)))
            have hph := hW.half (show k < gM g 92 by omega)
            refine aw_iload_2 C dX9_judge_45 ?_
            refine aw_i2l C dX9_judge_46 ?_
            refine aw_iload_3 C dX9_judge_47 ?_
            refine aw_i2l C dX9_judge_48 ?_
            refine aw_ladd C dX9_judge_49  ?_
            refine aw_lstore_4 C dX9_judge_50 (by decide) (fun w h => by cases h <;> rfl) ?_
            refine aw_iload_2 C dX9_judge_52 ?_
            refine aw_if_lt C dX9_judge_53 (tgt := 69) (by decide)  (fun c_53 => ?_) (fun c_53 => ?_)
            · have hJ3 := hJ2.trans (if_pos (fun z => z.1 c_53))
              refine aw_bipush C dX9_judge_69 k2_100 ?_
              refine aw_iload_3 C dX9_judge_71 ?_
              refine aw_iadd_n C dX9_judge_72  ?_
              refine aw_iretI C hR dX9_judge_73 ?_
              exact PG.here hRR (l5_n (by omega)).symm (by unfold f_judge; rw [if_neg (fun z => z c_4), hut, if_neg hS, hJ3])
            · obtain ⟨a, ha1, rfl⟩ := nI_of c_53
              have hua : u32 (nI a) = a := nI_clamp ha1
              refine aw_lload_4 C dX9_judge_56 ?_
              refine aw_aload_0 C dX9_judge_58 rfl ?_
              refine aw_g9_33 C dX9_judge_59 fl_X9_80 ?_
              refine aw_iload_1 C dX9_judge_62 ?_
              refine aw_iald C _ hts.2.1 dX9_judge_63 sh_152 rfl (by omega) ?_
              refine aw_i2l C dX9_judge_64 ?_
              rw [nI_L (n := gE g t) (by omega)]
              refine aw_lcmp C dX9_judge_65 ?_
              refine aw_if_lt C dX9_judge_66 (tgt := 74) (by decide)  (fun c_66 => ?_) (fun c_66 => ?_)
              · have c66 : a + k < gE g t := by
                  have h1 := Int64.lt_iff_toInt_lt.mp ((lg_cmp_lt _ _).mp c_66)
                  rw [lg_i2l_add, nI_toInt (by omega), nI_toInt (by omega), kL_toInt (by omega)] at h1
                  omega
                rw [if_neg (fun z => z (inN_nI (show a < gE g t - k by omega) ha1)), hua] at hJ2
                rw [nI_addL (by omega) (by omega)]
                refine aw_aload_0 C dX9_judge_74 rfl ?_
                refine aw_g9_34 C dX9_judge_75 fl_X9_83 ?_
                refine aw_bipush C dX9_judge_78 k2_60 ?_
                refine aw_iload_1 C dX9_judge_80 ?_
                refine aw_imul_n C dX9_judge_81  ?_
                refine aw_lload_4 C dX9_judge_82 ?_
                refine aw_l2i C dX9_judge_84 ?_
                rw [kL_32 (by omega)]
                refine aw_iadd_n C dX9_judge_85  ?_
                refine aw_lald C _ dX9_judge_86 sh_153 rfl (show 60 * t + (a + k) < 360 by omega) ?_
                refine aw_aload_0 C dX9_judge_87 rfl ?_
                refine aw_iload_3 C dX9_judge_88 ?_
                refine aw_iconst C dX9_judge_89 k1_5 ?_
                refine aw_cV2IE C (s_X9_oneN hM k 5 rfl (by omega) (by unfold isOpt; omega)) mf_X9_one mv_X9_one (sh_129) rfl ml_X9_102 dX9_judge_90 (by omega) (Nat.le_of_ble_eq_true rfl) ?_
                refine aw_i2l C dX9_judge_93 ?_
                rw [nI_L (n := gM g (32 + 10 * k + 5)) (by omega)]
                refine aw_lcmp C dX9_judge_94 ?_
                refine aw_if_eq C dX9_judge_95 (tgt := 100) (by decide)  (fun c_95 => ?_) (fun c_95 => ?_)
                · rw [if_pos ((hts.2.2 (a + k) (by omega)).symm.trans ((lg_cmp_eq _ _).mp c_95))] at hJ2
                  refine aw_iinc_3 C dX9_judge_100 (by decide) (fun w h => by cases h <;> rfl) (show _ + Int32.ofInt 1 = _ by rw [k1_1, nI_add]) ?_
                  refine aw_goto C dX9_judge_103 (tgt := 34) (by decide) ?_
                  exact (ih (k + 1) (by omega) (by omega) hJ2).less ⟨Or.inr rfl, Or.inr rfl, Or.inr rfl, Or.inr rfl, Or.inl rfl, Or.inl rfl, trivial⟩
                · rw [if_neg (fun z => c_95 ((lg_cmp_eq _ _).mpr ((hts.2.2 (a + k) (by omega)).trans z)))] at hJ2
                  refine aw_iload_3 C dX9_judge_98 ?_
                  refine aw_iretI C hR dX9_judge_99 ?_
                  exact PG.here hRR (l5_n (by omega)).symm (by unfold f_judge; rw [if_neg (fun z => z c_4), hut, if_neg hS, hJ2])
              · have hJ3 := hJ2.trans (if_pos (fun z => c_66 ((lg_cmp_lt _ _).mpr (Int64.lt_iff_toInt_lt.mpr (by
                  have h2 := (inN_iff ha1).mp z
                  rw [lg_i2l_add, nI_toInt (by omega), nI_toInt (by omega), kL_toInt (by omega)]
                  omega)))))
                refine aw_bipush C dX9_judge_69 k2_100 ?_
                refine aw_iload_3 C dX9_judge_71 ?_
                refine aw_iadd_n C dX9_judge_72  ?_
                refine aw_iretI C hR dX9_judge_73 ?_
                exact PG.here hRR (l5_n (by omega)).symm (by unfold f_judge; rw [if_neg (fun z => z c_4), hut, if_neg hS, hJ3])
        exact L34 (gM g 92 + 1) 0 (by omega) (by omega) rfl
      · skip
        refine aw_bipush C dX9_judge_29 k2_m12 ?_
        refine aw_iretI C hR dX9_judge_31 ?_
        exact PG.here hRR rfl (by unfold f_judge; rw [if_neg (fun z => z c_4), hut, if_pos ⟨h9, c_26⟩])
  · skip
    refine aw_iconst C dX9_judge_7 k1_m1 ?_
    refine aw_iretI C hR dX9_judge_8 ?_
    exact PG.here hRR rfl (by unfold f_judge; rw [if_pos c_4])
