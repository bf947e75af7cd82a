theorem PG.m {q q3 : S_} {g : GS} {M2 : Nat → Nat} {v r : Int32} {fr : Int32 × GS} (h : RR q g) (hr : r = v) (hf : fr = (v, (M2, g.2))) (hF : Fr (fun k _ => k = 130) q q3) (hM : RelR q3 M2) : PG fr q r q3 := by
  subst hf
  exact ⟨hr, h.keep (hF.mono (fun k j z => by unfold SZk; omega)) hM (h.2.1.w hF (fun k j e z => by omega)), hF.m (fun k j z => by omega)⟩
theorem cd5 {j x : Nat} (ho : isOpt j) (hx : x ≤ 99) (v : Int32) (hv : v = cd j x) : (if v = -1 then -5 else v) = l5 x := by
  subst hv
  exact cd_or5 ho hx
theorem isIn6 {x : Int32} : (-1 ≤ x ∧ x ≤ nI 5) ↔ (x = -1 ∨ inN x 6) := by
  have h1 : (-1 : Int32).toInt = -1 := by decide +kernel
  have h5 : (nI 5).toInt = 5 := by decide +kernel
  rw [Int32.le_iff_toInt_le, Int32.le_iff_toInt_le, h1, h5, ← Int32.toInt_inj, h1]
  rw [← inN_le (x := x) (m := 5) (by decide), Int32.le_iff_toInt_le, Int32.le_iff_toInt_le, h5, show (nI 0).toInt = 0 from by decide +kernel]
  omega
def oN (x : Int32) : Nat := if x = -1 then 99 else u32 x
theorem oN_cd {j : Nat} {x : Int32} (ho : isOpt j) (h : x = -1 ∨ inN x 6) : x = cd j (oN x) := by
  unfold oN
  rcases h with h | h
  · subst h
    rw [if_pos rfl]
    exact (cd_m ho).symm
  · obtain ⟨y, hy, hy2, rfl⟩ := inN_of h
    rw [if_neg (m1_ne hy2), cd_v (by rw [show u32 (nI y) = y from nI_clamp hy2]; omega), show u32 (nI y) = y from nI_clamp hy2]
def addB2 (M : Nat → Nat) (x y : Nat) : Nat → Nat := mu (mu (mu (mu M (4 * M 93) x) (4 * M 93 + 1) y) (4 * M 93 + 2) (if M 93 % 2 = 1 then M 93 - 1 else 99)) (4 * M 93 + 3) 0
def addB3 (M : Nat → Nat) (x y : Nat) : Nat → Nat := if M 93 % 2 = 1 then mu (addB2 M x y) (4 * M 93 - 2) (M 93) else addB2 M x y
def addB (M : Nat → Nat) (x y : Nat) : Nat → Nat := mu (addB3 M x y) 93 (addB3 M x y 93 + 1)
def f_bridge (g : GS) (x y : Int32) : Int32 × GS := if ¬ (inN x 6 ∧ inN y 6) then (-1, g) else if x = y then (-2, g) else if gM g 93 = 8 then (-4, g) else (nI (gM g 93), (addB (gM g) (u32 x) (u32 y), g.2))
def f_span (g : GS) (b w : Int32) : Int32 × GS := if ¬ (inN b (gM g 93) ∧ inN w 4) then (-1, g) else if u32 w = 2 then (l5 (gM g (4 * u32 b + 2)), g) else (nI (gM g (4 * u32 b + u32 w)), g)
def f_errand (g : GS) (p x : Int32) : Int32 × GS := if inN p (gM g 92) ∧ (x = -1 ∨ inN x 6) then (l5 (gM g (32 + 10 * u32 p + 4)), (mu (gM g) (32 + 10 * u32 p + 4) (oN x), g.2)) else (-1, g)
def f_lose (g : GS) (b : Int32) (z : Bool) : Int32 × GS := if inN b (gM g 93) then (nI (gM g (4 * u32 b + 3)), (mu (gM g) (4 * u32 b + 3) (if z = true then 1 else 0), g.2)) else (-1, g)

set_option maxRecDepth 100000 in
set_option maxHeartbeats 4000000 in
theorem s_X9_bridge {G : GT} {q : S_} {g : GS} (x : Int32) (y : Int32) (hg : GOK g) (hRR : RR q g) : Spec G 3 yX9_bridge cX9_bridge 4 (some .int) [rfn G 129, .int x, .int y] q (PI (PG (f_bridge g x y) q)) := by
  refine Spec.intro RX9 (by decide) rfl (Nat.le_of_ble_eq_true rfl) [some (rfn G 129), some (.int x), some (.int y), none] rfl ?_
  intro X d hd C hR
  obtain ⟨hW, hCy, h95, hN6, h94, hK, hT1, hT2, hTp, hR1, hSy, hSyJ⟩ := id hg
  obtain ⟨hM, hE, hNr, hKp, hIm, hTl, hTx, hTs, hAb, hBd, hRn, hTr⟩ := id hRR
  have hc := hW.c
  have hG : Goo (gM g) (gC g) := fun k hk => hCy k (by omega)
  refine aw_iload_1 C dX9_bridge_0 ?_
  refine aw_cS1IE C (s_X9_isQuarter _) mf_X9_isQuarter ms_X9_isQuarter ml_X9_106 dX9_bridge_1 (by omega) (Nat.le_of_ble_eq_true rfl) ?_
  refine aw_if_eq_b C dX9_bridge_4 (tgt := 14) (by decide)  (fun c_4 => ?_) (fun c_4 => ?_)
  · skip
    refine aw_iconst C dX9_bridge_14 k1_m1 ?_
    refine aw_iretI C hR dX9_bridge_15 ?_
    exact PG.here hRR rfl (by unfold f_bridge; rw [if_pos (fun z => c_4 z.1)])
  · skip
    refine aw_iload_2 C dX9_bridge_7 ?_
    refine aw_cS1IE C (s_X9_isQuarter _) mf_X9_isQuarter ms_X9_isQuarter ml_X9_106 dX9_bridge_8 (by omega) (Nat.le_of_ble_eq_true rfl) ?_
    refine aw_if_ne_b C dX9_bridge_11 (tgt := 16) (by decide)  (fun c_11 => ?_) (fun c_11 => ?_)
    · obtain ⟨x, hx1, hx2, rfl⟩ := inN_of c_4
      obtain ⟨y, hy1, hy2, rfl⟩ := inN_of c_11
      refine aw_iload_1 C dX9_bridge_16 ?_
      refine aw_iload_2 C dX9_bridge_17 ?_
      refine aw_icmp_ne C dX9_bridge_18 (tgt := 24) (by decide)  (fun c_18 => ?_) (fun c_18 => ?_)
      · skip
        refine aw_aload_0 C dX9_bridge_24 rfl ?_
        refine aw_g9_0 C dX9_bridge_25 fl_X9_9 ?_
        refine aw_bipush C dX9_bridge_28 k2_93 ?_
        refine aw_iald C _ (hM.n (by omega) (by decide)) dX9_bridge_30 sh_130 rfl (by decide) ?_
        refine aw_istore_3 C dX9_bridge_31 (by decide) (fun w h => by cases h <;> rfl) ?_
        refine aw_iload_3 C dX9_bridge_32 ?_
        refine aw_bipush C dX9_bridge_33 k2_8 ?_
        refine aw_icmp_ne_n C dX9_bridge_35 (tgt := 41) (by decide) (by omega) (by omega) (fun c_35 => ?_) (fun c_35 => ?_)
        · skip
          refine aw_aload_0 C dX9_bridge_41 rfl ?_
          refine aw_g9_0 C dX9_bridge_42 fl_X9_9 ?_
          refine aw_iconst C dX9_bridge_45 k1_4 ?_
          refine aw_iload_3 C dX9_bridge_46 ?_
          refine aw_imul_n C dX9_bridge_47  ?_
          refine aw_iload_1 C dX9_bridge_48 ?_
          refine aw_iast C _ dX9_bridge_49 sh_130 rfl (by omega) ?_
          refine aw_aload_0 C dX9_bridge_50 rfl ?_
          refine aw_g9_0 C dX9_bridge_51 fl_X9_9 ?_
          refine aw_iconst C dX9_bridge_54 k1_4 ?_
          refine aw_iload_3 C dX9_bridge_55 ?_
          refine aw_imul_n C dX9_bridge_56  ?_
          refine aw_iconst C dX9_bridge_57 k1_1 ?_
          refine aw_iadd_n C dX9_bridge_58  ?_
          refine aw_iload_2 C dX9_bridge_59 ?_
          refine aw_iast C _ dX9_bridge_60 sh_130 rfl (by omega) ?_
          refine aw_aload_0 C dX9_bridge_61 rfl ?_
          refine aw_g9_0 C dX9_bridge_62 fl_X9_9 ?_
          refine aw_iconst C dX9_bridge_65 k1_4 ?_
          refine aw_iload_3 C dX9_bridge_66 ?_
          refine aw_imul_n C dX9_bridge_67  ?_
          refine aw_iconst C dX9_bridge_68 k1_2 ?_
          refine aw_iadd_n C dX9_bridge_69  ?_
          refine aw_iload_3 C dX9_bridge_70 ?_
          refine aw_iconst C dX9_bridge_71 k1_2 ?_
          refine aw_irem_n C dX9_bridge_72 (by omega) (by omega) (by omega) ?_
          refine aw_iconst C dX9_bridge_73 k1_1 ?_
          refine aw_icmp_ne_n C dX9_bridge_74 (tgt := 83) (by decide) (by omega) (by omega) (fun c_74 => ?_) (fun c_74 => ?_)
          · skip
            refine aw_iconst C dX9_bridge_83 k1_m1 ?_
            refine aw_iast C _ dX9_bridge_84 sh_130 rfl (by omega) ?_
            refine aw_aload_0 C dX9_bridge_85 rfl ?_
            refine aw_g9_0 C dX9_bridge_86 fl_X9_9 ?_
            refine aw_iconst C dX9_bridge_89 k1_4 ?_
            refine aw_iload_3 C dX9_bridge_90 ?_
            refine aw_imul_n C dX9_bridge_91  ?_
            refine aw_iconst C dX9_bridge_92 k1_3 ?_
            refine aw_iadd_n C dX9_bridge_93  ?_
            refine aw_iconst C dX9_bridge_94 k1_0 ?_
            refine aw_iast C _ dX9_bridge_95 sh_130 rfl (by omega) ?_
            refine aw_iload_3 C dX9_bridge_96 ?_
            refine aw_iconst C dX9_bridge_97 k1_2 ?_
            refine aw_irem_n C dX9_bridge_98 (by omega) (by omega) (by omega) ?_
            refine aw_iconst C dX9_bridge_99 k1_1 ?_
            refine aw_icmp_ne_n C dX9_bridge_100 (tgt := 114) (by decide) (by omega) (by omega) (fun c_100 => ?_) (fun c_100 => absurd c_100 c_74)
            have hMb := ((((hM.set (j := 4 * gM g 93) (v := x) (cd_n (by unfold isOpt; omega)).symm).set (j := 4 * gM g 93 + 1) (v := y) (cd_n (by unfold isOpt; omega)).symm).set (j := 4 * gM g 93 + 2) (v := 99) (cd_m (by unfold isOpt; omega)).symm).set (j := 4 * gM g 93 + 3) (v := 0) (cd_n (by unfold isOpt; omega)).symm)
            have hA : addB3 (gM g) x y = mu (mu (mu (mu (gM g) (4 * gM g 93) x) (4 * gM g 93 + 1) y) (4 * gM g 93 + 2) (99)) (4 * gM g 93 + 3) 0 := by
              unfold addB3 addB2
              rw [if_neg c_74, if_neg c_74]
            rw [← hA] at hMb
            refine aw_aload_0 C dX9_bridge_114 rfl ?_
            refine aw_g9_0 C dX9_bridge_115 fl_X9_9 ?_
            refine aw_bipush C dX9_bridge_118 k2_93 ?_
            refine aw_dup2 C dX9_bridge_120 rfl rfl ?_
            refine aw_iald C _ (hMb.n (by omega) (by decide)) dX9_bridge_121 sh_130 rfl (by decide) ?_
            refine aw_iconst C dX9_bridge_122 k1_1 ?_
            refine aw_iadd_n C dX9_bridge_123  ?_
            refine aw_iast C _ dX9_bridge_124 sh_130 rfl (by decide) ?_
            refine aw_iload_3 C dX9_bridge_125 ?_
            refine aw_iretI C hR dX9_bridge_126 ?_
            exact PG.m hRR rfl (by unfold f_bridge addB; rw [if_neg (fun z => z ⟨c_4, c_11⟩), if_neg c_18, if_neg c_35, show u32 (nI x) = x from nI_clamp hx2, show u32 (nI y) = y from nI_clamp hy2]) (by repeat first | refine Fr.put ?_ rfl | exact Fr.rf) (hMb.set (cd_n (by decide)).symm)
          · skip
            refine aw_iload_3 C dX9_bridge_77 ?_
            refine aw_iconst C dX9_bridge_78 k1_1 ?_
            refine aw_isub_n C dX9_bridge_79 (by omega) ?_
            refine aw_goto C dX9_bridge_80 (tgt := 84) (by decide) ?_
            refine aw_iast C _ dX9_bridge_84 sh_130 rfl (by omega) ?_
            refine aw_aload_0 C dX9_bridge_85 rfl ?_
            refine aw_g9_0 C dX9_bridge_86 fl_X9_9 ?_
            refine aw_iconst C dX9_bridge_89 k1_4 ?_
            refine aw_iload_3 C dX9_bridge_90 ?_
            refine aw_imul_n C dX9_bridge_91  ?_
            refine aw_iconst C dX9_bridge_92 k1_3 ?_
            refine aw_iadd_n C dX9_bridge_93  ?_
            refine aw_iconst C dX9_bridge_94 k1_0 ?_
            refine aw_iast C _ dX9_bridge_95 sh_130 rfl (by omega) ?_
            refine aw_iload_3 C dX9_bridge_96 ?_
            refine aw_iconst C dX9_bridge_97 k1_2 ?_
            refine aw_irem_n C dX9_bridge_98 (by omega) (by omega) (by omega) ?_
            refine aw_iconst C dX9_bridge_99 k1_1 ?_
            refine aw_icmp_ne_n C dX9_bridge_100 (tgt := 114) (by decide) (by omega) (by omega) (fun c_100 => absurd c_100 (fun z => z c_74)) (fun c_100 => ?_)
            refine aw_aload_0 C dX9_bridge_103 rfl ?_
            refine aw_g9_0 C dX9_bridge_104 fl_X9_9 ?_
            refine aw_iconst C dX9_bridge_107 k1_4 ?_
            refine aw_iload_3 C dX9_bridge_108 ?_
            refine aw_imul_n C dX9_bridge_109  ?_
            refine aw_iconst C dX9_bridge_110 k1_2 ?_
            refine aw_isub_n C dX9_bridge_111 (by omega) ?_
            refine aw_iload_3 C dX9_bridge_112 ?_
            refine aw_iast C _ dX9_bridge_113 sh_130 rfl (by omega) ?_
            have hMb := ((((hM.set (j := 4 * gM g 93) (v := x) (cd_n (by unfold isOpt; omega)).symm).set (j := 4 * gM g 93 + 1) (v := y) (cd_n (by unfold isOpt; omega)).symm).set (j := 4 * gM g 93 + 2) (v := gM g 93 - 1) (cd_v (by omega)).symm).set (j := 4 * gM g 93 + 3) (v := 0) (cd_n (by unfold isOpt; omega)).symm).set (j := 4 * gM g 93 - 2) (v := gM g 93) (cd_v (by omega)).symm
            have hA : addB3 (gM g) x y = mu (mu (mu (mu (mu (gM g) (4 * gM g 93) x) (4 * gM g 93 + 1) y) (4 * gM g 93 + 2) (gM g 93 - 1)) (4 * gM g 93 + 3) 0) (4 * gM g 93 - 2) (gM g 93) := by
              unfold addB3 addB2
              rw [if_pos c_74, if_pos c_74]
            rw [← hA] at hMb
            refine aw_aload_0 C dX9_bridge_114 rfl ?_
            refine aw_g9_0 C dX9_bridge_115 fl_X9_9 ?_
            refine aw_bipush C dX9_bridge_118 k2_93 ?_
            refine aw_dup2 C dX9_bridge_120 rfl rfl ?_
            refine aw_iald C _ (hMb.n (by omega) (by decide)) dX9_bridge_121 sh_130 rfl (by decide) ?_
            refine aw_iconst C dX9_bridge_122 k1_1 ?_
            refine aw_iadd_n C dX9_bridge_123  ?_
            refine aw_iast C _ dX9_bridge_124 sh_130 rfl (by decide) ?_
            refine aw_iload_3 C dX9_bridge_125 ?_
            refine aw_iretI C hR dX9_bridge_126 ?_
            exact PG.m hRR rfl (by unfold f_bridge addB; rw [if_neg (fun z => z ⟨c_4, c_11⟩), if_neg c_18, if_neg c_35, show u32 (nI x) = x from nI_clamp hx2, show u32 (nI y) = y from nI_clamp hy2]) (by repeat first | refine Fr.put ?_ rfl | exact Fr.rf) (hMb.set (cd_n (by decide)).symm)
        · skip
          refine aw_bipush C dX9_bridge_38 k2_m4 ?_
          refine aw_iretI C hR dX9_bridge_40 ?_
          exact PG.here hRR rfl (by unfold f_bridge; rw [if_neg (fun z => z ⟨c_4, c_11⟩), if_neg c_18, if_pos c_35])
      · skip
        refine aw_bipush C dX9_bridge_21 k2_m2 ?_
        refine aw_iretI C hR dX9_bridge_23 ?_
        exact PG.here hRR rfl (by unfold f_bridge; rw [if_neg (fun z => z ⟨c_4, c_11⟩), if_pos c_18])
    · skip
      refine aw_iconst C dX9_bridge_14 k1_m1 ?_
      refine aw_iretI C hR dX9_bridge_15 ?_
      exact PG.here hRR rfl (by unfold f_bridge; rw [if_pos (fun z => c_11 z.2)])

set_option maxRecDepth 100000 in
set_option maxHeartbeats 4000000 in
theorem s_X9_span {G : GT} {q : S_} {g : GS} (b : Int32) (w : Int32) (hg : GOK g) (hRR : RR q g) : Spec G 3 yX9_span cX9_span 3 (some .int) [rfn G 129, .int b, .int w] q (PI (PG (f_span g b w) q)) := by
  refine Spec.intro RX9 (by decide) rfl (Nat.le_of_ble_eq_true rfl) [some (rfn G 129), some (.int b), some (.int w)] rfl ?_
  intro X d hd C hR
  obtain ⟨hW, hCy, h95, hN6, h94, hK, hT1, hT2, hTp, hR1, hSy, hSyJ⟩ := id hg
  obtain ⟨hM, hE, hNr, hKp, hIm, hTl, hTx, hTs, hAb, hBd, hRn, hTr⟩ := id hRR
  have hc := hW.c
  have hG : Goo (gM g) (gC g) := fun k hk => hCy k (by omega)
  refine aw_aload_0 C dX9_span_0 rfl ?_
  refine aw_iload_1 C dX9_span_1 ?_
  refine aw_cV1IE C (s_X9_isBridge _ (hM.n (by omega) (by decide)) (by omega)) mf_X9_isBridge mv_X9_isBridge (sh_129) rfl ml_X9_130 dX9_span_2 (by omega) (Nat.le_of_ble_eq_true rfl) ?_
  refine aw_if_eq_b C dX9_span_5 (tgt := 17) (by decide)  (fun c_5 => ?_) (fun c_5 => ?_)
  · skip
    refine aw_iconst C dX9_span_17 k1_m1 ?_
    refine aw_iretI C hR dX9_span_18 ?_
    exact PG.here hRR rfl (by unfold f_span; rw [if_pos (fun z => c_5 z.1)])
  · skip
    refine aw_iload_2 C dX9_span_8 ?_
    refine aw_iconst C dX9_span_9 k1_0 ?_
    refine aw_iconst C dX9_span_10 k1_3 ?_
    refine aw_cS3IE C (s_X9_isIn _ _ _) mf_X9_isIn ms_X9_isIn ml_X9_98 dX9_span_11 (by omega) (Nat.le_of_ble_eq_true rfl) ?_
    refine aw_if_ne_b C dX9_span_14 (tgt := 19) (by decide)  (fun c_14 => ?_) (fun c_14 => ?_)
    · have c14 := (inN_le (by omega)).mp c_14
      obtain ⟨w, hw1, hw2, rfl⟩ := inN_of c14
      obtain ⟨b, hb1, hb2, rfl⟩ := inN_of c_5
      have hub : u32 (nI b) = b := nI_clamp hb2
      have hbb := hW.b hb1
      refine aw_iload_2 C dX9_span_19 ?_
      refine aw_iconst C dX9_span_20 k1_2 ?_
      refine aw_icmp_ne_n C dX9_span_21 (tgt := 35) (by decide) (by omega) (by omega) (fun c_21 => ?_) (fun c_21 => ?_)
      · skip
        refine aw_aload_0 C dX9_span_35 rfl ?_
        refine aw_g9_0 C dX9_span_36 fl_X9_9 ?_
        refine aw_iconst C dX9_span_39 k1_4 ?_
        refine aw_iload_1 C dX9_span_40 ?_
        refine aw_imul_n C dX9_span_41  ?_
        refine aw_iload_2 C dX9_span_42 ?_
        refine aw_iadd_n C dX9_span_43  ?_
        refine aw_iald C _ (hM.n (by omega) (by unfold isOpt; omega)) dX9_span_44 sh_130 rfl (by omega) ?_
        refine aw_iretI C hR dX9_span_45 ?_
        exact PG.here hRR rfl (by unfold f_span; rw [if_neg (fun z => z ⟨c_5, c14⟩), if_neg (by rw [show u32 (nI w) = w from nI_clamp hw2]; exact c_21), hub, show u32 (nI w) = w from nI_clamp hw2])
      · skip
        refine aw_aload_0 C dX9_span_24 rfl ?_
        refine aw_iload_1 C dX9_span_25 ?_
        refine aw_cV1IE C (s_X9_sisterN hM b (by omega)) mf_X9_sister mv_X9_sister (sh_129) rfl ml_X9_136 dX9_span_26 (by omega) (Nat.le_of_ble_eq_true rfl) ?_
        refine aw_cS1IE C (s_X9_orNever _) mf_X9_orNever ms_X9_orNever ml_X9_117 dX9_span_29 (by omega) (Nat.le_of_ble_eq_true rfl) ?_
        refine aw_goto C dX9_span_32 (tgt := 45) (by decide) ?_
        refine aw_iretI C hR dX9_span_45 ?_
        exact PG.here hRR (cd_or5 (by unfold isOpt; omega) (by rcases hbb.2.2.2.1 with z | z <;> omega)) (by unfold f_span; rw [if_neg (fun z => z ⟨c_5, c14⟩), if_pos (by rw [show u32 (nI w) = w from nI_clamp hw2]; exact c_21), hub])
    · skip
      refine aw_iconst C dX9_span_17 k1_m1 ?_
      refine aw_iretI C hR dX9_span_18 ?_
      exact PG.here hRR rfl (by unfold f_span; rw [if_pos (fun z => c_14 ((inN_le (by omega)).mpr z.2))])

set_option maxRecDepth 100000 in
set_option maxHeartbeats 4000000 in
theorem s_X9_errand {G : GT} {q : S_} {g : GS} (p : Int32) (x : Int32) (hg : GOK g) (hRR : RR q g) : Spec G 3 yX9_errand cX9_errand 3 (some .int) [rfn G 129, .int p, .int x] q (PI (PG (f_errand g p x) q)) := by
  refine Spec.intro RX9 (by decide) rfl (Nat.le_of_ble_eq_true rfl) [some (rfn G 129), some (.int p), some (.int x)] rfl ?_
  intro X d hd C hR
  obtain ⟨hW, hCy, h95, hN6, h94, hK, hT1, hT2, hTp, hR1, hSy, hSyJ⟩ := id hg
  obtain ⟨hM, hE, hNr, hKp, hIm, hTl, hTx, hTs, hAb, hBd, hRn, hTr⟩ := id hRR
  have hc := hW.c
  have hG : Goo (gM g) (gC g) := fun k hk => hCy k (by omega)
  refine aw_aload_0 C dX9_errand_0 rfl ?_
  refine aw_iload_1 C dX9_errand_1 ?_
  refine aw_cV1IE C (s_X9_isOne _ (hM.n (by omega) (by decide)) (by omega)) mf_X9_isOne mv_X9_isOne (sh_129) rfl ml_X9_114 dX9_errand_2 (by omega) (Nat.le_of_ble_eq_true rfl) ?_
  refine aw_if_eq_b C dX9_errand_5 (tgt := 30) (by decide)  (fun c_5 => ?_) (fun c_5 => ?_)
  · skip
    refine aw_iconst C dX9_errand_30 k1_m1 ?_
    refine aw_iretI C hR dX9_errand_31 ?_
    exact PG.here hRR rfl (by unfold f_errand; rw [if_neg (fun z => c_5 z.1)])
  · obtain ⟨p, hp1, hp2, rfl⟩ := inN_of c_5
    have hu : u32 (nI p) = p := nI_clamp hp2
    have hp := hW.p hp1
    refine aw_iload_2 C dX9_errand_8 ?_
    refine aw_iconst C dX9_errand_9 k1_m1 ?_
    refine aw_iconst C dX9_errand_10 k1_5 ?_
    refine aw_cS3IE C (s_X9_isIn _ _ _) mf_X9_isIn ms_X9_isIn ml_X9_98 dX9_errand_11 (by omega) (Nat.le_of_ble_eq_true rfl) ?_
    refine aw_if_eq_b C dX9_errand_14 (tgt := 30) (by decide)  (fun c_14 => ?_) (fun c_14 => ?_)
    · skip
      refine aw_iconst C dX9_errand_30 k1_m1 ?_
      refine aw_iretI C hR dX9_errand_31 ?_
      exact PG.here hRR rfl (by unfold f_errand; rw [if_neg (fun z => c_14 (isIn6.mpr z.2))])
    · have c14 := isIn6.mp c_14
      refine aw_aload_0 C dX9_errand_17 rfl ?_
      refine aw_iload_1 C dX9_errand_18 ?_
      refine aw_iconst C dX9_errand_19 k1_4 ?_
      refine aw_iload_2 C dX9_errand_20 ?_
      refine aw_cV3I C (s_X9_changeM hM p 4 (oN x) (oN_cd (by unfold isOpt; omega) c14) (by omega)) mf_X9_change mv_X9_change (sh_129) rfl ml_X9_110 dX9_errand_21 (by omega) (Nat.le_of_ble_eq_true rfl) (fun r_21 q_21 h_21 => ?_)
      obtain ⟨hr, hM2, hF2⟩ := h_21
      refine aw_cS1IE C (s_X9_orNever _) mf_X9_orNever ms_X9_orNever ml_X9_117 dX9_errand_24 (by omega) (Nat.le_of_ble_eq_true rfl) ?_
      refine aw_goto C dX9_errand_27 (tgt := 31) (by decide) ?_
      refine aw_iretI C hR dX9_errand_31 ?_
      exact PG.m hRR (cd5 (by unfold isOpt; omega) (by rcases hp.2.2.2.2.2.1 with z | z <;> omega) _ hr) (by unfold f_errand; rw [if_pos ⟨c_5, c14⟩, hu]) hF2 hM2

set_option maxRecDepth 100000 in
set_option maxHeartbeats 4000000 in
theorem s_X9_lose {G : GT} {q : S_} {g : GS} (b : Int32) (z : Bool) (hg : GOK g) (hRR : RR q g) : Spec G 3 yX9_lose cX9_lose 4 (some .int) [rfn G 129, .int b, .int (bP (z = true))] q (PI (PG (f_lose g b z) q)) := by
  refine Spec.intro RX9 (by decide) rfl (Nat.le_of_ble_eq_true rfl) [some (rfn G 129), some (.int b), some (.int (bP (z = true))), none] rfl ?_
  intro X d hd C hR
  obtain ⟨hW, hCy, h95, hN6, h94, hK, hT1, hT2, hTp, hR1, hSy, hSyJ⟩ := id hg
  obtain ⟨hM, hE, hNr, hKp, hIm, hTl, hTx, hTs, hAb, hBd, hRn, hTr⟩ := id hRR
  have hc := hW.c
  have hG : Goo (gM g) (gC g) := fun k hk => hCy k (by omega)
  refine aw_aload_0 C dX9_lose_0 rfl ?_
  refine aw_iload_1 C dX9_lose_1 ?_
  refine aw_cV1IE C (s_X9_isBridge _ (hM.n (by omega) (by decide)) (by omega)) mf_X9_isBridge mv_X9_isBridge (sh_129) rfl ml_X9_130 dX9_lose_2 (by omega) (Nat.le_of_ble_eq_true rfl) ?_
  refine aw_if_ne_b C dX9_lose_5 (tgt := 10) (by decide)  (fun c_5 => ?_) (fun c_5 => ?_)
  · obtain ⟨b, hb1, hb2, rfl⟩ := inN_of c_5
    have hub : u32 (nI b) = b := nI_clamp hb2
    have hbb := hW.b hb1
    refine aw_aload_0 C dX9_lose_10 rfl ?_
    refine aw_g9_0 C dX9_lose_11 fl_X9_9 ?_
    refine aw_iconst C dX9_lose_14 k1_4 ?_
    refine aw_iload_1 C dX9_lose_15 ?_
    refine aw_imul_n C dX9_lose_16  ?_
    refine aw_iconst C dX9_lose_17 k1_3 ?_
    refine aw_iadd_n C dX9_lose_18  ?_
    refine aw_iald C _ (hM.n (by omega) (by unfold isOpt; omega)) dX9_lose_19 sh_130 rfl (by omega) ?_
    refine aw_istore_3 C dX9_lose_20 (by decide) (fun w h => by cases h <;> rfl) ?_
    refine aw_aload_0 C dX9_lose_21 rfl ?_
    refine aw_g9_0 C dX9_lose_22 fl_X9_9 ?_
    refine aw_iconst C dX9_lose_25 k1_4 ?_
    refine aw_iload_1 C dX9_lose_26 ?_
    refine aw_imul_n C dX9_lose_27  ?_
    refine aw_iconst C dX9_lose_28 k1_3 ?_
    refine aw_iadd_n C dX9_lose_29  ?_
    refine aw_iload_2 C dX9_lose_30 ?_
    refine aw_if_eq_b C dX9_lose_31 (tgt := 38) (by decide)  (fun c_31 => ?_) (fun c_31 => ?_)
    · skip
      refine aw_iconst C dX9_lose_38 k1_0 ?_
      refine aw_iast C _ dX9_lose_39 sh_130 rfl (by omega) ?_
      refine aw_iload_3 C dX9_lose_40 ?_
      refine aw_iretI C hR dX9_lose_41 ?_
      exact PG.m hRR rfl (by unfold f_lose; rw [if_pos c_5, hub, if_neg c_31]) (by repeat first | refine Fr.put ?_ rfl | exact Fr.rf) (hM.set (cd_n (by unfold isOpt; omega)).symm)
    · skip
      refine aw_iconst C dX9_lose_34 k1_1 ?_
      refine aw_goto C dX9_lose_35 (tgt := 39) (by decide) ?_
      refine aw_iast C _ dX9_lose_39 sh_130 rfl (by omega) ?_
      refine aw_iload_3 C dX9_lose_40 ?_
      refine aw_iretI C hR dX9_lose_41 ?_
      exact PG.m hRR rfl (by unfold f_lose; rw [if_pos c_5, hub, if_pos c_31]) (by repeat first | refine Fr.put ?_ rfl | exact Fr.rf) (hM.set (cd_n (by unfold isOpt; omega)).symm)
  · skip
    refine aw_iconst C dX9_lose_8 k1_m1 ?_
    refine aw_iretI C hR dX9_lose_9 ?_
    exact PG.here hRR rfl (by unfold f_lose; rw [if_neg c_5])
