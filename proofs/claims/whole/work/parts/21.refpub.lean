/-! THE WHOLE STATE OF BOTH, and the reference's picture of it: now, whether an image is taken, the image, cities, how many, the text, tapes' sorts (9: none), lengths, items, how many bodies ran, the trace -/
abbrev GS : Type := (Nat → Nat) × Bool × (Nat → Nat) × (Nat → List Nat) × Nat × List Nat × (Nat → Nat) × (Nat → Nat) × (Nat → Nat → Int64) × Nat × (Nat → Int32)
abbrev gM (g : GS) : Nat → Nat := g.1
abbrev gK (g : GS) : Bool := g.2.1
abbrev gJ (g : GS) : Nat → Nat := g.2.2.1
abbrev gC (g : GS) : Nat → List Nat := g.2.2.2.1
abbrev gN (g : GS) : Nat := g.2.2.2.2.1
abbrev gT (g : GS) : List Nat := g.2.2.2.2.2.1
abbrev gS (g : GS) : Nat → Nat := g.2.2.2.2.2.2.1
abbrev gE (g : GS) : Nat → Nat := g.2.2.2.2.2.2.2.1
abbrev gX (g : GS) : Nat → Nat → Int64 := g.2.2.2.2.2.2.2.2.1
abbrev gR (g : GS) : Nat := g.2.2.2.2.2.2.2.2.2.1
abbrev gV (g : GS) : Nat → Int32 := g.2.2.2.2.2.2.2.2.2.2
def cs9 (x : Nat) : Int32 := if x = 9 then -1 else nI x
/-- sisters are sisters of each other -/
def SYM (M : Nat → Nat) : Prop := ∀ b, b < M 93 → M (4 * b + 2) ≠ 99 → M (4 * b + 2) ≠ b ∧ M (4 * M (4 * b + 2) + 2) = b
/-- the numbers are in order -/
def GOK (g : GS) : Prop := WF (gM g) ∧ (∀ k, k < gN g → isC (gC g k)) ∧ gM g 95 ≤ gN g ∧ gN g ≤ 6 ∧ gM g 94 ≤ 9999 ∧ (gK g = true → WF (gJ g) ∧ gJ g 95 ≤ gN g ∧ gJ g 94 ≤ 9999) ∧ (gT g).length ≤ 100 ∧ (∀ j, j < (gT g).length → chO (gT g) j < 128) ∧ (∀ t, t < 6 → (gS g t = 9 ∨ gS g t < 5) ∧ gE g t ≤ 60 ∧ (gS g t = 9 → gE g t = 0)) ∧ gR g < 1000 ∧ SYM (gM g) ∧ (gK g = true → SYM (gJ g))
def RR (q : S_) (g : GS) : Prop := RelR q (gM g) ∧ RE q (gC g) ∧ gI q 129 8 = nI (gN g) ∧ gI q 129 3 = bP (gK g = true) ∧ (gK g = true → ∀ j, j < 146 → gI q 132 j = cd j (gJ g j)) ∧
  gI q 129 5 = nI (gT g).length ∧ (∀ j, j < (gT g).length → gI q 133 j = nI (chO (gT g) j)) ∧
  (∀ t, t < 6 → gI q 151 t = cs9 (gS g t) ∧ gI q 152 t = nI (gE g t) ∧ ∀ j, j < 60 → gL q 153 (60 * t + j) = gX g t j) ∧
  (∀ j, j < 7 → gI q 148 j = abv j) ∧ (∀ j, j < 21 → gI q 149 j = bds j) ∧ gI q 129 31 = nI (gR g) ∧ ∀ j, j < gR g → j < 20 → gI q 150 j = gV g j
def SZk (k j : Nat) : Prop := k = 130 ∨ k = 131 ∨ k = 136 ∨ k = 137 ∨ (141 ≤ k ∧ k ≤ 147) ∨ (k = 129 ∧ ((10 ≤ j ∧ j ≤ 15) ∨ j = 26))
theorem RR.keep {q q2 : S_} {g : GS} {M2 : Nat → Nat} (h : RR q g) (hf : Fr SZk q q2) (hM : RelR q2 M2) (hE : RE q2 (gC g)) : RR q2 (M2, g.2) := by
  obtain ⟨a1, a2, a3, a4, a5, a6, a7, a8, a9, a10, a11, a12⟩ := h
  refine ⟨hM, hE, (hf.2 _ _ (by unfold SZk; omega)).trans a3, (hf.2 _ _ (by unfold SZk; omega)).trans a4, fun hk j hj => (hf.2 _ _ (by unfold SZk; omega)).trans (a5 hk j hj), (hf.2 _ _ (by unfold SZk; omega)).trans a6, fun j hj => (hf.2 _ _ (by unfold SZk; omega)).trans (a7 j hj), fun t ht => ?_, fun j hj => (hf.2 _ _ (by unfold SZk; omega)).trans (a9 j hj), fun j hj => (hf.2 _ _ (by unfold SZk; omega)).trans (a10 j hj), (hf.2 _ _ (by unfold SZk; omega)).trans a11, fun j hj h2 => (hf.2 _ _ (by unfold SZk; omega)).trans (a12 j hj h2)⟩
  obtain ⟨b1, b2, b3⟩ := a8 t ht
  refine ⟨(hf.2 _ _ (by unfold SZk; omega)).trans b1, (hf.2 _ _ (by unfold SZk; omega)).trans b2, fun j hj => ?_⟩
  rw [← b3 j hj]
  show q2.2 _ _ = q.2 _ _
  rw [hf.1]
/-- the class's cells stay -/
def FrM (q q2 : S_) : Prop := (∀ k j, k < 129 → gI q2 k j = gI q k j) ∧ ∀ k j, k < 129 → gL q2 k j = gL q k j
theorem FrM.tr {q q2 q3 : S_} (h : FrM q q2) (h2 : FrM q2 q3) : FrM q q3 := ⟨fun k j hk => (h2.1 k j hk).trans (h.1 k j hk), fun k j hk => (h2.2 k j hk).trans (h.2 k j hk)⟩
theorem Fr.m {S : Nat → Nat → Prop} {q q2 : S_} (h : Fr S q q2) (hs : ∀ k j, S k j → 129 ≤ k) : FrM q q2 := ⟨fun k j hk => h.2 k j (fun z => by have := hs k j z; omega), fun k j hk => by
  show q2.2 k j = q.2 k j
  rw [h.1]⟩
theorem SZ_m : ∀ k j, SZk k j → 129 ≤ k := fun k j z => by unfold SZk at z; omega
theorem SY_Z : ∀ k j, SYk k j → SZk k j := fun k j z => by unfold SYk SXk SQk at z; unfold SZk; omega
theorem SQ_Z : ∀ k j, SQk k j → SZk k j := fun k j z => by unfold SQk at z; unfold SZk; omega
theorem SH_Z : ∀ k j, SHk k j → SZk k j := fun k j z => by unfold SHk SYk SXk SQk at z; unfold SZk; omega
/-- a public method's end -/
def PG (fr : Int32 × GS) (q : S_) : Int32 → S_ → Prop := fun r q3 => r = fr.1 ∧ RR q3 fr.2 ∧ FrM q q3
def PGl (fr : Int64 × GS) (q : S_) : Int64 → S_ → Prop := fun r q3 => r = fr.1 ∧ RR q3 fr.2 ∧ FrM q q3
/-- the answer v, nothing changed -/
theorem PG.same {q q3 : S_} {g : GS} {v r : Int32} {fr : Int32 × GS} (h : RR q g) (hr : r = v) (hf : fr = (v, g)) (hF : Fr SZk q q3) (hM : RelR q3 (gM g)) (hE : RE q3 (gC g)) : PG fr q r q3 := by
  subst hf
  exact ⟨hr, h.keep hF hM hE, hF.m SZ_m⟩
theorem PG.here {q : S_} {g : GS} {v r : Int32} {fr : Int32 × GS} (h : RR q g) (hr : r = v) (hf : fr = (v, g)) : PG fr q r q := PG.same h hr hf Fr.rf h.1 h.2.1
abbrev u32 (x : Int32) : Nat := x.toNatClampNeg
theorem cd_or5 {j x : Nat} (ho : isOpt j) (hx : x ≤ 99) : (if cd j x = -1 then -5 else cd j x) = l5 x := by
  unfold l5
  by_cases z : x = 99
  · subst z
    rw [cd_m ho, if_pos rfl, if_pos rfl]
  · rw [cd_v z, if_neg (m1_ne (by omega)), if_neg z]
/-! what the calls answer -/
def f_of (g : GS) (p w : Int32) : Int32 × GS := (if ¬ inN p (gM g 92) then -10001 else
  if inN w 6 then (if u32 w = 4 then l5 (gM g (32 + 10 * u32 p + 4)) else nI (gM g (32 + 10 * u32 p + u32 w)))
  else if w = nI 6 then nI (reachM (gM g) (gC g) (u32 p)) else if w = nI 7 then l5 (doneH (gM g) (gC g) (u32 p))
  else if w = nI 8 then nI (bsum (fun b => adjP (gM g) (gM g (32 + 10 * u32 p + 2)) b ∧ mayP (gM g) (gC g) (u32 p) b) (gM g 93))
  else if inN (w - nI 10) (gM g 93) then leaveM (gM g) (gC g) (u32 p) (u32 (w - nI 10)) else -10001, g)

set_option maxRecDepth 100000 in
set_option maxHeartbeats 4000000 in
theorem s_X9_of {G : GT} {q : S_} {g : GS} (p : Int32) (w : Int32) (hg : GOK g) (hRR : RR q g) : Spec G 28 yX9_of cX9_of 3 (some .int) [rfn G 129, .int p, .int w] q (PI (PG (f_of g p w) q)) := by
  refine Spec.intro RX9 (by decide) rfl (Nat.le_of_ble_eq_true rfl) [some (rfn G 129), some (.int p), some (.int w)] rfl ?_
  intro X d hd C hR
  obtain ⟨hW, hCy, h95, hN6, h94, hK, hT1, hT2, hTp, hR1, hSy, hSyJ⟩ := id hg
  obtain ⟨hM, hE, hNr, hKp, hIm, hTl, hTx, hTs, hAb, hBd, hRn, hTr⟩ := id hRR
  have hc := hW.c
  have hG : Goo (gM g) (gC g) := fun k hk => hCy k (by omega)
  refine aw_aload_0 C dX9_of_0 rfl ?_
  refine aw_iload_1 C dX9_of_1 ?_
  refine aw_cV1IE C (s_X9_isOne _ (hM.n (by omega) (by decide)) (by omega)) mf_X9_isOne mv_X9_isOne (sh_129) rfl ml_X9_114 dX9_of_2 (by omega) (Nat.le_of_ble_eq_true rfl) ?_
  refine aw_if_ne_b C dX9_of_5 (tgt := 12) (by decide)  (fun c_5 => ?_) (fun c_5 => ?_)
  · obtain ⟨p, hp1, hp2, rfl⟩ := inN_of c_5
    have hu : u32 (nI p) = p := nI_clamp hp2
    have hp := hW.p hp1
    refine aw_iload_2 C dX9_of_12 ?_
    refine aw_iconst C dX9_of_13 k1_0 ?_
    refine aw_iconst C dX9_of_14 k1_5 ?_
    refine aw_cS3IE C (s_X9_isIn _ _ _) mf_X9_isIn ms_X9_isIn ml_X9_98 dX9_of_15 (by omega) (Nat.le_of_ble_eq_true rfl) ?_
    refine aw_if_eq_b C dX9_of_18 (tgt := 45) (by decide)  (fun c_18 => ?_) (fun c_18 => ?_)
    · have hnw : ¬ inN w 6 := fun z => c_18 ((inN_le (by omega)).mpr z)
      refine aw_iload_2 C dX9_of_45 ?_
      refine aw_bipush C dX9_of_46 k2_6 ?_
      refine aw_icmp_ne C dX9_of_48 (tgt := 57) (by decide)  (fun c_48 => ?_) (fun c_48 => ?_)
      · skip
        refine aw_iload_2 C dX9_of_57 ?_
        refine aw_bipush C dX9_of_58 k2_7 ?_
        refine aw_icmp_ne C dX9_of_60 (tgt := 71) (by decide)  (fun c_60 => ?_) (fun c_60 => ?_)
        · skip
          refine aw_iload_2 C dX9_of_71 ?_
          refine aw_bipush C dX9_of_72 k2_8 ?_
          refine aw_icmp_ne C dX9_of_74 (tgt := 85) (by decide)  (fun c_74 => ?_) (fun c_74 => ?_)
          · skip
            refine aw_aload_0 C dX9_of_85 rfl ?_
            refine aw_iload_2 C dX9_of_86 ?_
            refine aw_bipush C dX9_of_87 k2_10 ?_
            refine aw_isub C dX9_of_89  ?_
            refine aw_cV1IE C (s_X9_isBridge _ (hM.n (by omega) (by decide)) (by omega)) mf_X9_isBridge mv_X9_isBridge (sh_129) rfl ml_X9_130 dX9_of_90 (by omega) (Nat.le_of_ble_eq_true rfl) ?_
            refine aw_if_eq_b C dX9_of_93 (tgt := 108) (by decide)  (fun c_93 => ?_) (fun c_93 => ?_)
            · skip
              refine aw_sipush C dX9_of_108 k3_m10001 ?_
              refine aw_iretI C hR dX9_of_111 ?_
              exact PG.here hRR rfl (by unfold f_of; rw [if_neg (fun z => z c_5), if_neg hnw, if_neg c_48, if_neg c_60, if_neg c_74, if_neg c_93])
            · obtain ⟨b, hb1, hb2, hb3⟩ := inN_of c_93
              have hbb := hW.b hb1
              refine aw_aload_0 C dX9_of_96 rfl ?_
              refine aw_iload_1 C dX9_of_97 ?_
              refine aw_iload_2 C dX9_of_98 ?_
              refine aw_bipush C dX9_of_99 k2_10 ?_
              refine aw_isub C dX9_of_101  ?_
              rw [hb3]
              refine aw_cV2I C (s_X9_leave p b hM hW hE hG hp1 hbb.1) mf_X9_leave mv_X9_leave (sh_129) rfl ml_X9_133 dX9_of_102 (by omega) (Nat.le_of_ble_eq_true rfl) (fun r_102 q_102 h_102 => ?_)
              obtain ⟨he, hF2, hE2⟩ := h_102
              have hM2 : RelR q_102 (gM g) := hF2.rel (fun j z => by unfold SQk at z; omega) hM
              refine aw_goto C dX9_of_105 (tgt := 111) (by decide) ?_
              refine aw_iretI C hR dX9_of_111 ?_
              exact PG.same hRR he (by unfold f_of; rw [if_neg (fun z => z c_5), if_neg hnw, if_neg c_48, if_neg c_60, if_neg c_74, if_pos c_93, hu, hb3, show u32 (nI b) = b from nI_clamp hb2]) (hF2.mono SQ_Z) hM2 hE2
          · skip
            refine aw_aload_0 C dX9_of_77 rfl ?_
            refine aw_iload_1 C dX9_of_78 ?_
            refine aw_cV1I C (s_X9_may p hM hW hE hG hp1) mf_X9_may mv_X9_may (sh_129) rfl ml_X9_127 dX9_of_79 (by omega) (Nat.le_of_ble_eq_true rfl) (fun r_79 q_79 h_79 => ?_)
            obtain ⟨he, hF2, hE2⟩ := h_79
            have hM2 : RelR q_79 (gM g) := hF2.rel (fun j z => by unfold SQk at z; omega) hM
            refine aw_goto C dX9_of_82 (tgt := 111) (by decide) ?_
            refine aw_iretI C hR dX9_of_111 ?_
            exact PG.same hRR he (by unfold f_of; rw [if_neg (fun z => z c_5), if_neg hnw, if_neg c_48, if_neg c_60, if_pos c_74, hu]) (hF2.mono SQ_Z) hM2 hE2
        · skip
          refine aw_aload_0 C dX9_of_63 rfl ?_
          refine aw_iload_1 C dX9_of_64 ?_
          refine aw_cV1I C (s_X9_done p hM hW hE hG hp1 (by omega)) mf_X9_done mv_X9_done (sh_129) rfl ml_X9_124 dX9_of_65 (by omega) (Nat.le_of_ble_eq_true rfl) (fun r_65 q_65 h_65 => ?_)
          obtain ⟨he, hM2, hE2, hF2⟩ := h_65
          refine aw_goto C dX9_of_68 (tgt := 111) (by decide) ?_
          refine aw_iretI C hR dX9_of_111 ?_
          exact PG.same hRR he (by unfold f_of; rw [if_neg (fun z => z c_5), if_neg hnw, if_neg c_48, if_pos c_60, hu]) (hF2.mono (fun k j z => z.elim (SY_Z k j) (fun y => by unfold SZk; omega))) hM2 hE2
      · skip
        refine aw_aload_0 C dX9_of_51 rfl ?_
        refine aw_iload_1 C dX9_of_52 ?_
        refine aw_cV1I C (s_X9_reach p hM hW hE hG hp1) mf_X9_reach mv_X9_reach (sh_129) rfl ml_X9_121 dX9_of_53 (by omega) (Nat.le_of_ble_eq_true rfl) (fun r_53 q_53 h_53 => ?_)
        obtain ⟨he, hM2, hE2, hF2⟩ := h_53
        refine aw_iretI C hR dX9_of_56 ?_
        exact PG.same hRR he (by unfold f_of; rw [if_neg (fun z => z c_5), if_neg hnw, if_pos c_48, hu]) (hF2.mono SY_Z) hM2 hE2
    · obtain ⟨w, hw1, hw2, rfl⟩ := inN_of ((inN_le (by omega)).mp c_18)
      have huw : u32 (nI w) = w := nI_clamp hw2
      refine aw_iload_2 C dX9_of_21 ?_
      refine aw_iconst C dX9_of_22 k1_4 ?_
      refine aw_icmp_ne C dX9_of_23 (tgt := 38) (by decide)  (fun c_23 => ?_) (fun c_23 => ?_)
      · have hw4 : w ≠ 4 := fun z => c_23 (by rw [z])
        refine aw_aload_0 C dX9_of_38 rfl ?_
        refine aw_iload_1 C dX9_of_39 ?_
        refine aw_iload_2 C dX9_of_40 ?_
        refine aw_cV2IE C (s_X9_oneN hM p w rfl (by omega) (by unfold isOpt; omega)) mf_X9_one mv_X9_one (sh_129) rfl ml_X9_102 dX9_of_41 (by omega) (Nat.le_of_ble_eq_true rfl) ?_
        refine aw_iretI C hR dX9_of_44 ?_
        exact PG.here hRR rfl (by unfold f_of; rw [if_neg (fun z => z c_5), if_pos (inN_nI hw1 hw2), huw, if_neg hw4, hu])
      · have hw4 : w = 4 := (nI_eq (by omega) (by decide)).mp c_23
        refine aw_aload_0 C dX9_of_26 rfl ?_
        refine aw_iload_1 C dX9_of_27 ?_
        refine aw_iconst C dX9_of_28 k1_4 ?_
        refine aw_cV2IE C (s_X9_one p 4 (by omega)) mf_X9_one mv_X9_one (sh_129) rfl ml_X9_102 dX9_of_29 (by omega) (Nat.le_of_ble_eq_true rfl) ?_
        rw [hM (32 + 10 * p + 4) (by omega)]
        refine aw_cS1IE C (s_X9_orNever _) mf_X9_orNever ms_X9_orNever ml_X9_117 dX9_of_32 (by omega) (Nat.le_of_ble_eq_true rfl) ?_
        refine aw_goto C dX9_of_35 (tgt := 44) (by decide) ?_
        refine aw_iretI C hR dX9_of_44 ?_
        refine PG.here hRR rfl ?_
        unfold f_of
        rw [if_neg (fun z => z c_5), if_pos (inN_nI hw1 hw2), huw, if_pos hw4, hu]
        rw [cd_or5 (by unfold isOpt; omega) (by rcases hp.2.2.2.2.2.1 with z | z <;> omega)]
  · skip
    refine aw_sipush C dX9_of_8 k3_m10001 ?_
    refine aw_iretI C hR dX9_of_11 ?_
    exact PG.here hRR rfl (by unfold f_of; rw [if_pos c_5])
