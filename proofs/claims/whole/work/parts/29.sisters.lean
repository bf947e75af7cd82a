def lateM (x : Nat) : Nat := if x = 99 then 1000 else x
def sisS (M : Nat → Nat) (cts : Nat → List Nat) (p x a b : Nat) (s : Nat × Nat) : Nat × Nat := if swP M a b then (if lateM (longM (swM M a b) cts p x) < s.2 then 10 * a + b else s.1, min (lateM (longM (swM M a b) cts p x)) s.2) else s
def sisI (M : Nat → Nat) (cts : Nat → List Nat) (p x a : Nat) : Nat → Nat → Nat × Nat → Nat × Nat
  | 0, _, s => s
  | m + 1, b, s => sisI M cts p x a m (b + 1) (sisS M cts p x a b s)
def sisO (M : Nat → Nat) (cts : Nat → List Nat) (p x : Nat) : Nat → Nat → Nat × Nat → Nat × Nat
  | 0, _, s => s
  | m + 1, a, s => sisO M cts p x m (a + 1) (sisI M cts p x a (M 93 - (a + 1)) (a + 1) s)
def sisT (M : Nat → Nat) (cts : Nat → List Nat) (p x : Nat) : Nat × Nat := sisO M cts p x (M 93) 0 (99, lateM (longM M cts p x))
def f_sisters (g : GS) (p x : Int32) : Int32 × GS := (if inN p (gM g 92) ∧ inN x 6 then l5 (sisT (gM g) (gC g) (u32 p) (u32 x)).1 else -1, g)
theorem lateM_le {x : Nat} (h : x ≤ 12 ∨ x = 99) : lateM x ≤ 1000 := by
  unfold lateM
  split <;> omega
theorem sw_ne {M : Nat → Nat} {a b : Nat} (hW : WF M) (hS : SYM M) (ha : a < M 93) (hb : b < M 93) (hp : swP M a b) : swM M a b (4 * a + 2) ≠ 99 ∧ swM M a b (4 * b + 2) ≠ 99 := by
  obtain ⟨m, t, e1, e2, hm, ht, f1, f2, d1, d2, d3, d4, d5, d6⟩ := sw_facts hW hS ha hb hp
  have hc := hW.c
  constructor
  · unfold swM
    rw [e1, e2, mu_ne (by omega), mu_ne (by omega), mu_ne (by omega), mu_eq]
    omega
  · unfold swM
    rw [e1, e2, mu_ne (by omega), mu_eq]
    omega
theorem sisI_s {M : Nat → Nat} {cts : Nat → List Nat} {p x a m b k : Nat} (h : m - b = k + 1) (s : Nat × Nat) : sisI M cts p x a (m - b) b s = sisI M cts p x a k (b + 1) (sisS M cts p x a b s) := by rw [h]; rfl
theorem sisO_s {M : Nat → Nat} {cts : Nat → List Nat} {p x m a k : Nat} (h : m - a = k + 1) (s : Nat × Nat) : sisO M cts p x (m - a) a s = sisO M cts p x k (a + 1) (sisI M cts p x a (M 93 - (a + 1)) (a + 1) s) := by rw [h]; rfl

set_option maxRecDepth 100000 in
set_option maxHeartbeats 4000000 in
theorem s_X9_late {G : GT} {q : S_} (x : Nat) (hx : x ≤ 12 ∨ x = 99) : Spec G 1 yX9_late cX9_late 1 (some .int) [.int (l5 x)] q (PI fun r2 q3 => r2 = nI (lateM x) ∧ q3 = q) := by
  refine Spec.intro RX9 (by decide) rfl (Nat.le_of_ble_eq_true rfl) [some (.int (l5 x))] rfl ?_
  intro X d hd C hR
  refine aw_iload_0 C dX9_late_0 ?_
  refine aw_bipush C dX9_late_1 k2_m5 ?_
  refine aw_icmp_ne C dX9_late_3 (tgt := 12) (by decide)  (fun c_3 => ?_) (fun c_3 => ?_)
  · have hx9 : x ≠ 99 := fun z => c_3 (by rw [z]; rfl)
    refine aw_iload_0 C dX9_late_12 ?_
    refine aw_iretI C hR dX9_late_13 ?_
    exact ⟨by unfold l5 lateM; rw [if_neg hx9, if_neg hx9], rfl⟩
  · have hx9 : x = 99 := Decidable.byContradiction (fun z => absurd c_3 (by unfold l5; rw [if_neg z]; exact m5_ne (by omega)))
    refine aw_sipush C dX9_late_6 k3_1000 ?_
    refine aw_goto C dX9_late_9 (tgt := 13) (by decide) ?_
    refine aw_iretI C hR dX9_late_13 ?_
    exact ⟨by unfold lateM; rw [if_pos hx9], rfl⟩

set_option maxRecDepth 100000 in
set_option maxHeartbeats 4000000 in
theorem s_X9_sisters {G : GT} {q : S_} {g : GS} (p : Int32) (x : Int32) (hg : GOK g) (hRR : RR q g) : Spec G 26 yX9_sisters cX9_sisters 8 (some .int) [rfn G 129, .int p, .int x] q (PI (PG (f_sisters g p x) q)) := by
  refine Spec.intro RX9 (by decide) rfl (Nat.le_of_ble_eq_true rfl) [some (rfn G 129), some (.int p), some (.int x), none, none, none, none, none] rfl ?_
  intro X d hd C hR
  obtain ⟨hW, hCy, h95, hN6, h94, hK, hT1, hT2, hTp, hR1, hSy, hSyJ⟩ := id hg
  obtain ⟨hM, hE, hNr, hKp, hIm, hTl, hTx, hTs, hAb, hBd, hRn, hTr⟩ := id hRR
  have hc := hW.c
  have hG : Goo (gM g) (gC g) := fun k hk => hCy k (by omega)
  refine aw_aload_0 C dX9_sisters_0 rfl ?_
  refine aw_iload_1 C dX9_sisters_1 ?_
  refine aw_cV1IE C (s_X9_isOne _ (hM.n (by omega) (by decide)) (by omega)) mf_X9_isOne mv_X9_isOne (sh_129) rfl ml_X9_114 dX9_sisters_2 (by omega) (Nat.le_of_ble_eq_true rfl) ?_
  refine aw_if_eq_b C dX9_sisters_5 (tgt := 15) (by decide)  (fun c_5 => ?_) (fun c_5 => ?_)
  · skip
    refine aw_iconst C dX9_sisters_15 k1_m1 ?_
    refine aw_iretI C hR dX9_sisters_16 ?_
    exact PG.here hRR rfl (by unfold f_sisters; rw [if_neg (fun z => c_5 z.1)])
  · skip
    refine aw_iload_2 C dX9_sisters_8 ?_
    refine aw_cS1IE C (s_X9_isQuarter _) mf_X9_isQuarter ms_X9_isQuarter ml_X9_106 dX9_sisters_9 (by omega) (Nat.le_of_ble_eq_true rfl) ?_
    refine aw_if_ne_b C dX9_sisters_12 (tgt := 17) (by decide)  (fun c_12 => ?_) (fun c_12 => ?_)
    · obtain ⟨p, hp1, hp2, rfl⟩ := inN_of c_5
      have hu : u32 (nI p) = p := nI_clamp hp2
      have hp := hW.p hp1
      obtain ⟨x, hx1, hx2, rfl⟩ := inN_of c_12
      have hux : u32 (nI x) = x := nI_clamp hx2
      refine aw_aload_0 C dX9_sisters_17 rfl ?_
      refine aw_iload_1 C dX9_sisters_18 ?_
      refine aw_iload_2 C dX9_sisters_19 ?_
      refine aw_cV2I C (s_X9_longTo p x hM hW hE hG hp1 hx1) mf_X9_longTo mv_X9_longTo (sh_129) rfl ml_X9_239 dX9_sisters_20 (by omega) (Nat.le_of_ble_eq_true rfl) (fun r_20 q_20 h_20 => ?_)
      obtain ⟨rfl, -, hM0, hE0, hF0⟩ := h_20
      have hl0 := longM_le (cts := gC g) (t := x) hW hp1
      refine aw_cS1IE C (s_X9_late _ hl0) mf_X9_late ms_X9_late ml_X9_257 dX9_sisters_23 (by omega) (Nat.le_of_ble_eq_true rfl) ?_
      refine aw_istore_3 C dX9_sisters_26 (by decide) (fun w h => by cases h <;> rfl) ?_
      refine aw_bipush C dX9_sisters_27 k2_m5 ?_
      refine aw_istore_4 C dX9_sisters_29 (by decide) (fun w h => by cases h <;> rfl) ?_
      refine aw_iconst C dX9_sisters_31 k1_0 ?_
      refine aw_istore_5 C dX9_sisters_32 (by decide) (fun w h => by cases h <;> rfl) ?_
      have L34 : ∀ (n2 a f l : Nat) (q1 : S_), a ≤ gM g 93 → gM g 93 < a + n2 → (f ≤ 77 ∨ f = 99) → l ≤ 1000 → RelR q1 (gM g) → RE q1 (gC g) → Fr SZk q q1 → sisT (gM g) (gC g) p x = sisO (gM g) (gC g) p x (gM g 93 - a) a (f, l) → AW X G (q1) 34 [some (rfn G 129), some (.int (nI p)), some (.int (nI x)), some (.int (nI l)), some (.int (l5 f)), some (.int (nI a)), none, none] [] := by
        refine nat_loop (fun a f l q1 h1 h2 hf hl hM1 hE1 hF1 hT => by omega) (fun n2 ih a f l q1 h1 h2 hf hl hM1 hE1 hF1 hT => ?_)
        refine aw_iload_5 C dX9_sisters_34 ?_
        refine aw_aload_0 C dX9_sisters_36 rfl ?_
        refine aw_g9_0 C dX9_sisters_37 fl_X9_9 ?_
        refine aw_bipush C dX9_sisters_40 k2_93 ?_
        refine aw_iald C _ (hM1.n (by omega) (by decide)) dX9_sisters_42 sh_130 rfl (by decide) ?_
        refine aw_icmp_ge_n C dX9_sisters_43 (tgt := 142) (by decide) (by omega) (by omega) (fun c_43 => ?_) (fun c_43 => ?_)
        · skip
          refine aw_iload_4 C dX9_sisters_142 ?_
          refine aw_iretI C hR dX9_sisters_144 ?_
          exact PG.same hRR rfl (by unfold f_sisters; rw [if_pos ⟨c_5, c_12⟩, hu, hux, hT, show gM g 93 - a = 0 by omega]; rfl) hF1 hM1 hE1
        · skip
          refine aw_iload_5 C dX9_sisters_46 ?_
          refine aw_iconst C dX9_sisters_48 k1_1 ?_
          refine aw_iadd_n C dX9_sisters_49  ?_
          refine aw_istore_6 C dX9_sisters_50 (by decide) (fun w h => by cases h <;> rfl) ?_
          have L52 : ∀ (n3 b f l : Nat) (q2 : S_), a + 1 ≤ b → b ≤ gM g 93 → gM g 93 < b + n3 → (f ≤ 77 ∨ f = 99) → l ≤ 1000 → RelR q2 (gM g) → RE q2 (gC g) → Fr SZk q q2 → sisT (gM g) (gC g) p x = sisO (gM g) (gC g) p x (gM g 93 - (a + 1)) (a + 1) (sisI (gM g) (gC g) p x a (gM g 93 - b) b (f, l)) → AW X G (q2) 52 [some (rfn G 129), some (.int (nI p)), some (.int (nI x)), some (.int (nI l)), some (.int (l5 f)), some (.int (nI a)), some (.int (nI b)), none] [] := by
            refine nat_loop (fun b f l q2 h3 h4 h5 hf hl hM2 hE2 hF2 hT2 => by omega) (fun n3 ih2 b f l q2 h3 h4 h5 hf hl hM2 hE2 hF2 hT2 => ?_)
            refine aw_iload_6 C dX9_sisters_52 ?_
            refine aw_aload_0 C dX9_sisters_54 rfl ?_
            refine aw_g9_0 C dX9_sisters_55 fl_X9_9 ?_
            refine aw_bipush C dX9_sisters_58 k2_93 ?_
            refine aw_iald C _ (hM2.n (by omega) (by decide)) dX9_sisters_60 sh_130 rfl (by decide) ?_
            refine aw_icmp_ge_n C dX9_sisters_61 (tgt := 136) (by decide) (by omega) (by omega) (fun c_61 => ?_) (fun c_61 => ?_)
            · skip
              refine aw_iinc_5 C dX9_sisters_136 (by decide) (fun w h => by cases h <;> rfl) (show _ + Int32.ofInt 1 = _ by rw [k1_1, nI_add]) ?_
              refine aw_goto C dX9_sisters_139 (tgt := 34) (by decide) ?_
              exact (ih (a + 1) f l q2 (by omega) (by omega) hf hl hM2 hE2 hF2 (by rw [hT2, show gM g 93 - b = 0 by omega]; rfl)).less ⟨Or.inr rfl, Or.inr rfl, Or.inr rfl, Or.inr rfl, Or.inr rfl, Or.inr rfl, Or.inl rfl, Or.inl rfl, trivial⟩
            · skip
              refine aw_aload_0 C dX9_sisters_64 rfl ?_
              refine aw_iload_5 C dX9_sisters_65 ?_
              refine aw_iload_6 C dX9_sisters_67 ?_
              refine aw_cV2IE C (s_X9_isSwap a b hM2 hW (by omega) (by omega)) mf_X9_isSwap mv_X9_isSwap (sh_129) rfl ml_X9_143 dX9_sisters_69 (by omega) (Nat.le_of_ble_eq_true rfl) ?_
              refine aw_if_eq_b C dX9_sisters_72 (tgt := 130) (by decide)  (fun c_72 => ?_) (fun c_72 => ?_)
              · skip
                refine aw_iinc_6 C dX9_sisters_130 (by decide) (fun w h => by cases h <;> rfl) (show _ + Int32.ofInt 1 = _ by rw [k1_1, nI_add]) ?_
                refine aw_goto C dX9_sisters_133 (tgt := 52) (by decide) ?_
                exact (ih2 (b + 1) f l q2 (by omega) (by omega) (by omega) hf hl hM2 hE2 hF2 (hT2.trans (congrArg _ ((sisI_s (k := gM g 93 - (b + 1)) (by omega) _).trans (congrArg _ (if_neg c_72)))))).less ⟨Or.inr rfl, Or.inr rfl, Or.inr rfl, Or.inr rfl, Or.inr rfl, Or.inr rfl, Or.inr rfl, Or.inl rfl, trivial⟩
              · skip
                refine aw_aload_0 C dX9_sisters_75 rfl ?_
                refine aw_iload_5 C dX9_sisters_76 ?_
                refine aw_iload_6 C dX9_sisters_78 ?_
                refine aw_cV2V C (s_X9_goSwap a b hM2 hW (by omega) (by omega) c_72.2.1 c_72.2.2.1) mf_X9_goSwap mv_X9_goSwap (sh_129) rfl ml_X9_147 dX9_sisters_80 (by omega) (Nat.le_of_ble_eq_true rfl) (fun q_80 h_80 => ?_)
                obtain ⟨hM3, hF3⟩ := h_80
                have hsw := swM_WF hW hSy (show a < gM g 93 by omega) (show b < gM g 93 by omega) c_72
                have hso := swM_o hW hSy (show a < gM g 93 by omega) (show b < gM g 93 by omega) c_72
                have hsn := sw_ne hW hSy (show a < gM g 93 by omega) (show b < gM g 93 by omega) c_72
                have hE3 := hE2.w hF3 (fun k j e z => by omega)
                have hp92 : p < swM (gM g) a b 92 := by rw [hso 92 (by omega)]; exact hp1
                refine aw_aload_0 C dX9_sisters_83 rfl ?_
                refine aw_iload_1 C dX9_sisters_84 ?_
                refine aw_iload_2 C dX9_sisters_85 ?_
                refine aw_cV2I C (s_X9_longTo p x hM3 hsw.1 hE3 (hG.of (hso 95 (by omega))) hp92 hx1) mf_X9_longTo mv_X9_longTo (sh_129) rfl ml_X9_239 dX9_sisters_86 (by omega) (Nat.le_of_ble_eq_true rfl) (fun r_86 q_86 h_86 => ?_)
                obtain ⟨rfl, -, hM4, hE4, hF4⟩ := h_86
                have hl4 := longM_le (cts := gC g) (t := x) hsw.1 hp92
                have hl5 := lateM_le hl4
                refine aw_cS1IE C (s_X9_late _ hl4) mf_X9_late ms_X9_late ml_X9_257 dX9_sisters_89 (by omega) (Nat.le_of_ble_eq_true rfl) ?_
                refine aw_istore_7 C dX9_sisters_92 (by decide) (fun w h => by cases h <;> rfl) ?_
                refine aw_aload_0 C dX9_sisters_94 rfl ?_
                refine aw_iload_5 C dX9_sisters_95 ?_
                refine aw_iload_6 C dX9_sisters_97 ?_
                refine aw_cV2V C (s_X9_goSwap a b hM4 hsw.1 (by rw [hso 93 (by omega)]; omega) (by rw [hso 93 (by omega)]; omega) hsn.1 hsn.2) mf_X9_goSwap mv_X9_goSwap (sh_129) rfl ml_X9_147 dX9_sisters_99 (by omega) (Nat.le_of_ble_eq_true rfl) (fun q_99 h_99 => ?_)
                obtain ⟨hM5, hF5⟩ := h_99
                rw [sw_back hW hSy (show a < gM g 93 by omega) (show b < gM g 93 by omega) c_72] at hM5
                have hE5 := hE4.w hF5 (fun k j e z => by omega)
                have hF6 : Fr SZk q q_99 := ((hF2.tr (hF3.mono (fun k j z => by unfold SZk; omega))).tr (hF4.mono SY_Z)).tr (hF5.mono (fun k j z => by unfold SZk; omega))
                refine aw_iload_7 C dX9_sisters_102 ?_
                refine aw_iload_3 C dX9_sisters_104 ?_
                refine aw_icmp_ge_n C dX9_sisters_105 (tgt := 119) (by decide) (by omega) (by omega) (fun c_105 => ?_) (fun c_105 => ?_)
                · skip
                  refine aw_iload_4 C dX9_sisters_119 ?_
                  refine aw_istore_4 C dX9_sisters_121 (by decide) (fun w h => by cases h <;> rfl) ?_
                  refine aw_iload_7 C dX9_sisters_123 ?_
                  refine aw_iload_3 C dX9_sisters_125 ?_
                  refine aw_mmin C ml_X9_260 dX9_sisters_126 (Nat.le_trans (by decide) hd) (Nat.le_of_ble_eq_true rfl) (by omega) (by omega) ?_
                  refine aw_istore_3 C dX9_sisters_129 (by decide) (fun w h => by cases h <;> rfl) ?_
                  refine aw_iinc_6 C dX9_sisters_130 (by decide) (fun w h => by cases h <;> rfl) (show _ + Int32.ofInt 1 = _ by rw [k1_1, nI_add]) ?_
                  refine aw_goto C dX9_sisters_133 (tgt := 52) (by decide) ?_
                  exact (ih2 (b + 1) f (min (lateM (longM (swM (gM g) a b) (gC g) p x)) l) q_99 (by omega) (by omega) (by omega) hf (by omega) hM5 hE5 hF6 (hT2.trans (congrArg _ ((sisI_s (k := gM g 93 - (b + 1)) (by omega) _).trans (congrArg _ ((if_pos c_72).trans (by rw [if_neg (by omega)]))))))).less ⟨Or.inr rfl, Or.inr rfl, Or.inr rfl, Or.inr rfl, Or.inr rfl, Or.inr rfl, Or.inr rfl, Or.inl rfl, trivial⟩
                · skip
                  refine aw_bipush C dX9_sisters_108 k2_10 ?_
                  refine aw_iload_5 C dX9_sisters_110 ?_
                  refine aw_imul_n C dX9_sisters_112  ?_
                  refine aw_iload_6 C dX9_sisters_113 ?_
                  refine aw_iadd_n C dX9_sisters_115  ?_
                  refine aw_goto C dX9_sisters_116 (tgt := 121) (by decide) ?_
                  refine aw_istore_4 C dX9_sisters_121 (by decide) (fun w h => by cases h <;> rfl) ?_
                  refine aw_iload_7 C dX9_sisters_123 ?_
                  refine aw_iload_3 C dX9_sisters_125 ?_
                  refine aw_mmin C ml_X9_260 dX9_sisters_126 (Nat.le_trans (by decide) hd) (Nat.le_of_ble_eq_true rfl) (by omega) (by omega) ?_
                  refine aw_istore_3 C dX9_sisters_129 (by decide) (fun w h => by cases h <;> rfl) ?_
                  refine aw_iinc_6 C dX9_sisters_130 (by decide) (fun w h => by cases h <;> rfl) (show _ + Int32.ofInt 1 = _ by rw [k1_1, nI_add]) ?_
                  refine aw_goto C dX9_sisters_133 (tgt := 52) (by decide) ?_
                  rw [show nI (10 * a + b) = l5 (10 * a + b) from (if_neg (by omega)).symm]
                  exact (ih2 (b + 1) (10 * a + b) (min (lateM (longM (swM (gM g) a b) (gC g) p x)) l) q_99 (by omega) (by omega) (by omega) (by omega) (by omega) hM5 hE5 hF6 (hT2.trans (congrArg _ ((sisI_s (k := gM g 93 - (b + 1)) (by omega) _).trans (congrArg _ ((if_pos c_72).trans (by rw [if_pos (by omega)]))))))).less ⟨Or.inr rfl, Or.inr rfl, Or.inr rfl, Or.inr rfl, Or.inr rfl, Or.inr rfl, Or.inr rfl, Or.inl rfl, trivial⟩
          exact L52 (gM g 93 + 1) (a + 1) f l q1 (by omega) (by omega) (by omega) hf hl hM1 hE1 hF1 (hT.trans (sisO_s (by omega) _))
      exact L34 (gM g 93 + 1) 0 99 (lateM (longM (gM g) (gC g) p x)) q_20 (by omega) (by omega) (Or.inr rfl) (lateM_le hl0) hM0 hE0 (hF0.mono SY_Z) rfl
    · skip
      refine aw_iconst C dX9_sisters_15 k1_m1 ?_
      refine aw_iretI C hR dX9_sisters_16 ?_
      exact PG.here hRR rfl (by unfold f_sisters; rw [if_neg (fun z => c_12 z.2)])
