theorem cs9_ij : ∀ a, a < 10 → ∀ b, b < 10 → (cs9 a = cs9 b ↔ a = b) := by decide +kernel
theorem cs9_eq {a b : Nat} (ha : a = 9 ∨ a < 5) (hb : b = 9 ∨ b < 5) : cs9 a = cs9 b ↔ a = b := cs9_ij a (by omega) b (by omega)
theorem PC.tp {q q3 : S_} {g : GS} {S2 E2 : Nat → Nat} {X2 : Nat → Nat → Int64} {v r : Int32} {fr : Int32 × GS} (h : CC q g) (hg : GOK g) (hr : r = v) (hf : fr = (v, (gM g, gK g, gJ g, gC g, gN g, gT g, S2, E2, X2, gR g, gV g))) (h1 : ∀ k j, ¬ (117 ≤ k ∧ k < 129) → gI q3 k j = gI q k j) (h2 : ∀ k j, 129 ≤ k → gL q3 k j = gL q k j) (ht : ∀ t, t < 6 → gI q3 (117 + 2 * t) 0 = cs9 (S2 t) ∧ gI q3 (117 + 2 * t) 2 = nI (E2 t) ∧ ∀ j, j < 60 → gL q3 (117 + 2 * t + 1) j = X2 t j) : PC fr q r q3 := by
  subst hf
  obtain ⟨a1, a2, a3, a4, a5, a6, a7, a8, a9⟩ := h
  refine ⟨hr, ⟨a1.t hg.1 (fun k j z1 z2 => h1 k j (by omega)), fun hk => (a2 hk).t (hg.2.2.2.2.2.1 hk).1 (fun k j z1 z2 => h1 k j (by omega)), a3.t hg.2.2.2.1 (fun k j z1 z2 z3 => h1 k j (by omega)), (h1 _ _ (by omega)).trans a4, (h1 _ _ (by omega)).trans a5, (by obtain ⟨L, z⟩ := a6; exact ⟨L, z.t (fun k j y => h1 k j (by unfold SWm at y; omega))⟩), ⟨(h1 _ _ (by omega)).trans a7.1, fun j hj => (h1 _ _ (by omega)).trans (a7.2 j hj)⟩, ht, ⟨(h1 _ _ (by omega)).trans a9.1, fun j hj h2 => (h1 _ _ (by omega)).trans (a9.2 j hj h2)⟩⟩, fun k j hk => h1 k j (by omega), h2⟩
theorem CC.act {q q2 : S_} {g : GS} {z : TR} (h : CC q g) (hg : GOK g) (hF : Fr (fun k _ => k = 97 ∨ k = 98) q q2) (hT : ATr q2 z) : CC q2 (gM g, gK g, gJ g, gC g, gN g, gT g, gS g, gE g, gX g, z.1, z.2) := by
  obtain ⟨a1, a2, a3, a4, a5, a6, a7, a8, a9⟩ := h
  have e : ∀ k j, ¬ (k = 97 ∨ k = 98) → gI q2 k j = gI q k j := hF.2
  refine ⟨a1.t hg.1 (fun k j z1 z2 => e k j (by omega)), fun hk => (a2 hk).t (hg.2.2.2.2.2.1 hk).1 (fun k j z1 z2 => e k j (by omega)), a3.t hg.2.2.2.1 (fun k j z1 z2 z3 => e k j (by omega)), (e _ _ (by omega)).trans a4, (e _ _ (by omega)).trans a5, (by obtain ⟨L, z⟩ := a6; exact ⟨L, z.t (fun k j y => e k j (by unfold SWm at y; omega))⟩), ⟨(e _ _ (by omega)).trans a7.1, fun j hj => (e _ _ (by omega)).trans (a7.2 j hj)⟩, fun t ht => ?_, hT⟩
  obtain ⟨b1, b2, b3⟩ := a8 t ht
  refine ⟨(e _ _ (by omega)).trans b1, (e _ _ (by omega)).trans b2, fun j hj => ?_⟩
  rw [← b3 j hj]
  show q2.2 _ _ = q.2 _ _
  rw [hF.1]
def Scy (k j : Nat) : Prop := k = 93 ∨ (99 ≤ k ∧ k < 117) ∨ (k = 1 ∧ j = 8) ∨ (k = 0 ∧ j = 8)
theorem CC.city {q q2 : S_} {g : GS} {M2 : Nat → Nat} {C2 : Nat → List Nat} {N2 : Nat} (h : CC q g) (hg : GOK g) (hF : Fr Scy q q2) (hR : RelW q2 1 M2) (hC : CyR q2 C2 N2) (hN : gI q2 0 8 = nI N2) (hT : gI q2 93 1 = nI 0) : CC q2 (M2, gK g, gJ g, C2, N2, [], gS g, gE g, gX g, gR g, gV g) := by
  obtain ⟨a1, a2, a3, a4, a5, a6, a7, a8, a9⟩ := h
  have e : ∀ k j, ¬ Scy k j → gI q2 k j = gI q k j := hF.2
  unfold Scy at e
  refine ⟨hR, fun hk => (a2 hk).t (hg.2.2.2.2.2.1 hk).1 (fun k j z1 z2 => e k j (by omega)), hC, hN, (e _ _ (by omega)).trans a5, (by obtain ⟨L, z⟩ := a6; exact ⟨L, z.t (fun k j y => e k j (by unfold SWm at y; omega))⟩), ⟨hT, fun j hj => absurd hj (Nat.not_lt_zero j)⟩, fun t ht => ?_, ⟨(e _ _ (by omega)).trans a9.1, fun j hj h2 => (e _ _ (by omega)).trans (a9.2 j hj h2)⟩⟩
  obtain ⟨b1, b2, b3⟩ := a8 t ht
  refine ⟨(e _ _ (by omega)).trans b1, (e _ _ (by omega)).trans b2, fun j hj => ?_⟩
  rw [← b3 j hj]
  show q2.2 _ _ = q.2 _ _
  rw [hF.1]
theorem Scy_r : ∀ k j, Scy k j → k < 129 := fun k j z => by unfold Scy at z; omega
theorem SRC_cy {c k j : Nat} (hc : 99 ≤ c ∧ c + 1 < 117) (h : SRC c k j) : Scy k j := by
  unfold SRC SRD at h
  unfold Scy
  omega
theorem s4_ok {x : Int32} (h1 : ¬ x < -1) (h2 : ¬ nI 4 < x) : x = -1 ∨ inN x 5 := (isInM (m := 4) (by decide)).mp ⟨Int32.not_lt.mp h1, Int32.not_lt.mp h2⟩
theorem s4_no {x : Int32} (h : x < -1 ∨ nI 4 < x) : ¬ (x = -1 ∨ inN x 5) := fun z => by
  have y := (isInM (m := 4) (by decide)).mpr z
  rcases h with h | h
  · exact absurd y.1 (Int32.not_le.mpr h)
  · exact absurd y.2 (Int32.not_le.mpr h)
theorem inN_61 {x : Int32} (h1 : ¬ x < 0) (h2 : x ≤ nI 60) : x = nI (u32 x) := by
  obtain ⟨j, j2, e⟩ := nI_of h1
  rw [e, show u32 (nI j) = j from nI_clamp j2]
theorem WF.cit {M : Nat → Nat} (h : WF M) {v : Nat} (hv : v ≤ 6) : WF (mu M 95 v) := by
  have e : ∀ j, j ≠ 95 → mu M 95 v j = M j := fun j hj => mu_ne hj
  have hc := h.c
  refine ⟨?_, fun b hb => ?_, fun i hi => ?_, fun r hr => ?_, fun r hr => ?_, fun r hr => ?_, fun i hi => ?_⟩
  · rw [mu_eq, e 93 (by omega), e 92 (by omega), e 94 (by omega), e 96 (by omega), e 112 (by omega), e 129 (by omega)]
    omega
  · rw [e 93 (by omega)] at hb ⊢
    have a := h.b hb
    rw [e (4 * b + 0) (by omega), e (4 * b + 1) (by omega), e (4 * b + 2) (by omega), e (4 * b + 3) (by omega)]
    exact a.2
  · rw [e 92 (by omega)] at hi
    have a := h.p hi
    rw [e (32 + 10 * i + 0) (by omega), e (32 + 10 * i + 1) (by omega), e (32 + 10 * i + 2) (by omega), e (32 + 10 * i + 3) (by omega), e (32 + 10 * i + 4) (by omega), e (32 + 10 * i + 5) (by omega), e 93 (by omega)]
    exact ⟨a.2.1, a.2.2.1, a.2.2.2.1, a.2.2.2.2.1, a.2.2.2.2.2.1, a.2.2.2.2.2.2.1, fun r hr => by rw [e _ (by omega)]; exact a.2.2.2.2.2.2.2 r hr⟩
  · rw [e 96 (by omega)] at hr
    rw [e 92 (by omega), e _ (by omega), e _ (by omega), e _ (by omega)]
    exact h.2.2.2.1 r hr
  · rw [e 112 (by omega)] at hr
    rw [e 92 (by omega), e 93 (by omega), e _ (by omega), e _ (by omega)]
    exact h.2.2.2.2.1 r hr
  · rw [e 129 (by omega)] at hr
    rw [e 92 (by omega), e _ (by omega), e _ (by omega)]
    exact h.2.2.2.2.2.1 r hr
  · rw [e _ (by omega)]
    exact h.2.2.2.2.2.2 i hi
theorem chO_out {l : List Nat} {j : Nat} (h : l.length ≤ j) : chO l j = 1000 := by
  unfold chO
  simp [List.getD, List.getElem?_eq_none h]

set_option maxRecDepth 100000 in
set_option maxHeartbeats 4000000 in
theorem s_X8_tape {G : GT} {q : S_} {g : GS} (t : Int32) (s : Int32) (n : Int32) (hg : GOK g) (hCC : CC q g) : Spec G 3 yX8_tape cX8_tape 4 (some .int) [rfn G 0, .int t, .int s, .int n] q (PI (PC (f_tape g t s n) q)) := by
  refine Spec.intro RX8 (by decide) rfl (Nat.le_of_ble_eq_true rfl) [some (rfn G 0), some (.int t), some (.int s), some (.int n)] rfl ?_
  intro X d hd C hR
  obtain ⟨hW, hCy, h95, hN6, h94, hK, hT1, hT2, hTp, hR1, hSy, hSyJ⟩ := id hg
  obtain ⟨hRw, hKw, hCyr, hNc, hKc, hQ, hTx, hTs, hAt⟩ := id hCC
  have hc := hW.c
  have hq := hCC.qs hg
  have hG : Goo (gM g) (gC g) := fun k hk => hCy k (by omega)
  refine aw_iload_1 C dX8_tape_0 ?_
  refine aw_cS1IE C (s_X8_isTape _) mf_X8_isTape ms_X8_isTape ml_X8_240 dX8_tape_1 (by omega) (Nat.le_of_ble_eq_true rfl) ?_
  refine aw_if_ne_b C dX8_tape_4 (tgt := 9) (by decide)  (fun c_4 => ?_) (fun c_4 => ?_)
  · obtain ⟨t, ht1, ht2, rfl⟩ := inN_of c_4
    have hut : u32 (nI t) = t := nI_clamp ht2
    have hts := hTs t ht1
    have htp := hTp t ht1
    refine aw_iload_2 C dX8_tape_9 ?_
    refine aw_iconst C dX8_tape_10 k1_m1 ?_
    refine aw_icmp_lt C dX8_tape_11 (tgt := 30) (by decide)  (fun c_11 => ?_) (fun c_11 => ?_)
    · skip
      refine aw_bipush C dX8_tape_30 k2_m2 ?_
      refine aw_iretI C hR dX8_tape_32 ?_
      exact PC.here hCC rfl (by unfold f_tape; rw [if_neg (fun z => z c_4), if_pos (Or.inl (s4_no (Or.inl c_11)))])
    · skip
      refine aw_iload_2 C dX8_tape_14 ?_
      refine aw_iconst C dX8_tape_15 k1_4 ?_
      refine aw_icmp_gt C dX8_tape_16 (tgt := 30) (by decide)  (fun c_16 => ?_) (fun c_16 => ?_)
      · skip
        refine aw_bipush C dX8_tape_30 k2_m2 ?_
        refine aw_iretI C hR dX8_tape_32 ?_
        exact PC.here hCC rfl (by unfold f_tape; rw [if_neg (fun z => z c_4), if_pos (Or.inl (s4_no (Or.inr c_16)))])
      · have hs5 := s4_ok c_11 c_16
        refine aw_iload_2 C dX8_tape_19 ?_
        refine aw_iconst C dX8_tape_20 k1_m1 ?_
        refine aw_icmp_eq C dX8_tape_21 (tgt := 33) (by decide)  (fun c_21 => ?_) (fun c_21 => ?_)
        · skip
          refine aw_iload_2 C dX8_tape_33 ?_
          refine aw_iconst C dX8_tape_34 k1_m1 ?_
          refine aw_icmp_eq C dX8_tape_35 (tgt := 45) (by decide)  (fun c_35 => ?_) (fun c_35 => absurd c_35 (fun z => z c_21))
          refine aw_aload_0 C dX8_tape_45 rfl ?_
          refine aw_g8_6 C dX8_tape_46 fl_X8_46 ?_
          refine aw_iload_1 C dX8_tape_49 ?_
          refine aw_tald C _ dX8_tape_50 sh_96 rfl (by omega) ?_
          refine aw_iload_2 C dX8_tape_51 ?_
          refine aw_iload_2 C dX8_tape_52 ?_
          refine aw_iconst C dX8_tape_53 k1_m1 ?_
          refine aw_icmp_ne C dX8_tape_54 (tgt := 61) (by decide)  (fun c_54 => absurd c_54 (fun z => z c_21)) (fun c_54 => ?_)
          refine aw_iconst C dX8_tape_57 k1_0 ?_
          refine aw_goto C dX8_tape_58 (tgt := 62) (by decide) ?_
          refine aw_cV2VE C (s_X4_become (117 + 2 * t) s (nI 0) (shTa ht1)) mf_X4_become mv_X4_become (shTa (by omega)).1 rfl ml_X8_270 dX8_tape_62 (by omega) (Nat.le_of_ble_eq_true rfl) ?_
          refine aw_iconst C dX8_tape_65 k1_1 ?_
          refine aw_iretI C hR dX8_tape_66 ?_
          have hFz : ∀ k j, ¬ (117 ≤ k ∧ k < 129) → gI (zrL (sI (sI q (117 + 2 * t) 0 s) (117 + 2 * t) 2 (nI 0)) (117 + 2 * t + 1) 0 60) k j = gI q k j := fun k j z => by rw [gI_zrL, gI_sI, if_neg (by omega), gI_sI, if_neg (by omega)]
          refine PC.tp (S2 := updN (gS g) t (sN s)) (E2 := updN (gE g) t 0) (X2 := updN (gX g) t (fun _ => 0)) hCC hg rfl (by unfold f_tape; rw [if_neg (fun z => z c_4), if_neg (fun z => z.elim (fun y => y (Or.inl c_21)) (fun y => y.1 c_21)), if_neg (fun z => z.1 c_21), hut, if_pos c_21]) hFz (fun k j hk => by rw [gL_zrL, if_neg (by omega)]; rfl) (fun t2 ht2 => ?_)
          by_cases e : t2 = t
          · subst e
            rw [updN_eq, updN_eq, updN_eq, gI_zrL, gI_zrL, gI_sI, if_neg (by omega), gI_sI, if_pos ⟨rfl, rfl⟩, gI_sI, if_pos ⟨rfl, rfl⟩]
            exact ⟨sN_cs (Or.inl c_21), rfl, fun j hj => by rw [gL_zrL, if_pos ⟨rfl, by omega, by omega⟩]⟩
          · rw [updN_ne e, updN_ne e, updN_ne e, gI_zrL, gI_zrL, gI_sI, if_neg (by omega), gI_sI, if_neg (by omega), gI_sI, if_neg (by omega), gI_sI, if_neg (by omega)]
            exact ⟨(hTs t2 ht2).1, (hTs t2 ht2).2.1, fun j hj => by rw [gL_zrL, if_neg (by omega)]; exact (hTs t2 ht2).2.2 j hj⟩
        · skip
          refine aw_iload_3 C dX8_tape_24 ?_
          refine aw_bipush C dX8_tape_25 k2_60 ?_
          refine aw_icmp_le C dX8_tape_27 (tgt := 33) (by decide)  (fun c_27 => ?_) (fun c_27 => ?_)
          · skip
            refine aw_iload_2 C dX8_tape_33 ?_
            refine aw_iconst C dX8_tape_34 k1_m1 ?_
            refine aw_icmp_eq C dX8_tape_35 (tgt := 45) (by decide)  (fun c_35 => absurd c_35 c_21) (fun c_35 => ?_)
            refine aw_iload_3 C dX8_tape_38 ?_
            refine aw_if_ge C dX8_tape_39 (tgt := 45) (by decide)  (fun c_39 => ?_) (fun c_39 => ?_)
            · skip
              refine aw_aload_0 C dX8_tape_45 rfl ?_
              refine aw_g8_6 C dX8_tape_46 fl_X8_46 ?_
              refine aw_iload_1 C dX8_tape_49 ?_
              refine aw_tald C _ dX8_tape_50 sh_96 rfl (by omega) ?_
              refine aw_iload_2 C dX8_tape_51 ?_
              refine aw_iload_2 C dX8_tape_52 ?_
              refine aw_iconst C dX8_tape_53 k1_m1 ?_
              refine aw_icmp_ne C dX8_tape_54 (tgt := 61) (by decide)  (fun c_54 => ?_) (fun c_54 => absurd c_54 c_21)
              refine aw_iload_3 C dX8_tape_61 ?_
              refine aw_cV2VE C (s_X4_become (117 + 2 * t) s n (shTa ht1)) mf_X4_become mv_X4_become (shTa (by omega)).1 rfl ml_X8_270 dX8_tape_62 (by omega) (Nat.le_of_ble_eq_true rfl) ?_
              refine aw_iconst C dX8_tape_65 k1_1 ?_
              refine aw_iretI C hR dX8_tape_66 ?_
              have hFz : ∀ k j, ¬ (117 ≤ k ∧ k < 129) → gI (zrL (sI (sI q (117 + 2 * t) 0 s) (117 + 2 * t) 2 n) (117 + 2 * t + 1) 0 60) k j = gI q k j := fun k j z => by rw [gI_zrL, gI_sI, if_neg (by omega), gI_sI, if_neg (by omega)]
              refine PC.tp (S2 := updN (gS g) t (sN s)) (E2 := updN (gE g) t (u32 n)) (X2 := updN (gX g) t (fun _ => 0)) hCC hg rfl (by unfold f_tape; rw [if_neg (fun z => z c_4), if_neg (fun z => z.elim (fun y => y hs5) (fun y => y.2 c_27)), if_neg (fun z => Int32.not_lt.mpr c_39 z.2), hut, if_neg c_21]) hFz (fun k j hk => by rw [gL_zrL, if_neg (by omega)]; rfl) (fun t2 ht2 => ?_)
              by_cases e : t2 = t
              · subst e
                rw [updN_eq, updN_eq, updN_eq, gI_zrL, gI_zrL, gI_sI, if_neg (by omega), gI_sI, if_pos ⟨rfl, rfl⟩, gI_sI, if_pos ⟨rfl, rfl⟩]
                exact ⟨sN_cs hs5, inN_61 (Int32.not_lt.mpr c_39) c_27, fun j hj => by rw [gL_zrL, if_pos ⟨rfl, by omega, by omega⟩]⟩
              · rw [updN_ne e, updN_ne e, updN_ne e, gI_zrL, gI_zrL, gI_sI, if_neg (by omega), gI_sI, if_neg (by omega), gI_sI, if_neg (by omega), gI_sI, if_neg (by omega)]
                exact ⟨(hTs t2 ht2).1, (hTs t2 ht2).2.1, fun j hj => by rw [gL_zrL, if_neg (by omega)]; exact (hTs t2 ht2).2.2 j hj⟩
            · skip
              refine aw_bipush C dX8_tape_42 k2_m14 ?_
              refine aw_iretI C hR dX8_tape_44 ?_
              exact PC.here hCC rfl (by unfold f_tape; rw [if_neg (fun z => z c_4), if_neg (fun z => z.elim (fun y => y hs5) (fun y => y.2 c_27)), if_pos ⟨c_21, Int32.not_le.mp c_39⟩])
          · skip
            refine aw_bipush C dX8_tape_30 k2_m2 ?_
            refine aw_iretI C hR dX8_tape_32 ?_
            exact PC.here hCC rfl (by unfold f_tape; rw [if_neg (fun z => z c_4), if_pos (Or.inr ⟨c_21, c_27⟩)])
  · skip
    refine aw_iconst C dX8_tape_7 k1_m1 ?_
    refine aw_iretI C hR dX8_tape_8 ?_
    exact PC.here hCC rfl (by unfold f_tape; rw [if_pos c_4])

set_option maxRecDepth 100000 in
set_option maxHeartbeats 4000000 in
theorem s_X8_item {G : GT} {q : S_} {g : GS} (t : Int32) (i : Int32) (v : Int64) (hg : GOK g) (hCC : CC q g) : Spec G 2 yX8_item cX8_item 6 (some .int) [rfn G 0, .int t, .int i, .long v] q (PI (PC (f_item g t i v) q)) := by
  refine Spec.intro RX8 (by decide) rfl (Nat.le_of_ble_eq_true rfl) [some (rfn G 0), some (.int t), some (.int i), some (.long v), none, none] rfl ?_
  intro X d hd C hR
  obtain ⟨hW, hCy, h95, hN6, h94, hK, hT1, hT2, hTp, hR1, hSy, hSyJ⟩ := id hg
  obtain ⟨hRw, hKw, hCyr, hNc, hKc, hQ, hTx, hTs, hAt⟩ := id hCC
  have hc := hW.c
  have hq := hCC.qs hg
  have hG : Goo (gM g) (gC g) := fun k hk => hCy k (by omega)
  refine aw_iload_1 C dX8_item_0 ?_
  refine aw_cS1IE C (s_X8_isTape _) mf_X8_isTape ms_X8_isTape ml_X8_240 dX8_item_1 (by omega) (Nat.le_of_ble_eq_true rfl) ?_
  refine aw_if_ne_b C dX8_item_4 (tgt := 9) (by decide)  (fun c_4 => ?_) (fun c_4 => ?_)
  · obtain ⟨t, ht1, ht2, rfl⟩ := inN_of c_4
    have hut : u32 (nI t) = t := nI_clamp ht2
    have hts := hTs t ht1
    have htp := hTp t ht1
    refine aw_aload_0 C dX8_item_9 rfl ?_
    refine aw_g8_6 C dX8_item_10 fl_X8_46 ?_
    refine aw_iload_1 C dX8_item_13 ?_
    refine aw_tald C _ dX8_item_14 sh_96 rfl (by omega) ?_
    refine aw_astore_5 C dX8_item_15 (by decide) (fun w h => by cases h <;> rfl) rfl ?_
    refine aw_aload_5 C dX8_item_17 rfl ?_
    refine aw_g4_0 C hts.1 dX8_item_19 (shTa (by omega)).1 fl_X8_243 ?_
    refine aw_iconst C dX8_item_22 k1_m1 ?_
    refine aw_icmp_ne C dX8_item_23 (tgt := 29) (by decide)  (fun c_23 => ?_) (fun c_23 => ?_)
    · have h9 : ¬ gS g t = 9 := fun z => c_23 ((cs9_m htp.1).mpr z)
      refine aw_aload_5 C dX8_item_29 rfl ?_
      refine aw_iload_2 C dX8_item_31 ?_
      refine aw_cV1IE C (s_X4_hasPlace _ i (shTa ht1) hts.2.1 htp.2.1) mf_X4_hasPlace mv_X4_hasPlace (shTa (by omega)).1 rfl ml_X8_246 dX8_item_32 (by omega) (Nat.le_of_ble_eq_true rfl) ?_
      refine aw_if_ne_b C dX8_item_35 (tgt := 41) (by decide)  (fun c_35 => ?_) (fun c_35 => ?_)
      · obtain ⟨i, hi1, hi2, rfl⟩ := inN_of c_35
        have hui : u32 (nI i) = i := nI_clamp hi2
        refine aw_aload_5 C dX8_item_41 rfl ?_
        refine aw_g4_1 C dX8_item_43 (shTa (by omega)).1 fl_X8_249 ?_
        refine aw_iload_2 C dX8_item_46 ?_
        refine aw_aload_5 C dX8_item_47 rfl ?_
        refine aw_lload_3 C dX8_item_49 ?_
        refine aw_cV1LE C (s_X4_asItem _ v (shTa ht1) hts.1 (by have := htp.1; omega)) mf_X4_asItem mv_X4_asItem (shTa (by omega)).1 rfl ml_X8_273 dX8_item_50 (by omega) (Nat.le_of_ble_eq_true rfl) ?_
        refine aw_last C _ dX8_item_53 (shTa (by omega)).2 rfl (by have := htp.2.1; omega) ?_
        refine aw_iconst C dX8_item_54 k1_1 ?_
        refine aw_iretI C hR dX8_item_55 ?_
        refine PC.tp (S2 := gS g) (E2 := gE g) (X2 := updN (gX g) t (updN (gX g t) i (asIt (gS g t) v))) hCC hg rfl (by unfold f_item; rw [if_neg (fun z => z c_4), hut, if_neg h9, if_neg (fun z => z c_35), hui]) (fun k j z => by rw [gI_sL]) (fun k j hk => by rw [gL_sL, if_neg (by omega)]) (fun t2 ht2 => ?_)
        rw [gI_sL, gI_sL]
        refine ⟨(hTs t2 ht2).1, (hTs t2 ht2).2.1, fun j hj => ?_⟩
        rw [gL_sL]
        by_cases e : t2 = t
        · subst e
          rw [updN_eq]
          by_cases e2 : j = i
          · rw [if_pos ⟨rfl, e2⟩, e2, updN_eq]
          · rw [if_neg (fun z => e2 z.2), updN_ne e2]
            exact hts.2.2 j hj
        · rw [if_neg (by omega), updN_ne e]
          exact (hTs t2 ht2).2.2 j hj
      · skip
        refine aw_bipush C dX8_item_38 k2_m13 ?_
        refine aw_iretI C hR dX8_item_40 ?_
        exact PC.here hCC rfl (by unfold f_item; rw [if_neg (fun z => z c_4), hut, if_neg h9, if_pos c_35])
    · have h9 : gS g t = 9 := (cs9_m htp.1).mp c_23
      refine aw_bipush C dX8_item_26 k2_m11 ?_
      refine aw_iretI C hR dX8_item_28 ?_
      exact PC.here hCC rfl (by unfold f_item; rw [if_neg (fun z => z c_4), hut, if_pos h9])
  · skip
    refine aw_iconst C dX8_item_7 k1_m1 ?_
    refine aw_iretI C hR dX8_item_8 ?_
    exact PC.here hCC rfl (by unfold f_item; rw [if_pos c_4])

set_option maxRecDepth 100000 in
set_option maxHeartbeats 4000000 in
theorem s_X8_read {G : GT} {q : S_} {g : GS} (t i : Int32) (hg : GOK g) (hCC : CC q g) : Spec G 2 yX8_read cX8_read 3 (some .long) [rfn G 0, .int t, .int i] q (PL (PCl (f_read g t i) q)) := by
  refine Spec.intro RX8 (by decide) rfl (Nat.le_of_ble_eq_true rfl) [some (rfn G 0), some (.int t), some (.int i)] rfl ?_
  intro X d hd C hR
  obtain ⟨hW, hCy, h95, hN6, h94, hK, hT1, hT2, hTp, hR1, hSy, hSyJ⟩ := id hg
  obtain ⟨hRw, hKw, hCyr, hNc, hKc, hQ, hTx, hTs, hAt⟩ := id hCC
  have hc := hW.c
  have hq := hCC.qs hg
  have hG : Goo (gM g) (gC g) := fun k hk => hCy k (by omega)
  refine aw_iload_1 C dX8_read_0 ?_
  refine aw_cS1IE C (s_X8_isTape _) mf_X8_isTape ms_X8_isTape ml_X8_240 dX8_read_1 (by omega) (Nat.le_of_ble_eq_true rfl) ?_
  refine aw_if_eq_b C dX8_read_4 (tgt := 34) (by decide)  (fun c_4 => ?_) (fun c_4 => ?_)
  · skip
    refine aw_ldc2 C dX8_read_34 kc_X8_216 ?_
    refine aw_lretL C hR dX8_read_37 ?_
    exact PCl.here hCC rfl (by unfold f_read; rw [if_neg (fun z => c_4 z.1)]; rfl)
  · obtain ⟨t, ht1, ht2, rfl⟩ := inN_of c_4
    have hut : u32 (nI t) = t := nI_clamp ht2
    have hts := hTs t ht1
    have htp := hTp t ht1
    refine aw_aload_0 C dX8_read_7 rfl ?_
    refine aw_g8_6 C dX8_read_8 fl_X8_46 ?_
    refine aw_iload_1 C dX8_read_11 ?_
    refine aw_tald C _ dX8_read_12 sh_96 rfl (by omega) ?_
    refine aw_iload_2 C dX8_read_13 ?_
    refine aw_cV1IE C (s_X4_hasPlace _ i (shTa ht1) hts.2.1 htp.2.1) mf_X4_hasPlace mv_X4_hasPlace (shTa (by omega)).1 rfl ml_X8_246 dX8_read_14 (by omega) (Nat.le_of_ble_eq_true rfl) ?_
    refine aw_if_eq_b C dX8_read_17 (tgt := 34) (by decide)  (fun c_17 => ?_) (fun c_17 => ?_)
    · skip
      refine aw_ldc2 C dX8_read_34 kc_X8_216 ?_
      refine aw_lretL C hR dX8_read_37 ?_
      exact PCl.here hCC rfl (by unfold f_read; rw [if_neg (fun z => c_17 (by rw [hut] at z; exact z.2))]; rfl)
    · obtain ⟨i, hi1, hi2, rfl⟩ := inN_of c_17
      have hui : u32 (nI i) = i := nI_clamp hi2
      refine aw_aload_0 C dX8_read_20 rfl ?_
      refine aw_g8_6 C dX8_read_21 fl_X8_46 ?_
      refine aw_iload_1 C dX8_read_24 ?_
      refine aw_tald C _ dX8_read_25 sh_96 rfl (by omega) ?_
      refine aw_g4_1 C dX8_read_26 (shTa (by omega)).1 fl_X8_249 ?_
      refine aw_iload_2 C dX8_read_29 ?_
      refine aw_lald C _ dX8_read_30 (shTa (by omega)).2 rfl (by have := htp.2.1; omega) ?_
      refine aw_goto C dX8_read_31 (tgt := 37) (by decide) ?_
      refine aw_lretL C hR dX8_read_37 ?_
      exact PCl.here hCC (hts.2.2 i (by have := htp.2.1; omega)) (by unfold f_read; rw [hut, if_pos ⟨c_4, c_17⟩, hui])

set_option maxRecDepth 100000 in
set_option maxHeartbeats 4000000 in
theorem s_X8_shift {G : GT} {q : S_} {g : GS} (t : Int32) (i : Int32) (o : Int32) (j : Int32) (n : Int32) (hg : GOK g) (hCC : CC q g) : Spec G 2 yX8_shift cX8_shift 8 (some .int) [rfn G 0, .int t, .int i, .int o, .int j, .int n] q (PI (PC (f_shift g t i o j n) q)) := by
  refine Spec.intro RX8 (by decide) rfl (Nat.le_of_ble_eq_true rfl) [some (rfn G 0), some (.int t), some (.int i), some (.int o), some (.int j), some (.int n), none, none] rfl ?_
  intro X d hd C hR
  obtain ⟨hW, hCy, h95, hN6, h94, hK, hT1, hT2, hTp, hR1, hSy, hSyJ⟩ := id hg
  obtain ⟨hRw, hKw, hCyr, hNc, hKc, hQ, hTx, hTs, hAt⟩ := id hCC
  have hc := hW.c
  have hq := hCC.qs hg
  have hG : Goo (gM g) (gC g) := fun k hk => hCy k (by omega)
  refine aw_iload_1 C dX8_shift_0 ?_
  refine aw_cS1IE C (s_X8_isTape _) mf_X8_isTape ms_X8_isTape ml_X8_240 dX8_shift_1 (by omega) (Nat.le_of_ble_eq_true rfl) ?_
  refine aw_if_eq_b C dX8_shift_4 (tgt := 14) (by decide)  (fun c_4 => ?_) (fun c_4 => ?_)
  · skip
    refine aw_iconst C dX8_shift_14 k1_m1 ?_
    refine aw_iretI C hR dX8_shift_15 ?_
    exact PC.here hCC rfl (by unfold f_shift; rw [if_pos (fun z => c_4 z.1)])
  · obtain ⟨t, ht1, ht2, rfl⟩ := inN_of c_4
    have hut : u32 (nI t) = t := nI_clamp ht2
    have hts := hTs t ht1
    have htp := hTp t ht1
    refine aw_iload_3 C dX8_shift_7 ?_
    refine aw_cS1IE C (s_X8_isTape _) mf_X8_isTape ms_X8_isTape ml_X8_240 dX8_shift_8 (by omega) (Nat.le_of_ble_eq_true rfl) ?_
    refine aw_if_ne_b C dX8_shift_11 (tgt := 16) (by decide)  (fun c_11 => ?_) (fun c_11 => ?_)
    · obtain ⟨o, ho1, ho2, rfl⟩ := inN_of c_11
      have huo : u32 (nI o) = o := nI_clamp ho2
      have hos := hTs o ho1
      have hop := hTp o ho1
      refine aw_aload_0 C dX8_shift_16 rfl ?_
      refine aw_g8_6 C dX8_shift_17 fl_X8_46 ?_
      refine aw_iload_1 C dX8_shift_20 ?_
      refine aw_tald C _ dX8_shift_21 sh_96 rfl (by omega) ?_
      refine aw_astore_6 C dX8_shift_22 (by decide) (fun w h => by cases h <;> rfl) rfl ?_
      refine aw_aload_0 C dX8_shift_24 rfl ?_
      refine aw_g8_6 C dX8_shift_25 fl_X8_46 ?_
      refine aw_iload_3 C dX8_shift_28 ?_
      refine aw_tald C _ dX8_shift_29 sh_96 rfl (by omega) ?_
      refine aw_astore_7 C dX8_shift_30 (by decide) (fun w h => by cases h <;> rfl) rfl ?_
      refine aw_aload_6 C dX8_shift_32 rfl ?_
      refine aw_g4_0 C hts.1 dX8_shift_34 (shTa (by omega)).1 fl_X8_243 ?_
      refine aw_iconst C dX8_shift_37 k1_m1 ?_
      refine aw_icmp_eq C dX8_shift_38 (tgt := 50) (by decide)  (fun c_38 => ?_) (fun c_38 => ?_)
      · have h9 : gS g t = 9 := (cs9_m htp.1).mp c_38
        refine aw_bipush C dX8_shift_50 k2_m11 ?_
        refine aw_iretI C hR dX8_shift_52 ?_
        exact PC.here hCC rfl (by unfold f_shift; rw [if_neg (fun z => z ⟨c_4, c_11⟩), hut, huo, if_pos (Or.inl h9)])
      · have h9 : ¬ gS g t = 9 := fun z => c_38 ((cs9_m htp.1).mpr z)
        refine aw_aload_7 C dX8_shift_41 rfl ?_
        refine aw_g4_0 C hos.1 dX8_shift_43 (shTa (by omega)).1 fl_X8_243 ?_
        refine aw_iconst C dX8_shift_46 k1_m1 ?_
        refine aw_icmp_ne C dX8_shift_47 (tgt := 53) (by decide)  (fun c_47 => ?_) (fun c_47 => ?_)
        · have h8 : ¬ gS g o = 9 := fun z => c_47 ((cs9_m hop.1).mpr z)
          refine aw_aload_6 C dX8_shift_53 rfl ?_
          refine aw_g4_0 C hts.1 dX8_shift_55 (shTa (by omega)).1 fl_X8_243 ?_
          refine aw_aload_7 C dX8_shift_58 rfl ?_
          refine aw_g4_0 C hos.1 dX8_shift_60 (shTa (by omega)).1 fl_X8_243 ?_
          refine aw_icmp_eq C dX8_shift_63 (tgt := 69) (by decide)  (fun c_63 => ?_) (fun c_63 => ?_)
          · have h7 : gS g t = gS g o := (cs9_eq htp.1 hop.1).mp c_63
            refine aw_aload_6 C dX8_shift_69 rfl ?_
            refine aw_iload_2 C dX8_shift_71 ?_
            refine aw_iload_5 C dX8_shift_72 ?_
            refine aw_cV2IE C (s_X4_hasPart _ i n (shTa ht1) hts.2.1 htp.2.1) mf_X4_hasPart mv_X4_hasPart (shTa (by omega)).1 rfl ml_X8_277 dX8_shift_74 (by omega) (Nat.le_of_ble_eq_true rfl) ?_
            refine aw_if_eq_b C dX8_shift_77 (tgt := 92) (by decide)  (fun c_77 => ?_) (fun c_77 => ?_)
            · skip
              refine aw_bipush C dX8_shift_92 k2_m13 ?_
              refine aw_iretI C hR dX8_shift_94 ?_
              exact PC.here hCC rfl (by unfold f_shift; rw [if_neg (fun z => z ⟨c_4, c_11⟩), hut, huo, if_neg (fun z => z.elim h9 h8), if_neg (fun z => z h7), if_pos (fun z => c_77 z.1)])
            · skip
              refine aw_aload_7 C dX8_shift_80 rfl ?_
              refine aw_iload_4 C dX8_shift_82 ?_
              refine aw_iload_5 C dX8_shift_84 ?_
              refine aw_cV2IE C (s_X4_hasPart _ j n (shTa ho1) hos.2.1 hop.2.1) mf_X4_hasPart mv_X4_hasPart (shTa (by omega)).1 rfl ml_X8_277 dX8_shift_86 (by omega) (Nat.le_of_ble_eq_true rfl) ?_
              refine aw_if_ne_b C dX8_shift_89 (tgt := 95) (by decide)  (fun c_89 => ?_) (fun c_89 => ?_)
              · skip
                have hsh := And.intro c_77 c_89
                obtain ⟨i, hi1, hi2, rfl⟩ := inN_of c_77.1
                obtain ⟨j, hj1, hj2, rfl⟩ := inN_of c_89.1
                obtain ⟨n, hn1, hn2, rfl⟩ := inN_of c_77.2
                have hui : u32 (nI i) = i := nI_clamp hi2
                have huj : u32 (nI j) = j := nI_clamp hj2
                have hun : u32 (nI n) = n := nI_clamp hn2
                have hn3 := (inN_iff hn2).mp c_89.2
                have hp1 := htp.2.1
                have hp2 := hop.2.1
                rw [hui] at hn1
                rw [huj] at hn3
                refine aw_aload_6 C dX8_shift_95 rfl ?_
                refine aw_g4_1 C dX8_shift_97 (shTa (by omega)).1 fl_X8_249 ?_
                refine aw_iload_2 C dX8_shift_100 ?_
                refine aw_aload_7 C dX8_shift_101 rfl ?_
                refine aw_g4_1 C dX8_shift_103 (shTa (by omega)).1 fl_X8_249 ?_
                refine aw_iload_4 C dX8_shift_106 ?_
                refine aw_iload_5 C dX8_shift_108 ?_
                refine aw_copyL C arc_X8 dX8_shift_110 (by omega) (Nat.le_of_ble_eq_true rfl) (shTa ht1).2 (shTa ho1).2 (by omega) (by omega) ?_
                refine aw_iload_5 C dX8_shift_113 ?_
                refine aw_iretI C hR dX8_shift_115 ?_
                refine PC.tp (S2 := gS g) (E2 := gE g) (X2 := updN (gX g) o (fun c => if j ≤ c ∧ c < j + n then gX g t (i + (c - j)) else gX g o c)) hCC hg rfl (by unfold f_shift; rw [if_neg (fun z => z ⟨c_4, c_11⟩), hut, huo, if_neg (fun z => z.elim h9 h8), if_neg (fun z => z h7), if_neg (fun z => z hsh), hui, huj, hun]) (fun k c z => by rw [gI_cpL]) (fun k c hk => by rw [gL_cpL, if_neg (by omega)]) (fun t2 ht2 => ?_)
                rw [gI_cpL, gI_cpL]
                refine ⟨(hTs t2 ht2).1, (hTs t2 ht2).2.1, fun c hc => ?_⟩
                rw [gL_cpL]
                by_cases e : t2 = o
                · subst e
                  rw [updN_eq]
                  by_cases e2 : j ≤ c ∧ c < j + n
                  · rw [if_pos ⟨rfl, e2⟩, if_pos e2]
                    exact hts.2.2 _ (by omega)
                  · rw [if_neg (fun z => e2 z.2), if_neg e2]
                    exact hos.2.2 c hc
                · rw [if_neg (by omega), updN_ne e]
                  exact (hTs t2 ht2).2.2 c hc
              · skip
                refine aw_bipush C dX8_shift_92 k2_m13 ?_
                refine aw_iretI C hR dX8_shift_94 ?_
                exact PC.here hCC rfl (by unfold f_shift; rw [if_neg (fun z => z ⟨c_4, c_11⟩), hut, huo, if_neg (fun z => z.elim h9 h8), if_neg (fun z => z h7), if_pos (fun z => c_89 z.2)])
          · have h7 : ¬ gS g t = gS g o := fun z => c_63 ((cs9_eq htp.1 hop.1).mpr z)
            refine aw_bipush C dX8_shift_66 k2_m12 ?_
            refine aw_iretI C hR dX8_shift_68 ?_
            exact PC.here hCC rfl (by unfold f_shift; rw [if_neg (fun z => z ⟨c_4, c_11⟩), hut, huo, if_neg (fun z => z.elim h9 h8), if_pos h7])
        · have h8 : gS g o = 9 := (cs9_m hop.1).mp c_47
          refine aw_bipush C dX8_shift_50 k2_m11 ?_
          refine aw_iretI C hR dX8_shift_52 ?_
          exact PC.here hCC rfl (by unfold f_shift; rw [if_neg (fun z => z ⟨c_4, c_11⟩), hut, huo, if_pos (Or.inr h8)])
    · skip
      refine aw_iconst C dX8_shift_14 k1_m1 ?_
      refine aw_iretI C hR dX8_shift_15 ?_
      exact PC.here hCC rfl (by unfold f_shift; rw [if_pos (fun z => c_11 z.2)])

set_option maxRecDepth 100000 in
set_option maxHeartbeats 4000000 in
theorem s_X8_judge {G : GT} {q : S_} {g : GS} (t : Int32) (i : Int32) (hg : GOK g) (hCC : CC q g) : Spec G 2 yX8_judge cX8_judge 5 (some .int) [rfn G 0, .int t, .int i] q (PI (PC (f_judge g t i) q)) := by
  refine Spec.intro RX8 (by decide) rfl (Nat.le_of_ble_eq_true rfl) [some (rfn G 0), some (.int t), some (.int i), none, none] rfl ?_
  intro X d hd C hR
  obtain ⟨hW, hCy, h95, hN6, h94, hK, hT1, hT2, hTp, hR1, hSy, hSyJ⟩ := id hg
  obtain ⟨hRw, hKw, hCyr, hNc, hKc, hQ, hTx, hTs, hAt⟩ := id hCC
  have hc := hW.c
  have hq := hCC.qs hg
  have hG : Goo (gM g) (gC g) := fun k hk => hCy k (by omega)
  refine aw_iload_1 C dX8_judge_0 ?_
  refine aw_cS1IE C (s_X8_isTape _) mf_X8_isTape ms_X8_isTape ml_X8_240 dX8_judge_1 (by omega) (Nat.le_of_ble_eq_true rfl) ?_
  refine aw_if_ne_b C dX8_judge_4 (tgt := 9) (by decide)  (fun c_4 => ?_) (fun c_4 => ?_)
  · obtain ⟨t, ht1, ht2, rfl⟩ := inN_of c_4
    have hut : u32 (nI t) = t := nI_clamp ht2
    have hts := hTs t ht1
    have htp := hTp t ht1
    refine aw_aload_0 C dX8_judge_9 rfl ?_
    refine aw_g8_6 C dX8_judge_10 fl_X8_46 ?_
    refine aw_iload_1 C dX8_judge_13 ?_
    refine aw_tald C _ dX8_judge_14 sh_96 rfl (by omega) ?_
    refine aw_astore_3 C dX8_judge_15 (by decide) (fun w h => by cases h <;> rfl) rfl ?_
    refine aw_aload_3 C dX8_judge_16 rfl ?_
    refine aw_g4_0 C hts.1 dX8_judge_17 (shTa (by omega)).1 fl_X8_243 ?_
    refine aw_iconst C dX8_judge_20 k1_1 ?_
    refine aw_icmp_eq C dX8_judge_21 (tgt := 35) (by decide)  (fun c_21 => ?_) (fun c_21 => ?_)
    · have hS : ¬ (gS g t ≠ 9 ∧ gS g t ≠ 1) := fun z => z.2 ((cs9_eq htp.1 (Or.inr (by decide : 1 < 5))).mp c_21)
      refine aw_aload_0 C dX8_judge_35 rfl ?_
      refine aw_g8_0 C dX8_judge_36 fl_X8_14 ?_
      refine aw_g7_5 C hRw.2.2.1.1 dX8_judge_39 (shW0 isW1) fl_X8_222 ?_
      refine aw_if_ne_n C dX8_judge_42 (tgt := 48) (by decide) (by omega) (fun c_42 => ?_) (fun c_42 => ?_)
      · skip
        refine aw_iconst C dX8_judge_48 k1_0 ?_
        refine aw_istore_4 C dX8_judge_49 (by decide) (fun w h => by cases h <;> rfl) ?_
        have L51 : ∀ (n2 k : Nat), k ≤ gM g 92 → gM g 92 < k + n2 → judF (gM g) (gX g t) (gE g t) i (gM g 92) 0 = judF (gM g) (gX g t) (gE g t) i (gM g 92 - k) k → AW X G (q) 51 [some (rfn G 0), some (.int (nI t)), some (.int i), some (rfn G (117 + 2 * t)), some (.int (nI k))] [] := by
          refine nat_loop (fun k h1 h2 hJ => by omega) (fun n2 ih k h1 h2 hJ => ?_)
          refine aw_iload_4 C dX8_judge_51 ?_
          refine aw_aload_0 C dX8_judge_53 rfl ?_
          refine aw_g8_0 C dX8_judge_54 fl_X8_14 ?_
          refine aw_g7_5 C hRw.2.2.1.1 dX8_judge_57 (shW0 isW1) fl_X8_222 ?_
          refine aw_icmp_ge_n C dX8_judge_60 (tgt := 124) (by decide) (by omega) (by omega) (fun c_60 => ?_) (fun c_60 => ?_)
          · skip
            refine aw_bipush C dX8_judge_124 k2_m5 ?_
            refine aw_iretI C hR dX8_judge_126 ?_
            exact PC.here hCC rfl (by unfold f_judge; rw [if_neg (fun z => z c_4), hut, if_neg hS, hJ, show gM g 92 - k = 0 by omega]; rfl)
          · have hJ2 := hJ.trans ((congrArg (fun m => judF (gM g) (gX g t) (gE g t) i m k) (show gM g 92 - k = (gM g 92 - (k + 1)) + 1 from by omega)).trans (judF_s (gM g) (gX g t) (gE g t) i _ k))
            have hph := hW.half (show k < gM g 92 by omega)
            have hkk : k < gM g 92 := by omega
            have htp2 := htp.2.1
            refine aw_aload_3 C dX8_judge_63 rfl ?_
            refine aw_iload_2 C dX8_judge_64 ?_
            refine aw_cV1IE C (s_X4_hasPlace _ i (shTa ht1) hts.2.1 htp.2.1) mf_X4_hasPlace mv_X4_hasPlace (shTa (by omega)).1 rfl ml_X8_246 dX8_judge_65 (by omega) (Nat.le_of_ble_eq_true rfl) ?_
            refine aw_if_eq_b C dX8_judge_68 (tgt := 82) (by decide)  (fun c_68 => ?_) (fun c_68 => ?_)
            · have hJ3 := hJ2.trans (if_pos (fun z => c_68 ⟨z.1, by have z2 : u32 i < gE g t - k := z.2; show u32 i < gE g t; omega⟩))
              refine aw_bipush C dX8_judge_82 k2_100 ?_
              refine aw_iload_4 C dX8_judge_84 ?_
              refine aw_iadd_n C dX8_judge_86  ?_
              refine aw_iretI C hR dX8_judge_87 ?_
              exact PC.here hCC (l5_n (by omega)).symm (by unfold f_judge; rw [if_neg (fun z => z c_4), hut, if_neg hS, hJ3])
            · obtain ⟨a, ha1, ha2, rfl⟩ := inN_of c_68
              have hua : u32 (nI a) = a := nI_clamp ha2
              refine aw_aload_3 C dX8_judge_71 rfl ?_
              refine aw_iload_2 C dX8_judge_72 ?_
              refine aw_iload_4 C dX8_judge_73 ?_
              refine aw_iadd_n C dX8_judge_75  ?_
              refine aw_cV1IE C (s_X4_hasPlace _ _ (shTa ht1) hts.2.1 htp.2.1) mf_X4_hasPlace mv_X4_hasPlace (shTa (by omega)).1 rfl ml_X8_246 dX8_judge_76 (by omega) (Nat.le_of_ble_eq_true rfl) ?_
              refine aw_if_ne_b C dX8_judge_79 (tgt := 88) (by decide)  (fun c_79 => ?_) (fun c_79 => ?_)
              · have c79 := (inN_iff (by omega)).mp c_79
                rw [if_neg (fun z => z (inN_nI (show a < gE g t - k by omega) ha2)), hua] at hJ2
                refine aw_aload_3 C dX8_judge_88 rfl ?_
                refine aw_g4_1 C dX8_judge_89 (shTa (by omega)).1 fl_X8_249 ?_
                refine aw_iload_2 C dX8_judge_92 ?_
                refine aw_iload_4 C dX8_judge_93 ?_
                refine aw_iadd_n C dX8_judge_95  ?_
                refine aw_lald C _ dX8_judge_96 (shTa (by omega)).2 rfl (by omega) ?_
                refine aw_aload_0 C dX8_judge_97 rfl ?_
                refine aw_g8_0 C dX8_judge_98 fl_X8_14 ?_
                refine aw_g7_6 C dX8_judge_101 (shW0 isW1) fl_X8_74 ?_
                refine aw_iload_4 C dX8_judge_104 ?_
                refine aw_pald C _ dX8_judge_106 (shW4 isW1) rfl (by omega) ?_
                refine aw_g2_5 C (hRw.2.2.1.2 k hkk).2.2.2.2.2.1 dX8_judge_107 (shWE isW1 (by omega)).1 fl_X8_96 ?_
                refine aw_i2l C dX8_judge_110 ?_
                rw [nI_L (n := gM g (32 + 10 * k + 5)) (by omega)]
                refine aw_lcmp C dX8_judge_111 ?_
                refine aw_if_eq C dX8_judge_112 (tgt := 118) (by decide)  (fun c_112 => ?_) (fun c_112 => ?_)
                · rw [if_pos ((hts.2.2 (a + k) (by omega)).symm.trans ((lg_cmp_eq _ _).mp c_112))] at hJ2
                  refine aw_iinc_4 C dX8_judge_118 (by decide) (fun w h => by cases h <;> rfl) (show _ + Int32.ofInt 1 = _ by rw [k1_1, nI_add]) ?_
                  refine aw_goto C dX8_judge_121 (tgt := 51) (by decide) ?_
                  exact ih (k + 1) (by omega) (by omega) hJ2
                · rw [if_neg (fun z => c_112 ((lg_cmp_eq _ _).mpr ((hts.2.2 (a + k) (by omega)).trans z)))] at hJ2
                  refine aw_iload_4 C dX8_judge_115 ?_
                  refine aw_iretI C hR dX8_judge_117 ?_
                  exact PC.here hCC (l5_n (by omega)).symm (by unfold f_judge; rw [if_neg (fun z => z c_4), hut, if_neg hS, hJ2])
              · have hJ3 := hJ2.trans (if_pos (fun z => c_79 (inN_nI (by have := (inN_iff ha2).mp z; omega) (by omega))))
                refine aw_bipush C dX8_judge_82 k2_100 ?_
                refine aw_iload_4 C dX8_judge_84 ?_
                refine aw_iadd_n C dX8_judge_86  ?_
                refine aw_iretI C hR dX8_judge_87 ?_
                exact PC.here hCC (l5_n (by omega)).symm (by unfold f_judge; rw [if_neg (fun z => z c_4), hut, if_neg hS, hJ3])
        exact L51 (gM g 92 + 1) 0 (by omega) (by omega) rfl
      · skip
        refine aw_bipush C dX8_judge_45 k2_m5 ?_
        refine aw_iretI C hR dX8_judge_47 ?_
        exact PC.here hCC rfl (by unfold f_judge; rw [if_neg (fun z => z c_4), hut, if_neg hS, c_42]; rfl)
    · have hS1 : ¬ gS g t = 1 := fun z => c_21 ((cs9_eq htp.1 (Or.inr (by decide : 1 < 5))).mpr z)
      refine aw_aload_3 C dX8_judge_24 rfl ?_
      refine aw_g4_0 C hts.1 dX8_judge_25 (shTa (by omega)).1 fl_X8_243 ?_
      refine aw_iconst C dX8_judge_28 k1_m1 ?_
      refine aw_icmp_eq C dX8_judge_29 (tgt := 35) (by decide)  (fun c_29 => ?_) (fun c_29 => ?_)
      · have hS : ¬ (gS g t ≠ 9 ∧ gS g t ≠ 1) := fun z => z.1 ((cs9_m htp.1).mp c_29)
        refine aw_aload_0 C dX8_judge_35 rfl ?_
        refine aw_g8_0 C dX8_judge_36 fl_X8_14 ?_
        refine aw_g7_5 C hRw.2.2.1.1 dX8_judge_39 (shW0 isW1) fl_X8_222 ?_
        refine aw_if_ne_n C dX8_judge_42 (tgt := 48) (by decide) (by omega) (fun c_42 => ?_) (fun c_42 => ?_)
        · skip
          refine aw_iconst C dX8_judge_48 k1_0 ?_
          refine aw_istore_4 C dX8_judge_49 (by decide) (fun w h => by cases h <;> rfl) ?_
          have L51 : ∀ (n2 k : Nat), k ≤ gM g 92 → gM g 92 < k + n2 → judF (gM g) (gX g t) (gE g t) i (gM g 92) 0 = judF (gM g) (gX g t) (gE g t) i (gM g 92 - k) k → AW X G (q) 51 [some (rfn G 0), some (.int (nI t)), some (.int i), some (rfn G (117 + 2 * t)), some (.int (nI k))] [] := by
            refine nat_loop (fun k h1 h2 hJ => by omega) (fun n2 ih k h1 h2 hJ => ?_)
            refine aw_iload_4 C dX8_judge_51 ?_
            refine aw_aload_0 C dX8_judge_53 rfl ?_
            refine aw_g8_0 C dX8_judge_54 fl_X8_14 ?_
            refine aw_g7_5 C hRw.2.2.1.1 dX8_judge_57 (shW0 isW1) fl_X8_222 ?_
            refine aw_icmp_ge_n C dX8_judge_60 (tgt := 124) (by decide) (by omega) (by omega) (fun c_60 => ?_) (fun c_60 => ?_)
            · skip
              refine aw_bipush C dX8_judge_124 k2_m5 ?_
              refine aw_iretI C hR dX8_judge_126 ?_
              exact PC.here hCC rfl (by unfold f_judge; rw [if_neg (fun z => z c_4), hut, if_neg hS, hJ, show gM g 92 - k = 0 by omega]; rfl)
            · have hJ2 := hJ.trans ((congrArg (fun m => judF (gM g) (gX g t) (gE g t) i m k) (show gM g 92 - k = (gM g 92 - (k + 1)) + 1 from by omega)).trans (judF_s (gM g) (gX g t) (gE g t) i _ k))
              have hph := hW.half (show k < gM g 92 by omega)
              have hkk : k < gM g 92 := by omega
              have htp2 := htp.2.1
              refine aw_aload_3 C dX8_judge_63 rfl ?_
              refine aw_iload_2 C dX8_judge_64 ?_
              refine aw_cV1IE C (s_X4_hasPlace _ i (shTa ht1) hts.2.1 htp.2.1) mf_X4_hasPlace mv_X4_hasPlace (shTa (by omega)).1 rfl ml_X8_246 dX8_judge_65 (by omega) (Nat.le_of_ble_eq_true rfl) ?_
              refine aw_if_eq_b C dX8_judge_68 (tgt := 82) (by decide)  (fun c_68 => ?_) (fun c_68 => ?_)
              · have hJ3 := hJ2.trans (if_pos (fun z => c_68 ⟨z.1, by have z2 : u32 i < gE g t - k := z.2; show u32 i < gE g t; omega⟩))
                refine aw_bipush C dX8_judge_82 k2_100 ?_
                refine aw_iload_4 C dX8_judge_84 ?_
                refine aw_iadd_n C dX8_judge_86  ?_
                refine aw_iretI C hR dX8_judge_87 ?_
                exact PC.here hCC (l5_n (by omega)).symm (by unfold f_judge; rw [if_neg (fun z => z c_4), hut, if_neg hS, hJ3])
              · obtain ⟨a, ha1, ha2, rfl⟩ := inN_of c_68
                have hua : u32 (nI a) = a := nI_clamp ha2
                refine aw_aload_3 C dX8_judge_71 rfl ?_
                refine aw_iload_2 C dX8_judge_72 ?_
                refine aw_iload_4 C dX8_judge_73 ?_
                refine aw_iadd_n C dX8_judge_75  ?_
                refine aw_cV1IE C (s_X4_hasPlace _ _ (shTa ht1) hts.2.1 htp.2.1) mf_X4_hasPlace mv_X4_hasPlace (shTa (by omega)).1 rfl ml_X8_246 dX8_judge_76 (by omega) (Nat.le_of_ble_eq_true rfl) ?_
                refine aw_if_ne_b C dX8_judge_79 (tgt := 88) (by decide)  (fun c_79 => ?_) (fun c_79 => ?_)
                · have c79 := (inN_iff (by omega)).mp c_79
                  rw [if_neg (fun z => z (inN_nI (show a < gE g t - k by omega) ha2)), hua] at hJ2
                  refine aw_aload_3 C dX8_judge_88 rfl ?_
                  refine aw_g4_1 C dX8_judge_89 (shTa (by omega)).1 fl_X8_249 ?_
                  refine aw_iload_2 C dX8_judge_92 ?_
                  refine aw_iload_4 C dX8_judge_93 ?_
                  refine aw_iadd_n C dX8_judge_95  ?_
                  refine aw_lald C _ dX8_judge_96 (shTa (by omega)).2 rfl (by omega) ?_
                  refine aw_aload_0 C dX8_judge_97 rfl ?_
                  refine aw_g8_0 C dX8_judge_98 fl_X8_14 ?_
                  refine aw_g7_6 C dX8_judge_101 (shW0 isW1) fl_X8_74 ?_
                  refine aw_iload_4 C dX8_judge_104 ?_
                  refine aw_pald C _ dX8_judge_106 (shW4 isW1) rfl (by omega) ?_
                  refine aw_g2_5 C (hRw.2.2.1.2 k hkk).2.2.2.2.2.1 dX8_judge_107 (shWE isW1 (by omega)).1 fl_X8_96 ?_
                  refine aw_i2l C dX8_judge_110 ?_
                  rw [nI_L (n := gM g (32 + 10 * k + 5)) (by omega)]
                  refine aw_lcmp C dX8_judge_111 ?_
                  refine aw_if_eq C dX8_judge_112 (tgt := 118) (by decide)  (fun c_112 => ?_) (fun c_112 => ?_)
                  · rw [if_pos ((hts.2.2 (a + k) (by omega)).symm.trans ((lg_cmp_eq _ _).mp c_112))] at hJ2
                    refine aw_iinc_4 C dX8_judge_118 (by decide) (fun w h => by cases h <;> rfl) (show _ + Int32.ofInt 1 = _ by rw [k1_1, nI_add]) ?_
                    refine aw_goto C dX8_judge_121 (tgt := 51) (by decide) ?_
                    exact ih (k + 1) (by omega) (by omega) hJ2
                  · rw [if_neg (fun z => c_112 ((lg_cmp_eq _ _).mpr ((hts.2.2 (a + k) (by omega)).trans z)))] at hJ2
                    refine aw_iload_4 C dX8_judge_115 ?_
                    refine aw_iretI C hR dX8_judge_117 ?_
                    exact PC.here hCC (l5_n (by omega)).symm (by unfold f_judge; rw [if_neg (fun z => z c_4), hut, if_neg hS, hJ2])
                · have hJ3 := hJ2.trans (if_pos (fun z => c_79 (inN_nI (by have := (inN_iff ha2).mp z; omega) (by omega))))
                  refine aw_bipush C dX8_judge_82 k2_100 ?_
                  refine aw_iload_4 C dX8_judge_84 ?_
                  refine aw_iadd_n C dX8_judge_86  ?_
                  refine aw_iretI C hR dX8_judge_87 ?_
                  exact PC.here hCC (l5_n (by omega)).symm (by unfold f_judge; rw [if_neg (fun z => z c_4), hut, if_neg hS, hJ3])
          exact L51 (gM g 92 + 1) 0 (by omega) (by omega) rfl
        · skip
          refine aw_bipush C dX8_judge_45 k2_m5 ?_
          refine aw_iretI C hR dX8_judge_47 ?_
          exact PC.here hCC rfl (by unfold f_judge; rw [if_neg (fun z => z c_4), hut, if_neg hS, c_42]; rfl)
      · have h9 : ¬ gS g t = 9 := fun z => c_29 ((cs9_m htp.1).mpr z)
        refine aw_bipush C dX8_judge_32 k2_m12 ?_
        refine aw_iretI C hR dX8_judge_34 ?_
        exact PC.here hCC rfl (by unfold f_judge; rw [if_neg (fun z => z c_4), hut, if_pos ⟨h9, hS1⟩])
  · skip
    refine aw_iconst C dX8_judge_7 k1_m1 ?_
    refine aw_iretI C hR dX8_judge_8 ?_
    exact PC.here hCC rfl (by unfold f_judge; rw [if_pos c_4])

set_option maxRecDepth 100000 in
set_option maxHeartbeats 4000000 in
theorem s_X8_act {G : GT} {q : S_} {g : GS} (p : Int32) (a : Int32) (x : Int32) (hg : GOK g) (hCC : CC q g) : Spec G 27 yX8_act cX8_act 4 (some .int) [rfn G 0, .int p, .int a, .int x] q (PI (PC (f_act g p a x) q)) := by
  refine Spec.intro RX8 (by decide) rfl (Nat.le_of_ble_eq_true rfl) [some (rfn G 0), some (.int p), some (.int a), some (.int x)] rfl ?_
  intro X d hd C hR
  obtain ⟨hW, hCy, h95, hN6, h94, hK, hT1, hT2, hTp, hR1, hSy, hSyJ⟩ := id hg
  obtain ⟨hRw, hKw, hCyr, hNc, hKc, hQ, hTx, hTs, hAt⟩ := id hCC
  have hc := hW.c
  have hq := hCC.qs hg
  have hG : Goo (gM g) (gC g) := fun k hk => hCy k (by omega)
  refine aw_aload_0 C dX8_act_0 rfl ?_
  refine aw_iload_1 C dX8_act_1 ?_
  refine aw_cV1IE C (s_X8_isPerson _ hRw (by omega)) mf_X8_isPerson mv_X8_isPerson (sh_0) rfl ml_X8_71 dX8_act_2 (by omega) (Nat.le_of_ble_eq_true rfl) ?_
  refine aw_if_eq_b C dX8_act_5 (tgt := 17) (by decide)  (fun c_5 => ?_) (fun c_5 => ?_)
  · skip
    refine aw_aload_0 C dX8_act_17 rfl ?_
    refine aw_g8_7 C dX8_act_18 fl_X8_53 ?_
    refine aw_iconst C dX8_act_21 k1_0 ?_
    refine aw_p0_1 C dX8_act_22 fl_X8_257 ?_
    refine aw_iconst C dX8_act_25 k1_0 ?_
    refine aw_iretI C hR dX8_act_26 ?_
    have hff : f_act g p a x = (nI 0, (gM g, gK g, gJ g, gC g, gN g, gT g, gS g, gE g, gX g, 0, gV g)) := by unfold f_act; rw [if_neg (fun z => c_5 z.1)]
    rw [hff]
    have hFa : Fr (fun k _ => k = 97 ∨ k = 98) q (sI q 97 1 (nI 0)) := Fr.set (Or.inl rfl)
    exact ⟨rfl, hCC.act (z := (0, gV g)) hg hFa ⟨by rw [gI_sI, if_pos ⟨rfl, rfl⟩], fun j hj => absurd hj (Nat.not_lt_zero j)⟩, hFa.r (fun k j z => by omega)⟩
  · obtain ⟨p, hp1, hp2, rfl⟩ := inN_of c_5
    have hu : u32 (nI p) = p := nI_clamp hp2
    have hp := hW.p hp1
    refine aw_iload_2 C dX8_act_8 ?_
    refine aw_if_lt C dX8_act_9 (tgt := 17) (by decide)  (fun c_9 => ?_) (fun c_9 => ?_)
    · skip
      refine aw_aload_0 C dX8_act_17 rfl ?_
      refine aw_g8_7 C dX8_act_18 fl_X8_53 ?_
      refine aw_iconst C dX8_act_21 k1_0 ?_
      refine aw_p0_1 C dX8_act_22 fl_X8_257 ?_
      refine aw_iconst C dX8_act_25 k1_0 ?_
      refine aw_iretI C hR dX8_act_26 ?_
      have hff : f_act g (nI p) a x = (nI 0, (gM g, gK g, gJ g, gC g, gN g, gT g, gS g, gE g, gX g, 0, gV g)) := by unfold f_act; rw [if_neg (fun z => z.2.1 c_9)]
      rw [hff]
      have hFa : Fr (fun k _ => k = 97 ∨ k = 98) q (sI q 97 1 (nI 0)) := Fr.set (Or.inl rfl)
      exact ⟨rfl, hCC.act (z := (0, gV g)) hg hFa ⟨by rw [gI_sI, if_pos ⟨rfl, rfl⟩], fun j hj => absurd hj (Nat.not_lt_zero j)⟩, hFa.r (fun k j z => by omega)⟩
    · skip
      refine aw_iload_2 C dX8_act_12 ?_
      refine aw_iconst C dX8_act_13 k1_3 ?_
      refine aw_icmp_lt C dX8_act_14 (tgt := 27) (by decide)  (fun c_14 => ?_) (fun c_14 => ?_)
      · have c14 : inN a 3 := (inN_ge (by decide)).mp ⟨c_9, c_14⟩
        obtain ⟨a, ha1, ha2, rfl⟩ := inN_of c14
        have hua : u32 (nI a) = a := nI_clamp ha2
        refine aw_aload_0 C dX8_act_27 rfl ?_
        refine aw_g8_7 C dX8_act_28 fl_X8_53 ?_
        refine aw_aload_0 C dX8_act_31 rfl ?_
        refine aw_g8_0 C dX8_act_32 fl_X8_14 ?_
        refine aw_g7_6 C dX8_act_35 (shW0 isW1) fl_X8_74 ?_
        refine aw_iload_1 C dX8_act_38 ?_
        refine aw_pald C _ dX8_act_39 (shW4 isW1) rfl (by omega) ?_
        refine aw_iload_1 C dX8_act_40 ?_
        refine aw_iload_2 C dX8_act_41 ?_
        refine aw_iload_3 C dX8_act_42 ?_
        refine aw_cV4I C (s_X0_begin (V := gV g) (1 + 4 + 13 + 2 * p) p a x (shWE isW1 hp.1) (hRw.2.2.1.2 p hp1) hp.2.1 ha1 (by omega)) mf_X0_begin mv_X0_begin (sh_97) rfl ml_X8_260 dX8_act_43 (by omega) (Nat.le_of_ble_eq_true rfl) (fun r_43 q_43 h_43 => ?_)
        obtain ⟨hr43, hT43, hF43⟩ := h_43
        refine aw_iretI C hR dX8_act_46 ?_
        have hff : f_act g (nI p) (nI a) x = ((actZ g p a x).1, (gM g, gK g, gJ g, gC g, gN g, gT g, gS g, gE g, gX g, (actZ g p a x).2.1, (actZ g p a x).2.2)) := by unfold f_act; rw [if_pos ⟨c_5, c14⟩, hu, hua]
        rw [hff]
        exact ⟨hr43, hCC.act (z := (actZ g p a x).2) hg hF43 hT43, hF43.r (fun k j z => by omega)⟩
      · have c14 : ¬ inN a 3 := fun z => c_14 ((inN_ge (by decide)).mpr z).2
        refine aw_aload_0 C dX8_act_17 rfl ?_
        refine aw_g8_7 C dX8_act_18 fl_X8_53 ?_
        refine aw_iconst C dX8_act_21 k1_0 ?_
        refine aw_p0_1 C dX8_act_22 fl_X8_257 ?_
        refine aw_iconst C dX8_act_25 k1_0 ?_
        refine aw_iretI C hR dX8_act_26 ?_
        have hff : f_act g (nI p) a x = (nI 0, (gM g, gK g, gJ g, gC g, gN g, gT g, gS g, gE g, gX g, 0, gV g)) := by unfold f_act; rw [if_neg (fun z => c14 z.2)]
        rw [hff]
        have hFa : Fr (fun k _ => k = 97 ∨ k = 98) q (sI q 97 1 (nI 0)) := Fr.set (Or.inl rfl)
        exact ⟨rfl, hCC.act (z := (0, gV g)) hg hFa ⟨by rw [gI_sI, if_pos ⟨rfl, rfl⟩], fun j hj => absurd hj (Nat.not_lt_zero j)⟩, hFa.r (fun k j z => by omega)⟩

set_option maxRecDepth 100000 in
set_option maxHeartbeats 4000000 in
theorem s_X8_city {G : GT} {q : S_} {g : GS}  (hg : GOK g) (hCC : CC q g) : Spec G 19 yX8_city cX8_city 3 (some .int) [rfn G 0] q (PI (PC (f_city g) q)) := by
  refine Spec.intro RX8 (by decide) rfl (Nat.le_of_ble_eq_true rfl) [some (rfn G 0), none, none] rfl ?_
  intro X d hd C hR
  obtain ⟨hW, hCy, h95, hN6, h94, hK, hT1, hT2, hTp, hR1, hSy, hSyJ⟩ := id hg
  obtain ⟨hRw, hKw, hCyr, hNc, hKc, hQ, hTx, hTs, hAt⟩ := id hCC
  have hc := hW.c
  have hq := hCC.qs hg
  have hG : Goo (gM g) (gC g) := fun k hk => hCy k (by omega)
  refine aw_aload_0 C dX8_city_0 rfl ?_
  refine aw_g8_8 C hNc dX8_city_1 fl_X8_150 ?_
  refine aw_bipush C dX8_city_4 k2_6 ?_
  refine aw_icmp_lt_n C dX8_city_6 (tgt := 12) (by decide) (by omega) (by omega) (fun c_6 => ?_) (fun c_6 => ?_)
  · skip
    refine aw_aload_0 C dX8_city_12 rfl ?_
    refine aw_g8_5 C dX8_city_13 fl_X8_40 ?_
    refine aw_aload_0 C dX8_city_16 rfl ?_
    refine aw_g8_8 C hNc dX8_city_17 fl_X8_150 ?_
    refine aw_yald C _ dX8_city_20 sh_95 rfl (by omega) ?_
    refine aw_astore_1 C dX8_city_21 (by decide) (fun w h => by cases h <;> rfl) rfl ?_
    refine aw_aload_0 C dX8_city_22 rfl ?_
    refine aw_g8_4 C dX8_city_23 fl_X8_34 ?_
    refine aw_aload_1 C dX8_city_26 rfl ?_
    refine aw_cV1I C (s_X5_readInto (ch := chO (gT g)) (99 + 3 * gN g) hTx.1 hT1 (fun j hj => ⟨hTx.2 j hj, hT2 j hj⟩) (fun j hj => chO_out hj) (shCi (by omega)) (by omega)) mf_X5_readInto mv_X5_readInto (sh_93) rfl ml_X8_153 dX8_city_27 (by omega) (Nat.le_of_ble_eq_true rfl) (fun r_27 q_27 h_27 => ?_)
    obtain ⟨hr27, hyes, hF27, hpn⟩ := h_27
    have hFs : Fr Scy q q_27 := hF27.mono (fun k j z => SRC_cy (by omega) z)
    have ho27 : ∀ k j, k ≠ 93 → k < 99 → gI q_27 k j = gI q k j := fun k j h1 h2 => hF27.2 k j (fun z => by unfold SRC SRD at z; omega)
    have ho28 : ∀ k j, 99 ≤ k → k < (99 + 3 * gN g) → gI q_27 k j = gI q k j := fun k j h1 h2 => hF27.2 k j (fun z => by unfold SRC SRD at z; omega)
    refine aw_istore_2 C dX8_city_30 (by decide) (fun w h => by cases h <;> rfl) ?_
    refine aw_aload_0 C dX8_city_31 rfl ?_
    refine aw_g8_4 C dX8_city_32 fl_X8_34 ?_
    refine aw_iconst C dX8_city_35 k1_0 ?_
    refine aw_p5_1 C dX8_city_36 fl_X8_157 ?_
    refine aw_iload_2 C dX8_city_39 ?_
    refine aw_if_lt C dX8_city_40 (tgt := 48) (by decide)  (fun c_40 => ?_) (fun c_40 => ?_)
    · have hz : isC' (gT g) := Decidable.byContradiction (fun y => absurd c_40 (by rw [hr27, if_neg y]; exact nI_pos (by omega)))
      refine aw_aload_0 C dX8_city_48 rfl ?_
      refine aw_g8_0 C dX8_city_49 fl_X8_14 ?_
      refine aw_aload_1 C dX8_city_52 rfl ?_
      rw [show rfn G (99 + 3 * gN g) = rv G (cyA (gN g + 1)) from (rv_c G (x := gN g + 1) (by omega) (by omega)).symm]
      refine aw_p7_8 C dX8_city_53 (shW0 isW1) fl_X8_160 ?_
      refine aw_aload_0 C dX8_city_56 rfl ?_
      refine aw_dup C dX8_city_57 rfl ?_
      refine aw_g8_8 C (by rw [gI_sI, if_neg (by omega), gI_sI, if_neg (by omega), ho27 _ _ (by omega) (by omega)]; exact hNc : gI (sI (sI q_27 93 1 (nI 0)) 1 8 (cyA (gN g + 1))) 0 8 = nI (gN g)) dX8_city_58 fl_X8_150 ?_
      refine aw_dup_x1 C dX8_city_61 rfl rfl ?_
      refine aw_iconst C dX8_city_62 k1_1 ?_
      refine aw_iadd_n C dX8_city_63  ?_
      refine aw_p8_8 C dX8_city_64 fl_X8_150 ?_
      refine aw_iretI C hR dX8_city_67 ?_
      have hff : f_city g = (nI (gN g), (mu (gM g) 95 (gN g + 1), gK g, gJ g, updN (gC g) (gN g) (gT g), gN g + 1, [], gS g, gE g, gX g, gR g, gV g)) := by unfold f_city; rw [if_neg (by omega), if_pos hz]
      rw [hff]
      obtain ⟨hci, hdk⟩ := hyes hz
      have hF2 : Fr Scy q (sI (sI (sI q_27 93 1 (nI 0)) 1 8 (cyA (gN g + 1))) 0 8 (nI (gN g + 1))) := ((hFs.put (Or.inl rfl)).put (Or.inr (Or.inr (Or.inl ⟨rfl, rfl⟩)))).put (Or.inr (Or.inr (Or.inr ⟨rfl, rfl⟩)))
      have hR1 : RelW (sI q_27 93 1 (nI 0)) 1 (gM g) := hRw.t hW (fun k j z1 z2 => by rw [gI_sI, if_neg (by omega)]; exact ho27 k j (by omega) (by omega))
      have hR2 := (hR1.city (v := gN g + 1) (x := cyA (gN g + 1)) hW rfl)
      have e99 : ∀ k j, 99 ≤ k → gI (sI (sI (sI q_27 93 1 (nI 0)) 1 8 (cyA (gN g + 1))) 0 8 (nI (gN g + 1))) k j = gI q_27 k j := fun k j hk => by rw [gI_sI, if_neg (by omega), gI_sI, if_neg (by omega), gI_sI, if_neg (by omega)]
      refine ⟨rfl, hCC.city hg hF2 ?_ (fun j hj => ?_) (by rw [gI_sI, if_pos ⟨rfl, rfl⟩]) (by rw [gI_sI, if_neg (by omega), gI_sI, if_neg (by omega), gI_sI, if_pos ⟨rfl, rfl⟩]), hF2.r Scy_r⟩
      · have hs : ∀ k j, ¬ (k = 0 ∧ j = 8) → gI (sI (sI (sI q_27 93 1 (nI 0)) 1 8 (cyA (gN g + 1))) 0 8 (nI (gN g + 1))) k j = gI (sI (sI q_27 93 1 (nI 0)) 1 8 (cyA (gN g + 1))) k j := fun k j z => by rw [gI_sI, if_neg z]
        have hWc := hW.cit (v := gN g + 1) (by omega)
        exact hR2.t hWc (fun k j z1 z2 => hs k j (by omega))
      · by_cases e : j = gN g
        · subst e
          rw [updN_eq]
          exact ⟨(e99 _ _ (by omega)).trans hdk, hci.t (e99 _ _ (by omega)) (fun i => e99 _ _ (by omega))⟩
        · rw [updN_ne e]
          have hj2 : j < gN g := by omega
          exact ⟨by rw [e99 _ _ (by omega), ho28 _ _ (by omega) (by omega)]; exact (hCyr j hj2).1, (hCyr j hj2).2.t (by rw [e99 _ _ (by omega), ho28 _ _ (by omega) (by omega)]) (fun i => by rw [e99 _ _ (by omega), ho28 _ _ (by omega) (by omega)])⟩
    · have hz : ¬ isC' (gT g) := fun y => c_40 (by rw [hr27, if_pos y]; decide +kernel)
      refine aw_bipush C dX8_city_43 k2_m10 ?_
      refine aw_iload_2 C dX8_city_45 ?_
      refine aw_isub C dX8_city_46  ?_
      refine aw_iretI C hR dX8_city_47 ?_
      have hff : f_city g = (-10 - nI (clsM (chO (gT g)) 9 0 0).2.1, (gM g, gK g, gJ g, gC g, gN g, [], gS g, gE g, gX g, gR g, gV g)) := by unfold f_city; rw [if_neg (by omega), if_neg hz]
      rw [hff]
      have hF2 : Fr Scy q (sI q_27 93 1 (nI 0)) := hFs.put (Or.inl rfl)
      exact ⟨by rw [hr27, if_neg hz], hCC.city hg hF2 (hRw.t hW (fun k j z1 z2 => by rw [gI_sI, if_neg (by omega)]; exact ho27 k j (by omega) (by omega))) (fun j hj => ⟨by rw [gI_sI, if_neg (by omega), ho28 _ _ (by omega) (by omega)]; exact (hCyr j hj).1, (hCyr j hj).2.t (by rw [gI_sI, if_neg (by omega), ho28 _ _ (by omega) (by omega)]) (fun i => by rw [gI_sI, if_neg (by omega), ho28 _ _ (by omega) (by omega)])⟩) (by rw [gI_sI, if_neg (by omega), ho27 _ _ (by omega) (by omega)]; exact hNc) (by rw [gI_sI, if_pos ⟨rfl, rfl⟩]), hF2.r Scy_r⟩
  · skip
    refine aw_bipush C dX8_city_9 k2_m4 ?_
    refine aw_iretI C hR dX8_city_11 ?_
    exact PC.here hCC rfl (by unfold f_city; rw [if_pos (by omega)])
