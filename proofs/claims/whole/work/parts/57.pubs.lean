/-! THE CLASS AND ITS CALLS -/
def CC (q : S_) (g : GS) : Prop := RelW q 1 (gM g) ∧ (gK g = true → RelW q 30 (gJ g)) ∧ CyR q (gC g) (gN g) ∧ gI q 0 8 = nI (gN g) ∧ gI q 0 9 = bP (gK g = true) ∧ (∃ L, WQ q L) ∧ (gI q 93 1 = nI (gT g).length ∧ ∀ j, j < (gT g).length → gI q 94 j = nI (chO (gT g) j)) ∧ (∀ t, t < 6 → gI q (117 + 2 * t) 0 = cs9 (gS g t) ∧ gI q (117 + 2 * t) 2 = nI (gE g t) ∧ ∀ j, j < 60 → gL q (117 + 2 * t + 1) j = gX g t j) ∧ ATr q (gR g, gV g)
/-- the reference's cells stay -/
def FrR (q q2 : S_) : Prop := (∀ k j, 129 ≤ k → gI q2 k j = gI q k j) ∧ ∀ k j, 129 ≤ k → gL q2 k j = gL q k j
theorem Fr.r {S : Nat → Nat → Prop} {q q2 : S_} (h : Fr S q q2) (hs : ∀ k j, S k j → k < 129) : FrR q q2 := ⟨fun k j hk => h.2 k j (fun z => by have := hs k j z; omega), fun k j hk => by
  show q2.2 k j = q.2 k j
  rw [h.1]⟩
def PC (fr : Int32 × GS) (q : S_) : Int32 → S_ → Prop := fun r q3 => r = fr.1 ∧ CC q3 fr.2 ∧ FrR q q3
def PCl (fr : Int64 × GS) (q : S_) : Int64 → S_ → Prop := fun r q3 => r = fr.1 ∧ CC q3 fr.2 ∧ FrR q q3
def SNw (k j : Nat) : Prop := (1 ≤ k ∧ k < 30) ∨ SAs k j
theorem SNw_r : ∀ k j, SNw k j → k < 129 := fun k j z => by unfold SNw SAs SFk at z; omega
theorem CC.now {q q2 : S_} {g : GS} {M2 : Nat → Nat} (h : CC q g) (hg : GOK g) (hF : Fr SNw q q2) (hR : RelW q2 1 M2) (hQ : ∃ L, WQ q2 L) : CC q2 (M2, g.2) := by
  obtain ⟨a1, a2, a3, a4, a5, a6, a7, a8, a9⟩ := h
  have e : ∀ k j, ¬ SNw k j → gI q2 k j = gI q k j := hF.2
  unfold SNw SAs SFk at e
  refine ⟨hR, fun hk => (a2 hk).t (hg.2.2.2.2.2.1 hk).1 (fun k j z1 z2 => e k j (by omega)), a3.t hg.2.2.2.1 (fun k j z1 z2 z3 => e k j (by omega)), (e _ _ (by omega)).trans a4, (e _ _ (by omega)).trans a5, hQ, ⟨(e _ _ (by omega)).trans a7.1, fun j hj => (e _ _ (by omega)).trans (a7.2 j hj)⟩, fun t ht => ?_, ⟨(e _ _ (by omega)).trans a9.1, fun j hj h2 => (e _ _ (by omega)).trans (a9.2 j hj h2)⟩⟩
  obtain ⟨b1, b2, b3⟩ := a8 t ht
  refine ⟨(e _ _ (by omega)).trans b1, (e _ _ (by omega)).trans b2, fun j hj => ?_⟩
  rw [← b3 j hj]
  show q2.2 _ _ = q.2 _ _
  rw [hF.1]
theorem CC.ask {q q2 : S_} {g : GS} (h : CC q g) (hg : GOK g) (hF : Fr SAs q q2) (hQ : ∃ L, WQ q2 L) : CC q2 g := h.now hg (hF.mono (fun k j z => Or.inr z)) (h.1.t hg.1 (fun k j z1 z2 => hF.2 k j (by unfold SAs SFk; omega))) hQ
theorem CC.qs {q : S_} {g : GS} (h : CC q g) (hg : GOK g) : QS q (gM g) (gC g) (gN g) := ⟨h.1, hg.1, h.2.2.1, hg.2.2.1, hg.2.2.2.1, fun k hk => hg.2.1 k (by have := hg.2.2.1; omega), h.2.2.2.2.2.1⟩
theorem PC.here {q : S_} {g : GS} {v r : Int32} {fr : Int32 × GS} (h : CC q g) (hr : r = v) (hf : fr = (v, g)) : PC fr q r q := by
  subst hf
  exact ⟨hr, h, fun _ _ _ => rfl, fun _ _ _ => rfl⟩
theorem PC.ask {q q3 : S_} {g : GS} {v r : Int32} {fr : Int32 × GS} (h : CC q g) (hg : GOK g) (hr : r = v) (hf : fr = (v, g)) (hF : Fr SAs q q3) (hQ : ∃ L, WQ q3 L) : PC fr q r q3 := by
  subst hf
  exact ⟨hr, h.ask hg hF hQ, hF.r (fun k j z => SNw_r k j (Or.inr z))⟩
theorem WQ.fk {q q3 : S_} (h : ∃ L, WQ q L) (hF : Fr SFk q q3) : ∃ L, WQ q3 L := by
  obtain ⟨L, z⟩ := h
  exact ⟨L, z.t (fun k j y => hF.2 k j (by unfold SWm at y; unfold SFk; omega))⟩
theorem PC.askf {q q3 : S_} {g : GS} {v r : Int32} {fr : Int32 × GS} (h : CC q g) (hg : GOK g) (hr : r = v) (hf : fr = (v, g)) (hF : Fr SFk q q3) : PC fr q r q3 := PC.ask h hg hr hf hF.as3 (WQ.fk h.2.2.2.2.2.1 hF)
theorem PC.nw {q q3 : S_} {g : GS} {M2 : Nat → Nat} {v r : Int32} {fr : Int32 × GS} (h : CC q g) (hg : GOK g) (hr : r = v) (hf : fr = (v, (M2, g.2))) (hF : Fr SNw q q3) (hR : RelW q3 1 M2) (hQ : ∃ L, WQ q3 L) : PC fr q r q3 := by
  subst hf
  exact ⟨hr, h.now hg hF hR hQ, hF.r SNw_r⟩
/-- now alone changed -/
theorem PC.w {q q3 : S_} {g : GS} {M2 : Nat → Nat} {v r : Int32} {fr : Int32 × GS} (h : CC q g) (hg : GOK g) (hr : r = v) (hf : fr = (v, (M2, g.2))) (hF : Fr (fun a _ => 1 ≤ a ∧ a < 1 + 29) q q3) (hR : RelW q3 1 M2) : PC fr q r q3 :=
  PC.nw h hg hr hf (hF.mono (fun k j z => Or.inl ⟨z.1, by omega⟩)) hR (by obtain ⟨L, z⟩ := h.2.2.2.2.2.1; exact ⟨L, z.t (fun k j y => hF.2 k j (by unfold SWm at y; omega))⟩)
theorem PCl.here {q : S_} {g : GS} {v r : Int64} {fr : Int64 × GS} (h : CC q g) (hr : r = v) (hf : fr = (v, g)) : PCl fr q r q := by
  subst hf
  exact ⟨hr, h, fun _ _ _ => rfl, fun _ _ _ => rfl⟩
theorem PCl.ask {q q3 : S_} {g : GS} {v r : Int64} {fr : Int64 × GS} (h : CC q g) (hg : GOK g) (hr : r = v) (hf : fr = (v, g)) (hF : Fr SAs q q3) (hQ : ∃ L, WQ q3 L) : PCl fr q r q3 := by
  subst hf
  exact ⟨hr, h.ask hg hF hQ, hF.r (fun k j z => SNw_r k j (Or.inr z))⟩

set_option maxRecDepth 100000 in
set_option maxHeartbeats 4000000 in
theorem s_X8_bridge {G : GT} {q : S_} {g : GS} (x : Int32) (y : Int32) (hg : GOK g) (hCC : CC q g) : Spec G 2 yX8_bridge cX8_bridge 3 (some .int) [rfn G 0, .int x, .int y] q (PI (PC (f_bridge g x y) q)) := by
  refine Spec.intro RX8 (by decide) rfl (Nat.le_of_ble_eq_true rfl) [some (rfn G 0), some (.int x), some (.int y)] rfl ?_
  intro X d hd C hR
  obtain ⟨hW, hCy, h95, hN6, h94, hK, hT1, hT2, hTp, hR1, hSy, hSyJ⟩ := id hg
  obtain ⟨hRw, hKw, hCyr, hNc, hKc, hQ, hTx, hTs, hAt⟩ := id hCC
  have hc := hW.c
  have hq := hCC.qs hg
  have hG : Goo (gM g) (gC g) := fun k hk => hCy k (by omega)
  refine aw_iload_1 C dX8_bridge_0 ?_
  refine aw_cS1IE C (s_X8_isQuarter _) mf_X8_isQuarter ms_X8_isQuarter ml_X8_59 dX8_bridge_1 (by omega) (Nat.le_of_ble_eq_true rfl) ?_
  refine aw_if_eq_b C dX8_bridge_4 (tgt := 14) (by decide)  (fun c_4 => ?_) (fun c_4 => ?_)
  · skip
    refine aw_iconst C dX8_bridge_14 k1_m1 ?_
    refine aw_iretI C hR dX8_bridge_15 ?_
    exact PC.here hCC rfl (by unfold f_bridge; rw [if_pos (fun z => c_4 z.1)])
  · skip
    refine aw_iload_2 C dX8_bridge_7 ?_
    refine aw_cS1IE C (s_X8_isQuarter _) mf_X8_isQuarter ms_X8_isQuarter ml_X8_59 dX8_bridge_8 (by omega) (Nat.le_of_ble_eq_true rfl) ?_
    refine aw_if_ne_b C dX8_bridge_11 (tgt := 16) (by decide)  (fun c_11 => ?_) (fun c_11 => ?_)
    · obtain ⟨x, hx1, hx2, rfl⟩ := inN_of c_4
      obtain ⟨y, hy1, hy2, rfl⟩ := inN_of c_11
      refine aw_iload_1 C dX8_bridge_16 ?_
      refine aw_iload_2 C dX8_bridge_17 ?_
      refine aw_icmp_ne C dX8_bridge_18 (tgt := 24) (by decide)  (fun c_18 => ?_) (fun c_18 => ?_)
      · skip
        refine aw_aload_0 C dX8_bridge_24 rfl ?_
        refine aw_g8_0 C dX8_bridge_25 fl_X8_14 ?_
        refine aw_iload_1 C dX8_bridge_28 ?_
        refine aw_iload_2 C dX8_bridge_29 ?_
        refine aw_cV2I C (s_X7_addBridge 1 x y isW1 hRw hW) mf_X7_addBridge mv_X7_addBridge (shW0 isW1) rfl ml_X8_63 dX8_bridge_30 (by omega) (Nat.le_of_ble_eq_true rfl) (fun r_30 q_30 h_30 => ?_)
        refine aw_iretI C hR dX8_bridge_33 ?_
        rcases h_30 with ⟨e1, rfl, rfl⟩ | ⟨e1, rfl, hR2, hF2⟩
        · exact PC.here hCC rfl (by unfold f_bridge; rw [if_neg (fun z => z ⟨c_4, c_11⟩), if_neg c_18, if_pos e1])
        · exact PC.w hCC hg rfl (by unfold f_bridge; rw [if_neg (fun z => z ⟨c_4, c_11⟩), if_neg c_18, if_neg (by omega), show u32 (nI x) = x from nI_clamp hx2, show u32 (nI y) = y from nI_clamp hy2]) hF2 hR2
      · skip
        refine aw_bipush C dX8_bridge_21 k2_m2 ?_
        refine aw_iretI C hR dX8_bridge_23 ?_
        exact PC.here hCC rfl (by unfold f_bridge; rw [if_neg (fun z => z ⟨c_4, c_11⟩), if_pos c_18])
    · skip
      refine aw_iconst C dX8_bridge_14 k1_m1 ?_
      refine aw_iretI C hR dX8_bridge_15 ?_
      exact PC.here hCC rfl (by unfold f_bridge; rw [if_pos (fun z => c_11 z.2)])

set_option maxRecDepth 100000 in
set_option maxHeartbeats 4000000 in
theorem s_X8_one {G : GT} {q : S_} {g : GS} (k : Int32) (v : Int32) (x : Int32) (hg : GOK g) (hCC : CC q g) : Spec G 4 yX8_one cX8_one 4 (some .int) [rfn G 0, .int k, .int v, .int x] q (PI (PC (f_one g k v x) q)) := by
  refine Spec.intro RX8 (by decide) rfl (Nat.le_of_ble_eq_true rfl) [some (rfn G 0), some (.int k), some (.int v), some (.int x)] rfl ?_
  intro X d hd C hR
  obtain ⟨hW, hCy, h95, hN6, h94, hK, hT1, hT2, hTp, hR1, hSy, hSyJ⟩ := id hg
  obtain ⟨hRw, hKw, hCyr, hNc, hKc, hQ, hTx, hTs, hAt⟩ := id hCC
  have hc := hW.c
  have hq := hCC.qs hg
  have hG : Goo (gM g) (gC g) := fun k hk => hCy k (by omega)
  refine aw_iload_1 C dX8_one_0 ?_
  refine aw_if_lt C dX8_one_1 (tgt := 17) (by decide)  (fun c_1 => ?_) (fun c_1 => ?_)
  · skip
    refine aw_iconst C dX8_one_17 k1_m1 ?_
    refine aw_iretI C hR dX8_one_18 ?_
    exact PC.here hCC rfl (by unfold f_one; rw [if_pos (fun z => z.1.1 c_1)])
  · skip
    refine aw_iload_1 C dX8_one_4 ?_
    refine aw_bipush C dX8_one_5 k2_7 ?_
    refine aw_icmp_ge C dX8_one_7 (tgt := 17) (by decide)  (fun c_7 => ?_) (fun c_7 => ?_)
    · have c7 : ¬ inN k 7 := fun z => by obtain ⟨j, j1, j2, e⟩ := inN_of z; rw [e] at c_7; have := (nI_leI (by omega) j2).mp c_7; omega
      refine aw_iconst C dX8_one_17 k1_m1 ?_
      refine aw_iretI C hR dX8_one_18 ?_
      exact PC.here hCC rfl (by unfold f_one; rw [if_pos (fun z => c7 z.1)])
    · have c7 : inN k 7 := (inN_ge (by omega)).mp ⟨c_1, Int32.not_le.mp c_7⟩
      refine aw_iload_3 C dX8_one_10 ?_
      refine aw_cS1IE C (s_X8_isQuarter _) mf_X8_isQuarter ms_X8_isQuarter ml_X8_59 dX8_one_11 (by omega) (Nat.le_of_ble_eq_true rfl) ?_
      refine aw_if_ne_b C dX8_one_14 (tgt := 19) (by decide)  (fun c_14 => ?_) (fun c_14 => ?_)
      · obtain ⟨k, hk1, hk2, rfl⟩ := inN_of c7
        have huk : u32 (nI k) = k := nI_clamp hk2
        obtain ⟨x, hx1, hx2, rfl⟩ := inN_of c_14
        have hux : u32 (nI x) = x := nI_clamp hx2
        refine aw_iload_2 C dX8_one_19 ?_
        refine aw_if_lt C dX8_one_20 (tgt := 29) (by decide)  (fun c_20 => ?_) (fun c_20 => ?_)
        · skip
          refine aw_bipush C dX8_one_29 k2_m2 ?_
          refine aw_iretI C hR dX8_one_31 ?_
          exact PC.here hCC rfl (by unfold f_one; rw [if_neg (fun z => z ⟨c7, c_14⟩), if_pos (fun z => z.1 c_20)])
        · skip
          refine aw_iload_2 C dX8_one_23 ?_
          refine aw_bipush C dX8_one_24 k2_9 ?_
          refine aw_icmp_le C dX8_one_26 (tgt := 32) (by decide)  (fun c_26 => ?_) (fun c_26 => ?_)
          · have c26 : inN v 10 := by
              obtain ⟨j, j2, rfl⟩ := nI_of c_20
              exact inN_nI (by have := (nI_leI j2 (by decide)).mp c_26; omega) j2
            obtain ⟨v, hv1, hv2, rfl⟩ := inN_of c26
            have huv : u32 (nI v) = v := nI_clamp hv2
            refine aw_aload_0 C dX8_one_32 rfl ?_
            refine aw_g8_0 C dX8_one_33 fl_X8_14 ?_
            refine aw_iload_1 C dX8_one_36 ?_
            refine aw_iload_2 C dX8_one_37 ?_
            refine aw_iload_3 C dX8_one_38 ?_
            refine aw_cV3I C (s_X7_addPerson 1 k v x isW1 hRw hW) mf_X7_addPerson mv_X7_addPerson (shW0 isW1) rfl ml_X8_67 dX8_one_39 (by omega) (Nat.le_of_ble_eq_true rfl) (fun r_39 q_39 h_39 => ?_)
            refine aw_iretI C hR dX8_one_42 ?_
            rcases h_39 with ⟨e1, rfl, rfl⟩ | ⟨e1, rfl, hR2, hF2⟩
            · exact PC.here hCC rfl (by unfold f_one; rw [if_neg (fun z => z ⟨c7, c_14⟩), if_neg (fun z => z c26), if_pos e1])
            · exact PC.w hCC hg rfl (by unfold f_one; rw [if_neg (fun z => z ⟨c7, c_14⟩), if_neg (fun z => z c26), if_neg (by omega), huk, hux, huv]) hF2 hR2
          · have c26 : ¬ inN v 10 := fun z => by obtain ⟨j, j1, j2, e⟩ := inN_of z; rw [e] at c_26; exact c_26 (nI_le (by omega) (by decide))
            refine aw_bipush C dX8_one_29 k2_m2 ?_
            refine aw_iretI C hR dX8_one_31 ?_
            exact PC.here hCC rfl (by unfold f_one; rw [if_neg (fun z => z ⟨c7, c_14⟩), if_pos c26])
      · skip
        refine aw_iconst C dX8_one_17 k1_m1 ?_
        refine aw_iretI C hR dX8_one_18 ?_
        exact PC.here hCC rfl (by unfold f_one; rw [if_pos (fun z => c_14 z.2)])

theorem sw9 (x : Int32) : x = nI 0 ∨ x = nI 1 ∨ x = nI 2 ∨ x = nI 3 ∨ x = nI 4 ∨ x = nI 5 ∨ x = nI 6 ∨ x = nI 7 ∨ x = nI 8 ∨ ¬ inN x 9 := by
  by_cases h : inN x 9
  · obtain ⟨k, hk, hk2, rfl⟩ := inN_of h
    have : k = 0 ∨ k = 1 ∨ k = 2 ∨ k = 3 ∨ k = 4 ∨ k = 5 ∨ k = 6 ∨ k = 7 ∨ k = 8 := by omega
    rcases this with rfl | rfl | rfl | rfl | rfl | rfl | rfl | rfl | rfl <;> simp
  · simp [h]
theorem sw4 (x : Int32) : x = nI 0 ∨ x = nI 1 ∨ x = nI 2 ∨ x = nI 3 ∨ ¬ inN x 4 := by
  by_cases h : inN x 4
  · obtain ⟨k, hk, hk2, rfl⟩ := inN_of h
    have : k = 0 ∨ k = 1 ∨ k = 2 ∨ k = 3 := by omega
    rcases this with rfl | rfl | rfl | rfl <;> simp
  · simp [h]
theorem of_small {g : GS} {p k : Nat} (hp : inN (nI p) (gM g 92)) (hu : u32 (nI p) = p) (hk : k < 6) (h4 : k ≠ 4) : f_of g (nI p) (nI k) = (nI (gM g (32 + 10 * p + k)), g) := by
  unfold f_of
  rw [if_neg (fun z => z hp), if_pos (inN_nI hk (by omega)), hu, show u32 (nI k) = k from nI_clamp (by omega), if_neg h4]
theorem of_4 {g : GS} {p : Nat} (hp : inN (nI p) (gM g 92)) (hu : u32 (nI p) = p) : f_of g (nI p) (nI 4) = (l5 (gM g (32 + 10 * p + 4)), g) := by
  unfold f_of
  rw [if_neg (fun z => z hp), if_pos (inN_nI (by decide) (by decide)), hu, show u32 (nI 4) = 4 from nI_clamp (by decide), if_pos rfl]
theorem nn6 {n : Nat} (h : 6 ≤ n) (h2 : n < 2 ^ 31) : ¬ inN (nI n) 6 := fun z => by have := (inN_iff h2).mp z; omega

set_option maxRecDepth 100000 in
set_option maxHeartbeats 4000000 in
theorem s_X8_of {G : GT} {q : S_} {g : GS} (p : Int32) (w : Int32) (hg : GOK g) (hCC : CC q g) : Spec G 7 yX8_of cX8_of 4 (some .int) [rfn G 0, .int p, .int w] q (PI (PC (f_of g p w) q)) := by
  refine Spec.intro RX8 (by decide) rfl (Nat.le_of_ble_eq_true rfl) [some (rfn G 0), some (.int p), some (.int w), none] rfl ?_
  intro X d hd C hR
  obtain ⟨hW, hCy, h95, hN6, h94, hK, hT1, hT2, hTp, hR1, hSy, hSyJ⟩ := id hg
  obtain ⟨hRw, hKw, hCyr, hNc, hKc, hQ, hTx, hTs, hAt⟩ := id hCC
  have hc := hW.c
  have hq := hCC.qs hg
  have hG : Goo (gM g) (gC g) := fun k hk => hCy k (by omega)
  refine aw_aload_0 C dX8_of_0 rfl ?_
  refine aw_iload_1 C dX8_of_1 ?_
  refine aw_cV1IE C (s_X8_isPerson _ hRw (by omega)) mf_X8_isPerson mv_X8_isPerson (sh_0) rfl ml_X8_71 dX8_of_2 (by omega) (Nat.le_of_ble_eq_true rfl) ?_
  refine aw_if_ne_b C dX8_of_5 (tgt := 12) (by decide)  (fun c_5 => ?_) (fun c_5 => ?_)
  · obtain ⟨p, hp1, hp2, rfl⟩ := inN_of c_5
    have hu : u32 (nI p) = p := nI_clamp hp2
    have hp := hW.p hp1
    refine aw_aload_0 C dX8_of_12 rfl ?_
    refine aw_g8_0 C dX8_of_13 fl_X8_14 ?_
    refine aw_g7_6 C dX8_of_16 (shW0 isW1) fl_X8_74 ?_
    refine aw_iload_1 C dX8_of_19 ?_
    refine aw_pald C _ dX8_of_20 (shW4 isW1) rfl (by omega) ?_
    refine aw_astore_3 C dX8_of_21 (by decide) (fun w h => by cases h <;> rfl) rfl ?_
    refine aw_iload_2 C dX8_of_22 ?_
    rcases sw9 w with rfl | rfl | rfl | rfl | rfl | rfl | rfl | rfl | rfl | hout
    · skip
      refine aw_tableIn C dX8_of_23 (off := 49) (tgt := 72) (by decide +kernel) (by decide +kernel) (by decide +kernel) (by decide) ?_
      refine aw_aload_3 C dX8_of_72 rfl ?_
      refine aw_g2_0 C (hRw.2.2.1.2 p hp1).1 dX8_of_73 (shWE isW1 (by omega)).1 fl_X8_78 ?_
      refine aw_iretI C hR dX8_of_76 ?_
      exact PC.here hCC rfl (of_small c_5 hu (by decide) (by decide))
    · skip
      refine aw_tableIn C dX8_of_23 (off := 54) (tgt := 77) (by decide +kernel) (by decide +kernel) (by decide +kernel) (by decide) ?_
      refine aw_aload_3 C dX8_of_77 rfl ?_
      refine aw_g2_1 C (hRw.2.2.1.2 p hp1).2.1 dX8_of_78 (shWE isW1 (by omega)).1 fl_X8_84 ?_
      refine aw_iretI C hR dX8_of_81 ?_
      exact PC.here hCC rfl (of_small c_5 hu (by decide) (by decide))
    · skip
      refine aw_tableIn C dX8_of_23 (off := 59) (tgt := 82) (by decide +kernel) (by decide +kernel) (by decide +kernel) (by decide) ?_
      refine aw_aload_3 C dX8_of_82 rfl ?_
      refine aw_g2_2 C (hRw.2.2.1.2 p hp1).2.2.1 dX8_of_83 (shWE isW1 (by omega)).1 fl_X8_87 ?_
      refine aw_iretI C hR dX8_of_86 ?_
      exact PC.here hCC rfl (of_small c_5 hu (by decide) (by decide))
    · skip
      refine aw_tableIn C dX8_of_23 (off := 64) (tgt := 87) (by decide +kernel) (by decide +kernel) (by decide +kernel) (by decide) ?_
      refine aw_aload_3 C dX8_of_87 rfl ?_
      refine aw_g2_3 C (hRw.2.2.1.2 p hp1).2.2.2.1 dX8_of_88 (shWE isW1 (by omega)).1 fl_X8_90 ?_
      refine aw_iretI C hR dX8_of_91 ?_
      exact PC.here hCC rfl (of_small c_5 hu (by decide) (by decide))
    · skip
      refine aw_tableIn C dX8_of_23 (off := 69) (tgt := 92) (by decide +kernel) (by decide +kernel) (by decide +kernel) (by decide) ?_
      refine aw_aload_3 C dX8_of_92 rfl ?_
      refine aw_g2_4 C (hRw.2.2.1.2 p hp1).2.2.2.2.1 dX8_of_93 (shWE isW1 (by omega)).1 fl_X8_93 ?_
      refine aw_iretI C hR dX8_of_96 ?_
      exact PC.here hCC rfl (of_4 c_5 hu)
    · skip
      refine aw_tableIn C dX8_of_23 (off := 74) (tgt := 97) (by decide +kernel) (by decide +kernel) (by decide +kernel) (by decide) ?_
      refine aw_aload_3 C dX8_of_97 rfl ?_
      refine aw_g2_5 C (hRw.2.2.1.2 p hp1).2.2.2.2.2.1 dX8_of_98 (shWE isW1 (by omega)).1 fl_X8_96 ?_
      refine aw_iretI C hR dX8_of_101 ?_
      exact PC.here hCC rfl (of_small c_5 hu (by decide) (by decide))
    · skip
      refine aw_tableIn C dX8_of_23 (off := 79) (tgt := 102) (by decide +kernel) (by decide +kernel) (by decide +kernel) (by decide) ?_
      refine aw_aload_0 C dX8_of_102 rfl ?_
      refine aw_g8_3 C dX8_of_103 fl_X8_27 ?_
      refine aw_aload_0 C dX8_of_106 rfl ?_
      refine aw_g8_0 C dX8_of_107 fl_X8_14 ?_
      refine aw_iload_1 C dX8_of_110 ?_
      obtain ⟨L0, hL0⟩ := hQ
      refine aw_cV2I C (s_X6_reachable 1 p isW1 hRw hW hCyr h95 hN6 hG hp1 hL0) mf_X6_reachable mv_X6_reachable (sh_88) rfl ml_X8_99 dX8_of_111 (by omega) (Nat.le_of_ble_eq_true rfl) (fun r_111 q_111 h_111 => ?_)
      obtain ⟨rfl, hQ2, hF2⟩ := h_111
      refine aw_iretI C hR dX8_of_114 ?_
      exact PC.ask hCC hg rfl (by unfold f_of; rw [if_neg (fun z => z c_5), if_neg (nn6 (by decide) (by decide)), if_pos rfl, hu]) hF2.as2 hQ2
    · skip
      refine aw_tableIn C dX8_of_23 (off := 92) (tgt := 115) (by decide +kernel) (by decide +kernel) (by decide +kernel) (by decide) ?_
      refine aw_aload_0 C dX8_of_115 rfl ?_
      refine aw_iload_1 C dX8_of_116 ?_
      refine aw_cV1I C (s_X8_hoursUntilDone p hq hp1 (by omega)) mf_X8_hoursUntilDone mv_X8_hoursUntilDone (sh_0) rfl ml_X8_103 dX8_of_117 (by omega) (Nat.le_of_ble_eq_true rfl) (fun r_117 q_117 h_117 => ?_)
      obtain ⟨rfl, hF2, hQ2⟩ := h_117
      refine aw_iretI C hR dX8_of_120 ?_
      exact PC.ask hCC hg rfl (by unfold f_of; rw [if_neg (fun z => z c_5), if_neg (nn6 (by decide) (by decide)), if_neg (nI_ne (by decide) (by decide) (by decide)), if_pos rfl, hu]) hF2 hQ2
    · skip
      refine aw_tableIn C dX8_of_23 (off := 98) (tgt := 121) (by decide +kernel) (by decide +kernel) (by decide +kernel) (by decide) ?_
      refine aw_aload_0 C dX8_of_121 rfl ?_
      refine aw_iload_1 C dX8_of_122 ?_
      refine aw_cV1I C (s_X8_crossable p hq hp1) mf_X8_crossable mv_X8_crossable (sh_0) rfl ml_X8_107 dX8_of_123 (by omega) (Nat.le_of_ble_eq_true rfl) (fun r_123 q_123 h_123 => ?_)
      obtain ⟨rfl, hF2⟩ := h_123
      refine aw_iretI C hR dX8_of_126 ?_
      exact PC.askf hCC hg rfl (by unfold f_of; rw [if_neg (fun z => z c_5), if_neg (nn6 (by decide) (by decide)), if_neg (nI_ne (by decide) (by decide) (by decide)), if_neg (nI_ne (by decide) (by decide) (by decide)), if_pos rfl, hu]) hF2
    · skip
      refine aw_tableOut C dX8_of_23 (tgt := 127) (out_of (n := 9) hout (by decide)) (by decide) ?_
      refine aw_aload_0 C dX8_of_127 rfl ?_
      refine aw_iload_1 C dX8_of_128 ?_
      refine aw_iload_2 C dX8_of_129 ?_
      refine aw_cV2I C (s_X8_leaveNow p w hq hp1) mf_X8_leaveNow mv_X8_leaveNow (sh_0) rfl ml_X8_110 dX8_of_130 (by omega) (Nat.le_of_ble_eq_true rfl) (fun r_130 q_130 h_130 => ?_)
      obtain ⟨rfl, hF2⟩ := h_130
      refine aw_iretI C hR dX8_of_133 ?_
      have hk : ∀ k, k < 9 → ¬ w = nI k := fun k h e => hout (by rw [e]; exact inN_nI h (by omega))
      have h6 : ¬ inN w 6 := fun z => by obtain ⟨j, j1, j2, e⟩ := inN_of z; exact hk j (by omega) e
      exact PC.askf hCC hg rfl (by unfold f_of; rw [if_neg (fun z => z c_5), if_neg h6, if_neg (hk 6 (by decide)), if_neg (hk 7 (by decide)), if_neg (hk 8 (by decide)), hu]) hF2
  · skip
    refine aw_sipush C dX8_of_8 k3_m10001 ?_
    refine aw_iretI C hR dX8_of_11 ?_
    exact PC.here hCC rfl (by unfold f_of; rw [if_pos c_5])

set_option maxRecDepth 100000 in
set_option maxHeartbeats 4000000 in
theorem s_X8_span {G : GT} {q : S_} {g : GS} (b : Int32) (w : Int32) (hg : GOK g) (hCC : CC q g) : Spec G 2 yX8_span cX8_span 3 (some .int) [rfn G 0, .int b, .int w] q (PI (PC (f_span g b w) q)) := by
  refine Spec.intro RX8 (by decide) rfl (Nat.le_of_ble_eq_true rfl) [some (rfn G 0), some (.int b), some (.int w)] rfl ?_
  intro X d hd C hR
  obtain ⟨hW, hCy, h95, hN6, h94, hK, hT1, hT2, hTp, hR1, hSy, hSyJ⟩ := id hg
  obtain ⟨hRw, hKw, hCyr, hNc, hKc, hQ, hTx, hTs, hAt⟩ := id hCC
  have hc := hW.c
  have hq := hCC.qs hg
  have hG : Goo (gM g) (gC g) := fun k hk => hCy k (by omega)
  refine aw_aload_0 C dX8_span_0 rfl ?_
  refine aw_iload_1 C dX8_span_1 ?_
  refine aw_cV1IE C (s_X8_isBridge _ hRw (by omega)) mf_X8_isBridge mv_X8_isBridge (sh_0) rfl ml_X8_113 dX8_span_2 (by omega) (Nat.le_of_ble_eq_true rfl) ?_
  refine aw_if_ne_b C dX8_span_5 (tgt := 10) (by decide)  (fun c_5 => ?_) (fun c_5 => ?_)
  · obtain ⟨b, hb1, hb2, rfl⟩ := inN_of c_5
    have hub : u32 (nI b) = b := nI_clamp hb2
    have hbb := hW.b hb1
    have hl := lostM_lt (gM g)
    have hpw := pow_nb hc.1
    refine aw_iload_2 C dX8_span_10 ?_
    rcases sw4 w with rfl | rfl | rfl | rfl | hout
    · skip
      refine aw_tableIn C dX8_span_11 (off := 29) (tgt := 40) (by decide +kernel) (by decide +kernel) (by decide +kernel) (by decide) ?_
      refine aw_aload_0 C dX8_span_40 rfl ?_
      refine aw_g8_0 C dX8_span_41 fl_X8_14 ?_
      refine aw_g7_1 C dX8_span_44 (shW0 isW1) fl_X8_116 ?_
      refine aw_iload_1 C dX8_span_47 ?_
      refine aw_iald C _ (hRw.1.2 b hb1).1 dX8_span_48 (shW1 isW1) rfl (by omega) ?_
      refine aw_iretI C hR dX8_span_49 ?_
      exact PC.here hCC rfl (by unfold f_span; rw [if_neg (fun z => z ⟨c_5, inN_nI (by decide) (by decide)⟩), if_neg (by decide), hub]; rfl)
    · skip
      refine aw_tableIn C dX8_span_11 (off := 39) (tgt := 50) (by decide +kernel) (by decide +kernel) (by decide +kernel) (by decide) ?_
      refine aw_aload_0 C dX8_span_50 rfl ?_
      refine aw_g8_0 C dX8_span_51 fl_X8_14 ?_
      refine aw_g7_2 C dX8_span_54 (shW0 isW1) fl_X8_120 ?_
      refine aw_iload_1 C dX8_span_57 ?_
      refine aw_iald C _ (hRw.1.2 b hb1).2.1 dX8_span_58 (shW2 isW1) rfl (by omega) ?_
      refine aw_iretI C hR dX8_span_59 ?_
      exact PC.here hCC rfl (by unfold f_span; rw [if_neg (fun z => z ⟨c_5, inN_nI (by decide) (by decide)⟩), if_neg (by decide), hub]; rfl)
    · skip
      refine aw_tableIn C dX8_span_11 (off := 49) (tgt := 60) (by decide +kernel) (by decide +kernel) (by decide +kernel) (by decide) ?_
      refine aw_aload_0 C dX8_span_60 rfl ?_
      refine aw_g8_0 C dX8_span_61 fl_X8_14 ?_
      refine aw_g7_3 C dX8_span_64 (shW0 isW1) fl_X8_123 ?_
      refine aw_iload_1 C dX8_span_67 ?_
      refine aw_iald C _ (hRw.1.2 b hb1).2.2 dX8_span_68 (shW3 isW1) rfl (by omega) ?_
      refine aw_iretI C hR dX8_span_69 ?_
      exact PC.here hCC rfl (by unfold f_span; rw [if_neg (fun z => z ⟨c_5, inN_nI (by decide) (by decide)⟩), if_pos (by decide), hub])
    · skip
      refine aw_tableIn C dX8_span_11 (off := 59) (tgt := 70) (by decide +kernel) (by decide +kernel) (by decide +kernel) (by decide) ?_
      refine aw_aload_0 C dX8_span_70 rfl ?_
      refine aw_g8_0 C dX8_span_71 fl_X8_14 ?_
      refine aw_g7_4 C hRw.2.1 dX8_span_74 (shW0 isW1) fl_X8_126 ?_
      refine aw_iload_1 C dX8_span_77 ?_
      refine aw_ishr_n C dX8_span_78 (by omega) (by omega) ?_
      refine aw_iconst C dX8_span_79 k1_1 ?_
      refine aw_iand_n C dX8_span_80  ?_
      refine aw_iretI C hR dX8_span_81 ?_
      have hv : lostM (gM g) / 2 ^ b &&& 1 = gM g (4 * b + 3) := by
        have h1 := lost_b hb1
        rw [Nat.and_one_is_mod] at h1 ⊢
        have h2 := Nat.mod_lt (lostM (gM g) / 2 ^ b) (by decide : 2 > 0)
        have h3 := hbb.2.2.2.2
        by_cases z : gM g (4 * b + 3) = 1
        · have : ¬ lostM (gM g) / 2 ^ b % 2 = 0 := fun y => h1.mp y z
          omega
        · have := h1.mpr z
          omega
      exact PC.here hCC (congrArg nI hv) (by unfold f_span; rw [if_neg (fun z => z ⟨c_5, inN_nI (by decide) (by decide)⟩), if_neg (by decide), hub]; rfl)
    · skip
      refine aw_tableOut C dX8_span_11 (tgt := 82) (out_of (n := 4) hout (by decide)) (by decide) ?_
      refine aw_iconst C dX8_span_82 k1_m1 ?_
      refine aw_iretI C hR dX8_span_83 ?_
      exact PC.here hCC rfl (by unfold f_span; rw [if_pos (fun z => hout z.2)])
  · skip
    refine aw_iconst C dX8_span_8 k1_m1 ?_
    refine aw_iretI C hR dX8_span_9 ?_
    exact PC.here hCC rfl (by unfold f_span; rw [if_pos (fun z => c_5 z.1)])

set_option maxRecDepth 100000 in
set_option maxHeartbeats 4000000 in
theorem s_X8_errand {G : GT} {q : S_} {g : GS} (p : Int32) (x : Int32) (hg : GOK g) (hCC : CC q g) : Spec G 2 yX8_errand cX8_errand 5 (some .int) [rfn G 0, .int p, .int x] q (PI (PC (f_errand g p x) q)) := by
  refine Spec.intro RX8 (by decide) rfl (Nat.le_of_ble_eq_true rfl) [some (rfn G 0), some (.int p), some (.int x), none, none] rfl ?_
  intro X d hd C hR
  obtain ⟨hW, hCy, h95, hN6, h94, hK, hT1, hT2, hTp, hR1, hSy, hSyJ⟩ := id hg
  obtain ⟨hRw, hKw, hCyr, hNc, hKc, hQ, hTx, hTs, hAt⟩ := id hCC
  have hc := hW.c
  have hq := hCC.qs hg
  have hG : Goo (gM g) (gC g) := fun k hk => hCy k (by omega)
  refine aw_aload_0 C dX8_errand_0 rfl ?_
  refine aw_iload_1 C dX8_errand_1 ?_
  refine aw_cV1IE C (s_X8_isPerson _ hRw (by omega)) mf_X8_isPerson mv_X8_isPerson (sh_0) rfl ml_X8_71 dX8_errand_2 (by omega) (Nat.le_of_ble_eq_true rfl) ?_
  refine aw_if_eq_b C dX8_errand_5 (tgt := 20) (by decide)  (fun c_5 => ?_) (fun c_5 => ?_)
  · skip
    refine aw_iconst C dX8_errand_20 k1_m1 ?_
    refine aw_iretI C hR dX8_errand_21 ?_
    exact PC.here hCC rfl (by unfold f_errand; rw [if_neg (fun z => c_5 z.1)])
  · obtain ⟨p, hp1, hp2, rfl⟩ := inN_of c_5
    have hu : u32 (nI p) = p := nI_clamp hp2
    have hp := hW.p hp1
    refine aw_iload_2 C dX8_errand_8 ?_
    refine aw_iconst C dX8_errand_9 k1_m1 ?_
    refine aw_icmp_eq C dX8_errand_10 (tgt := 22) (by decide)  (fun c_10 => ?_) (fun c_10 => ?_)
    · skip
      refine aw_aload_0 C dX8_errand_22 rfl ?_
      refine aw_g8_0 C dX8_errand_23 fl_X8_14 ?_
      refine aw_g7_6 C dX8_errand_26 (shW0 isW1) fl_X8_74 ?_
      refine aw_iload_1 C dX8_errand_29 ?_
      refine aw_pald C _ dX8_errand_30 (shW4 isW1) rfl (by omega) ?_
      refine aw_astore_3 C dX8_errand_31 (by decide) (fun w h => by cases h <;> rfl) rfl ?_
      refine aw_aload_3 C dX8_errand_32 rfl ?_
      refine aw_g2_4 C (hRw.2.2.1.2 p hp1).2.2.2.2.1 dX8_errand_33 (shWE isW1 (by omega)).1 fl_X8_93 ?_
      refine aw_istore_4 C dX8_errand_36 (by decide) (fun w h => by cases h <;> rfl) ?_
      refine aw_aload_3 C dX8_errand_38 rfl ?_
      refine aw_iload_2 C dX8_errand_39 ?_
      refine aw_iconst C dX8_errand_40 k1_m1 ?_
      refine aw_icmp_ne C dX8_errand_41 (tgt := 49) (by decide)  (fun c_41 => absurd c_41 (fun z => z c_10)) (fun c_41 => ?_)
      refine aw_bipush C dX8_errand_44 k2_m5 ?_
      refine aw_goto C dX8_errand_46 (tgt := 50) (by decide) ?_
      refine aw_p2_4 C dX8_errand_50 (shWE isW1 (by omega)).1 fl_X8_93 ?_
      refine aw_iload_4 C dX8_errand_53 ?_
      refine aw_iretI C hR dX8_errand_55 ?_
      exact PC.w hCC hg rfl (M2 := mu (gM g) (32 + 10 * p + 4) 99) (by unfold f_errand; rw [if_pos ⟨c_5, Or.inl c_10⟩, hu, show oN x = 99 from if_pos c_10]) (Fr.set ⟨by omega, by omega⟩) (hRw.per hW hp1 (f := 4) (v := 99) (by decide))
    · skip
      refine aw_iload_2 C dX8_errand_13 ?_
      refine aw_cS1IE C (s_X8_isQuarter _) mf_X8_isQuarter ms_X8_isQuarter ml_X8_59 dX8_errand_14 (by omega) (Nat.le_of_ble_eq_true rfl) ?_
      refine aw_if_ne_b C dX8_errand_17 (tgt := 22) (by decide)  (fun c_17 => ?_) (fun c_17 => ?_)
      · obtain ⟨x, hx1, hx2, rfl⟩ := inN_of c_17
        have hux : u32 (nI x) = x := nI_clamp hx2
        refine aw_aload_0 C dX8_errand_22 rfl ?_
        refine aw_g8_0 C dX8_errand_23 fl_X8_14 ?_
        refine aw_g7_6 C dX8_errand_26 (shW0 isW1) fl_X8_74 ?_
        refine aw_iload_1 C dX8_errand_29 ?_
        refine aw_pald C _ dX8_errand_30 (shW4 isW1) rfl (by omega) ?_
        refine aw_astore_3 C dX8_errand_31 (by decide) (fun w h => by cases h <;> rfl) rfl ?_
        refine aw_aload_3 C dX8_errand_32 rfl ?_
        refine aw_g2_4 C (hRw.2.2.1.2 p hp1).2.2.2.2.1 dX8_errand_33 (shWE isW1 (by omega)).1 fl_X8_93 ?_
        refine aw_istore_4 C dX8_errand_36 (by decide) (fun w h => by cases h <;> rfl) ?_
        refine aw_aload_3 C dX8_errand_38 rfl ?_
        refine aw_iload_2 C dX8_errand_39 ?_
        refine aw_iconst C dX8_errand_40 k1_m1 ?_
        refine aw_icmp_ne C dX8_errand_41 (tgt := 49) (by decide)  (fun c_41 => ?_) (fun c_41 => absurd c_41 c_10)
        refine aw_iload_2 C dX8_errand_49 ?_
        refine aw_p2_4 C dX8_errand_50 (shWE isW1 (by omega)).1 fl_X8_93 ?_
        refine aw_iload_4 C dX8_errand_53 ?_
        refine aw_iretI C hR dX8_errand_55 ?_
        have hv := hRw.per hW hp1 (f := 4) (v := x) (by decide)
        rw [show fv 4 x = nI x from l5_n (by omega)] at hv
        exact PC.w hCC hg rfl (M2 := mu (gM g) (32 + 10 * p + 4) x) (by unfold f_errand; rw [if_pos ⟨c_5, Or.inr c_17⟩, hu, show oN (nI x) = x from (if_neg c_10).trans hux]) (Fr.set ⟨by omega, by omega⟩) hv
      · skip
        refine aw_iconst C dX8_errand_20 k1_m1 ?_
        refine aw_iretI C hR dX8_errand_21 ?_
        exact PC.here hCC rfl (by unfold f_errand; rw [if_neg (fun z => z.2.elim c_10 c_17)])
