theorem ge_m1 {x : Int32} (h1 : ¬ x < -1) (h2 : x < nI 12) : x = -1 ∨ inN x 12 := (isInM (m := 11) (by decide)).mp ⟨Int32.not_lt.mp h1, by
  rw [Int32.lt_iff_toInt_lt, nI_toInt (by decide)] at h2
  rw [Int32.le_iff_toInt_le, nI_toInt (by decide)]
  omega⟩
theorem ge_m1n {x : Int32} (h : x < -1 ∨ ¬ x < nI 12) : ¬ (x = -1 ∨ inN x 12) := fun z => by
  have y := (isInM (m := 11) (by decide)).mpr z
  rcases h with h | h
  · exact absurd y.1 (Int32.not_le.mpr h)
  · have y2 := y.2
    rw [Int32.lt_iff_toInt_lt, nI_toInt (by decide)] at h
    rw [Int32.le_iff_toInt_le, nI_toInt (by decide)] at y2
    omega
theorem RelW.rS {q q2 : S_} {w : Nat} {M M2 : Nat → Nat} (h : RelW q w M) (hW : WF M) (hq : ∀ k j, w ≤ k → k < w + 29 → ¬ (w + 5 ≤ k ∧ k ≤ w + 8) → gI q2 k j = gI q k j) (hM : ∀ j, ¬ (96 ≤ j ∧ j < 112) → M2 j = M j) (hr : wS q2 w M2) : RelW q2 w M2 := by
  have hc := hW.c
  obtain ⟨a1, a2, a3, a4, a5, a6, a7, a8⟩ := h
  exact ⟨a1.t (fun k j z => hq k j (by omega) (by omega) (by omega)) (hM _ (by omega)) (fun j h1 h2 => hM j (by omega)), a2.t (hq _ _ (by omega) (by omega) (by omega)) (hM _ (by omega)) (fun j h1 => hM _ (by omega)), a3.t (by omega) (fun k j z => hq k j (by omega) (by omega) (by omega)) (fun j _ _ => hM j (by omega)), a4.t (hq _ _ (by omega) (by omega) (by omega)) (hM _ (by omega)), a5.t (hq _ _ (by omega) (by omega) (by omega)) (hM _ (by omega)),
    hr, a7.t (by omega) (fun k j z y => hq k j (by omega) (by omega) (by omega)) (fun j _ _ => hM j (by omega)), a8.t (by omega) (fun k j z y => hq k j (by omega) (by omega) (by omega)) (fun j _ _ => hM j (by omega))⟩
theorem RelW.rN {q q2 : S_} {w : Nat} {M M2 : Nat → Nat} (h : RelW q w M) (hW : WF M) (hq : ∀ k j, w ≤ k → k < w + 29 → ¬ (w + 9 ≤ k ∧ k ≤ w + 12) → gI q2 k j = gI q k j) (hM : ∀ j, ¬ (112 ≤ j ∧ j < 129) → M2 j = M j) (hr : wN q2 w M2) : RelW q2 w M2 := by
  have hc := hW.c
  obtain ⟨a1, a2, a3, a4, a5, a6, a7, a8⟩ := h
  exact ⟨a1.t (fun k j z => hq k j (by omega) (by omega) (by omega)) (hM _ (by omega)) (fun j h1 h2 => hM j (by omega)), a2.t (hq _ _ (by omega) (by omega) (by omega)) (hM _ (by omega)) (fun j h1 => hM _ (by omega)), a3.t (by omega) (fun k j z => hq k j (by omega) (by omega) (by omega)) (fun j _ _ => hM j (by omega)), a4.t (hq _ _ (by omega) (by omega) (by omega)) (hM _ (by omega)), a5.t (hq _ _ (by omega) (by omega) (by omega)) (hM _ (by omega)),
    a6.t (by omega) (fun k j z y => hq k j (by omega) (by omega) (by omega)) (fun j _ _ => hM j (by omega)), hr, a8.t (by omega) (fun k j z y => hq k j (by omega) (by omega) (by omega)) (fun j _ _ => hM j (by omega))⟩
theorem RelW.rK {q q2 : S_} {w : Nat} {M M2 : Nat → Nat} (h : RelW q w M) (hW : WF M) (hq : ∀ k j, w ≤ k → k < w + 29 → ¬ (w + 13 ≤ k ∧ k ≤ w + 16) → gI q2 k j = gI q k j) (hM : ∀ j, ¬ (129 ≤ j ∧ j < 146) → M2 j = M j) (hr : wK q2 w M2) : RelW q2 w M2 := by
  have hc := hW.c
  obtain ⟨a1, a2, a3, a4, a5, a6, a7, a8⟩ := h
  exact ⟨a1.t (fun k j z => hq k j (by omega) (by omega) (by omega)) (hM _ (by omega)) (fun j h1 h2 => hM j (by omega)), a2.t (hq _ _ (by omega) (by omega) (by omega)) (hM _ (by omega)) (fun j h1 => hM _ (by omega)), a3.t (by omega) (fun k j z => hq k j (by omega) (by omega) (by omega)) (fun j _ _ => hM j (by omega)), a4.t (hq _ _ (by omega) (by omega) (by omega)) (hM _ (by omega)), a5.t (hq _ _ (by omega) (by omega) (by omega)) (hM _ (by omega)),
    a6.t (by omega) (fun k j z y => hq k j (by omega) (by omega) (by omega)) (fun j _ _ => hM j (by omega)), a7.t (by omega) (fun k j z y => hq k j (by omega) (by omega) (by omega)) (fun j _ _ => hM j (by omega)), hr⟩
theorem RowR.e0 {q : S_} {k : Nat} {a b c : Nat → Nat} {n : Nat} (hn : n = 0) : RowR (sI q k 3 (nI 0)) k n a b c := by
  subst hn
  exact ⟨by rw [gI_sI, if_pos ⟨rfl, rfl⟩], fun r hr => absurd hr (Nat.not_lt_zero r)⟩
theorem RelW.eS {q : S_} {w : Nat} {M : Nat → Nat} (h : RelW q w M) (hW : WF M) : RelW (sI q (w + 5) 3 (nI 0)) w (mu M 96 0) := h.rS hW (fun k j _ _ z => by rw [gI_sI, if_neg (by omega)]) (fun j z => mu_ne (by omega)) (RowR.e0 mu_eq)
theorem RelW.eN {q : S_} {w : Nat} {M : Nat → Nat} (h : RelW q w M) (hW : WF M) : RelW (sI q (w + 9) 3 (nI 0)) w (mu M 112 0) := h.rN hW (fun k j _ _ z => by rw [gI_sI, if_neg (by omega)]) (fun j z => mu_ne (by omega)) (RowR.e0 mu_eq)
theorem RelW.eK {q : S_} {w : Nat} {M : Nat → Nat} (h : RelW q w M) (hW : WF M) : RelW (sI q (w + 13) 3 (nI 0)) w (mu M 129 0) := h.rK hW (fun k j _ _ z => by rw [gI_sI, if_neg (by omega)]) (fun j z => mu_ne (by omega)) (RowR.e0 mu_eq)
theorem RelW.aS {q q2 : S_} {w p x n : Nat} {M : Nat → Nat} (h : RelW q w M) (hW : WF M) (hr : RowR q2 (w + 5) (M 96 + 1) (updN (fun r => M (97 + 3 * r)) (M 96) p) (updN (fun r => M (97 + 3 * r + 2)) (M 96) x) (updN (fun r => M (97 + 3 * r + 1)) (M 96) n)) (hf : Fr (fun a _ => w + 5 ≤ a ∧ a ≤ w + 5 + 3) q q2) (h5 : M 96 < 5) : RelW q2 w (mu (mu (mu (mu M (97 + 3 * M 96) p) (97 + 3 * M 96 + 1) n) (97 + 3 * M 96 + 2) x) 96 (M 96 + 1)) := by
  refine h.rS hW (fun k j _ _ z => hf.2 k j (by omega)) (fun j z => by rw [mu_ne (by omega), mu_ne (by omega), mu_ne (by omega), mu_ne (by omega)]) (hr.t (fun _ _ _ => rfl) mu_eq (fun r hr => ?_))
  simp only [mu, updN]
  refine ⟨?_, ?_, ?_⟩ <;> (repeat' split) <;> first | rfl | (exfalso; omega)
theorem RelW.aN {q q2 : S_} {w p x : Nat} {M : Nat → Nat} (h : RelW q w M) (hW : WF M) (hr : RowR q2 (w + 9) (M 112 + 1) (updN (fun r => M (114 + 2 * r)) (M 112) x) (updN (fun r => M (113 + 2 * r)) (M 112) p) (updN (fun _ => 0) (M 112) 0)) (hf : Fr (fun a _ => w + 9 ≤ a ∧ a ≤ w + 9 + 3) q q2) (h5 : M 112 < 8) : RelW q2 w (mu (mu (mu M (113 + 2 * M 112) p) (114 + 2 * M 112) x) 112 (M 112 + 1)) := by
  refine h.rN hW (fun k j _ _ z => hf.2 k j (by omega)) (fun j z => by rw [mu_ne (by omega), mu_ne (by omega), mu_ne (by omega)]) (hr.t (fun _ _ _ => rfl) mu_eq (fun r hr => ?_))
  simp only [mu, updN]
  refine ⟨?_, ?_, ?_⟩ <;> (repeat' split) <;> first | rfl | (exfalso; omega)
theorem RelW.aK {q q2 : S_} {w p x : Nat} {M : Nat → Nat} (h : RelW q w M) (hW : WF M) (hr : RowR q2 (w + 13) (M 129 + 1) (updN (fun r => M (130 + 2 * r)) (M 129) p) (updN (fun r => M (131 + 2 * r)) (M 129) x) (updN (fun _ => 0) (M 129) 0)) (hf : Fr (fun a _ => w + 13 ≤ a ∧ a ≤ w + 13 + 3) q q2) (h5 : M 129 < 8) : RelW q2 w (mu (mu (mu M (130 + 2 * M 129) p) (131 + 2 * M 129) x) 129 (M 129 + 1)) := by
  refine h.rK hW (fun k j _ _ z => hf.2 k j (by omega)) (fun j z => by rw [mu_ne (by omega), mu_ne (by omega), mu_ne (by omega)]) (hr.t (fun _ _ _ => rfl) mu_eq (fun r hr => ?_))
  simp only [mu, updN]
  refine ⟨?_, ?_, ?_⟩ <;> (repeat' split) <;> first | rfl | (exfalso; omega)
theorem s_X3_add32 {G : GT} {q : S_} {n : Nat} {a b c : Nat → Nat} (k m : Nat) (x : Int32) (y z : Nat) (hr : shR k m) (hm : m ≤ 8) (h : RowR q k n a b c) (hn : n ≤ m) : Spec G 1 yX3_add cX3_add 4 (some .int) [rfn G k, .int x, .int (nI y), .int (nI z)] q (PI (fun r q3 => (n = m ∧ r = -4 ∧ q3 = q) ∨ (n < m ∧ r = nI (n + 1) ∧ RowR q3 k (n + 1) (updN a n (w32 x)) (updN b n y) (updN c n z) ∧ Fr (fun a _ => k ≤ a ∧ a ≤ k + 3) q q3))) := by
  have w := s_X3_add (G := G) (q := q) k m (w32 x) y z hr hm h hn
  rw [nI_w32] at w
  exact w

set_option maxRecDepth 100000 in
set_option maxHeartbeats 4000000 in
theorem s_X8_way {G : GT} {q : S_} {g : GS} (p : Int32) (x : Int32) (k : Int32) (hg : GOK g) (hCC : CC q g) : Spec G 5 yX8_way cX8_way 5 (some .int) [rfn G 0, .int p, .int x, .int k] q (PI (PC (f_way g p x k) q)) := by
  refine Spec.intro RX8 (by decide) rfl (Nat.le_of_ble_eq_true rfl) [some (rfn G 0), some (.int p), some (.int x), some (.int k), none] rfl ?_
  intro X d hd C hR
  obtain ⟨hW, hCy, h95, hN6, h94, hK, hT1, hT2, hTp, hR1, hSy, hSyJ⟩ := id hg
  obtain ⟨hRw, hKw, hCyr, hNc, hKc, hQ, hTx, hTs, hAt⟩ := id hCC
  have hc := hW.c
  have hq := hCC.qs hg
  have hG : Goo (gM g) (gC g) := fun k hk => hCy k (by omega)
  refine aw_aload_0 C dX8_way_0 rfl ?_
  refine aw_iload_1 C dX8_way_1 ?_
  refine aw_cV1IE C (s_X8_isPerson _ hRw (by omega)) mf_X8_isPerson mv_X8_isPerson (sh_0) rfl ml_X8_71 dX8_way_2 (by omega) (Nat.le_of_ble_eq_true rfl) ?_
  refine aw_if_eq_b C dX8_way_5 (tgt := 26) (by decide)  (fun c_5 => ?_) (fun c_5 => ?_)
  · skip
    refine aw_iconst C dX8_way_26 k1_m1 ?_
    refine aw_iretI C hR dX8_way_27 ?_
    exact PC.here hCC rfl (by unfold f_way; rw [if_pos (fun z => c_5 z.1)])
  · obtain ⟨p, hp1, hp2, rfl⟩ := inN_of c_5
    have hu : u32 (nI p) = p := nI_clamp hp2
    have hp := hW.p hp1
    refine aw_iload_2 C dX8_way_8 ?_
    refine aw_cS1IE C (s_X8_isQuarter _) mf_X8_isQuarter ms_X8_isQuarter ml_X8_59 dX8_way_9 (by omega) (Nat.le_of_ble_eq_true rfl) ?_
    refine aw_if_eq_b C dX8_way_12 (tgt := 26) (by decide)  (fun c_12 => ?_) (fun c_12 => ?_)
    · skip
      refine aw_iconst C dX8_way_26 k1_m1 ?_
      refine aw_iretI C hR dX8_way_27 ?_
      exact PC.here hCC rfl (by unfold f_way; rw [if_pos (fun z => c_12 z.2.1)])
    · obtain ⟨x, hx1, hx2, rfl⟩ := inN_of c_12
      have hux : u32 (nI x) = x := nI_clamp hx2
      refine aw_iload_3 C dX8_way_15 ?_
      refine aw_iconst C dX8_way_16 k1_m1 ?_
      refine aw_icmp_lt C dX8_way_17 (tgt := 26) (by decide)  (fun c_17 => ?_) (fun c_17 => ?_)
      · skip
        refine aw_iconst C dX8_way_26 k1_m1 ?_
        refine aw_iretI C hR dX8_way_27 ?_
        exact PC.here hCC rfl (by unfold f_way; rw [if_pos (fun z => ge_m1n (Or.inl c_17) z.2.2)])
      · skip
        refine aw_iload_3 C dX8_way_20 ?_
        refine aw_bipush C dX8_way_21 k2_12 ?_
        refine aw_icmp_lt C dX8_way_23 (tgt := 28) (by decide)  (fun c_23 => ?_) (fun c_23 => ?_)
        · have c23 := ge_m1 c_17 c_23
          refine aw_aload_0 C dX8_way_28 rfl ?_
          refine aw_g8_3 C dX8_way_29 fl_X8_27 ?_
          refine aw_aload_0 C dX8_way_32 rfl ?_
          refine aw_g8_0 C dX8_way_33 fl_X8_14 ?_
          refine aw_iload_1 C dX8_way_36 ?_
          refine aw_iload_2 C dX8_way_37 ?_
          obtain ⟨L0, hL0⟩ := hQ
          refine aw_cV3I C (s_X6_search 1 p x isW1 hRw hW hCyr h95 hN6 hG hp1 hL0 hx1) mf_X6_search mv_X6_search (sh_88) rfl ml_X8_185 dX8_way_38 (by omega) (Nat.le_of_ble_eq_true rfl) (fun r_38 q_38 h_38 => ?_)
          obtain ⟨rfl, hS2, hF2⟩ := h_38
          have hQ2 : ∃ L, WQ q_38 L := hS2.elim (fun L z => ⟨L, z.1⟩)
          refine aw_istore_4 C dX8_way_41 (by decide) (fun w h => by cases h <;> rfl) ?_
          refine aw_iload_3 C dX8_way_43 ?_
          refine aw_iconst C dX8_way_44 k1_m1 ?_
          refine aw_icmp_ne C dX8_way_45 (tgt := 53) (by decide)  (fun c_45 => ?_) (fun c_45 => ?_)
          · skip
            refine aw_aload_0 C dX8_way_53 rfl ?_
            refine aw_g8_3 C dX8_way_54 fl_X8_27 ?_
            refine aw_iload_3 C dX8_way_57 ?_
            obtain ⟨k, hk1, hk2, rfl⟩ := inN_of (c23.resolve_left c_45)
            have huk : u32 (nI k) = k := nI_clamp hk2
            refine aw_cV1IE C (s_X6_stepAt (M := gM g) (256 * x) k (GL.F hW hp1) hc.1 hS2 hk1) mf_X6_stepAt mv_X6_stepAt (sh_88) rfl ml_X8_189 dX8_way_58 (by omega) (Nat.le_of_ble_eq_true rfl) ?_
            refine aw_iretI C hR dX8_way_61 ?_
            exact PC.ask hCC hg rfl (by unfold f_way; rw [if_neg (fun z => z ⟨c_5, c_12, c23⟩), if_neg c_45, hu, hux, huk]; rfl) hF2.as2 hQ2
          · skip
            refine aw_iload_4 C dX8_way_48 ?_
            refine aw_goto C dX8_way_50 (tgt := 61) (by decide) ?_
            refine aw_iretI C hR dX8_way_61 ?_
            exact PC.ask hCC hg rfl (by unfold f_way; rw [if_neg (fun z => z ⟨c_5, c_12, c23⟩), if_pos c_45, hu, hux]) hF2.as2 hQ2
        · skip
          refine aw_iconst C dX8_way_26 k1_m1 ?_
          refine aw_iretI C hR dX8_way_27 ?_
          exact PC.here hCC rfl (by unfold f_way; rw [if_pos (fun z => ge_m1n (Or.inr c_23) z.2.2)])

set_option maxRecDepth 100000 in
set_option maxHeartbeats 4000000 in
theorem s_X8_see {G : GT} {q : S_} {g : GS} (p : Int32) (n : Int32) (x : Int32) (hg : GOK g) (hCC : CC q g) : Spec G 2 yX8_see cX8_see 4 (some .int) [rfn G 0, .int p, .int n, .int x] q (PI (PC (f_see g p n x) q)) := by
  refine Spec.intro RX8 (by decide) rfl (Nat.le_of_ble_eq_true rfl) [some (rfn G 0), some (.int p), some (.int n), some (.int x)] rfl ?_
  intro X d hd C hR
  obtain ⟨hW, hCy, h95, hN6, h94, hK, hT1, hT2, hTp, hR1, hSy, hSyJ⟩ := id hg
  obtain ⟨hRw, hKw, hCyr, hNc, hKc, hQ, hTx, hTs, hAt⟩ := id hCC
  have hc := hW.c
  have hq := hCC.qs hg
  have hG : Goo (gM g) (gC g) := fun k hk => hCy k (by omega)
  refine aw_iload_1 C dX8_see_0 ?_
  refine aw_iconst C dX8_see_1 k1_m1 ?_
  refine aw_icmp_ne C dX8_see_2 (tgt := 16) (by decide)  (fun c_2 => ?_) (fun c_2 => ?_)
  · skip
    refine aw_aload_0 C dX8_see_16 rfl ?_
    refine aw_iload_1 C dX8_see_17 ?_
    refine aw_cV1IE C (s_X8_isPerson _ hRw (by omega)) mf_X8_isPerson mv_X8_isPerson (sh_0) rfl ml_X8_71 dX8_see_18 (by omega) (Nat.le_of_ble_eq_true rfl) ?_
    refine aw_if_eq_b C dX8_see_21 (tgt := 31) (by decide)  (fun c_21 => ?_) (fun c_21 => ?_)
    · skip
      refine aw_iconst C dX8_see_31 k1_m1 ?_
      refine aw_iretI C hR dX8_see_32 ?_
      exact PC.here hCC rfl (by unfold f_see; rw [if_neg c_2, if_pos (fun z => c_21 z.1)])
    · obtain ⟨p, hp1, hp2, rfl⟩ := inN_of c_21
      have hu : u32 (nI p) = p := nI_clamp hp2
      have hp := hW.p hp1
      refine aw_iload_3 C dX8_see_24 ?_
      refine aw_cS1IE C (s_X8_isQuarter _) mf_X8_isQuarter ms_X8_isQuarter ml_X8_59 dX8_see_25 (by omega) (Nat.le_of_ble_eq_true rfl) ?_
      refine aw_if_ne_b C dX8_see_28 (tgt := 33) (by decide)  (fun c_28 => ?_) (fun c_28 => ?_)
      · obtain ⟨x, hx1, hx2, rfl⟩ := inN_of c_28
        have hux : u32 (nI x) = x := nI_clamp hx2
        refine aw_iload_2 C dX8_see_33 ?_
        refine aw_if_lt C dX8_see_34 (tgt := 43) (by decide)  (fun c_34 => ?_) (fun c_34 => ?_)
        · skip
          refine aw_bipush C dX8_see_43 k2_m2 ?_
          refine aw_iretI C hR dX8_see_45 ?_
          exact PC.here hCC rfl (by unfold f_see; rw [if_neg c_2, if_neg (fun z => z ⟨c_21, c_28⟩), if_pos (fun z => z.1 c_34)])
        · skip
          refine aw_iload_2 C dX8_see_37 ?_
          refine aw_bipush C dX8_see_38 k2_8 ?_
          refine aw_icmp_le C dX8_see_40 (tgt := 46) (by decide)  (fun c_40 => ?_) (fun c_40 => ?_)
          · have c40 : inN n 9 := by
              obtain ⟨j, j2, e⟩ := nI_of c_34
              rw [e] at c_40 ⊢
              exact inN_nI (by have := (nI_leI j2 (by decide)).mp c_40; omega) j2
            obtain ⟨n, hn1, hn2, rfl⟩ := inN_of c40
            have hun : u32 (nI n) = n := nI_clamp hn2
            refine aw_aload_0 C dX8_see_46 rfl ?_
            refine aw_g8_0 C dX8_see_47 fl_X8_14 ?_
            refine aw_g7_9 C dX8_see_50 (shW0 isW1) fl_X8_198 ?_
            refine aw_iload_1 C dX8_see_53 ?_
            refine aw_iload_3 C dX8_see_54 ?_
            refine aw_iload_2 C dX8_see_55 ?_
            refine aw_cV3I C (s_X3_add (1 + 5) 5 p x n (shW5R isW1) (by decide) hRw.2.2.2.2.2.1 hc.2.2.2.2.1) mf_X3_add mv_X3_add (shW5R isW1).1 rfl ml_X8_207 dX8_see_56 (by omega) (Nat.le_of_ble_eq_true rfl) (fun r_56 q_56 h_56 => ?_)
            refine aw_iretI C hR dX8_see_59 ?_
            rcases h_56 with ⟨e1, rfl, rfl⟩ | ⟨e1, rfl, hr2, hF2⟩
            · exact PC.here hCC rfl (by unfold f_see; rw [if_neg c_2, if_neg (fun z => z ⟨c_21, c_28⟩), if_neg (fun z => z c40), if_pos e1])
            · exact PC.w hCC hg rfl (by unfold f_see; rw [if_neg c_2, if_neg (fun z => z ⟨c_21, c_28⟩), if_neg (fun z => z c40), if_neg (by omega), hu, hux, hun]) (hF2.mono (fun k j z => ⟨by omega, by omega⟩)) (hRw.aS hW hr2 hF2 e1)
          · have c40 : ¬ inN n 9 := fun z => by obtain ⟨j, j1, j2, e⟩ := inN_of z; rw [e] at c_40; exact c_40 (nI_le (by omega) (by decide))
            refine aw_bipush C dX8_see_43 k2_m2 ?_
            refine aw_iretI C hR dX8_see_45 ?_
            exact PC.here hCC rfl (by unfold f_see; rw [if_neg c_2, if_neg (fun z => z ⟨c_21, c_28⟩), if_pos c40])
      · skip
        refine aw_iconst C dX8_see_31 k1_m1 ?_
        refine aw_iretI C hR dX8_see_32 ?_
        exact PC.here hCC rfl (by unfold f_see; rw [if_neg c_2, if_pos (fun z => c_28 z.2)])
  · skip
    refine aw_aload_0 C dX8_see_5 rfl ?_
    refine aw_g8_0 C dX8_see_6 fl_X8_14 ?_
    refine aw_g7_9 C dX8_see_9 (shW0 isW1) fl_X8_198 ?_
    refine aw_cV0IE C (s_X3_empty _ _ (shW5R isW1)) mf_X3_empty mv_X3_empty (shW5R isW1).1 rfl ml_X8_202 dX8_see_12 (by omega) (Nat.le_of_ble_eq_true rfl) ?_
    refine aw_iretI C hR dX8_see_15 ?_
    exact PC.w hCC hg rfl (by unfold f_see; rw [if_pos c_2]) (Fr.set ⟨by omega, by omega⟩) (hRw.eS hW)

set_option maxRecDepth 100000 in
set_option maxHeartbeats 4000000 in
theorem s_X8_book {G : GT} {q : S_} {g : GS} (p : Int32) (x : Int32) (hg : GOK g) (hCC : CC q g) : Spec G 2 yX8_book cX8_book 3 (some .int) [rfn G 0, .int p, .int x] q (PI (PC (f_book g p x) q)) := by
  refine Spec.intro RX8 (by decide) rfl (Nat.le_of_ble_eq_true rfl) [some (rfn G 0), some (.int p), some (.int x)] rfl ?_
  intro X d hd C hR
  obtain ⟨hW, hCy, h95, hN6, h94, hK, hT1, hT2, hTp, hR1, hSy, hSyJ⟩ := id hg
  obtain ⟨hRw, hKw, hCyr, hNc, hKc, hQ, hTx, hTs, hAt⟩ := id hCC
  have hc := hW.c
  have hq := hCC.qs hg
  have hG : Goo (gM g) (gC g) := fun k hk => hCy k (by omega)
  refine aw_iload_1 C dX8_book_0 ?_
  refine aw_iconst C dX8_book_1 k1_m1 ?_
  refine aw_icmp_ne C dX8_book_2 (tgt := 16) (by decide)  (fun c_2 => ?_) (fun c_2 => ?_)
  · skip
    refine aw_aload_0 C dX8_book_16 rfl ?_
    refine aw_iload_1 C dX8_book_17 ?_
    refine aw_cV1IE C (s_X8_isPerson _ hRw (by omega)) mf_X8_isPerson mv_X8_isPerson (sh_0) rfl ml_X8_71 dX8_book_18 (by omega) (Nat.le_of_ble_eq_true rfl) ?_
    refine aw_if_eq_b C dX8_book_21 (tgt := 31) (by decide)  (fun c_21 => ?_) (fun c_21 => ?_)
    · skip
      refine aw_iconst C dX8_book_31 k1_m1 ?_
      refine aw_iretI C hR dX8_book_32 ?_
      exact PC.here hCC rfl (by unfold f_book; rw [if_neg c_2, if_pos (fun z => c_21 z.1)])
    · obtain ⟨p, hp1, hp2, rfl⟩ := inN_of c_21
      have hu : u32 (nI p) = p := nI_clamp hp2
      have hp := hW.p hp1
      refine aw_iload_2 C dX8_book_24 ?_
      refine aw_cS1IE C (s_X8_isQuarter _) mf_X8_isQuarter ms_X8_isQuarter ml_X8_59 dX8_book_25 (by omega) (Nat.le_of_ble_eq_true rfl) ?_
      refine aw_if_ne_b C dX8_book_28 (tgt := 33) (by decide)  (fun c_28 => ?_) (fun c_28 => ?_)
      · obtain ⟨x, hx1, hx2, rfl⟩ := inN_of c_28
        have hux : u32 (nI x) = x := nI_clamp hx2
        refine aw_aload_0 C dX8_book_33 rfl ?_
        refine aw_g8_0 C dX8_book_34 fl_X8_14 ?_
        refine aw_g7_11 C dX8_book_37 (shW0 isW1) fl_X8_237 ?_
        refine aw_iload_1 C dX8_book_40 ?_
        refine aw_iload_2 C dX8_book_41 ?_
        refine aw_iconst C dX8_book_42 k1_0 ?_
        refine aw_cV3I C (s_X3_add (1 + 13) 8 p x 0 (shW13R isW1) (by decide) hRw.2.2.2.2.2.2.2 hc.2.2.2.2.2.2) mf_X3_add mv_X3_add (shW13R isW1).1 rfl ml_X8_207 dX8_book_43 (by omega) (Nat.le_of_ble_eq_true rfl) (fun r_43 q_43 h_43 => ?_)
        refine aw_iretI C hR dX8_book_46 ?_
        rcases h_43 with ⟨e1, rfl, rfl⟩ | ⟨e1, rfl, hr2, hF2⟩
        · exact PC.here hCC rfl (by unfold f_book; rw [if_neg c_2, if_neg (fun z => z ⟨c_21, c_28⟩), if_pos e1])
        · exact PC.w hCC hg rfl (by unfold f_book; rw [if_neg c_2, if_neg (fun z => z ⟨c_21, c_28⟩), if_neg (by omega), hu, hux]) (hF2.mono (fun k j z => ⟨by omega, by omega⟩)) (hRw.aK hW hr2 hF2 e1)
      · skip
        refine aw_iconst C dX8_book_31 k1_m1 ?_
        refine aw_iretI C hR dX8_book_32 ?_
        exact PC.here hCC rfl (by unfold f_book; rw [if_neg c_2, if_pos (fun z => c_28 z.2)])
  · skip
    refine aw_aload_0 C dX8_book_5 rfl ?_
    refine aw_g8_0 C dX8_book_6 fl_X8_14 ?_
    refine aw_g7_11 C dX8_book_9 (shW0 isW1) fl_X8_237 ?_
    refine aw_cV0IE C (s_X3_empty _ _ (shW13R isW1)) mf_X3_empty mv_X3_empty (shW13R isW1).1 rfl ml_X8_202 dX8_book_12 (by omega) (Nat.le_of_ble_eq_true rfl) ?_
    refine aw_iretI C hR dX8_book_15 ?_
    exact PC.w hCC hg rfl (by unfold f_book; rw [if_pos c_2]) (Fr.set ⟨by omega, by omega⟩) (hRw.eK hW)

theorem plOK_1 {M : Nat → Nat} {n : Int32} (h : ¬ inN n (M 93)) (w : Int32) (hw : w = nI 1 ∨ w = nI 2) : ¬ plOK M w n := fun z => by
  rcases z with z | z | z
  · rcases hw with rfl | rfl
    · exact absurd z (by decide +kernel)
    · exact absurd z (by decide +kernel)
  · exact h z.2
  · rcases hw with rfl | rfl
    · exact absurd z.1 (by decide +kernel)
    · exact absurd z.1 (by decide +kernel)
theorem plOK_3 {M : Nat → Nat} {n : Int32} (h : ¬ inN n (M 92)) : ¬ plOK M (nI 3) n := fun z => by
  rcases z with z | z | z
  · exact absurd z (by decide +kernel)
  · exact absurd z.1 (by decide +kernel)
  · exact h z.2

set_option maxRecDepth 100000 in
set_option maxHeartbeats 4000000 in
theorem s_X8_plan {G : GT} {q : S_} {g : GS} (w : Int32) (n : Int32) (hg : GOK g) (hCC : CC q g) : Spec G 2 yX8_plan cX8_plan 4 (some .int) [rfn G 0, .int w, .int n] q (PI (PC (f_plan g w n) q)) := by
  refine Spec.intro RX8 (by decide) rfl (Nat.le_of_ble_eq_true rfl) [some (rfn G 0), some (.int w), some (.int n), none] rfl ?_
  intro X d hd C hR
  obtain ⟨hW, hCy, h95, hN6, h94, hK, hT1, hT2, hTp, hR1, hSy, hSyJ⟩ := id hg
  obtain ⟨hRw, hKw, hCyr, hNc, hKc, hQ, hTx, hTs, hAt⟩ := id hCC
  have hc := hW.c
  have hq := hCC.qs hg
  have hG : Goo (gM g) (gC g) := fun k hk => hCy k (by omega)
  refine aw_iload_1 C dX8_plan_0 ?_
  refine aw_iconst C dX8_plan_1 k1_m1 ?_
  refine aw_icmp_ne C dX8_plan_2 (tgt := 16) (by decide)  (fun c_2 => ?_) (fun c_2 => ?_)
  · skip
    refine aw_iload_1 C dX8_plan_16 ?_
    rcases sw4 w with rfl | rfl | rfl | rfl | hout
    · skip
      refine aw_tableIn C dX8_plan_17 (off := 31) (tgt := 48) (by decide +kernel) (by decide +kernel) (by decide +kernel) (by decide) ?_
      refine aw_iconst C dX8_plan_48 k1_1 ?_
      refine aw_istore_3 C dX8_plan_49 (by decide) (fun w h => by cases h <;> rfl) ?_
      refine aw_goto C dX8_plan_50 (tgt := 73) (by decide) ?_
      refine aw_iload_3 C dX8_plan_73 ?_
      refine aw_if_eq_n C dX8_plan_74 (tgt := 93) (by decide) (by omega) (fun c_74 => absurd c_74 (by decide)) (fun c_74 => ?_)
      refine aw_aload_0 C dX8_plan_77 rfl ?_
      refine aw_g8_0 C dX8_plan_78 fl_X8_14 ?_
      refine aw_g7_10 C dX8_plan_81 (shW0 isW1) fl_X8_225 ?_
      refine aw_iload_2 C dX8_plan_84 ?_
      refine aw_iload_1 C dX8_plan_85 ?_
      refine aw_iconst C dX8_plan_86 k1_0 ?_
      refine aw_cV3I C (s_X3_add32 (1 + 9) 8 n 0 0 (shW9R isW1) (by decide) hRw.2.2.2.2.2.2.1 hc.2.2.2.2.2.1) mf_X3_add mv_X3_add (shW9R isW1).1 rfl ml_X8_207 dX8_plan_87 (by omega) (Nat.le_of_ble_eq_true rfl) (fun r_87 q_87 h_87 => ?_)
      refine aw_goto C dX8_plan_90 (tgt := 94) (by decide) ?_
      refine aw_iretI C hR dX8_plan_94 ?_
      rcases h_87 with ⟨e1, rfl, rfl⟩ | ⟨e1, rfl, hr2, hF2⟩
      · exact PC.here hCC rfl (by unfold f_plan; rw [if_neg c_2, if_neg (fun z => z (Or.inl rfl)), if_pos e1])
      · exact PC.w hCC hg rfl (by unfold f_plan; rw [if_neg c_2, if_neg (fun z => z (Or.inl rfl)), if_neg (by omega), show u32 (nI 0) = 0 from nI_clamp (by decide)]) (hF2.mono (fun k j z => ⟨by omega, by omega⟩)) (hRw.aN hW hr2 hF2 e1)
    · skip
      refine aw_tableIn C dX8_plan_17 (off := 36) (tgt := 53) (by decide +kernel) (by decide +kernel) (by decide +kernel) (by decide) ?_
      refine aw_aload_0 C dX8_plan_53 rfl ?_
      refine aw_iload_2 C dX8_plan_54 ?_
      refine aw_cV1IE C (s_X8_isBridge _ hRw (by omega)) mf_X8_isBridge mv_X8_isBridge (sh_0) rfl ml_X8_113 dX8_plan_55 (by omega) (Nat.le_of_ble_eq_true rfl) ?_
      refine aw_istore_3 C dX8_plan_58 (by decide) (fun w h => by cases h <;> rfl) ?_
      refine aw_goto C dX8_plan_59 (tgt := 73) (by decide) ?_
      refine aw_iload_3 C dX8_plan_73 ?_
      refine aw_if_eq_b C dX8_plan_74 (tgt := 93) (by decide)  (fun c_74 => ?_) (fun c_74 => ?_)
      · skip
        refine aw_iconst C dX8_plan_93 k1_m1 ?_
        refine aw_iretI C hR dX8_plan_94 ?_
        exact PC.here hCC rfl (by unfold f_plan; rw [if_neg c_2, if_pos (plOK_1 c_74 _ (Or.inl rfl))])
      · skip
        refine aw_aload_0 C dX8_plan_77 rfl ?_
        refine aw_g8_0 C dX8_plan_78 fl_X8_14 ?_
        refine aw_g7_10 C dX8_plan_81 (shW0 isW1) fl_X8_225 ?_
        refine aw_iload_2 C dX8_plan_84 ?_
        refine aw_iload_1 C dX8_plan_85 ?_
        refine aw_iconst C dX8_plan_86 k1_0 ?_
        refine aw_cV3I C (s_X3_add32 (1 + 9) 8 n 1 0 (shW9R isW1) (by decide) hRw.2.2.2.2.2.2.1 hc.2.2.2.2.2.1) mf_X3_add mv_X3_add (shW9R isW1).1 rfl ml_X8_207 dX8_plan_87 (by omega) (Nat.le_of_ble_eq_true rfl) (fun r_87 q_87 h_87 => ?_)
        refine aw_goto C dX8_plan_90 (tgt := 94) (by decide) ?_
        refine aw_iretI C hR dX8_plan_94 ?_
        rcases h_87 with ⟨e1, rfl, rfl⟩ | ⟨e1, rfl, hr2, hF2⟩
        · exact PC.here hCC rfl (by unfold f_plan; rw [if_neg c_2, if_neg (fun z => z (Or.inr (Or.inl ⟨Or.inl rfl, c_74⟩))), if_pos e1])
        · exact PC.w hCC hg rfl (by unfold f_plan; rw [if_neg c_2, if_neg (fun z => z (Or.inr (Or.inl ⟨Or.inl rfl, c_74⟩))), if_neg (by omega), show u32 (nI 1) = 1 from nI_clamp (by decide)]) (hF2.mono (fun k j z => ⟨by omega, by omega⟩)) (hRw.aN hW hr2 hF2 e1)
    · skip
      refine aw_tableIn C dX8_plan_17 (off := 36) (tgt := 53) (by decide +kernel) (by decide +kernel) (by decide +kernel) (by decide) ?_
      refine aw_aload_0 C dX8_plan_53 rfl ?_
      refine aw_iload_2 C dX8_plan_54 ?_
      refine aw_cV1IE C (s_X8_isBridge _ hRw (by omega)) mf_X8_isBridge mv_X8_isBridge (sh_0) rfl ml_X8_113 dX8_plan_55 (by omega) (Nat.le_of_ble_eq_true rfl) ?_
      refine aw_istore_3 C dX8_plan_58 (by decide) (fun w h => by cases h <;> rfl) ?_
      refine aw_goto C dX8_plan_59 (tgt := 73) (by decide) ?_
      refine aw_iload_3 C dX8_plan_73 ?_
      refine aw_if_eq_b C dX8_plan_74 (tgt := 93) (by decide)  (fun c_74 => ?_) (fun c_74 => ?_)
      · skip
        refine aw_iconst C dX8_plan_93 k1_m1 ?_
        refine aw_iretI C hR dX8_plan_94 ?_
        exact PC.here hCC rfl (by unfold f_plan; rw [if_neg c_2, if_pos (plOK_1 c_74 _ (Or.inr rfl))])
      · skip
        refine aw_aload_0 C dX8_plan_77 rfl ?_
        refine aw_g8_0 C dX8_plan_78 fl_X8_14 ?_
        refine aw_g7_10 C dX8_plan_81 (shW0 isW1) fl_X8_225 ?_
        refine aw_iload_2 C dX8_plan_84 ?_
        refine aw_iload_1 C dX8_plan_85 ?_
        refine aw_iconst C dX8_plan_86 k1_0 ?_
        refine aw_cV3I C (s_X3_add32 (1 + 9) 8 n 2 0 (shW9R isW1) (by decide) hRw.2.2.2.2.2.2.1 hc.2.2.2.2.2.1) mf_X3_add mv_X3_add (shW9R isW1).1 rfl ml_X8_207 dX8_plan_87 (by omega) (Nat.le_of_ble_eq_true rfl) (fun r_87 q_87 h_87 => ?_)
        refine aw_goto C dX8_plan_90 (tgt := 94) (by decide) ?_
        refine aw_iretI C hR dX8_plan_94 ?_
        rcases h_87 with ⟨e1, rfl, rfl⟩ | ⟨e1, rfl, hr2, hF2⟩
        · exact PC.here hCC rfl (by unfold f_plan; rw [if_neg c_2, if_neg (fun z => z (Or.inr (Or.inl ⟨Or.inr rfl, c_74⟩))), if_pos e1])
        · exact PC.w hCC hg rfl (by unfold f_plan; rw [if_neg c_2, if_neg (fun z => z (Or.inr (Or.inl ⟨Or.inr rfl, c_74⟩))), if_neg (by omega), show u32 (nI 2) = 2 from nI_clamp (by decide)]) (hF2.mono (fun k j z => ⟨by omega, by omega⟩)) (hRw.aN hW hr2 hF2 e1)
    · skip
      refine aw_tableIn C dX8_plan_17 (off := 45) (tgt := 62) (by decide +kernel) (by decide +kernel) (by decide +kernel) (by decide) ?_
      refine aw_aload_0 C dX8_plan_62 rfl ?_
      refine aw_iload_2 C dX8_plan_63 ?_
      refine aw_cV1IE C (s_X8_isPerson _ hRw (by omega)) mf_X8_isPerson mv_X8_isPerson (sh_0) rfl ml_X8_71 dX8_plan_64 (by omega) (Nat.le_of_ble_eq_true rfl) ?_
      refine aw_istore_3 C dX8_plan_67 (by decide) (fun w h => by cases h <;> rfl) ?_
      refine aw_goto C dX8_plan_68 (tgt := 73) (by decide) ?_
      refine aw_iload_3 C dX8_plan_73 ?_
      refine aw_if_eq_b C dX8_plan_74 (tgt := 93) (by decide)  (fun c_74 => ?_) (fun c_74 => ?_)
      · skip
        refine aw_iconst C dX8_plan_93 k1_m1 ?_
        refine aw_iretI C hR dX8_plan_94 ?_
        exact PC.here hCC rfl (by unfold f_plan; rw [if_neg c_2, if_pos (plOK_3 c_74)])
      · skip
        refine aw_aload_0 C dX8_plan_77 rfl ?_
        refine aw_g8_0 C dX8_plan_78 fl_X8_14 ?_
        refine aw_g7_10 C dX8_plan_81 (shW0 isW1) fl_X8_225 ?_
        refine aw_iload_2 C dX8_plan_84 ?_
        refine aw_iload_1 C dX8_plan_85 ?_
        refine aw_iconst C dX8_plan_86 k1_0 ?_
        refine aw_cV3I C (s_X3_add32 (1 + 9) 8 n 3 0 (shW9R isW1) (by decide) hRw.2.2.2.2.2.2.1 hc.2.2.2.2.2.1) mf_X3_add mv_X3_add (shW9R isW1).1 rfl ml_X8_207 dX8_plan_87 (by omega) (Nat.le_of_ble_eq_true rfl) (fun r_87 q_87 h_87 => ?_)
        refine aw_goto C dX8_plan_90 (tgt := 94) (by decide) ?_
        refine aw_iretI C hR dX8_plan_94 ?_
        rcases h_87 with ⟨e1, rfl, rfl⟩ | ⟨e1, rfl, hr2, hF2⟩
        · exact PC.here hCC rfl (by unfold f_plan; rw [if_neg c_2, if_neg (fun z => z (Or.inr (Or.inr ⟨rfl, c_74⟩))), if_pos e1])
        · exact PC.w hCC hg rfl (by unfold f_plan; rw [if_neg c_2, if_neg (fun z => z (Or.inr (Or.inr ⟨rfl, c_74⟩))), if_neg (by omega), show u32 (nI 3) = 3 from nI_clamp (by decide)]) (hF2.mono (fun k j z => ⟨by omega, by omega⟩)) (hRw.aN hW hr2 hF2 e1)
    · skip
      refine aw_tableOut C dX8_plan_17 (tgt := 71) (out_of (n := 4) hout (by decide)) (by decide) ?_
      refine aw_iconst C dX8_plan_71 k1_0 ?_
      refine aw_istore_3 C dX8_plan_72 (by decide) (fun w h => by cases h <;> rfl) ?_
      refine aw_iload_3 C dX8_plan_73 ?_
      refine aw_if_eq_n C dX8_plan_74 (tgt := 93) (by decide) (by omega) (fun c_74 => ?_) (fun c_74 => absurd c_74 (by decide))
      refine aw_iconst C dX8_plan_93 k1_m1 ?_
      refine aw_iretI C hR dX8_plan_94 ?_
      exact PC.here hCC rfl (by unfold f_plan; rw [if_neg c_2, if_pos (fun z => hout (by obtain ⟨k, hk, e⟩ := z.k; rw [e]; exact inN_nI hk (by omega)))])
  · skip
    refine aw_aload_0 C dX8_plan_5 rfl ?_
    refine aw_g8_0 C dX8_plan_6 fl_X8_14 ?_
    refine aw_g7_10 C dX8_plan_9 (shW0 isW1) fl_X8_225 ?_
    refine aw_cV0IE C (s_X3_empty _ _ (shW9R isW1)) mf_X3_empty mv_X3_empty (shW9R isW1).1 rfl ml_X8_202 dX8_plan_12 (by omega) (Nat.le_of_ble_eq_true rfl) ?_
    refine aw_iretI C hR dX8_plan_15 ?_
    exact PC.w hCC hg rfl (by unfold f_plan; rw [if_pos c_2]) (Fr.set ⟨by omega, by omega⟩) (hRw.eN hW)

set_option maxRecDepth 100000 in
set_option maxHeartbeats 4000000 in
theorem s_X8_looked {G : GT} {q : S_} {g : GS}  (hg : GOK g) (hCC : CC q g) : Spec G 2 yX8_looked cX8_looked 2 (some .int) [rfn G 0] q (PI (PC (f_looked g) q)) := by
  refine Spec.intro RX8 (by decide) rfl (Nat.le_of_ble_eq_true rfl) [some (rfn G 0), none] rfl ?_
  intro X d hd C hR
  obtain ⟨hW, hCy, h95, hN6, h94, hK, hT1, hT2, hTp, hR1, hSy, hSyJ⟩ := id hg
  obtain ⟨hRw, hKw, hCyr, hNc, hKc, hQ, hTx, hTs, hAt⟩ := id hCC
  have hc := hW.c
  have hq := hCC.qs hg
  have hG : Goo (gM g) (gC g) := fun k hk => hCy k (by omega)
  refine aw_iconst C dX8_looked_0 k1_0 ?_
  refine aw_istore_1 C dX8_looked_1 (by decide) (fun w h => by cases h <;> rfl) ?_
  have L2 : ∀ (n2 r : Nat), r ≤ gM g 129 → gM g 129 < r + n2 → lookF (gM g) (gM g 129) 0 = lookF (gM g) (gM g 129 - r) r → AW X G (q) 2 [some (rfn G 0), some (.int (nI r))] [] := by
    refine nat_loop (fun r g1 g2 hlk => by omega) (fun n2 ih r g1 g2 hlk => ?_)
    refine aw_iload_1 C dX8_looked_2 ?_
    refine aw_aload_0 C dX8_looked_3 rfl ?_
    refine aw_g8_0 C dX8_looked_4 fl_X8_14 ?_
    refine aw_g7_11 C dX8_looked_7 (shW0 isW1) fl_X8_237 ?_
    refine aw_g3_3 C hRw.2.2.2.2.2.2.2.1 dX8_looked_10 (shW13R isW1).1 fl_X8_228 ?_
    refine aw_icmp_ge_n C dX8_looked_13 (tgt := 62) (by decide) (by omega) (by omega) (fun c_13 => ?_) (fun c_13 => ?_)
    · skip
      refine aw_bipush C dX8_looked_62 k2_m5 ?_
      refine aw_iretI C hR dX8_looked_64 ?_
      exact PC.here hCC rfl (by unfold f_looked; rw [hlk, show gM g 129 - r = 0 by omega]; rfl)
    · have hrr : gI q (1 + 13 + 1) r = nI (gM g (130 + 2 * r)) ∧ gI q (1 + 13 + 2) r = nI (gM g (131 + 2 * r)) ∧ gI q (1 + 13 + 3) r = nI 0 := hRw.2.2.2.2.2.2.2.2 r (by omega)
      have hbk := hW.2.2.2.2.2.1 r (by omega)
      refine aw_aload_0 C dX8_looked_16 rfl ?_
      refine aw_g8_0 C dX8_looked_17 fl_X8_14 ?_
      refine aw_g7_6 C dX8_looked_20 (shW0 isW1) fl_X8_74 ?_
      refine aw_aload_0 C dX8_looked_23 rfl ?_
      refine aw_g8_0 C dX8_looked_24 fl_X8_14 ?_
      refine aw_g7_11 C dX8_looked_27 (shW0 isW1) fl_X8_237 ?_
      refine aw_g3_0 C dX8_looked_30 (shW13R isW1).1 fl_X8_231 ?_
      refine aw_iload_1 C dX8_looked_33 ?_
      refine aw_iald C _ hrr.1 dX8_looked_34 (shW13R isW1).2.1 rfl (by omega) ?_
      refine aw_pald C _ dX8_looked_35 (shW4 isW1) rfl (Nat.lt_of_lt_of_le hbk.1 hc.2.1) ?_
      refine aw_g2_3 C (hRw.2.2.1.2 _ hbk.1).2.2.2.1 dX8_looked_36 (shWE isW1 (Nat.lt_of_lt_of_le hbk.1 hc.2.1)).1 fl_X8_90 ?_
      refine aw_aload_0 C dX8_looked_39 rfl ?_
      refine aw_g8_0 C dX8_looked_40 fl_X8_14 ?_
      refine aw_g7_11 C dX8_looked_43 (shW0 isW1) fl_X8_237 ?_
      refine aw_g3_1 C dX8_looked_46 (shW13R isW1).1 fl_X8_234 ?_
      refine aw_iload_1 C dX8_looked_49 ?_
      refine aw_iald C _ hrr.2.1 dX8_looked_50 (shW13R isW1).2.2.1 rfl (by omega) ?_
      have hpb := hW.p hbk.1
      refine aw_icmp_eq_n C dX8_looked_51 (tgt := 56) (by decide) (by omega) (by omega) (fun c_51 => ?_) (fun c_51 => ?_)
      · skip
        refine aw_iinc_1 C dX8_looked_56 (by decide) (fun w h => by cases h <;> rfl) (show _ + Int32.ofInt 1 = _ by rw [k1_1, nI_add]) ?_
        refine aw_goto C dX8_looked_59 (tgt := 2) (by decide) ?_
        exact ih (r + 1) (by omega) (by omega) (by rw [hlk, show gM g 129 - r = (gM g 129 - (r + 1)) + 1 by omega, lookF_s, if_pos c_51])
      · skip
        refine aw_iload_1 C dX8_looked_54 ?_
        refine aw_iretI C hR dX8_looked_55 ?_
        exact PC.here hCC rfl (by unfold f_looked; rw [hlk, show gM g 129 - r = (gM g 129 - (r + 1)) + 1 by omega, lookF_s, if_neg c_51, l5_n (by omega)])
  exact L2 (gM g 129 + 1) 0 (by omega) (by omega) rfl

set_option maxRecDepth 100000 in
set_option maxHeartbeats 4000000 in
theorem s_X8_mean {G : GT} {q : S_} {g : GS} (w : Int32) (hg : GOK g) (hCC : CC q g) : Spec G 3 yX8_mean cX8_mean 2 (some .long) [rfn G 0, .int w] q (PL (PCl (f_mean g w) q)) := by
  refine Spec.intro RX8 (by decide) rfl (Nat.le_of_ble_eq_true rfl) [some (rfn G 0), some (.int w)] rfl ?_
  intro X d hd C hR
  obtain ⟨hW, hCy, h95, hN6, h94, hK, hT1, hT2, hTp, hR1, hSy, hSyJ⟩ := id hg
  obtain ⟨hRw, hKw, hCyr, hNc, hKc, hQ, hTx, hTs, hAt⟩ := id hCC
  have hc := hW.c
  have hq := hCC.qs hg
  have hG : Goo (gM g) (gC g) := fun k hk => hCy k (by omega)
  have hh8 := halvesM_le (gM g) (gM g 92)
  refine aw_iload_1 C dX8_mean_0 ?_
  refine aw_cS1IE C (s_X8_isPart _) mf_X8_isPart ms_X8_isPart ml_X8_213 dX8_mean_1 (by omega) (Nat.le_of_ble_eq_true rfl) ?_
  refine aw_if_eq_b C dX8_mean_4 (tgt := 17) (by decide)  (fun c_4 => ?_) (fun c_4 => ?_)
  · skip
    refine aw_ldc2 C dX8_mean_17 kc_X8_216 ?_
    refine aw_lretL C hR dX8_mean_20 ?_
    exact PCl.here hCC rfl (by unfold f_mean; rw [if_neg (fun z => c_4 z.1)]; rfl)
  · skip
    refine aw_aload_0 C dX8_mean_7 rfl ?_
    refine aw_g8_0 C dX8_mean_8 fl_X8_14 ?_
    refine aw_g7_5 C hRw.2.2.1.1 dX8_mean_11 (shW0 isW1) fl_X8_222 ?_
    refine aw_if_ne_n C dX8_mean_14 (tgt := 21) (by decide) (by omega) (fun c_14 => ?_) (fun c_14 => ?_)
    · skip
      refine aw_aload_0 C dX8_mean_21 rfl ?_
      refine aw_g8_0 C dX8_mean_22 fl_X8_14 ?_
      refine aw_cV0IE C (s_X7_halves 1 isW1 hRw hW) mf_X7_halves mv_X7_halves (shW0 isW1) rfl ml_X8_174 dX8_mean_25 (by omega) (Nat.le_of_ble_eq_true rfl) ?_
      refine aw_aload_0 C dX8_mean_28 rfl ?_
      refine aw_g8_0 C dX8_mean_29 fl_X8_14 ?_
      refine aw_g7_5 C hRw.2.2.1.1 dX8_mean_32 (shW0 isW1) fl_X8_222 ?_
      refine aw_iload_1 C dX8_mean_35 ?_
      refine aw_cS3LE C (s_X8_lowest _ _ w (by omega) (by omega) (by omega)) mf_X8_lowest ms_X8_lowest ml_X8_218 dX8_mean_36 (by omega) (Nat.le_of_ble_eq_true rfl) ?_
      refine aw_lretL C hR dX8_mean_39 ?_
      exact PCl.here hCC rfl (by unfold f_mean; rw [if_pos ⟨c_4, by omega⟩])
    · skip
      refine aw_ldc2 C dX8_mean_17 kc_X8_216 ?_
      refine aw_lretL C hR dX8_mean_20 ?_
      exact PCl.here hCC rfl (by unfold f_mean; rw [if_neg (fun z => z.2 (by omega))]; rfl)

set_option maxRecDepth 100000 in
set_option maxHeartbeats 4000000 in
theorem s_X8_trace {G : GT} {q : S_} {g : GS} (x : Int32) (hg : GOK g) (hCC : CC q g) : Spec G 2 yX8_trace cX8_trace 2 (some .int) [rfn G 0, .int x] q (PI (PC (f_trace g x) q)) := by
  refine Spec.intro RX8 (by decide) rfl (Nat.le_of_ble_eq_true rfl) [some (rfn G 0), some (.int x)] rfl ?_
  intro X d hd C hR
  obtain ⟨hW, hCy, h95, hN6, h94, hK, hT1, hT2, hTp, hR1, hSy, hSyJ⟩ := id hg
  obtain ⟨hRw, hKw, hCyr, hNc, hKc, hQ, hTx, hTs, hAt⟩ := id hCC
  have hc := hW.c
  have hq := hCC.qs hg
  have hG : Goo (gM g) (gC g) := fun k hk => hCy k (by omega)
  refine aw_iload_1 C dX8_trace_0 ?_
  refine aw_if_lt C dX8_trace_1 (tgt := 33) (by decide)  (fun c_1 => ?_) (fun c_1 => ?_)
  · skip
    refine aw_iconst C dX8_trace_33 k1_m1 ?_
    refine aw_iretI C hR dX8_trace_34 ?_
    exact PC.here hCC rfl (by unfold f_trace; rw [if_neg (fun z => z.1 c_1)])
  · skip
    refine aw_iload_1 C dX8_trace_4 ?_
    refine aw_aload_0 C dX8_trace_5 rfl ?_
    refine aw_g8_7 C dX8_trace_6 fl_X8_53 ?_
    have hAt1 : gI q 97 1 = nI (gR g) := hAt.1
    refine aw_g0_1 C hAt1 dX8_trace_9 fl_X8_257 ?_
    refine aw_icmp_ge C dX8_trace_12 (tgt := 33) (by decide)  (fun c_12 => ?_) (fun c_12 => ?_)
    · skip
      refine aw_iconst C dX8_trace_33 k1_m1 ?_
      refine aw_iretI C hR dX8_trace_34 ?_
      exact PC.here hCC rfl (by unfold f_trace; rw [if_neg (fun z => by obtain ⟨j, j1, j2, e⟩ := inN_of z; rw [e] at c_12; exact Int32.not_le.mpr (nI_lt (by omega) (by omega)) c_12)])
    · skip
      refine aw_iload_1 C dX8_trace_15 ?_
      refine aw_bipush C dX8_trace_16 k2_20 ?_
      refine aw_icmp_ge C dX8_trace_18 (tgt := 33) (by decide)  (fun c_18 => ?_) (fun c_18 => ?_)
      · skip
        refine aw_iconst C dX8_trace_33 k1_m1 ?_
        refine aw_iretI C hR dX8_trace_34 ?_
        exact PC.here hCC rfl (by unfold f_trace; rw [if_neg (fun z => by obtain ⟨j, j1, j2, e⟩ := inN_of z; rw [e] at c_18; exact Int32.not_le.mpr (nI_lt (by omega) (by decide)) c_18)])
      · have c18 : inN x (min 20 (gR g)) := by
          obtain ⟨j, j2, e⟩ := nI_of c_1
          rw [e] at c_12 c_18 ⊢
          have h1 := (nI_ltI j2 (by omega)).mp (Int32.not_le.mp c_12)
          have h2 := (nI_ltI j2 (by decide)).mp (Int32.not_le.mp c_18)
          exact inN_nI (by omega) j2
        obtain ⟨x, hx1, hx2, rfl⟩ := inN_of c18
        have hux : u32 (nI x) = x := nI_clamp hx2
        refine aw_aload_0 C dX8_trace_21 rfl ?_
        refine aw_g8_7 C dX8_trace_22 fl_X8_53 ?_
        refine aw_g0_0 C dX8_trace_25 fl_X8_264 ?_
        refine aw_iload_1 C dX8_trace_28 ?_
        refine aw_iald C _ (hAt.2 x (by omega) (by omega)) dX8_trace_29 sh_98 rfl (by omega) ?_
        refine aw_goto C dX8_trace_30 (tgt := 34) (by decide) ?_
        refine aw_iretI C hR dX8_trace_34 ?_
        exact PC.here hCC rfl (by unfold f_trace; rw [if_pos c18, hux])

set_option maxRecDepth 100000 in
set_option maxHeartbeats 4000000 in
theorem s_X8_taken {G : GT} {q : S_} {g : GS} (p : Int32) (k : Int32) (hg : GOK g) (hCC : CC q g) : Spec G 2 yX8_taken cX8_taken 4 (some .int) [rfn G 0, .int p, .int k] q (PI (PC (f_taken g p k) q)) := by
  refine Spec.intro RX8 (by decide) rfl (Nat.le_of_ble_eq_true rfl) [some (rfn G 0), some (.int p), some (.int k), none] rfl ?_
  intro X d hd C hR
  obtain ⟨hW, hCy, h95, hN6, h94, hK, hT1, hT2, hTp, hR1, hSy, hSyJ⟩ := id hg
  obtain ⟨hRw, hKw, hCyr, hNc, hKc, hQ, hTx, hTs, hAt⟩ := id hCC
  have hc := hW.c
  have hq := hCC.qs hg
  have hG : Goo (gM g) (gC g) := fun k hk => hCy k (by omega)
  refine aw_iload_2 C dX8_taken_0 ?_
  refine aw_if_lt C dX8_taken_1 (tgt := 10) (by decide)  (fun c_1 => ?_) (fun c_1 => ?_)
  · skip
    refine aw_bipush C dX8_taken_10 k2_m2 ?_
    refine aw_iretI C hR dX8_taken_12 ?_
    exact PC.here hCC rfl (by unfold f_taken; rw [if_pos (fun z => z.1 c_1)])
  · skip
    refine aw_iload_2 C dX8_taken_4 ?_
    refine aw_bipush C dX8_taken_5 k2_7 ?_
    refine aw_icmp_lt C dX8_taken_7 (tgt := 13) (by decide)  (fun c_7 => ?_) (fun c_7 => ?_)
    · have c7 : inN k 7 := by
        obtain ⟨j, j2, e⟩ := nI_of c_1
        rw [e] at c_7 ⊢
        exact inN_nI ((nI_ltI j2 (by decide)).mp c_7) j2
      obtain ⟨k, hk1, hk2, rfl⟩ := inN_of c7
      have huk : u32 (nI k) = k := nI_clamp hk2
      refine aw_aload_0 C dX8_taken_13 rfl ?_
      refine aw_iload_1 C dX8_taken_14 ?_
      refine aw_cV1IE C (s_X8_isPerson _ hRw (by omega)) mf_X8_isPerson mv_X8_isPerson (sh_0) rfl ml_X8_71 dX8_taken_15 (by omega) (Nat.le_of_ble_eq_true rfl) ?_
      refine aw_if_ne_b C dX8_taken_18 (tgt := 24) (by decide)  (fun c_18 => ?_) (fun c_18 => ?_)
      · obtain ⟨p, hp1, hp2, rfl⟩ := inN_of c_18
        have hu : u32 (nI p) = p := nI_clamp hp2
        have hp := hW.p hp1
        refine aw_aload_0 C dX8_taken_24 rfl ?_
        refine aw_g8_0 C dX8_taken_25 fl_X8_14 ?_
        refine aw_g7_6 C dX8_taken_28 (shW0 isW1) fl_X8_74 ?_
        refine aw_iload_1 C dX8_taken_31 ?_
        refine aw_pald C _ dX8_taken_32 (shW4 isW1) rfl (by omega) ?_
        refine aw_g2_0 C (hRw.2.2.1.2 p hp1).1 dX8_taken_33 (shWE isW1 (by omega)).1 fl_X8_78 ?_
        refine aw_istore_3 C dX8_taken_36 (by decide) (fun w h => by cases h <;> rfl) ?_
        refine aw_iload_3 C dX8_taken_37 ?_
        refine aw_iload_2 C dX8_taken_38 ?_
        refine aw_cS2IE C (s_X8_isUnder _ k (by omega) hk1) mf_X8_isUnder ms_X8_isUnder ml_X8_267 dX8_taken_39 (by omega) (Nat.le_of_ble_eq_true rfl) ?_
        refine aw_if_eq_b C dX8_taken_42 (tgt := 49) (by decide)  (fun c_42 => ?_) (fun c_42 => ?_)
        · skip
          refine aw_bipush C dX8_taken_49 k2_m12 ?_
          refine aw_iretI C hR dX8_taken_51 ?_
          exact PC.here hCC rfl (by unfold f_taken; rw [if_neg (fun z => z c7), if_neg (fun z => z c_18), hu, huk, if_neg c_42])
        · skip
          refine aw_iload_3 C dX8_taken_45 ?_
          refine aw_goto C dX8_taken_46 (tgt := 51) (by decide) ?_
          refine aw_iretI C hR dX8_taken_51 ?_
          exact PC.here hCC rfl (by unfold f_taken; rw [if_neg (fun z => z c7), if_neg (fun z => z c_18), hu, huk, if_pos c_42])
      · skip
        refine aw_bipush C dX8_taken_21 k2_m11 ?_
        refine aw_iretI C hR dX8_taken_23 ?_
        exact PC.here hCC rfl (by unfold f_taken; rw [if_neg (fun z => z c7), if_pos c_18])
    · have c7 : ¬ inN k 7 := fun z => by obtain ⟨j, j1, j2, e⟩ := inN_of z; rw [e] at c_7; exact c_7 (nI_lt (by omega) (by decide))
      refine aw_bipush C dX8_taken_10 k2_m2 ?_
      refine aw_iretI C hR dX8_taken_12 ?_
      exact PC.here hCC rfl (by unfold f_taken; rw [if_pos c7])

set_option maxRecDepth 100000 in
set_option maxHeartbeats 4000000 in
theorem s_X8_count {G : GT} {q : S_} {g : GS} (w : Int32) (hg : GOK g) (hCC : CC q g) : Spec G 2 yX8_count cX8_count 2 (some .int) [rfn G 0, .int w] q (PI (PC (f_count g w) q)) := by
  refine Spec.intro RX8 (by decide) rfl (Nat.le_of_ble_eq_true rfl) [some (rfn G 0), some (.int w)] rfl ?_
  intro X d hd C hR
  obtain ⟨hW, hCy, h95, hN6, h94, hK, hT1, hT2, hTp, hR1, hSy, hSyJ⟩ := id hg
  obtain ⟨hRw, hKw, hCyr, hNc, hKc, hQ, hTx, hTs, hAt⟩ := id hCC
  have hc := hW.c
  have hq := hCC.qs hg
  have hG : Goo (gM g) (gC g) := fun k hk => hCy k (by omega)
  refine aw_iload_1 C dX8_count_0 ?_
  rcases sw8 w with rfl | rfl | rfl | rfl | rfl | rfl | rfl | rfl | hout
  · skip
    refine aw_tableIn C dX8_count_1 (off := 47) (tgt := 48) (by decide +kernel) (by decide +kernel) (by decide +kernel) (by decide) ?_
    refine aw_aload_0 C dX8_count_48 rfl ?_
    refine aw_g8_0 C dX8_count_49 fl_X8_14 ?_
    refine aw_g7_5 C hRw.2.2.1.1 dX8_count_52 (shW0 isW1) fl_X8_222 ?_
    refine aw_iretI C hR dX8_count_55 ?_
    exact PC.here hCC rfl rfl
  · skip
    refine aw_tableIn C dX8_count_1 (off := 55) (tgt := 56) (by decide +kernel) (by decide +kernel) (by decide +kernel) (by decide) ?_
    refine aw_aload_0 C dX8_count_56 rfl ?_
    refine aw_g8_0 C dX8_count_57 fl_X8_14 ?_
    refine aw_g7_0 C hRw.1.1 dX8_count_60 (shW0 isW1) fl_X8_195 ?_
    refine aw_iretI C hR dX8_count_63 ?_
    exact PC.here hCC rfl rfl
  · skip
    refine aw_tableIn C dX8_count_1 (off := 63) (tgt := 64) (by decide +kernel) (by decide +kernel) (by decide +kernel) (by decide) ?_
    refine aw_aload_0 C dX8_count_64 rfl ?_
    refine aw_g8_8 C hNc dX8_count_65 fl_X8_150 ?_
    refine aw_iretI C hR dX8_count_68 ?_
    exact PC.here hCC rfl rfl
  · skip
    refine aw_tableIn C dX8_count_1 (off := 68) (tgt := 69) (by decide +kernel) (by decide +kernel) (by decide +kernel) (by decide) ?_
    refine aw_aload_0 C dX8_count_69 rfl ?_
    refine aw_g8_0 C dX8_count_70 fl_X8_14 ?_
    refine aw_g7_9 C dX8_count_73 (shW0 isW1) fl_X8_198 ?_
    refine aw_g3_3 C hRw.2.2.2.2.2.1.1 dX8_count_76 (shW5R isW1).1 fl_X8_228 ?_
    refine aw_iretI C hR dX8_count_79 ?_
    exact PC.here hCC rfl rfl
  · skip
    refine aw_tableIn C dX8_count_1 (off := 79) (tgt := 80) (by decide +kernel) (by decide +kernel) (by decide +kernel) (by decide) ?_
    refine aw_aload_0 C dX8_count_80 rfl ?_
    refine aw_g8_0 C dX8_count_81 fl_X8_14 ?_
    refine aw_g7_10 C dX8_count_84 (shW0 isW1) fl_X8_225 ?_
    refine aw_g3_3 C hRw.2.2.2.2.2.2.1.1 dX8_count_87 (shW9R isW1).1 fl_X8_228 ?_
    refine aw_iretI C hR dX8_count_90 ?_
    exact PC.here hCC rfl rfl
  · skip
    refine aw_tableIn C dX8_count_1 (off := 90) (tgt := 91) (by decide +kernel) (by decide +kernel) (by decide +kernel) (by decide) ?_
    refine aw_aload_0 C dX8_count_91 rfl ?_
    refine aw_g8_0 C dX8_count_92 fl_X8_14 ?_
    refine aw_g7_11 C dX8_count_95 (shW0 isW1) fl_X8_237 ?_
    refine aw_g3_3 C hRw.2.2.2.2.2.2.2.1 dX8_count_98 (shW13R isW1).1 fl_X8_228 ?_
    refine aw_iretI C hR dX8_count_101 ?_
    exact PC.here hCC rfl rfl
  · skip
    refine aw_tableIn C dX8_count_1 (off := 101) (tgt := 102) (by decide +kernel) (by decide +kernel) (by decide +kernel) (by decide) ?_
    refine aw_aload_0 C dX8_count_102 rfl ?_
    refine aw_g8_4 C dX8_count_103 fl_X8_34 ?_
    refine aw_g5_1 C hTx.1 dX8_count_106 fl_X8_157 ?_
    refine aw_iretI C hR dX8_count_109 ?_
    exact PC.here hCC rfl rfl
  · skip
    refine aw_tableIn C dX8_count_1 (off := 109) (tgt := 110) (by decide +kernel) (by decide +kernel) (by decide +kernel) (by decide) ?_
    refine aw_aload_0 C dX8_count_110 rfl ?_
    refine aw_g8_7 C dX8_count_111 fl_X8_53 ?_
    refine aw_g0_1 C hAt.1 dX8_count_114 fl_X8_257 ?_
    refine aw_iretI C hR dX8_count_117 ?_
    exact PC.here hCC rfl rfl
  · skip
    refine aw_tableOut C dX8_count_1 (tgt := 118) (out_of (n := 8) hout (by decide)) (by decide) ?_
    refine aw_bipush C dX8_count_118 k2_m2 ?_
    refine aw_iretI C hR dX8_count_120 ?_
    exact PC.here hCC rfl (by
      have hk : ∀ k, k < 8 → ¬ w = nI k := fun k h e => hout (by rw [e]; exact inN_nI h (by omega))
      unfold f_count
      rw [if_neg (hk 0 (by decide)), if_neg (hk 1 (by decide)), if_neg (hk 2 (by decide)), if_neg (hk 3 (by decide)), if_neg (hk 4 (by decide)), if_neg (hk 5 (by decide)), if_neg (hk 6 (by decide)), if_neg (hk 7 (by decide))])
