def stpT (F : List E4) (T j : Nat) : Nat := (ent F (anc F (idxM F T) (lngT F T - 1 - j))).2.2.1
theorem lngT_le {M : Nat → Nat} {F : List E4} {T : Nat} (h : GL M F) : lngT F T ≤ 12 ∨ lngT F T = 99 := by
  unfold lngT
  split
  · next hk => exact Or.inl (h.2.2.2 _ hk).2.2.1
  · exact Or.inr rfl
theorem anc_le {M : Nat → Nat} {L : List E4} (h : GL M L) {k : Nat} (hk : k < L.length) : ∀ m, m ≤ (ent L k).2.2.2 → anc L k m ≤ k := by
  intro m
  induction m with
  | zero => intro _; exact Nat.le_refl k
  | succ m ih =>
    intro hm
    have h1 := ih (by omega)
    have h2 := h.ancs hk m (by omega)
    have h3 := h.ancz hk (m := m) (by omega)
    have h4 := ((h.2.2.2 _ h2.1).2.2.2 h3).1
    show (ent L (anc L k m)).2.1 ≤ k
    omega
def SRP (q3 : S_) (F : List E4) (T : Nat) : Prop := ∃ L3, WQ q3 L3 ∧ gI q3 88 5 = l5 (lngT F T) ∧ ((T ∉ sts F ∧ L3 = F) ∨ FD T F L3 (lngT F T))
theorem SRP.t {q q2 : S_} {F : List E4} {T : Nat} (h : SRP q F T) (hq : ∀ k j, (88 ≤ k ∧ k ≤ 91) → gI q2 k j = gI q k j) : SRP q2 F T := by
  obtain ⟨L3, a, b, c⟩ := h
  exact ⟨L3, a.t (fun k j z => hq k j (by unfold SWm at z; omega)), (hq _ _ (by omega)).trans b, c⟩

set_option maxRecDepth 100000 in
set_option maxHeartbeats 4000000 in
theorem s_X6_stepAt {G : GT} {q : S_} {M : Nat → Nat} {F : List E4} (T k : Nat) (hL : GL M F) (h8 : M 93 ≤ 8) (hS : SRP q F T) (hk : k < 12) : Spec G 1 yX6_stepAt cX6_stepAt 4 (some .int) [rfn G 88, .int (nI k)] q (PI fun r2 q3 => r2 = (if lngT F T ≠ 99 ∧ k < lngT F T then nI (stpT F T k) else -5) ∧ q3 = q) := by
  refine Spec.intro RX6 (by decide) rfl (Nat.le_of_ble_eq_true rfl) [some (rfn G 88), some (.int (nI k)), none, none] rfl ?_
  intro X d hd C hR
  obtain ⟨L3, hQ, h5, hd0⟩ := hS
  have hl := lngT_le (T := T) hL
  have h15 := hQ.2.2.2.1
  refine aw_iload_1 C dX6_stepAt_0 ?_
  refine aw_if_lt_n C dX6_stepAt_1 (by decide) (by omega) ?_
  refine aw_iload_1 C dX6_stepAt_4 ?_
  refine aw_aload_0 C dX6_stepAt_5 rfl ?_
  refine aw_g6_5 C h5 dX6_stepAt_6 fl_X6_63 ?_
  refine aw_icmp_lt C dX6_stepAt_9 (tgt := 15) (by decide)  (fun c_9 => ?_) (fun c_9 => ?_)
  · have c9 : lngT F T ≠ 99 ∧ k < lngT F T := Decidable.not_not.mp (fun z => Int32.not_lt.mpr ((l5_le hl hk).mpr z) c_9)
    have hfd := hd0.resolve_left (fun z => c9.1 (lngT_no z.1))
    obtain ⟨hix, -, hlen⟩ := hfd.ix
    obtain ⟨-, ⟨t, hpre⟩, hpos, -, hfar, -⟩ := hfd
    have he : ∀ j, j < L3.length → ent F j = ent L3 j := fun j hj => by rw [hpre, ent_app hj]
    have hfar2 : (ent F (idxM F T)).2.2.2 = lngT F T := by rw [hix, he _ (by omega)]; exact hfar
    have hiF : idxM F T < F.length := by omega
    refine aw_aload_0 C dX6_stepAt_15 rfl ?_
    refine aw_g6_4 C hQ.1 dX6_stepAt_16 fl_X6_35 ?_
    refine aw_iconst C dX6_stepAt_19 k1_1 ?_
    refine aw_isub_n C dX6_stepAt_20 (by omega) ?_
    refine aw_istore_2 C dX6_stepAt_21 (by decide) (fun w h => by cases h <;> rfl) ?_
    refine aw_aload_0 C dX6_stepAt_22 rfl ?_
    refine aw_g6_5 C (h5.trans (l5_n c9.1)) dX6_stepAt_23 fl_X6_63 ?_
    refine aw_iconst C dX6_stepAt_26 k1_1 ?_
    refine aw_isub_n C dX6_stepAt_27 (by omega) ?_
    refine aw_istore_3 C dX6_stepAt_28 (by decide) (fun w h => by cases h <;> rfl) ?_
    have L29 : ∀ (n2 m : Nat), m ≤ lngT F T - 1 - k → lngT F T - 1 - k < m + n2 → AW X G (q) 29 [some (rfn G 88), some (.int (nI k)), some (.int (nI (anc F (idxM F T) m))), some (.int (nI (lngT F T - 1 - m)))] [] := by
      refine nat_loop (fun m g1 g2 => by omega) (fun n2 ih m g1 g2 => ?_)
      refine aw_iload_3 C dX6_stepAt_29 ?_
      refine aw_iload_1 C dX6_stepAt_30 ?_
      refine aw_icmp_le_n C dX6_stepAt_31 (tgt := 50) (by decide) (by omega) (by omega) (fun c_31 => ?_) (fun c_31 => ?_)
      · have hm : m = lngT F T - 1 - k := by omega
        have ha := hL.ancs hiF m (by omega)
        have hz := hL.ancz hiF (m := m) (by omega)
        have hle := anc_le hL hiF m (by omega)
        have hs := (hL.2.2.2 _ ha.1).2.2.2 hz
        have hq := (hQ.2.1 (anc F (idxM F T) m) (by omega)).2 hz
        rw [← he _ (by omega)] at hq
        refine aw_aload_0 C dX6_stepAt_50 rfl ?_
        refine aw_g6_1 C dX6_stepAt_51 fl_X6_15 ?_
        refine aw_iload_2 C dX6_stepAt_54 ?_
        refine aw_iald C _ hq dX6_stepAt_55 sh_90 rfl (by omega) ?_
        refine aw_bipush C dX6_stepAt_56 k2_8 ?_
        refine aw_irem_n C dX6_stepAt_58 (by have := ha.1; have := hL.len; omega) (by omega) (by omega) ?_
        refine aw_iretI C hR dX6_stepAt_59 ?_
        exact ⟨by rw [if_pos c9]; refine congrArg nI ?_; unfold stpT; rw [← hm]; omega, rfl⟩
      · skip
        have ha := hL.ancs hiF m (by omega)
        have hz := hL.ancz hiF (m := m) (by omega)
        have hle := anc_le hL hiF m (by omega)
        have hs := (hL.2.2.2 _ ha.1).2.2.2 hz
        have hq := (hQ.2.1 (anc F (idxM F T) m) (by omega)).2 hz
        rw [← he _ (by omega)] at hq
        refine aw_aload_0 C dX6_stepAt_34 rfl ?_
        refine aw_g6_1 C dX6_stepAt_35 fl_X6_15 ?_
        refine aw_iload_2 C dX6_stepAt_38 ?_
        refine aw_iald C _ hq dX6_stepAt_39 sh_90 rfl (by omega) ?_
        refine aw_bipush C dX6_stepAt_40 k2_8 ?_
        refine aw_idiv_n C dX6_stepAt_42 (by have := ha.1; have := hL.len; omega) (by omega) (by omega) ?_
        rw [show ((ent F (anc F (idxM F T) m)).2.1 * 8 + (ent F (anc F (idxM F T) m)).2.2.1) / 8 = anc F (idxM F T) (m + 1) from by show _ = (ent F (anc F (idxM F T) m)).2.1; omega]
        refine aw_istore_2 C dX6_stepAt_43 (by decide) (fun w h => by cases h <;> rfl) ?_
        refine aw_iinc_3 C dX6_stepAt_44 (by decide) (fun w h => by cases h <;> rfl) (show nI (lngT F T - 1 - m) + Int32.ofInt (-1) = nI (lngT F T - 1 - (m + 1)) from by rw [k1_m1, nI_m1, pk_sub (by omega)]; exact congrArg nI (by omega)) ?_
        refine aw_goto C dX6_stepAt_47 (tgt := 29) (by decide) ?_
        exact ih (m + 1) (by omega) (by omega)
    have h29 := L29 13 0 (by omega) (by omega)
    rw [show anc F (idxM F T) 0 = L3.length - 1 from hix] at h29
    exact h29
  · have c9 : ¬ (lngT F T ≠ 99 ∧ k < lngT F T) := (l5_le hl hk).mp (Int32.not_lt.mp c_9)
    refine aw_bipush C dX6_stepAt_12 k2_m5 ?_
    refine aw_iretI C hR dX6_stepAt_14 ?_
    exact ⟨(if_neg c9).symm, rfl⟩

theorem s_X6_search {G : GT} {q : S_} {M : Nat → Nat} {cts : Nat → List Nat} {N : Nat} {L0 : List E4} (w p t : Nat) (hw : isW w) (h : RelW q w M) (hW : WF M) (hC : CyR q cts N) (hN : M 95 ≤ N) (hN6 : N ≤ 6) (hG : Goo M cts) (hp : p < M 92) (hQ : WQ q L0) (ht : t < 6) : Spec G 4 yX6_search cX6_search 16 (some .int) [rfn G 88, rfn G w, .int (nI p), .int (nI t)] q (PI (fun r q3 => r = l5 (longM M cts p t) ∧ SRP q3 (bfsF M cts p) (256 * t) ∧ Fr SWs q q3)) := by
  refine (s_X6_searchL w p (nI t) (256 * t) hw h hW hC hN hN6 hG rfl hp hQ (by rw [pk_mul, Nat.mul_comm]; exact (if_neg (by omega)).symm) (Or.inl (by omega))).mono ?_
  rintro v q2 ⟨r, rfl, L3, a, b, c, d, e⟩
  exact ⟨r, rfl, b, ⟨L3, a, c, d⟩, e⟩
theorem SRP.q {q : S_} {F : List E4} {T : Nat} (h : SRP q F T) : ∃ L, WQ q L := by
  obtain ⟨L, a, -⟩ := h
  exact ⟨L, a⟩

set_option maxRecDepth 100000 in
set_option maxHeartbeats 4000000 in
theorem s_X6_reachable {G : GT} {q : S_} {M : Nat → Nat} {cts : Nat → List Nat} {N : Nat} {L0 : List E4} (w p : Nat) (hw : isW w) (h : RelW q w M) (hW : WF M) (hC : CyR q cts N) (hN : M 95 ≤ N) (hN6 : N ≤ 6) (hG : Goo M cts) (hp : p < M 92) (hQ : WQ q L0) : Spec G 5 yX6_reachable cX6_reachable 5 (some .int) [rfn G 88, rfn G w, .int (nI p)] q (PI (fun r q3 => r = nI (reachM M cts p) ∧ (∃ L, WQ q3 L) ∧ Fr SWs q q3)) := by
  refine Spec.intro RX6 (by decide) rfl (Nat.le_of_ble_eq_true rfl) [some (rfn G 88), some (rfn G w), some (.int (nI p)), none, none] rfl ?_
  intro X d hd C hR
  obtain ⟨F, hLe⟩ : ∃ F, bfsF M cts p = F := ⟨_, rfl⟩
  have hGF := GL.F (cts := cts) hW hp
  rw [hLe] at hGF
  have hbx := bsum_lt (fun t => 256 * t ∈ sts F)
  refine aw_aload_0 C dX6_reachable_0 rfl ?_
  refine aw_aload_1 C dX6_reachable_1 rfl ?_
  refine aw_iload_2 C dX6_reachable_2 ?_
  refine aw_iconst C dX6_reachable_3 k1_m1 ?_
  refine aw_cV3I C (s_X6_searchL w p (-1) 5000 hw h hW hC hN hN6 hG hLe hp hQ (by decide +kernel) (Or.inr rfl)) mf_X6_search mv_X6_search (sh_88) rfl ml_X6_66 dX6_reachable_4 (by omega) (Nat.le_of_ble_eq_true rfl) (fun r_4 q_4 h_4 => ?_)
  obtain ⟨L3, hQ3, -, -, hd, hF3⟩ := h_4
  have hno : 5000 ∉ sts F := fun z => by
    obtain ⟨k, k1, k2⟩ := mem_sts.mp z
    have a1 := (hGF.2.2.2 k k1).1
    have a2 := (hGF.2.2.2 k k1).2.1
    omega
  obtain rfl : L3 = F := hd.elim (fun z => z.2) (fun z => absurd (by obtain ⟨y1, ⟨t, y2⟩, -⟩ := z; rw [y2]; unfold sts; rw [List.map_append]; exact List.mem_append.mpr (Or.inl y1)) hno)
  refine aw_pop C dX6_reachable_7 rfl ?_
  refine aw_iconst C dX6_reachable_8 k1_0 ?_
  refine aw_istore_3 C dX6_reachable_9 (by decide) (fun w h => by cases h <;> rfl) ?_
  refine aw_iconst C dX6_reachable_10 k1_0 ?_
  refine aw_istore_4 C dX6_reachable_11 (by decide) (fun w h => by cases h <;> rfl) ?_
  have L13 : ∀ (n2 k : Nat), k ≤ 6 → 6 < k + n2 → AW X G (q_4) 13 [some (rfn G 88), some (rfn G w), some (.int (nI p)), some (.int (nI (bsum (fun t => 256 * t ∈ sts L3) k))), some (.int (nI k))] [] := by
    refine nat_loop (fun k g1 g2 => by omega) (fun n2 ih k g1 g2 => ?_)
    refine aw_iload_4 C dX6_reachable_13 ?_
    refine aw_bipush C dX6_reachable_15 k2_6 ?_
    refine aw_icmp_ge_n C dX6_reachable_17 (tgt := 47) (by decide) (by omega) (by omega) (fun c_17 => ?_) (fun c_17 => ?_)
    · skip
      refine aw_iload_3 C dX6_reachable_47 ?_
      refine aw_iretI C hR dX6_reachable_48 ?_
      exact ⟨by unfold reachM; rw [hLe, show k = 6 by omega], ⟨_, hQ3⟩, hF3⟩
    · skip
      refine aw_aload_0 C dX6_reachable_20 rfl ?_
      refine aw_g6_2 C dX6_reachable_21 fl_X6_18 ?_
      refine aw_iload_4 C dX6_reachable_24 ?_
      refine aw_sipush C dX6_reachable_26 k3_256 ?_
      refine aw_imul_n C dX6_reachable_29  ?_
      refine aw_zald C _ (hQ3.2.2.1 (k * 256) (by omega)) dX6_reachable_30 sh_91 rfl (by omega) ?_
      refine aw_if_eq_b C dX6_reachable_31 (tgt := 41) (by decide)  (fun c_31 => ?_) (fun c_31 => ?_)
      · rw [Nat.mul_comm] at c_31
        refine aw_iinc_4 C dX6_reachable_41 (by decide) (fun w h => by cases h <;> rfl) (show _ + Int32.ofInt 1 = _ by rw [k1_1, nI_add]) ?_
        refine aw_goto C dX6_reachable_44 (tgt := 13) (by decide) ?_
        rw [bsum_f (f := fun t => 256 * t ∈ sts L3) c_31]
        exact ih (k + 1) (by omega) (by omega)
      · rw [Nat.mul_comm] at c_31
        refine aw_iload_3 C dX6_reachable_34 ?_
        refine aw_iconst C dX6_reachable_35 k1_1 ?_
        refine aw_iload_4 C dX6_reachable_36 ?_
        refine aw_ishl_n C dX6_reachable_38 (by omega) (by rw [Nat.one_mul]; have := Nat.pow_le_pow_right (n := 2) (by decide) (show k ≤ 6 by omega); omega) ?_
        rw [Nat.one_mul]
        refine aw_ior_n C dX6_reachable_39  ?_
        rw [or_pow (hbx k), bsum_t (f := fun t => 256 * t ∈ sts L3) c_31]
        refine aw_istore_3 C dX6_reachable_40 (by decide) (fun w h => by cases h <;> rfl) ?_
        refine aw_iinc_4 C dX6_reachable_41 (by decide) (fun w h => by cases h <;> rfl) (show _ + Int32.ofInt 1 = _ by rw [k1_1, nI_add]) ?_
        refine aw_goto C dX6_reachable_44 (tgt := 13) (by decide) ?_
        exact ih (k + 1) (by omega) (by omega)
  exact L13 7 0 (by omega) (by omega)

set_option maxRecDepth 100000 in
set_option maxHeartbeats 4000000 in
theorem s_X4_hasPlace {G : GT} {q : S_} {e : Nat} (c : Nat) (i : Int32) (hc : shU c) (hl : gI q c 2 = nI e) (he : e ≤ 60) : Spec G 1 yX4_hasPlace cX4_hasPlace 2 (some .boolean) [rfn G c, .int i] q (PI fun r2 q3 => r2 = bP (inN i e) ∧ q3 = q) := by
  refine Spec.intro RX4 (by decide) rfl (Nat.le_of_ble_eq_true rfl) [some (rfn G c), some (.int i)] rfl ?_
  intro X d hd C hR
  refine aw_iload_1 C dX4_hasPlace_0 ?_
  refine aw_if_lt C dX4_hasPlace_1 (tgt := 16) (by decide)  (fun c_1 => ?_) (fun c_1 => ?_)
  · skip
    refine aw_iconst C dX4_hasPlace_16 k1_0 ?_
    refine aw_iretZ C hR dX4_hasPlace_17 (by first | rfl | exact bP_nar) ?_
    exact ⟨(bP_f (fun z => z.1 c_1)).symm, rfl⟩
  · skip
    refine aw_iload_1 C dX4_hasPlace_4 ?_
    refine aw_aload_0 C dX4_hasPlace_5 rfl ?_
    refine aw_g4_2 C hl dX4_hasPlace_6 hc.1 fl_X4_19 ?_
    refine aw_icmp_ge C dX4_hasPlace_9 (tgt := 16) (by decide)  (fun c_9 => ?_) (fun c_9 => ?_)
    · skip
      refine aw_iconst C dX4_hasPlace_16 k1_0 ?_
      refine aw_iretZ C hR dX4_hasPlace_17 (by first | rfl | exact bP_nar) ?_
      exact ⟨(bP_f (fun z => by obtain ⟨j, j1, j2, rfl⟩ := inN_of z; have := (nI_leI (by omega) j2).mp c_9; omega)).symm, rfl⟩
    · skip
      refine aw_iconst C dX4_hasPlace_12 k1_1 ?_
      refine aw_goto C dX4_hasPlace_13 (tgt := 17) (by decide) ?_
      refine aw_iretZ C hR dX4_hasPlace_17 (by first | rfl | exact bP_nar) ?_
      exact ⟨(bP_t ((inN_ge (by omega)).mp ⟨c_1, Int32.not_le.mp c_9⟩)).symm, rfl⟩

set_option maxRecDepth 100000 in
set_option maxHeartbeats 4000000 in
theorem s_X4_hasPart {G : GT} {q : S_} {e : Nat} (c : Nat) (i n : Int32) (hc : shU c) (hl : gI q c 2 = nI e) (he : e ≤ 60) : Spec G 1 yX4_hasPart cX4_hasPart 3 (some .boolean) [rfn G c, .int i, .int n] q (PI fun r2 q3 => r2 = bP (shP e i n) ∧ q3 = q) := by
  refine Spec.intro RX4 (by decide) rfl (Nat.le_of_ble_eq_true rfl) [some (rfn G c), some (.int i), some (.int n)] rfl ?_
  intro X d hd C hR
  refine aw_iload_1 C dX4_hasPart_0 ?_
  refine aw_if_lt C dX4_hasPart_1 (tgt := 30) (by decide)  (fun c_1 => ?_) (fun c_1 => ?_)
  · skip
    refine aw_iconst C dX4_hasPart_30 k1_0 ?_
    refine aw_iretZ C hR dX4_hasPart_31 (by first | rfl | exact bP_nar) ?_
    exact ⟨(bP_f (fun z => z.1.1 c_1)).symm, rfl⟩
  · skip
    refine aw_iload_2 C dX4_hasPart_4 ?_
    refine aw_if_lt C dX4_hasPart_5 (tgt := 30) (by decide)  (fun c_5 => ?_) (fun c_5 => ?_)
    · skip
      refine aw_iconst C dX4_hasPart_30 k1_0 ?_
      refine aw_iretZ C hR dX4_hasPart_31 (by first | rfl | exact bP_nar) ?_
      exact ⟨(bP_f (fun z => z.2.1 c_5)).symm, rfl⟩
    · skip
      refine aw_iload_1 C dX4_hasPart_8 ?_
      refine aw_aload_0 C dX4_hasPart_9 rfl ?_
      refine aw_g4_2 C hl dX4_hasPart_10 hc.1 fl_X4_19 ?_
      refine aw_icmp_gt C dX4_hasPart_13 (tgt := 30) (by decide)  (fun c_13 => ?_) (fun c_13 => ?_)
      · skip
        refine aw_iconst C dX4_hasPart_30 k1_0 ?_
        refine aw_iretZ C hR dX4_hasPart_31 (by first | rfl | exact bP_nar) ?_
        exact ⟨(bP_f (fun z => by obtain ⟨a, a1, a2, rfl⟩ := inN_of z.1; have := (nI_ltI (by omega) a2).mp c_13; omega)).symm, rfl⟩
      · skip
        refine aw_iload_2 C dX4_hasPart_16 ?_
        refine aw_aload_0 C dX4_hasPart_17 rfl ?_
        refine aw_g4_2 C hl dX4_hasPart_18 hc.1 fl_X4_19 ?_
        refine aw_iload_1 C dX4_hasPart_21 ?_
        refine aw_isub C dX4_hasPart_22  ?_
        refine aw_icmp_gt C dX4_hasPart_23 (tgt := 30) (by decide)  (fun c_23 => ?_) (fun c_23 => ?_)
        · skip
          refine aw_iconst C dX4_hasPart_30 k1_0 ?_
          refine aw_iretZ C hR dX4_hasPart_31 (by first | rfl | exact bP_nar) ?_
          obtain ⟨a, a2, rfl⟩ := nI_of c_1
          obtain ⟨b, b2, rfl⟩ := nI_of c_5
          exact ⟨(bP_f (fun z => Int32.not_le.mpr c_23 ((sub_ge (by omega) a2 b2).mpr (by have h1 := (inN_iff a2).mp z.1; have h2 := (inN_iff b2).mp z.2; rw [show u32 (nI a) = a from nI_clamp a2] at h2; omega)))).symm, rfl⟩
        · skip
          refine aw_iconst C dX4_hasPart_26 k1_1 ?_
          refine aw_goto C dX4_hasPart_27 (tgt := 31) (by decide) ?_
          refine aw_iretZ C hR dX4_hasPart_31 (by first | rfl | exact bP_nar) ?_
          obtain ⟨a, a2, rfl⟩ := nI_of c_1
          obtain ⟨b, b2, rfl⟩ := nI_of c_5
          have h3 := (sub_ge (by omega) a2 b2).mp (Int32.not_lt.mp c_23)
          exact ⟨(bP_t ⟨inN_nI (by omega) a2, by rw [show u32 (nI a) = a from nI_clamp a2]; exact inN_nI (by omega) b2⟩).symm, rfl⟩

set_option maxRecDepth 100000 in
set_option maxHeartbeats 4000000 in
theorem s_X4_become {G : GT} {q : S_} (c : Nat) (s n : Int32) (hc : shU c) : Spec G 2 yX4_become cX4_become 3 none [rfn G c, .int s, .int n] q (PV fun q3 => q3 = zrL (sI (sI q c 0 s) c 2 n) (c + 1) 0 60) := by
  refine Spec.intro RX4 (by decide) rfl (Nat.le_of_ble_eq_true rfl) [some (rfn G c), some (.int s), some (.int n)] rfl ?_
  intro X d hd C hR
  refine aw_aload_0 C dX4_become_0 rfl ?_
  refine aw_iload_1 C dX4_become_1 ?_
  refine aw_p4_0 C dX4_become_2 hc.1 fl_X4_9 ?_
  refine aw_aload_0 C dX4_become_5 rfl ?_
  refine aw_iload_2 C dX4_become_6 ?_
  refine aw_p4_2 C dX4_become_7 hc.1 fl_X4_19 ?_
  refine aw_aload_0 C dX4_become_10 rfl ?_
  refine aw_g4_1 C dX4_become_11 hc.1 fl_X4_15 ?_
  refine aw_lconst C dX4_become_14 rfl ?_
  refine aw_cS2VE C (s_J7_fill_d0a16 (c + 1) 60 hc.2) mf_J7_fill_d0a16 ms_J7_fill_d0a16 ml_X4_22 dX4_become_15 (by omega) (Nat.le_of_ble_eq_true rfl) ?_
  refine aw_vretV C hR dX4_become_18 ?_
  exact rfl

set_option maxRecDepth 100000 in
set_option maxHeartbeats 4000000 in
theorem s_X4_asItem {G : GT} {q : S_} {s : Nat} (c : Nat) (v : Int64) (hc : shU c) (hs : gI q c 0 = cs9 s) (h5 : s < 5) : Spec G 1 yX4_asItem cX4_asItem 3 (some .long) [rfn G c, .long v] q (PL fun r2 q3 => r2 = asIt s v ∧ q3 = q) := by
  refine Spec.intro RX4 (by decide) rfl (Nat.le_of_ble_eq_true rfl) [some (rfn G c), some (.long v), none] rfl ?_
  intro X d hd C hR
  refine aw_aload_0 C dX4_asItem_0 rfl ?_
  refine aw_g4_0 C hs dX4_asItem_1 hc.1 fl_X4_9 ?_
  rcases (show s = 0 ∨ s = 1 ∨ s = 2 ∨ s = 3 ∨ s = 4 by omega) with rfl | rfl | rfl | rfl | rfl
  · skip
    refine aw_tableIn C dX4_asItem_4 (tgt := 40) (by decide +kernel) (by decide +kernel) (off := 36) (by decide +kernel) (by decide) ?_
    refine aw_lload_1 C dX4_asItem_40 ?_
    refine aw_l2i C dX4_asItem_41 ?_
    refine aw_i2b C dX4_asItem_42 ?_
    refine aw_i2l C dX4_asItem_43 ?_
    refine aw_lretL C hR dX4_asItem_44 ?_
    exact ⟨rfl, rfl⟩
  · skip
    refine aw_tableIn C dX4_asItem_4 (tgt := 45) (by decide +kernel) (by decide +kernel) (off := 41) (by decide +kernel) (by decide) ?_
    refine aw_lload_1 C dX4_asItem_45 ?_
    refine aw_l2i C dX4_asItem_46 ?_
    refine aw_i2s C dX4_asItem_47 ?_
    refine aw_i2l C dX4_asItem_48 ?_
    refine aw_lretL C hR dX4_asItem_49 ?_
    exact ⟨rfl, rfl⟩
  · skip
    refine aw_tableIn C dX4_asItem_4 (tgt := 50) (by decide +kernel) (by decide +kernel) (off := 46) (by decide +kernel) (by decide) ?_
    refine aw_lload_1 C dX4_asItem_50 ?_
    refine aw_l2i C dX4_asItem_51 ?_
    refine aw_i2l C dX4_asItem_52 ?_
    refine aw_lretL C hR dX4_asItem_53 ?_
    exact ⟨rfl, rfl⟩
  · skip
    refine aw_tableIn C dX4_asItem_4 (tgt := 66) (by decide +kernel) (by decide +kernel) (off := 62) (by decide +kernel) (by decide) ?_
    refine aw_lload_1 C dX4_asItem_66 ?_
    refine aw_lretL C hR dX4_asItem_67 ?_
    exact ⟨rfl, rfl⟩
  · skip
    refine aw_tableIn C dX4_asItem_4 (tgt := 54) (by decide +kernel) (by decide +kernel) (off := 50) (by decide +kernel) (by decide) ?_
    refine aw_lload_1 C dX4_asItem_54 ?_
    refine aw_lconst C dX4_asItem_55 rfl ?_
    refine aw_lcmp C dX4_asItem_56 ?_
    refine aw_if_eq C dX4_asItem_57 (tgt := 64) (by decide)  (fun c_57 => ?_) (fun c_57 => ?_)
    · skip
      refine aw_lconst C dX4_asItem_64 rfl ?_
      refine aw_lretL C hR dX4_asItem_65 ?_
      exact ⟨(if_pos ((lg_cmp_eq _ _).mp c_57)).symm, rfl⟩
    · skip
      refine aw_lconst C dX4_asItem_60 rfl ?_
      refine aw_goto C dX4_asItem_61 (tgt := 65) (by decide) ?_
      refine aw_lretL C hR dX4_asItem_65 ?_
      exact ⟨(if_neg (fun z => c_57 ((lg_cmp_eq _ _).mpr z))).symm, rfl⟩
