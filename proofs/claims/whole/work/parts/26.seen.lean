def lle : List (Option Value) → List (Option Value) → Prop
  | [], [] => True
  | a :: l, b :: l2 => (a = none ∨ a = b) ∧ lle l l2
  | _, _ => False
theorem lle_get : ∀ (l l2 : List (Option Value)), lle l l2 → l.length = l2.length ∧ ∀ (i : Nat) (v : Value), l[i]? = some (some v) → l2[i]? = some (some v) := by
  intro l
  induction l with
  | nil =>
    intro l2 h
    cases l2 with
    | nil => exact ⟨rfl, fun i v z => z⟩
    | cons _ _ => exact h.elim
  | cons a l ih =>
    intro l2 h
    cases l2 with
    | nil => exact h.elim
    | cons b l2 =>
      obtain ⟨h1, h2⟩ := ih l2 h.2
      refine ⟨congrArg (· + 1) h1, fun i v z => ?_⟩
      cases i with
      | zero =>
        rcases h.1 with y | y
        · rw [y] at z
          cases z
        · rw [y] at z
          exact z
      | succ i => exact h2 i v z
theorem AW.less {X : CT} {G : GT} {q : S_} {pc : Nat} {lv lv2 : List (Option Value)} {st : List Value} (h : AW X G q pc lv st) (hl : lle lv lv2) : AW X G q pc lv2 st := by
  obtain ⟨p, l, e, R, s, m, args, below, meth, c, ce, sl, Q⟩ := X
  intro H locs ls hP hS hlv
  have a := lle_get lv lv2 hl
  exact h H locs ls hP hS ⟨hlv.1, hlv.2.1, fun i v z => hlv.2.2 i v (a.2 i v z)⟩

set_option maxRecDepth 100000 in
set_option maxHeartbeats 4000000 in
theorem s_X9_one_ {G : GT} {q : S_} {g : GS} (k : Int32) (v : Int32) (x : Int32) (hg : GOK g) (hRR : RR q g) : Spec G 3 yX9_one_ cX9_one_ 6 (some .int) [rfn G 129, .int k, .int v, .int x] q (PI (PG (f_one g k v x) q)) := by
  refine Spec.intro RX9 (by decide) rfl (Nat.le_of_ble_eq_true rfl) [some (rfn G 129), some (.int k), some (.int v), some (.int x), none, none] rfl ?_
  intro X d hd C hR
  obtain ⟨hW, hCy, h95, hN6, h94, hK, hT1, hT2, hTp, hR1, hSy, hSyJ⟩ := id hg
  obtain ⟨hM, hE, hNr, hKp, hIm, hTl, hTx, hTs, hAb, hBd, hRn, hTr⟩ := id hRR
  have hc := hW.c
  have hG : Goo (gM g) (gC g) := fun k hk => hCy k (by omega)
  refine aw_iload_1 C dX9_one__0 ?_
  refine aw_iconst C dX9_one__1 k1_0 ?_
  refine aw_bipush C dX9_one__2 k2_6 ?_
  refine aw_cS3IE C (s_X9_isIn _ _ _) mf_X9_isIn ms_X9_isIn ml_X9_98 dX9_one__4 (by omega) (Nat.le_of_ble_eq_true rfl) ?_
  refine aw_if_eq_b C dX9_one__7 (tgt := 17) (by decide)  (fun c_7 => ?_) (fun c_7 => ?_)
  · skip
    refine aw_iconst C dX9_one__17 k1_m1 ?_
    refine aw_iretI C hR dX9_one__18 ?_
    exact PG.here hRR rfl (by unfold f_one; rw [if_pos (fun z => c_7 ((inN_le (by omega)).mpr z.1))])
  · skip
    refine aw_iload_3 C dX9_one__10 ?_
    refine aw_cS1IE C (s_X9_isQuarter _) mf_X9_isQuarter ms_X9_isQuarter ml_X9_106 dX9_one__11 (by omega) (Nat.le_of_ble_eq_true rfl) ?_
    refine aw_if_ne_b C dX9_one__14 (tgt := 19) (by decide)  (fun c_14 => ?_) (fun c_14 => ?_)
    · have c7 := (inN_le (by omega)).mp c_7
      obtain ⟨k, hk1, hk2, rfl⟩ := inN_of c7
      have huk : u32 (nI k) = k := nI_clamp hk2
      obtain ⟨x, hx1, hx2, rfl⟩ := inN_of c_14
      have hux : u32 (nI x) = x := nI_clamp hx2
      refine aw_iload_2 C dX9_one__19 ?_
      refine aw_iconst C dX9_one__20 k1_0 ?_
      refine aw_bipush C dX9_one__21 k2_9 ?_
      refine aw_cS3IE C (s_X9_isIn _ _ _) mf_X9_isIn ms_X9_isIn ml_X9_98 dX9_one__23 (by omega) (Nat.le_of_ble_eq_true rfl) ?_
      refine aw_if_ne_b C dX9_one__26 (tgt := 32) (by decide)  (fun c_26 => ?_) (fun c_26 => ?_)
      · have c26 := (inN_le (by omega)).mp c_26
        obtain ⟨v, hv1, hv2, rfl⟩ := inN_of c26
        have huv : u32 (nI v) = v := nI_clamp hv2
        refine aw_aload_0 C dX9_one__32 rfl ?_
        refine aw_g9_0 C dX9_one__33 fl_X9_9 ?_
        refine aw_bipush C dX9_one__36 k2_92 ?_
        refine aw_iald C _ (hM.n (by omega) (by decide)) dX9_one__38 sh_130 rfl (by decide) ?_
        refine aw_istore_4 C dX9_one__39 (by decide) (fun w h => by cases h <;> rfl) ?_
        refine aw_iload_4 C dX9_one__41 ?_
        refine aw_bipush C dX9_one__43 k2_6 ?_
        refine aw_icmp_ne_n C dX9_one__45 (tgt := 51) (by decide) (by omega) (by omega) (fun c_45 => ?_) (fun c_45 => ?_)
        · skip
          refine aw_iconst C dX9_one__51 k1_0 ?_
          refine aw_istore_5 C dX9_one__52 (by decide) (fun w h => by cases h <;> rfl) ?_
          have L54 : ∀ (n2 j : Nat) (q1 : S_), j ≤ 10 → 10 < j + n2 → RelR q1 (zM (gM g) (gM g 92) j) → Fr (fun k _ => k = 130) q q1 → AW X G (q1) 54 [some (rfn G 129), some (.int (nI k)), some (.int (nI v)), some (.int (nI x)), some (.int (nI (gM g 92))), some (.int (nI j))] [] := by
            refine nat_loop (fun j q1 h1 h2 hM1 hF1 => by omega) (fun n2 ih j q1 h1 h2 hM1 hF1 => ?_)
            refine aw_iload_5 C dX9_one__54 ?_
            refine aw_bipush C dX9_one__56 k2_10 ?_
            refine aw_icmp_ge_n C dX9_one__58 (tgt := 77) (by decide) (by omega) (by omega) (fun c_58 => ?_) (fun c_58 => ?_)
            · skip
              have e10 : j = 10 := by omega
              subst e10
              refine aw_aload_0 C dX9_one__77 rfl ?_
              refine aw_iload_4 C dX9_one__78 ?_
              refine aw_iconst C dX9_one__80 k1_0 ?_
              refine aw_iload_1 C dX9_one__81 ?_
              refine aw_cV3I C (s_X9_changeM hM1 (gM g 92) 0 k (cd_n (by unfold isOpt; omega)).symm (by omega)) mf_X9_change mv_X9_change (sh_129) rfl ml_X9_110 dX9_one__82 (by omega) (Nat.le_of_ble_eq_true rfl) (fun r_82 q_82 h_82 => ?_)
              obtain ⟨-, hM2, hF2⟩ := h_82
              refine aw_pop C dX9_one__85 rfl ?_
              refine aw_aload_0 C dX9_one__86 rfl ?_
              refine aw_iload_4 C dX9_one__87 ?_
              refine aw_iconst C dX9_one__89 k1_1 ?_
              refine aw_iload_2 C dX9_one__90 ?_
              refine aw_cV3I C (s_X9_changeM hM2 (gM g 92) 1 v (cd_n (by unfold isOpt; omega)).symm (by omega)) mf_X9_change mv_X9_change (sh_129) rfl ml_X9_110 dX9_one__91 (by omega) (Nat.le_of_ble_eq_true rfl) (fun r_91 q_91 h_91 => ?_)
              obtain ⟨-, hM3, hF3⟩ := h_91
              refine aw_pop C dX9_one__94 rfl ?_
              refine aw_aload_0 C dX9_one__95 rfl ?_
              refine aw_iload_4 C dX9_one__96 ?_
              refine aw_iconst C dX9_one__98 k1_2 ?_
              refine aw_iload_3 C dX9_one__99 ?_
              refine aw_cV3I C (s_X9_changeM hM3 (gM g 92) 2 x (cd_n (by unfold isOpt; omega)).symm (by omega)) mf_X9_change mv_X9_change (sh_129) rfl ml_X9_110 dX9_one__100 (by omega) (Nat.le_of_ble_eq_true rfl) (fun r_100 q_100 h_100 => ?_)
              obtain ⟨-, hM4, hF4⟩ := h_100
              refine aw_pop C dX9_one__103 rfl ?_
              refine aw_aload_0 C dX9_one__104 rfl ?_
              refine aw_iload_4 C dX9_one__105 ?_
              refine aw_iconst C dX9_one__107 k1_3 ?_
              refine aw_iload_3 C dX9_one__108 ?_
              refine aw_cV3I C (s_X9_changeM hM4 (gM g 92) 3 x (cd_n (by unfold isOpt; omega)).symm (by omega)) mf_X9_change mv_X9_change (sh_129) rfl ml_X9_110 dX9_one__109 (by omega) (Nat.le_of_ble_eq_true rfl) (fun r_109 q_109 h_109 => ?_)
              obtain ⟨-, hM5, hF5⟩ := h_109
              refine aw_pop C dX9_one__112 rfl ?_
              refine aw_aload_0 C dX9_one__113 rfl ?_
              refine aw_iload_4 C dX9_one__114 ?_
              refine aw_iconst C dX9_one__116 k1_4 ?_
              refine aw_iconst C dX9_one__117 k1_m1 ?_
              refine aw_cV3I C (s_X9_changeM hM5 (gM g 92) 4 99 (cd_m (by unfold isOpt; omega)).symm (by omega)) mf_X9_change mv_X9_change (sh_129) rfl ml_X9_110 dX9_one__118 (by omega) (Nat.le_of_ble_eq_true rfl) (fun r_118 q_118 h_118 => ?_)
              obtain ⟨-, hM6, hF6⟩ := h_118
              refine aw_pop C dX9_one__121 rfl ?_
              refine aw_aload_0 C dX9_one__122 rfl ?_
              refine aw_g9_0 C dX9_one__123 fl_X9_9 ?_
              refine aw_bipush C dX9_one__126 k2_92 ?_
              refine aw_dup2 C dX9_one__128 rfl rfl ?_
              refine aw_iald C _ ((hM6.n (by omega) (by decide)).trans (by rw [mu_ne (by omega), mu_ne (by omega), mu_ne (by omega), mu_ne (by omega), mu_ne (by omega), zM_o (by omega) 10 (by omega)])) dX9_one__129 sh_130 rfl (by decide) ?_
              refine aw_iconst C dX9_one__130 k1_1 ?_
              refine aw_iadd_n C dX9_one__131  ?_
              refine aw_iast C _ dX9_one__132 sh_130 rfl (by decide) ?_
              refine aw_iload_4 C dX9_one__133 ?_
              refine aw_iretI C hR dX9_one__135 ?_
              exact PG.m hRR rfl (by unfold f_one addP; rw [if_neg (fun z => z ⟨c7, c_14⟩), if_neg (fun z => z c26), if_neg c_45, huk, hux, huv]) ((((((hF1.tr hF2).tr hF3).tr hF4).tr hF5).tr hF6).put rfl) (hM6.set (cd_n (by decide)).symm)
            · skip
              refine aw_aload_0 C dX9_one__61 rfl ?_
              refine aw_iload_4 C dX9_one__62 ?_
              refine aw_iload_5 C dX9_one__64 ?_
              refine aw_iconst C dX9_one__66 k1_0 ?_
              refine aw_cV3I C (s_X9_changeM hM1 (gM g 92) j 0 (cd_v (by omega)).symm (by omega)) mf_X9_change mv_X9_change (sh_129) rfl ml_X9_110 dX9_one__67 (by omega) (Nat.le_of_ble_eq_true rfl) (fun r_67 q_67 h_67 => ?_)
              obtain ⟨-, hM2, hF2⟩ := h_67
              refine aw_pop C dX9_one__70 rfl ?_
              refine aw_iinc_5 C dX9_one__71 (by decide) (fun w h => by cases h <;> rfl) (show _ + Int32.ofInt 1 = _ by rw [k1_1, nI_add]) ?_
              refine aw_goto C dX9_one__74 (tgt := 54) (by decide) ?_
              exact ih (j + 1) q_67 (by omega) (by omega) hM2 (hF1.tr hF2)
          exact L54 11 0 q (by omega) (by omega) hM Fr.rf
        · skip
          refine aw_bipush C dX9_one__48 k2_m4 ?_
          refine aw_iretI C hR dX9_one__50 ?_
          exact PG.here hRR rfl (by unfold f_one; rw [if_neg (fun z => z ⟨c7, c_14⟩), if_neg (fun z => z c26), if_pos c_45])
      · skip
        refine aw_bipush C dX9_one__29 k2_m2 ?_
        refine aw_iretI C hR dX9_one__31 ?_
        exact PG.here hRR rfl (by unfold f_one; rw [if_neg (fun z => z ⟨c7, c_14⟩), if_pos (fun z => c_26 ((inN_le (by omega)).mpr z))])
    · skip
      refine aw_iconst C dX9_one__17 k1_m1 ?_
      refine aw_iretI C hR dX9_one__18 ?_
      exact PG.here hRR rfl (by unfold f_one; rw [if_pos (fun z => c_14 z.2)])

abbrev seenR (M H : Nat → Nat) (i n r : Nat) : Prop := M (97 + 3 * r) ≠ i ∨ M (97 + 3 * r + 1) ≠ n ∨ H (32 + 10 * i + 2) = M (97 + 3 * r + 2)
abbrev seenN (M : Nat → Nat) (cts : Nat → List Nat) (i n k : Nat) : Prop := ∀ r, r < k → seenR M (hoursM M cts n) i n r
abbrev seenA (M : Nat → Nat) (cts : Nat → List Nat) (i k : Nat) : Prop := ∀ n, n < k → seenN M cts i n (M 96)
theorem seenA_s {M : Nat → Nat} {cts : Nat → List Nat} {i k : Nat} : seenA M cts i (k + 1) ↔ (seenA M cts i k ∧ seenN M cts i k (M 96)) :=
  ⟨fun h => ⟨fun n hn => h n (by omega), h k (by omega)⟩, fun h n hn => by
    rcases Nat.lt_or_ge n k with z | z
    · exact h.1 n z
    · rw [show n = k by omega]
      exact h.2⟩
theorem seenN_s {M : Nat → Nat} {cts : Nat → List Nat} {i n k : Nat} : seenN M cts i n (k + 1) ↔ (seenN M cts i n k ∧ seenR M (hoursM M cts n) i n k) :=
  ⟨fun h => ⟨fun r hr => h r (by omega), h k (by omega)⟩, fun h r hr => by
    rcases Nat.lt_or_ge r k with z | z
    · exact h.1 r z
    · rw [show r = k by omega]
      exact h.2⟩
theorem bP_iff {p p2 : Prop} [Decidable p] [Decidable p2] (h : p ↔ p2) : bP p = bP p2 := by
  by_cases z : p
  · rw [bP_t z, bP_t (h.mp z)]
  · rw [bP_f z, bP_f (fun y => z (h.mpr y))]

set_option maxRecDepth 100000 in
set_option maxHeartbeats 4000000 in
theorem s_X9_isAllSeen {G : GT} {q : S_} {M : Nat → Nat} {cts : Nat → List Nat} (i : Nat) (hM : RelR q M) (hW : WF M) (hE : RE q cts) (hG : Goo M cts) (hi : i < M 92) (hh : M 94 < 90000) : Spec G 27 yX9_isAllSeen cX9_isAllSeen 6 (some .boolean) [rfn G 129, .int (nI i)] q (PI (fun r q3 => r = bP (seenA M cts i 9) ∧ RelR q3 M ∧ RE q3 cts ∧ Fr SZk q q3)) := by
  refine Spec.intro RX9 (by decide) rfl (Nat.le_of_ble_eq_true rfl) [some (rfn G 129), some (.int (nI i)), none, none, none, none] rfl ?_
  intro X d hd C hR
  have hc := hW.c
  have hi6 := (hW.p hi).1
  refine aw_aload_0 C dX9_isAllSeen_0 rfl ?_
  refine aw_g9_0 C dX9_isAllSeen_1 fl_X9_9 ?_
  refine aw_aload_0 C dX9_isAllSeen_4 rfl ?_
  refine aw_g9_1 C dX9_isAllSeen_5 fl_X9_15 ?_
  refine aw_cS2VE C (s_X9_move 130 131 sh_130 sh_131 (by decide)) mf_X9_move ms_X9_move ml_X9_94 dX9_isAllSeen_8 (by omega) (Nat.le_of_ble_eq_true rfl) ?_
  have hMc : RelR (cpI q 130 131 146) M := fun j hj => by rw [gI_cpI, if_neg (by omega)]; exact hM j hj
  have hEc : RE (cpI q 130 131 146) cts := hE.w (⟨rfl, fun k j hn => by rw [gI_cpI, if_neg (fun z => hn z.1)]⟩ : Fr (fun k j => k = 131) q (cpI q 130 131 146)) (fun k j e z => by omega)
  refine aw_iconst C dX9_isAllSeen_11 k1_1 ?_
  refine aw_istore_2 C dX9_isAllSeen_12 (by decide) (fun w h => by cases h <;> rfl) ?_
  refine aw_iconst C dX9_isAllSeen_13 k1_0 ?_
  refine aw_istore_3 C dX9_isAllSeen_14 (by decide) (fun w h => by cases h <;> rfl) ?_
  have L15 : ∀ (n2 k : Nat) (q1 : S_), k ≤ 9 → 9 < k + n2 → RelR q1 (hoursM M cts k) → RE q1 cts → Fr SHk (cpI q 130 131 146) q1 → AW X G (q1) 15 [some (rfn G 129), some (.int (nI i)), some (.int (bP (seenA M cts i k))), some (.int (nI k)), none, none] [] := by
    refine nat_loop (fun k q1 h1 h2 hM1 hE1 hF1 => by omega) (fun n2 ih k q1 h1 h2 hM1 hE1 hF1 => ?_)
    refine aw_iload_3 C dX9_isAllSeen_15 ?_
    refine aw_bipush C dX9_isAllSeen_16 k2_8 ?_
    have ho := hoursM_ok (cts := cts) hW k (by omega)
    have hoH := ho.2.2
    refine aw_icmp_gt_n C dX9_isAllSeen_18 (tgt := 117) (by decide) (by omega) (by omega) (fun c_18 => ?_) (fun c_18 => ?_)
    · have e9 : k = 9 := by omega
      refine aw_aload_0 C dX9_isAllSeen_117 rfl ?_
      refine aw_g9_1 C dX9_isAllSeen_118 fl_X9_15 ?_
      refine aw_aload_0 C dX9_isAllSeen_121 rfl ?_
      refine aw_g9_0 C dX9_isAllSeen_122 fl_X9_9 ?_
      have hEq : RE q1 cts := hE1
      obtain ⟨hMb, hFb⟩ := back_now hM hF1
      have hEb : RE (cpI q1 131 130 146) cts := hEq.w (⟨rfl, fun k j hn => by rw [gI_cpI, if_neg (fun z => hn z.1)]⟩ : Fr (fun k j => k = 130) q1 (cpI q1 131 130 146)) (fun k j e z => by omega)
      refine aw_cS2VE C (s_X9_move 131 130 sh_131 sh_130 (by decide)) mf_X9_move ms_X9_move ml_X9_94 dX9_isAllSeen_125 (by omega) (Nat.le_of_ble_eq_true rfl) ?_
      refine aw_iload_2 C dX9_isAllSeen_128 ?_
      refine aw_iretZ C hR dX9_isAllSeen_129 (by first | rfl | exact bP_nar) ?_
      refine ⟨?_, hMb, hEb, hFb.mono (fun k j z => z.elim (SY_Z k j) (fun y => by unfold SZk; omega))⟩
      rw [e9]
    · skip
      refine aw_iload_2 C dX9_isAllSeen_21 ?_
      refine aw_if_eq_b C dX9_isAllSeen_22 (tgt := 117) (by decide)  (fun c_22 => ?_) (fun c_22 => ?_)
      · skip
        refine aw_aload_0 C dX9_isAllSeen_117 rfl ?_
        refine aw_g9_1 C dX9_isAllSeen_118 fl_X9_15 ?_
        refine aw_aload_0 C dX9_isAllSeen_121 rfl ?_
        refine aw_g9_0 C dX9_isAllSeen_122 fl_X9_9 ?_
        have hEq : RE q1 cts := hE1
        obtain ⟨hMb, hFb⟩ := back_now hM hF1
        have hEb : RE (cpI q1 131 130 146) cts := hEq.w (⟨rfl, fun k j hn => by rw [gI_cpI, if_neg (fun z => hn z.1)]⟩ : Fr (fun k j => k = 130) q1 (cpI q1 131 130 146)) (fun k j e z => by omega)
        refine aw_cS2VE C (s_X9_move 131 130 sh_131 sh_130 (by decide)) mf_X9_move ms_X9_move ml_X9_94 dX9_isAllSeen_125 (by omega) (Nat.le_of_ble_eq_true rfl) ?_
        refine aw_iload_2 C dX9_isAllSeen_128 ?_
        refine aw_iretZ C hR dX9_isAllSeen_129 (by first | rfl | exact bP_nar) ?_
        exact ⟨bP_iff ⟨fun z => absurd z c_22, fun z => absurd (fun n hn => z n (by omega)) c_22⟩, hMb, hEb, hFb.mono (fun k j z => z.elim (SY_Z k j) (fun y => by unfold SZk; omega))⟩
      · skip
        refine aw_iconst C dX9_isAllSeen_25 k1_0 ?_
        refine aw_istore_4 C dX9_isAllSeen_26 (by decide) (fun w h => by cases h <;> rfl) ?_
        have L28 : ∀ (n3 r : Nat), r ≤ M 96 → M 96 < r + n3 → AW X G (q1) 28 [some (rfn G 129), some (.int (nI i)), some (.int (bP (seenA M cts i k ∧ seenN M cts i k r))), some (.int (nI k)), some (.int (nI r)), none] [] := by
          refine nat_loop (fun r h3 h4 => by omega) (fun n3 ih2 r h3 h4 => ?_)
          refine aw_iload_4 C dX9_isAllSeen_28 ?_
          refine aw_aload_0 C dX9_isAllSeen_30 rfl ?_
          refine aw_g9_0 C dX9_isAllSeen_31 fl_X9_9 ?_
          refine aw_bipush C dX9_isAllSeen_34 k2_96 ?_
          refine aw_iald C _ ((hM1.n (by omega) (by decide)).trans (by rw [hoH 96 (by omega)])) dX9_isAllSeen_36 sh_130 rfl (by decide) ?_
          refine aw_icmp_ge_n C dX9_isAllSeen_37 (tgt := 107) (by decide) (by omega) (by omega) (fun c_37 => ?_) (fun c_37 => ?_)
          · skip
            have er : r = M 96 := by omega
            subst er
            rw [bP_iff (seenA_s (k := k)).symm]
            refine aw_aload_0 C dX9_isAllSeen_107 rfl ?_
            refine aw_cV0V C (s_X9_hour hM1 ho.1 hE1 (hG.of (hoH 95 (by omega))) (by have := ho.2.1; omega)) mf_X9_hour mv_X9_hour (sh_129) rfl ml_X9_242 dX9_isAllSeen_108 (by omega) (Nat.le_of_ble_eq_true rfl) (fun q_108 h_108 => ?_)
            obtain ⟨hM2, hE2, hF2⟩ := h_108
            refine aw_iinc_3 C dX9_isAllSeen_111 (by decide) (fun w h => by cases h <;> rfl) (show _ + Int32.ofInt 1 = _ by rw [k1_1, nI_add]) ?_
            refine aw_goto C dX9_isAllSeen_114 (tgt := 15) (by decide) ?_
            exact (ih (k + 1) q_108 (by omega) (by omega) hM2 hE2 (hF1.tr hF2)).less ⟨Or.inr rfl, Or.inr rfl, Or.inr rfl, Or.inr rfl, Or.inl rfl, Or.inl rfl, trivial⟩
          · skip
            refine aw_bipush C dX9_isAllSeen_40 k2_97 ?_
            refine aw_iconst C dX9_isAllSeen_42 k1_3 ?_
            refine aw_iload_4 C dX9_isAllSeen_43 ?_
            refine aw_imul_n C dX9_isAllSeen_45  ?_
            refine aw_iadd_n C dX9_isAllSeen_46  ?_
            refine aw_istore_5 C dX9_isAllSeen_47 (by decide) (fun w h => by cases h <;> rfl) ?_
            refine aw_iload_2 C dX9_isAllSeen_49 ?_
            refine aw_if_eq_b C dX9_isAllSeen_50 (tgt := 99) (by decide)  (fun c_50 => ?_) (fun c_50 => ?_)
            · skip
              refine aw_iconst C dX9_isAllSeen_99 k1_0 ?_
              rw [← bP_f (p := seenA M cts i k ∧ seenN M cts i k (r + 1)) (fun z => c_50 ⟨z.1, (seenN_s.mp z.2).1⟩)]
              refine aw_istore_2 C dX9_isAllSeen_100 (by decide) (fun w h => by cases h <;> rfl) ?_
              refine aw_iinc_4 C dX9_isAllSeen_101 (by decide) (fun w h => by cases h <;> rfl) (show _ + Int32.ofInt 1 = _ by rw [k1_1, nI_add]) ?_
              refine aw_goto C dX9_isAllSeen_104 (tgt := 28) (by decide) ?_
              exact (ih2 (r + 1) (by omega) (by omega)).less ⟨Or.inr rfl, Or.inr rfl, Or.inr rfl, Or.inr rfl, Or.inr rfl, Or.inl rfl, trivial⟩
            · skip
              have hsr := hW.2.2.2.1 r (by omega)
              refine aw_aload_0 C dX9_isAllSeen_53 rfl ?_
              refine aw_g9_0 C dX9_isAllSeen_54 fl_X9_9 ?_
              refine aw_iload_5 C dX9_isAllSeen_57 ?_
              refine aw_iald C _ ((hM1.n (by omega) (by unfold isOpt; omega)).trans (by rw [hoH _ (by omega)])) dX9_isAllSeen_59 sh_130 rfl (by omega) ?_
              refine aw_iload_1 C dX9_isAllSeen_60 ?_
              refine aw_icmp_ne_n C dX9_isAllSeen_61 (tgt := 95) (by decide) (by omega) (by omega) (fun c_61 => ?_) (fun c_61 => ?_)
              · skip
                refine aw_iconst C dX9_isAllSeen_95 k1_1 ?_
                refine aw_goto C dX9_isAllSeen_96 (tgt := 100) (by decide) ?_
                rw [← bP_t (p := seenA M cts i k ∧ seenN M cts i k (r + 1)) ⟨c_50.1, seenN_s.mpr ⟨c_50.2, Or.inl c_61⟩⟩]
                refine aw_istore_2 C dX9_isAllSeen_100 (by decide) (fun w h => by cases h <;> rfl) ?_
                refine aw_iinc_4 C dX9_isAllSeen_101 (by decide) (fun w h => by cases h <;> rfl) (show _ + Int32.ofInt 1 = _ by rw [k1_1, nI_add]) ?_
                refine aw_goto C dX9_isAllSeen_104 (tgt := 28) (by decide) ?_
                exact (ih2 (r + 1) (by omega) (by omega)).less ⟨Or.inr rfl, Or.inr rfl, Or.inr rfl, Or.inr rfl, Or.inr rfl, Or.inl rfl, trivial⟩
              · skip
                refine aw_aload_0 C dX9_isAllSeen_64 rfl ?_
                refine aw_g9_0 C dX9_isAllSeen_65 fl_X9_9 ?_
                refine aw_iload_5 C dX9_isAllSeen_68 ?_
                refine aw_iconst C dX9_isAllSeen_70 k1_1 ?_
                refine aw_iadd_n C dX9_isAllSeen_71  ?_
                refine aw_iald C _ ((hM1.n (by omega) (by unfold isOpt; omega)).trans (by rw [hoH _ (by omega)])) dX9_isAllSeen_72 sh_130 rfl (by omega) ?_
                refine aw_iload_3 C dX9_isAllSeen_73 ?_
                refine aw_icmp_ne_n C dX9_isAllSeen_74 (tgt := 95) (by decide) (by omega) (by omega) (fun c_74 => ?_) (fun c_74 => ?_)
                · skip
                  refine aw_iconst C dX9_isAllSeen_95 k1_1 ?_
                  refine aw_goto C dX9_isAllSeen_96 (tgt := 100) (by decide) ?_
                  rw [← bP_t (p := seenA M cts i k ∧ seenN M cts i k (r + 1)) ⟨c_50.1, seenN_s.mpr ⟨c_50.2, Or.inr (Or.inl c_74)⟩⟩]
                  refine aw_istore_2 C dX9_isAllSeen_100 (by decide) (fun w h => by cases h <;> rfl) ?_
                  refine aw_iinc_4 C dX9_isAllSeen_101 (by decide) (fun w h => by cases h <;> rfl) (show _ + Int32.ofInt 1 = _ by rw [k1_1, nI_add]) ?_
                  refine aw_goto C dX9_isAllSeen_104 (tgt := 28) (by decide) ?_
                  exact (ih2 (r + 1) (by omega) (by omega)).less ⟨Or.inr rfl, Or.inr rfl, Or.inr rfl, Or.inr rfl, Or.inr rfl, Or.inl rfl, trivial⟩
                · skip
                  refine aw_aload_0 C dX9_isAllSeen_77 rfl ?_
                  refine aw_iload_1 C dX9_isAllSeen_78 ?_
                  refine aw_iconst C dX9_isAllSeen_79 k1_2 ?_
                  have hp2 := (ho.1.p (i := i) (by rw [hoH 92 (by omega)]; exact hi)).2.2.2.1
                  refine aw_cV2IE C (s_X9_oneN hM1 i 2 rfl (by omega) (by unfold isOpt; omega)) mf_X9_one mv_X9_one (sh_129) rfl ml_X9_102 dX9_isAllSeen_80 (by omega) (Nat.le_of_ble_eq_true rfl) ?_
                  refine aw_aload_0 C dX9_isAllSeen_83 rfl ?_
                  refine aw_g9_0 C dX9_isAllSeen_84 fl_X9_9 ?_
                  refine aw_iload_5 C dX9_isAllSeen_87 ?_
                  refine aw_iconst C dX9_isAllSeen_89 k1_2 ?_
                  refine aw_iadd_n C dX9_isAllSeen_90  ?_
                  refine aw_iald C _ ((hM1.n (by omega) (by unfold isOpt; omega)).trans (by rw [hoH _ (by omega)])) dX9_isAllSeen_91 sh_130 rfl (by omega) ?_
                  refine aw_icmp_ne_n C dX9_isAllSeen_92 (tgt := 99) (by decide) (by omega) (by omega) (fun c_92 => ?_) (fun c_92 => ?_)
                  · skip
                    refine aw_iconst C dX9_isAllSeen_99 k1_0 ?_
                    rw [← bP_f (p := seenA M cts i k ∧ seenN M cts i k (r + 1)) (fun z => by
                      rcases (seenN_s.mp z.2).2 with y | y | y
                      · exact y c_61
                      · exact y c_74
                      · exact c_92 y)]
                    refine aw_istore_2 C dX9_isAllSeen_100 (by decide) (fun w h => by cases h <;> rfl) ?_
                    refine aw_iinc_4 C dX9_isAllSeen_101 (by decide) (fun w h => by cases h <;> rfl) (show _ + Int32.ofInt 1 = _ by rw [k1_1, nI_add]) ?_
                    refine aw_goto C dX9_isAllSeen_104 (tgt := 28) (by decide) ?_
                    exact (ih2 (r + 1) (by omega) (by omega)).less ⟨Or.inr rfl, Or.inr rfl, Or.inr rfl, Or.inr rfl, Or.inr rfl, Or.inl rfl, trivial⟩
                  · skip
                    refine aw_iconst C dX9_isAllSeen_95 k1_1 ?_
                    refine aw_goto C dX9_isAllSeen_96 (tgt := 100) (by decide) ?_
                    rw [← bP_t (p := seenA M cts i k ∧ seenN M cts i k (r + 1)) ⟨c_50.1, seenN_s.mpr ⟨c_50.2, Or.inr (Or.inr c_92)⟩⟩]
                    refine aw_istore_2 C dX9_isAllSeen_100 (by decide) (fun w h => by cases h <;> rfl) ?_
                    refine aw_iinc_4 C dX9_isAllSeen_101 (by decide) (fun w h => by cases h <;> rfl) (show _ + Int32.ofInt 1 = _ by rw [k1_1, nI_add]) ?_
                    refine aw_goto C dX9_isAllSeen_104 (tgt := 28) (by decide) ?_
                    exact (ih2 (r + 1) (by omega) (by omega)).less ⟨Or.inr rfl, Or.inr rfl, Or.inr rfl, Or.inr rfl, Or.inr rfl, Or.inl rfl, trivial⟩
        have h28 := L28 (M 96 + 1) 0 (by omega) (by omega)
        rw [bP_iff (show (seenA M cts i k ∧ seenN M cts i k 0) ↔ seenA M cts i k from ⟨fun z => z.1, fun z => ⟨z, fun r hr => absurd hr (Nat.not_lt_zero r)⟩⟩)] at h28
        exact h28
  have h15 := L15 10 0 _ (by omega) (by omega) hMc hEc Fr.rf
  rw [bP_t (show seenA M cts i 0 from fun n hn => absurd hn (Nat.not_lt_zero n))] at h15
  exact h15

abbrev fitP (M : Nat → Nat) (cts : Nat → List Nat) (i w v : Nat) : Prop := seenA (mu M (32 + 10 * i + w) v) cts i 9
