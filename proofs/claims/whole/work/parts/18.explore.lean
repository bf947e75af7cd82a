theorem mu_mu (M : Nat → Nat) (j a b : Nat) : mu (mu M j a) j b = mu M j b := by
  funext k
  unfold mu
  split <;> rfl
theorem mu_self (M : Nat → Nat) (j : Nat) : mu M j (M j) = M := by
  funext k
  unfold mu
  split
  · next h => rw [h]
  · rfl
theorem bsum_congr {f g : Nat → Prop} [DecidablePred f] [DecidablePred g] : ∀ n, (∀ b, b < n → (f b ↔ g b)) → bsum f n = bsum g n := by
  intro n
  induction n with
  | zero => intro _; rfl
  | succ n ih =>
    intro h
    unfold bsum
    rw [ih (fun b hb => h b (by omega))]
    by_cases hf : f n
    · rw [if_pos hf, if_pos ((h n (by omega)).mp hf)]
    · rw [if_neg hf, if_neg (fun z => hf ((h n (by omega)).mpr z))]
theorem leaveX_mu {M : Nat → Nat} {cts : Nat → List Nat} {i b n v : Nat} (hi : i < 6) (hb : b < 8) : leaveX (mu M (32 + 10 * i + 5) v) cts i b n = leaveX M cts i b n := by
  unfold leaveX sumX
  rw [mu_ne (by omega), mu_ne (by omega), mu_ne (by omega), mu_ne (by omega)]
  have e : nmv (mu M (32 + 10 * i + 5) v) i b n = nmv M i b n := by
    funext j
    unfold nmv
    rw [mu_ne (by omega), mu_ne (by omega), mu_ne (by omega)]
  rw [e]
theorem pop_ones : ∀ n, n < 9 → pop (2 ^ n - 1) = n := by decide +kernel
theorem pop_lt : ∀ n, n < 9 → ∀ h, h < 2 ^ n → pop h ≤ n := by decide +kernel
theorem mayP_mu {M : Nat → Nat} {cts : Nat → List Nat} {i n b : Nat} (hi : i < 6) (hb : b < 8) (hn : n < 9) : mayP (mu M (32 + 10 * i + 5) (2 ^ n - 1)) cts i b ↔ mayX M cts i n b := by
  unfold mayP mayX
  rw [mu_eq, pop_ones n hn, leaveX_mu hi hb, mu_ne (by omega), mu_ne (by omega)]
def SXk (k j : Nat) : Prop := SQk k j ∨ (141 ≤ k ∧ k ≤ 146) ∨ (k = 129 ∧ j = 26)
theorem GL.proc {M : Nat → Nat} {cts : Nat → List Nat} {i k : Nat} {L : List E4} (h : GL M L) (hW : WF M) (hk : k < L.length) : ∀ b, b ≤ M 93 → GL M (procB M cts i L k b) := by
  intro b
  induction b with
  | zero => intro _; exact h
  | succ b ih =>
    intro hb
    have g := ih (by omega)
    have hc := hW.c
    unfold procB
    split
    · next hs =>
      obtain ⟨h12, hadj, -⟩ := hs
      have e := h.2.2.2 k hk
      have hbb := hW.b (show b < M 93 by omega)
      have hl := procB_len (M := M) (cts := cts) (i := i) (k := k) (b := b) (L := L)
      have hh := halfM_lt hW (show b < M 93 by omega) e.2.1
      have hh2 := pow_nb hc.1
      have e1 : nxtS M (ent L k).1 b / 256 = M (4 * b + 0) + M (4 * b + 1) - (ent L k).1 / 256 := by unfold nxtS; omega
      have e2 : nxtS M (ent L k).1 b % 256 = halfM M ((ent L k).1 % 256) b := by unfold nxtS; omega
      refine g.arr ?_ ?_ ?_ ?_ ?_ ?_ ?_
      · show nxtS M (ent L k).1 b / 256 < 6
        rw [e1]
        rcases hadj with z | z <;> omega
      · show nxtS M (ent L k).1 b % 256 < _
        rw [e2]
        exact hh
      · show (ent L k).2.2.2 + 1 ≤ 12
        omega
      · show k < _
        omega
      · show b < M 93
        omega
      · show (ent L k).2.2.2 + 1 = (ent _ k).2.2.2 + 1
        rw [procB_ent hk]
      · show adjP M ((ent _ k).1 / 256) b
        rw [procB_ent hk]
        exact hadj
    · exact g
theorem GL.bfsk {M : Nat → Nat} {cts : Nat → List Nat} {i : Nat} (hW : WF M) (hi : i < M 92) : ∀ k, GL M (bfsL M cts i k) := by
  intro k
  induction k with
  | zero =>
    have hp := hW.p hi
    have hh := hW.half hi
    refine ⟨by unfold sts; simp [bfsL, bfs], by simp [bfsL, bfs], rfl, ?_⟩
    intro k hk
    obtain rfl : k = 0 := by simp [bfsL, bfs] at hk; omega
    refine ⟨?_, ?_, Nat.zero_le _, fun z => absurd rfl z⟩
    · show (256 * M (32 + 10 * i + 2) + M (32 + 10 * i + 5)) / 256 < 6
      omega
    · show (256 * M (32 + 10 * i + 2) + M (32 + 10 * i + 5)) % 256 < _
      rw [show (256 * M (32 + 10 * i + 2) + M (32 + 10 * i + 5)) % 256 = M (32 + 10 * i + 5) by omega]
      exact hp.2.2.2.2.2.2.1
  | succ k ih =>
    show GL M (if k < (bfsL M cts i k).length then procB M cts i (bfsL M cts i k) k (M 93) else bfsL M cts i k)
    split
    · next h => exact ih.proc hW h _ (Nat.le_refl _)
    · exact ih

def S1k (i k j : Nat) : Prop := SQk k j ∨ k = 141 ∨ (k = 130 ∧ j = 32 + 10 * i + 5)
theorem Fr.chg {S : Nat → Nat → Prop} {q q2 q3 : S_} {j : Nat} (h : Fr S q q2) (h2 : q3 = sI q2 130 j (gI q3 130 j)) (hs : S 130 j) : Fr S q q3 := by
  rw [h2]
  exact h.put hs
theorem s_X9_changeX {G : GT} {q : S_} {M : Nat → Nat} (hM : RelR q M) (i w : Nat) {x : Int32} (v : Nat) (hx : x = cd (32 + 10 * i + w) v) (h : 32 + 10 * i + w < 146) : Spec G 2 yX9_change cX9_change 5 (some .int) [rfn G 129, .int (nI i), .int (nI w), .int x] q (PI fun r2 q3 => q3 = sI q 130 (32 + 10 * i + w) x ∧ RelR q3 (mu M (32 + 10 * i + w) v)) := by
  refine (s_X9_change (G := G) (q := q) i w x h).mono ?_
  rintro r q2 ⟨z, h1, h2, h3⟩
  subst h3
  exact ⟨z, h1, rfl, hM.set hx⟩

set_option maxRecDepth 100000 in
set_option maxHeartbeats 4000000 in
theorem s_X9_explore {G : GT} {q : S_} {M : Nat → Nat} {cts : Nat → List Nat} (i : Nat) (hM : RelR q M) (hW : WF M) (hE : RE q cts) (hG : Goo M cts) (hi : i < M 92) : Spec G 24 yX9_explore cX9_explore 8 none [rfn G 129, .int (nI i)] q (PV (fun q3 => BR q3 (bfsF M cts i) ∧ RelR q3 M ∧ RE q3 cts ∧ Fr SXk q q3)) := by
  refine Spec.intro RX9 (by decide) rfl (Nat.le_of_ble_eq_true rfl) [some (rfn G 129), some (.int (nI i)), none, none, none, none, none, none] rfl ?_
  intro X d hd C hR
  have hc := hW.c
  have hp := hW.p hi
  have hh := hW.half hi
  have hpw := pow_nb hc.1
  refine aw_aload_0 C dX9_explore_0 rfl ?_
  refine aw_iload_1 C dX9_explore_1 ?_
  refine aw_iconst C dX9_explore_2 k1_5 ?_
  refine aw_cV2IE C (s_X9_oneN hM i 5 rfl (by omega) (by unfold isOpt; omega)) mf_X9_one mv_X9_one (sh_129) rfl ml_X9_102 dX9_explore_3 (by omega) (Nat.le_of_ble_eq_true rfl) ?_
  refine aw_istore_2 C dX9_explore_6 (by decide) (fun w h => by cases h <;> rfl) ?_
  refine aw_iconst C dX9_explore_7 k1_0 ?_
  refine aw_istore_3 C dX9_explore_8 (by decide) (fun w h => by cases h <;> rfl) ?_
  have L9 : ∀ (n2 k : Nat) (q1 : S_) (x : Nat), k ≤ M 93 + 1 → M 93 + 1 < k + n2 → RelR q1 (mu M (32 + 10 * i + 5) x) → Fr (S1k i) q q1 → RE q1 cts → (∀ a, a < k → gI q1 141 a = nI (bsum (mayX M cts i a) (M 93))) → AW X G (q1) 9 [some (rfn G 129), some (.int (nI i)), some (.int (nI (M (32 + 10 * i + 5)))), some (.int (nI k)), none, none, none, none] [] := by
    refine nat_loop (fun k q1 x h1 h2 hM1 hF1 hE1 hm1 => by omega) (fun n2 ih k q1 x h1 h2 hM1 hF1 hE1 hm1 => ?_)
    refine aw_iload_3 C dX9_explore_9 ?_
    refine aw_aload_0 C dX9_explore_10 rfl ?_
    refine aw_g9_0 C dX9_explore_11 fl_X9_9 ?_
    refine aw_bipush C dX9_explore_14 k2_93 ?_
    refine aw_iald C _ ((hM1.n (by omega) (by decide)).trans (by rw [mu_ne (by omega)])) dX9_explore_16 sh_130 rfl (by decide) ?_
    refine aw_icmp_gt_n C dX9_explore_17 (tgt := 49) (by decide) (by omega) (by omega) (fun c_17 => ?_) (fun c_17 => ?_)
    · skip
      refine aw_aload_0 C dX9_explore_49 rfl ?_
      refine aw_iload_1 C dX9_explore_50 ?_
      refine aw_iconst C dX9_explore_51 k1_5 ?_
      refine aw_iload_2 C dX9_explore_52 ?_
      refine aw_cV3I C (s_X9_changeX hM1 i 5 (M (32 + 10 * i + 5)) (cd_n (by unfold isOpt; omega)).symm (by omega)) mf_X9_change mv_X9_change (sh_129) rfl ml_X9_110 dX9_explore_53 (by omega) (Nat.le_of_ble_eq_true rfl) (fun r_53 q_53 h_53 => ?_)
      obtain ⟨he5, hM5⟩ := h_53
      rw [mu_mu, mu_self] at hM5
      obtain rfl : k = M 93 + 1 := by omega
      have hF5 : Fr (fun k j => SQk k j ∨ k = 141) q q_53 := by
        refine ⟨by rw [he5]; exact hF1.1, fun a c hn => ?_⟩
        rw [he5, gI_sI]
        split
        · next h => rw [h.1, h.2]; exact (hM.n (by omega) (by unfold isOpt; omega)).symm
        · next h => exact hF1.2 a c (fun z => z.elim (fun y => hn (Or.inl y)) (fun y => y.elim (fun w => hn (Or.inr w)) h))
      have hE5 : RE q_53 cts := by rw [he5]; exact (Fr.set (S := fun k j => k = 130) rfl).re (fun k j e z => by omega) hE1 (by obtain ⟨wi, w1, w2⟩ := hE1.2.2.2; exact ⟨wi, w1, by rw [gI_sI, if_neg (by omega)]; exact w2⟩)
      have hm5 : ∀ a, a < M 93 + 1 → gI q_53 141 a = nI (bsum (mayX M cts i a) (M 93)) := fun a ha => by rw [he5, gI_sI, if_neg (by omega)]; exact hm1 a ha
      refine aw_pop C dX9_explore_56 rfl ?_
      refine aw_iconst C dX9_explore_57 k1_0 ?_
      refine aw_istore_3 C dX9_explore_58 (by decide) (fun w h => by cases h <;> rfl) ?_
      have L59 : ∀ (n2 k : Nat) (q1 : S_), k ≤ 1536 → 1536 < k + n2 → Fr (fun k j => k = 142) q_53 q1 → (∀ a, a < k → gI q1 142 a = nI 0) → AW X G (q1) 59 [some (rfn G 129), some (.int (nI i)), some (.int (nI (M (32 + 10 * i + 5)))), some (.int (nI k)), none, none, none, none] [] := by
        refine nat_loop (fun k q1 h1 h2 hF1 hb1 => by omega) (fun n2 ih2 k q1 h1 h2 hF1 hb1 => ?_)
        refine aw_iload_3 C dX9_explore_59 ?_
        refine aw_sipush C dX9_explore_60 k3_1536 ?_
        refine aw_icmp_ge_n C dX9_explore_63 (tgt := 79) (by decide) (by omega) (by omega) (fun c_63 => ?_) (fun c_63 => ?_)
        · skip
          obtain rfl : k = 1536 := by omega
          have hF6 : Fr (fun k j => k = 142 ∨ (k = 129 ∧ j = 26)) q_53 (sI q1 129 26 (nI 0)) := (hF1.mono (fun k j z => Or.inl z)).put (Or.inr ⟨rfl, rfl⟩)
          have hB6 : BR (sI q1 129 26 (nI 0)) [] := ⟨rfl, fun k hk => absurd hk (Nat.not_lt_zero k), fun s hs => by rw [gI_sI, if_neg (by omega), hb1 s hs]; exact (bP_f (by unfold sts; simp)).symm⟩
          have hM6 := hF6.rel (fun j z => by omega) hM5
          refine aw_aload_0 C dX9_explore_79 rfl ?_
          refine aw_iconst C dX9_explore_80 k1_0 ?_
          refine aw_p9_26 C dX9_explore_81 fl_X9_226 ?_
          refine aw_aload_0 C dX9_explore_84 rfl ?_
          refine aw_sipush C dX9_explore_85 k3_256 ?_
          refine aw_aload_0 C dX9_explore_88 rfl ?_
          refine aw_iload_1 C dX9_explore_89 ?_
          refine aw_iconst C dX9_explore_90 k1_2 ?_
          refine aw_cV2IE C (s_X9_oneN hM6 i 2 rfl (by omega) (by unfold isOpt; omega)) mf_X9_one mv_X9_one (sh_129) rfl ml_X9_102 dX9_explore_91 (by omega) (Nat.le_of_ble_eq_true rfl) ?_
          refine aw_imul_n C dX9_explore_94  ?_
          refine aw_iload_2 C dX9_explore_95 ?_
          refine aw_iadd_n C dX9_explore_96  ?_
          refine aw_iconst C dX9_explore_97 k1_m1 ?_
          refine aw_iconst C dX9_explore_98 k1_m1 ?_
          refine aw_iconst C dX9_explore_99 k1_0 ?_
          refine aw_cV4V C (s_X9_arrive _ _ _ _ 0 0 hB6 (by omega) (fun _ => by decide) (fun z => absurd rfl z)) mf_X9_arrive mv_X9_arrive (sh_129) rfl ml_X9_229 dX9_explore_100 (by omega) (Nat.le_of_ble_eq_true rfl) (fun q_100 h_100 => ?_)
          obtain ⟨hB7, hF7⟩ := h_100
          rw [show arrB [] (256 * M (32 + 10 * i + 2) + M (32 + 10 * i + 5), 0, 0, 0) = bfsL M cts i 0 from if_neg (by unfold sts; simp)] at hB7
          have hF8 : Fr (fun k j => k = 142 ∨ SBk k j) q_53 q_100 := (hF6.mono (fun k j z => z.elim Or.inl (fun y => Or.inr (Or.inr y)))).tr (hF7.mono (fun k j z => Or.inr z))
          refine aw_iconst C dX9_explore_103 k1_0 ?_
          refine aw_istore_3 C dX9_explore_104 (by decide) (fun w h => by cases h <;> rfl) ?_
          have L105 : ∀ (n2 k : Nat) (q2 : S_) (x4 x5 x6 x7 : Option Value), k ≤ 1536 → 1536 < k + n2 → BR q2 (bfsL M cts i k) → Fr (fun k j => k = 142 ∨ SBk k j) q_53 q2 → (∀ w, x4 = some w → w.category = 1) → (∀ w, x5 = some w → w.category = 1) → (∀ w, x6 = some w → w.category = 1) → (∀ w, x7 = some w → w.category = 1) → AW X G q2 105 [some (rfn G 129), some (.int (nI i)), some (.int (nI (M (32 + 10 * i + 5)))), some (.int (nI k)), x4, x5, x6, x7] [] := by
            refine nat_loop (fun k q2 x4 x5 x6 x7 h1 h2 hB1 hF2 g4 g5 g6 g7 => by omega) (fun n2 ih3 k q2 x4 x5 x6 x7 h1 h2 hB1 hF2 g4 g5 g6 g7 => ?_)
            have hGL := GL.bfsk (cts := cts) hW hi k
            have hlen0 := hGL.len
            refine aw_iload_3 C dX9_explore_105 ?_
            refine aw_aload_0 C dX9_explore_106 rfl ?_
            refine aw_g9_26 C hB1.1 dX9_explore_107 fl_X9_226 ?_
            refine aw_icmp_ge_n C dX9_explore_110 (tgt := 276) (by decide) (by omega) (by omega) (fun c_110 => ?_) (fun c_110 => ?_)
            · skip
              refine aw_vretV C hR dX9_explore_276 ?_
              have hend : bfsF M cts i = bfsL M cts i k := by
                rw [bfsF_eq, show 1536 = k + (1536 - k) by omega]
                exact bfs_end (by show (bfsL M cts i k).length ≤ k; omega) _
              rw [hend]
              have hFe : Fr (fun k j => k = 142 ∨ SBk k j) q_53 q2 := hF2
              refine ⟨hB1, hFe.rel (fun j z => by unfold SBk at z; omega) hM5, hFe.re (fun k j e z => by unfold SBk at z; omega) hE5 (by obtain ⟨wi, w1, w2⟩ := hE5.2.2.2; exact ⟨wi, w1, (hFe.2 129 13 (by unfold SBk; omega)).trans w2⟩), (hF5.mono (fun k j z => z.elim Or.inl (fun y => Or.inr (Or.inl ⟨by omega, by omega⟩)))).tr (hFe.mono (fun k j z => z.elim (fun y => Or.inr (Or.inl ⟨by omega, by omega⟩)) (fun y => y.elim (fun w => Or.inr (Or.inl ⟨by omega, by omega⟩)) (fun w => Or.inr (Or.inr w)))))⟩
            · skip
              have hlt : k < (bfsL M cts i k).length := by omega
              have he := hB1.2.1 k hlt
              have hl6 := hGL.2.2.2 k hlt
              have hlen := hGL.len
              refine aw_aload_0 C dX9_explore_113 rfl ?_
              refine aw_g9_22 C dX9_explore_114 fl_X9_53 ?_
              refine aw_iload_3 C dX9_explore_117 ?_
              refine aw_iald C _ he.1 dX9_explore_118 sh_143 rfl (by omega) ?_
              refine aw_sipush C dX9_explore_119 k3_256 ?_
              refine aw_idiv_n C dX9_explore_122 (by omega) (by omega) (by omega) ?_
              refine aw_istore_4 C dX9_explore_123 (by decide) (fun w h => by cases h <;> rfl) ?_
              refine aw_aload_0 C dX9_explore_125 rfl ?_
              refine aw_g9_22 C dX9_explore_126 fl_X9_53 ?_
              refine aw_iload_3 C dX9_explore_129 ?_
              refine aw_iald C _ he.1 dX9_explore_130 sh_143 rfl (by omega) ?_
              refine aw_sipush C dX9_explore_131 k3_256 ?_
              refine aw_irem_n C dX9_explore_134 (by omega) (by omega) (by omega) ?_
              refine aw_istore_5 C dX9_explore_135 (by decide) (fun w h => by cases h <;> rfl) ?_
              refine aw_iconst C dX9_explore_137 k1_0 ?_
              refine aw_istore_6 C dX9_explore_138 (by decide) (fun w h => by cases h <;> rfl) ?_
              have L140 : ∀ (n3 b : Nat) (q3 : S_) (x7 : Option Value), b ≤ M 93 → M 93 < b + n3 → BR q3 (procB M cts i (bfsL M cts i k) k b) → Fr (fun k j => k = 142 ∨ SBk k j) q_53 q3 → (∀ w, x7 = some w → w.category = 1) → AW X G q3 140 [some (rfn G 129), some (.int (nI i)), some (.int (nI (M (32 + 10 * i + 5)))), some (.int (nI k)), some (.int (nI ((ent (bfsL M cts i k) k).1 / 256))), some (.int (nI ((ent (bfsL M cts i k) k).1 % 256))), some (.int (nI b)), x7] [] := by
                refine nat_loop (fun b q3 x7 h3 h4 hB3 hF3 hx7 => by omega) (fun n3 ih4 b q3 x7 h3 h4 hB3 hF3 hx7 => ?_)
                have hM3 : RelR q3 M := hF3.rel (fun j z => by unfold SBk at z; omega) hM5
                refine aw_iload_6 C dX9_explore_140 ?_
                refine aw_aload_0 C dX9_explore_142 rfl ?_
                refine aw_g9_0 C dX9_explore_143 fl_X9_9 ?_
                refine aw_bipush C dX9_explore_146 k2_93 ?_
                refine aw_iald C _ (hM3.n (by omega) (by decide)) dX9_explore_148 sh_130 rfl (by decide) ?_
                refine aw_icmp_ge_n C dX9_explore_149 (tgt := 270) (by decide) (by omega) (by omega) (fun c_149 => ?_) (fun c_149 => ?_)
                · skip
                  rw [show procB M cts i (bfsL M cts i k) k b = bfsL M cts i (k + 1) from by rw [show b = M 93 by omega]; exact (if_pos hlt).symm] at hB3
                  refine aw_iinc_3 C dX9_explore_270 (by decide) (fun w h => by cases h <;> rfl) (show _ + Int32.ofInt 1 = _ by rw [k1_1, nI_add]) ?_
                  refine aw_goto C dX9_explore_273 (tgt := 105) (by decide) ?_
                  exact ih3 (k + 1) _ _ _ _ _ (by omega) (by omega) hB3 hF3 (fun w h => by cases h; rfl) (fun w h => by cases h; rfl) (fun w h => by cases h; rfl) hx7
                · skip
                  have hlt3 : k < (procB M cts i (bfsL M cts i k) k b).length := Nat.lt_of_lt_of_le hlt procB_len
                  have he3 := hB3.2.1 k hlt3
                  rw [procB_ent hlt] at he3
                  have hbb := hW.b (show b < M 93 by omega)
                  have hG3 := hGL.proc (cts := cts) (i := i) hW hlt b (by omega)
                  have hlen3 := hG3.len
                  refine aw_aload_0 C dX9_explore_152 rfl ?_
                  refine aw_g9_25 C dX9_explore_153 fl_X9_62 ?_
                  refine aw_iload_3 C dX9_explore_156 ?_
                  refine aw_iald C _ he3.2.1 dX9_explore_157 sh_146 rfl (by omega) ?_
                  refine aw_bipush C dX9_explore_158 k2_12 ?_
                  refine aw_icmp_ge_n C dX9_explore_160 (tgt := 270) (by decide) (by omega) (by omega) (fun c_160 => ?_) (fun c_160 => ?_)
                  · skip
                    rw [show procB M cts i (bfsL M cts i k) k b = bfsL M cts i (k + 1) from by rw [procB_far (by omega), ← procB_far (M := M) (cts := cts) (i := i) (k := k) (L := bfsL M cts i k) (by omega) (M 93)]; exact (if_pos hlt).symm] at hB3
                    refine aw_iinc_3 C dX9_explore_270 (by decide) (fun w h => by cases h <;> rfl) (show _ + Int32.ofInt 1 = _ by rw [k1_1, nI_add]) ?_
                    refine aw_goto C dX9_explore_273 (tgt := 105) (by decide) ?_
                    exact ih3 (k + 1) _ _ _ _ _ (by omega) (by omega) hB3 hF3 (fun w h => by cases h; rfl) (fun w h => by cases h; rfl) (fun w h => by cases h; rfl) hx7
                  · skip
                    refine aw_aload_0 C dX9_explore_163 rfl ?_
                    refine aw_iload_6 C dX9_explore_164 ?_
                    refine aw_iconst C dX9_explore_166 k1_0 ?_
                    refine aw_cV2IE C (s_X9_endN hM3 _ _ rfl (by omega) (by unfold isOpt; omega)) mf_X9_end mv_X9_end (sh_129) rfl ml_X9_217 dX9_explore_167 (by omega) (Nat.le_of_ble_eq_true rfl) ?_
                    refine aw_iload_4 C dX9_explore_170 ?_
                    refine aw_icmp_eq_n C dX9_explore_172 (tgt := 187) (by decide) (by omega) (by omega) (fun c_172 => ?_) (fun c_172 => ?_)
                    · skip
                      refine aw_iconst C dX9_explore_187 k1_1 ?_
                      refine aw_goto C dX9_explore_188 (tgt := 192) (by decide) ?_
                      refine aw_istore_7 C dX9_explore_192 (by decide) (fun w h => by cases h <;> rfl) ?_
                      refine aw_iload_7 C dX9_explore_194 ?_
                      refine aw_if_eq_n C dX9_explore_196 (tgt := 264) (by decide) (by omega) (fun c_196 => absurd c_196 (by omega)) (fun c_196 => ?_)
                      have hadj : adjP M ((ent (bfsL M cts i k) k).1 / 256) b := Or.inl c_172
                      have hpl := pop_lt (M 93) (by omega) _ hl6.2.1
                      refine aw_aload_0 C dX9_explore_199 rfl ?_
                      refine aw_g9_20 C dX9_explore_200 fl_X9_46 ?_
                      refine aw_iload_5 C dX9_explore_203 ?_
                      refine aw_cS1IE C (s_X9_many _ (by omega)) mf_X9_many ms_X9_many ml_X9_202 dX9_explore_205 (by omega) (Nat.le_of_ble_eq_true rfl) ?_
                      refine aw_iald C _ ((hF3.2 141 _ (by unfold SBk; omega)).trans (hm5 _ (by omega))) dX9_explore_208 sh_141 rfl (by omega) ?_
                      refine aw_iload_6 C dX9_explore_209 ?_
                      refine aw_ishr_n C dX9_explore_211 (by have := bsum_lt (mayX M cts i (pop ((ent (bfsL M cts i k) k).1 % 256))) (M 93); omega) (by omega) ?_
                      refine aw_iconst C dX9_explore_212 k1_1 ?_
                      refine aw_iand_n C dX9_explore_213  ?_
                      rw [Nat.and_one_is_mod]
                      refine aw_iconst C dX9_explore_214 k1_1 ?_
                      refine aw_icmp_ne_n C dX9_explore_215 (tgt := 264) (by decide) (by omega) (by omega) (fun c_215 => ?_) (fun c_215 => ?_)
                      · have hno : ¬ stepC M cts i (ent (bfsL M cts i k) k).1 b := fun z => c_215 ((bsum_div (mayX M cts i _) (by omega)).mpr z.2)
                        refine aw_iinc_6 C dX9_explore_264 (by decide) (fun w h => by cases h <;> rfl) (show _ + Int32.ofInt 1 = _ by rw [k1_1, nI_add]) ?_
                        refine aw_goto C dX9_explore_267 (tgt := 140) (by decide) ?_
                        have hB4 : BR q3 (procB M cts i (bfsL M cts i k) k (b + 1)) := by
                          rw [show procB M cts i (bfsL M cts i k) k (b + 1) = procB M cts i (bfsL M cts i k) k b from if_neg (fun z => hno z.2)]
                          exact hB3
                        exact ih4 (b + 1) q3 _ (by omega) (by omega) hB4 hF3 (fun w h => by cases h; rfl)
                      · have hst : stepC M cts i (ent (bfsL M cts i k) k).1 b := ⟨hadj, (bsum_div (mayX M cts i _) (by omega)).mp c_215⟩
                        refine aw_aload_0 C dX9_explore_218 rfl ?_
                        refine aw_sipush C dX9_explore_219 k3_256 ?_
                        refine aw_aload_0 C dX9_explore_222 rfl ?_
                        refine aw_iload_6 C dX9_explore_223 ?_
                        refine aw_iconst C dX9_explore_225 k1_0 ?_
                        refine aw_cV2IE C (s_X9_endN hM3 _ _ rfl (by omega) (by unfold isOpt; omega)) mf_X9_end mv_X9_end (sh_129) rfl ml_X9_217 dX9_explore_226 (by omega) (Nat.le_of_ble_eq_true rfl) ?_
                        refine aw_aload_0 C dX9_explore_229 rfl ?_
                        refine aw_iload_6 C dX9_explore_230 ?_
                        refine aw_iconst C dX9_explore_232 k1_1 ?_
                        refine aw_cV2IE C (s_X9_endN hM3 _ _ rfl (by omega) (by unfold isOpt; omega)) mf_X9_end mv_X9_end (sh_129) rfl ml_X9_217 dX9_explore_233 (by omega) (Nat.le_of_ble_eq_true rfl) ?_
                        refine aw_iadd_n C dX9_explore_236  ?_
                        refine aw_iload_4 C dX9_explore_237 ?_
                        refine aw_isub_n C dX9_explore_239 (by rcases hadj with z | z <;> omega) ?_
                        refine aw_imul_n C dX9_explore_240  ?_
                        refine aw_aload_0 C dX9_explore_241 rfl ?_
                        refine aw_iload_5 C dX9_explore_242 ?_
                        refine aw_iload_6 C dX9_explore_244 ?_
                        refine aw_cV2IE C (s_X9_halfBy _ _ hM3 hW (by omega) hl6.2.1) mf_X9_halfBy mv_X9_halfBy (sh_129) rfl ml_X9_223 dX9_explore_246 (by omega) (Nat.le_of_ble_eq_true rfl) ?_
                        refine aw_iadd_n C dX9_explore_249  ?_
                        have HS : nxtS M (ent (bfsL M cts i k) k).1 b < 1536 := by
                          have := halfM_lt hW (show b < M 93 by omega) hl6.2.1
                          unfold nxtS
                          rcases hadj with z | z <;> omega
                        refine aw_iload_3 C dX9_explore_250 ?_
                        refine aw_iload_6 C dX9_explore_251 ?_
                        refine aw_aload_0 C dX9_explore_253 rfl ?_
                        refine aw_g9_25 C dX9_explore_254 fl_X9_62 ?_
                        refine aw_iload_3 C dX9_explore_257 ?_
                        refine aw_iald C _ he3.2.1 dX9_explore_258 sh_146 rfl (by omega) ?_
                        refine aw_iconst C dX9_explore_259 k1_1 ?_
                        refine aw_iadd_n C dX9_explore_260  ?_
                        refine aw_cV4V C (s_X9_arrive (nxtS M (ent (bfsL M cts i k) k).1 b) _ _ _ k b hB3 HS (fun z => hG3.room HS z) (fun _ => ⟨rfl, rfl⟩)) mf_X9_arrive mv_X9_arrive (sh_129) rfl ml_X9_229 dX9_explore_261 (by omega) (Nat.le_of_ble_eq_true rfl) (fun q_261 h_261 => ?_)
                        obtain ⟨hB4, hF4⟩ := h_261
                        rw [show arrB (procB M cts i (bfsL M cts i k) k b) (nxtS M (ent (bfsL M cts i k) k).1 b, k, b, (ent (bfsL M cts i k) k).2.2.2 + 1) = procB M cts i (bfsL M cts i k) k (b + 1) from (if_pos ⟨by omega, hst⟩).symm] at hB4
                        refine aw_iinc_6 C dX9_explore_264 (by decide) (fun w h => by cases h <;> rfl) (show _ + Int32.ofInt 1 = _ by rw [k1_1, nI_add]) ?_
                        refine aw_goto C dX9_explore_267 (tgt := 140) (by decide) ?_
                        exact ih4 (b + 1) q_261 _ (by omega) (by omega) hB4 (hF3.tr (hF4.mono (fun k j z => Or.inr z))) (fun w h => by cases h; rfl)
                    · skip
                      refine aw_aload_0 C dX9_explore_175 rfl ?_
                      refine aw_iload_6 C dX9_explore_176 ?_
                      refine aw_iconst C dX9_explore_178 k1_1 ?_
                      refine aw_cV2IE C (s_X9_endN hM3 _ _ rfl (by omega) (by unfold isOpt; omega)) mf_X9_end mv_X9_end (sh_129) rfl ml_X9_217 dX9_explore_179 (by omega) (Nat.le_of_ble_eq_true rfl) ?_
                      refine aw_iload_4 C dX9_explore_182 ?_
                      refine aw_icmp_ne_n C dX9_explore_184 (tgt := 191) (by decide) (by omega) (by omega) (fun c_184 => ?_) (fun c_184 => ?_)
                      · skip
                        refine aw_iconst C dX9_explore_191 k1_0 ?_
                        refine aw_istore_7 C dX9_explore_192 (by decide) (fun w h => by cases h <;> rfl) ?_
                        refine aw_iload_7 C dX9_explore_194 ?_
                        refine aw_if_eq_n C dX9_explore_196 (tgt := 264) (by decide) (by omega) (fun c_196 => ?_) (fun c_196 => absurd c_196 (by omega))
                        refine aw_iinc_6 C dX9_explore_264 (by decide) (fun w h => by cases h <;> rfl) (show _ + Int32.ofInt 1 = _ by rw [k1_1, nI_add]) ?_
                        refine aw_goto C dX9_explore_267 (tgt := 140) (by decide) ?_
                        have hno : ¬ stepC M cts i (ent (bfsL M cts i k) k).1 b := fun z => z.1.elim c_172 c_184
                        have hB4 : BR q3 (procB M cts i (bfsL M cts i k) k (b + 1)) := by
                          rw [show procB M cts i (bfsL M cts i k) k (b + 1) = procB M cts i (bfsL M cts i k) k b from if_neg (fun z => hno z.2)]
                          exact hB3
                        exact ih4 (b + 1) q3 _ (by omega) (by omega) hB4 hF3 (fun w h => by cases h; rfl)
                      · skip
                        refine aw_iconst C dX9_explore_187 k1_1 ?_
                        refine aw_goto C dX9_explore_188 (tgt := 192) (by decide) ?_
                        refine aw_istore_7 C dX9_explore_192 (by decide) (fun w h => by cases h <;> rfl) ?_
                        refine aw_iload_7 C dX9_explore_194 ?_
                        refine aw_if_eq_n C dX9_explore_196 (tgt := 264) (by decide) (by omega) (fun c_196 => absurd c_196 (by omega)) (fun c_196 => ?_)
                        have hadj : adjP M ((ent (bfsL M cts i k) k).1 / 256) b := Or.inr c_184
                        have hpl := pop_lt (M 93) (by omega) _ hl6.2.1
                        refine aw_aload_0 C dX9_explore_199 rfl ?_
                        refine aw_g9_20 C dX9_explore_200 fl_X9_46 ?_
                        refine aw_iload_5 C dX9_explore_203 ?_
                        refine aw_cS1IE C (s_X9_many _ (by omega)) mf_X9_many ms_X9_many ml_X9_202 dX9_explore_205 (by omega) (Nat.le_of_ble_eq_true rfl) ?_
                        refine aw_iald C _ ((hF3.2 141 _ (by unfold SBk; omega)).trans (hm5 _ (by omega))) dX9_explore_208 sh_141 rfl (by omega) ?_
                        refine aw_iload_6 C dX9_explore_209 ?_
                        refine aw_ishr_n C dX9_explore_211 (by have := bsum_lt (mayX M cts i (pop ((ent (bfsL M cts i k) k).1 % 256))) (M 93); omega) (by omega) ?_
                        refine aw_iconst C dX9_explore_212 k1_1 ?_
                        refine aw_iand_n C dX9_explore_213  ?_
                        rw [Nat.and_one_is_mod]
                        refine aw_iconst C dX9_explore_214 k1_1 ?_
                        refine aw_icmp_ne_n C dX9_explore_215 (tgt := 264) (by decide) (by omega) (by omega) (fun c_215 => ?_) (fun c_215 => ?_)
                        · have hno : ¬ stepC M cts i (ent (bfsL M cts i k) k).1 b := fun z => c_215 ((bsum_div (mayX M cts i _) (by omega)).mpr z.2)
                          refine aw_iinc_6 C dX9_explore_264 (by decide) (fun w h => by cases h <;> rfl) (show _ + Int32.ofInt 1 = _ by rw [k1_1, nI_add]) ?_
                          refine aw_goto C dX9_explore_267 (tgt := 140) (by decide) ?_
                          have hB4 : BR q3 (procB M cts i (bfsL M cts i k) k (b + 1)) := by
                            rw [show procB M cts i (bfsL M cts i k) k (b + 1) = procB M cts i (bfsL M cts i k) k b from if_neg (fun z => hno z.2)]
                            exact hB3
                          exact ih4 (b + 1) q3 _ (by omega) (by omega) hB4 hF3 (fun w h => by cases h; rfl)
                        · have hst : stepC M cts i (ent (bfsL M cts i k) k).1 b := ⟨hadj, (bsum_div (mayX M cts i _) (by omega)).mp c_215⟩
                          refine aw_aload_0 C dX9_explore_218 rfl ?_
                          refine aw_sipush C dX9_explore_219 k3_256 ?_
                          refine aw_aload_0 C dX9_explore_222 rfl ?_
                          refine aw_iload_6 C dX9_explore_223 ?_
                          refine aw_iconst C dX9_explore_225 k1_0 ?_
                          refine aw_cV2IE C (s_X9_endN hM3 _ _ rfl (by omega) (by unfold isOpt; omega)) mf_X9_end mv_X9_end (sh_129) rfl ml_X9_217 dX9_explore_226 (by omega) (Nat.le_of_ble_eq_true rfl) ?_
                          refine aw_aload_0 C dX9_explore_229 rfl ?_
                          refine aw_iload_6 C dX9_explore_230 ?_
                          refine aw_iconst C dX9_explore_232 k1_1 ?_
                          refine aw_cV2IE C (s_X9_endN hM3 _ _ rfl (by omega) (by unfold isOpt; omega)) mf_X9_end mv_X9_end (sh_129) rfl ml_X9_217 dX9_explore_233 (by omega) (Nat.le_of_ble_eq_true rfl) ?_
                          refine aw_iadd_n C dX9_explore_236  ?_
                          refine aw_iload_4 C dX9_explore_237 ?_
                          refine aw_isub_n C dX9_explore_239 (by rcases hadj with z | z <;> omega) ?_
                          refine aw_imul_n C dX9_explore_240  ?_
                          refine aw_aload_0 C dX9_explore_241 rfl ?_
                          refine aw_iload_5 C dX9_explore_242 ?_
                          refine aw_iload_6 C dX9_explore_244 ?_
                          refine aw_cV2IE C (s_X9_halfBy _ _ hM3 hW (by omega) hl6.2.1) mf_X9_halfBy mv_X9_halfBy (sh_129) rfl ml_X9_223 dX9_explore_246 (by omega) (Nat.le_of_ble_eq_true rfl) ?_
                          refine aw_iadd_n C dX9_explore_249  ?_
                          have HS : nxtS M (ent (bfsL M cts i k) k).1 b < 1536 := by
                            have := halfM_lt hW (show b < M 93 by omega) hl6.2.1
                            unfold nxtS
                            rcases hadj with z | z <;> omega
                          refine aw_iload_3 C dX9_explore_250 ?_
                          refine aw_iload_6 C dX9_explore_251 ?_
                          refine aw_aload_0 C dX9_explore_253 rfl ?_
                          refine aw_g9_25 C dX9_explore_254 fl_X9_62 ?_
                          refine aw_iload_3 C dX9_explore_257 ?_
                          refine aw_iald C _ he3.2.1 dX9_explore_258 sh_146 rfl (by omega) ?_
                          refine aw_iconst C dX9_explore_259 k1_1 ?_
                          refine aw_iadd_n C dX9_explore_260  ?_
                          refine aw_cV4V C (s_X9_arrive (nxtS M (ent (bfsL M cts i k) k).1 b) _ _ _ k b hB3 HS (fun z => hG3.room HS z) (fun _ => ⟨rfl, rfl⟩)) mf_X9_arrive mv_X9_arrive (sh_129) rfl ml_X9_229 dX9_explore_261 (by omega) (Nat.le_of_ble_eq_true rfl) (fun q_261 h_261 => ?_)
                          obtain ⟨hB4, hF4⟩ := h_261
                          rw [show arrB (procB M cts i (bfsL M cts i k) k b) (nxtS M (ent (bfsL M cts i k) k).1 b, k, b, (ent (bfsL M cts i k) k).2.2.2 + 1) = procB M cts i (bfsL M cts i k) k (b + 1) from (if_pos ⟨by omega, hst⟩).symm] at hB4
                          refine aw_iinc_6 C dX9_explore_264 (by decide) (fun w h => by cases h <;> rfl) (show _ + Int32.ofInt 1 = _ by rw [k1_1, nI_add]) ?_
                          refine aw_goto C dX9_explore_267 (tgt := 140) (by decide) ?_
                          exact ih4 (b + 1) q_261 _ (by omega) (by omega) hB4 (hF3.tr (hF4.mono (fun k j z => Or.inr z))) (fun w h => by cases h; rfl)
              exact L140 9 0 q2 _ (by omega) (by omega) hB1 hF2 g7
          exact L105 1537 0 q_100 _ _ _ _ (by omega) (by omega) hB7 hF8 (fun w h => by cases h) (fun w h => by cases h) (fun w h => by cases h) (fun w h => by cases h)
        · skip
          refine aw_aload_0 C dX9_explore_66 rfl ?_
          refine aw_g9_21 C dX9_explore_67 fl_X9_49 ?_
          refine aw_iload_3 C dX9_explore_70 ?_
          refine aw_iconst C dX9_explore_71 k1_0 ?_
          refine aw_zast C _ dX9_explore_72 sh_142 rfl (by omega) rfl ?_
          refine aw_iinc_3 C dX9_explore_73 (by decide) (fun w h => by cases h <;> rfl) (show _ + Int32.ofInt 1 = _ by rw [k1_1, nI_add]) ?_
          refine aw_goto C dX9_explore_76 (tgt := 59) (by decide) ?_
          exact ih2 (k + 1) _ (by omega) (by omega) (hF1.put rfl) (fun a ha => by
            rw [gI_sI]
            split
            · rfl
            · next e => exact hb1 a (by omega))
      exact L59 1537 0 q_53 (by omega) (by omega) Fr.rf (fun a ha => absurd ha (Nat.not_lt_zero a))
    · skip
      have hpn : 2 ^ k ≤ 2 ^ M 93 := Nat.pow_le_pow_right (by decide) (by omega)
      have hpp : 0 < 2 ^ k := Nat.pow_pos (by decide)
      refine aw_aload_0 C dX9_explore_20 rfl ?_
      refine aw_iload_1 C dX9_explore_21 ?_
      refine aw_iconst C dX9_explore_22 k1_5 ?_
      refine aw_iconst C dX9_explore_23 k1_1 ?_
      refine aw_iload_3 C dX9_explore_24 ?_
      refine aw_ishl_n C dX9_explore_25 (by omega) (by omega) ?_
      refine aw_iconst C dX9_explore_26 k1_1 ?_
      rw [Nat.one_mul]
      refine aw_isub_n C dX9_explore_27 (by omega) ?_
      refine aw_cV3I C (s_X9_changeX hM1 i 5 (2 ^ k - 1) (cd_n (by unfold isOpt; omega)).symm (by omega)) mf_X9_change mv_X9_change (sh_129) rfl ml_X9_110 dX9_explore_28 (by omega) (Nat.le_of_ble_eq_true rfl) (fun r_28 q_28 h_28 => ?_)
      obtain ⟨he2, hM2⟩ := h_28
      rw [mu_mu] at hM2
      have hW2 := hW.per hi (w := 5) (v := 2 ^ k - 1) (by omega) (by omega) (by omega) (by omega) (by omega) (by omega) (fun _ => by omega) (by omega)
      have hF2 : Fr (S1k i) q q_28 := by rw [he2]; exact hF1.put (Or.inr (Or.inr ⟨rfl, rfl⟩))
      have hE2 : RE q_28 cts := by rw [he2]; exact (Fr.set (S := fun k j => k = 130) rfl).re (fun k j e z => by omega) hE1 (by obtain ⟨wi, w1, w2⟩ := hE1.2.2.2; exact ⟨wi, w1, by rw [gI_sI, if_neg (by omega)]; exact w2⟩)
      have hm2 : ∀ a, a < k → gI q_28 141 a = nI (bsum (mayX M cts i a) (M 93)) := fun a ha => by rw [he2, gI_sI, if_neg (by omega)]; exact hm1 a ha
      refine aw_pop C dX9_explore_31 rfl ?_
      refine aw_aload_0 C dX9_explore_32 rfl ?_
      refine aw_g9_20 C dX9_explore_33 fl_X9_46 ?_
      refine aw_iload_3 C dX9_explore_36 ?_
      refine aw_aload_0 C dX9_explore_37 rfl ?_
      refine aw_iload_1 C dX9_explore_38 ?_
      refine aw_cV1I C (s_X9_mayAnywhere _ hM2 hW2 hE2 (fun z hz => hG z (by rwa [mu_ne (by omega)] at hz)) (by rw [mu_ne (by omega)]; exact hi)) mf_X9_mayAnywhere mv_X9_mayAnywhere (sh_129) rfl ml_X9_220 dX9_explore_39 (by omega) (Nat.le_of_ble_eq_true rfl) (fun r_39 q_39 h_39 => ?_)
      obtain ⟨rfl, hF3, hE3⟩ := h_39
      have hr39 : bsum (mayP (mu M (32 + 10 * i + 5) (2 ^ k - 1)) cts i) (mu M (32 + 10 * i + 5) (2 ^ k - 1) 93) = bsum (mayX M cts i k) (M 93) := by
        rw [show mu M (32 + 10 * i + 5) (2 ^ k - 1) 93 = M 93 from mu_ne (by omega)]
        exact bsum_congr (M 93) (fun b hb => mayP_mu (by omega) (by omega) (by omega))
      rw [hr39]
      refine aw_iast C _ dX9_explore_42 sh_141 rfl (by omega) ?_
      refine aw_iinc_3 C dX9_explore_43 (by decide) (fun w h => by cases h <;> rfl) (show _ + Int32.ofInt 1 = _ by rw [k1_1, nI_add]) ?_
      refine aw_goto C dX9_explore_46 (tgt := 9) (by decide) ?_
      exact ih (k + 1) _ (2 ^ k - 1) (by omega) (by omega) ((Fr.set (S := fun k j => k = 141) rfl).rel (fun j z => by omega) (hF3.rel (fun j z => by unfold SQk at z; omega) hM2)) ((hF2.tr (hF3.mono (fun k j z => Or.inl z))).put (Or.inr (Or.inl rfl))) ((Fr.set (S := fun k j => k = 141) rfl).re (fun k j e z => by omega) hE3 (by obtain ⟨wi, w1, w2⟩ := hE3.2.2.2; exact ⟨wi, w1, by rw [gI_sI, if_neg (by omega)]; exact w2⟩)) (fun a ha => by
        rw [gI_sI]
        split
        · next e => rw [e.2]
        · next e => rw [hF3.2 141 a (by unfold SQk; omega)]; exact hm2 a (by omega))
  exact L9 20 0 q (M (32 + 10 * i + 5)) (by omega) (by omega) (by rw [mu_self]; exact hM) Fr.rf hE (fun a ha => absurd ha (Nat.not_lt_zero a))
