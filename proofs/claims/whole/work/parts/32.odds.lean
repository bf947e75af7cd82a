theorem PGl.same {q q3 : S_} {g : GS} {v r : Int64} {fr : Int64 × GS} (h : RR q g) (hr : r = v) (hf : fr = (v, g)) (hF : Fr SZk q q3) (hM : RelR q3 (gM g)) (hE : RE q3 (gC g)) : PGl fr q r q3 := by
  subst hf
  exact ⟨hr, h.keep hF hM hE, hF.m SZ_m⟩
theorem PGl.here {q : S_} {g : GS} {v r : Int64} {fr : Int64 × GS} (h : RR q g) (hr : r = v) (hf : fr = (v, g)) : PGl fr q r q := PGl.same h hr hf Fr.rf h.1 h.2.1
def noL : Int64 := -9223372036854775808
def f_mean (g : GS) (w : Int32) : Int64 × GS := (if inN w 2 ∧ gM g 92 ≠ 0 then fracM (halvesM (gM g) (gM g 92)) (gM g 92) w else noL, g)
def oddU (M : Nat → Nat) (cts : Nat → List Nat) (p x : Nat) : Nat → Nat
  | 0 => 0
  | b + 1 => oddU M cts p x b + if longM (mu M (4 * b + 3) 1) cts p x = 99 then 0 else 1
theorem oddU_le (M : Nat → Nat) (cts : Nat → List Nat) (p x : Nat) : ∀ k, oddU M cts p x k ≤ k := by
  intro k
  induction k with
  | zero => exact Nat.le_refl 0
  | succ k ih =>
    unfold oddU
    split <;> omega
def f_odds (g : GS) (p x w : Int32) : Int64 × GS := (if inN p (gM g 92) ∧ inN x 6 ∧ inN w 2 ∧ gM g 93 ≠ 0 then fracM (oddU (gM g) (gC g) (u32 p) (u32 x) (gM g 93)) (gM g 93) w else noL, g)

set_option maxRecDepth 100000 in
set_option maxHeartbeats 4000000 in
theorem s_X9_mean {G : GT} {q : S_} {g : GS} (w : Int32) (hg : GOK g) (hRR : RR q g) : Spec G 3 yX9_mean cX9_mean 2 (some .long) [rfn G 129, .int w] q (PL (PGl (f_mean g w) q)) := by
  refine Spec.intro RX9 (by decide) rfl (Nat.le_of_ble_eq_true rfl) [some (rfn G 129), some (.int w)] rfl ?_
  intro X d hd C hR
  obtain ⟨hW, hCy, h95, hN6, h94, hK, hT1, hT2, hTp, hR1, hSy, hSyJ⟩ := id hg
  obtain ⟨hM, hE, hNr, hKp, hIm, hTl, hTx, hTs, hAb, hBd, hRn, hTr⟩ := id hRR
  have hc := hW.c
  have hG : Goo (gM g) (gC g) := fun k hk => hCy k (by omega)
  refine aw_iload_1 C dX9_mean_0 ?_
  refine aw_iconst C dX9_mean_1 k1_0 ?_
  refine aw_iconst C dX9_mean_2 k1_1 ?_
  refine aw_cS3IE C (s_X9_isIn _ _ _) mf_X9_isIn ms_X9_isIn ml_X9_98 dX9_mean_3 (by omega) (Nat.le_of_ble_eq_true rfl) ?_
  refine aw_if_eq_b C dX9_mean_6 (tgt := 39) (by decide)  (fun c_6 => ?_) (fun c_6 => ?_)
  · skip
    refine aw_ldc2 C dX9_mean_39 kc_X9_271 ?_
    refine aw_lretL C hR dX9_mean_42 ?_
    exact PGl.here hRR rfl (by unfold f_mean; rw [if_neg (fun z => c_6 ((inN_le (by omega)).mpr z.1))]; rfl)
  · have c6 := (inN_le (by omega)).mp c_6
    refine aw_aload_0 C dX9_mean_9 rfl ?_
    refine aw_g9_0 C dX9_mean_10 fl_X9_9 ?_
    refine aw_bipush C dX9_mean_13 k2_92 ?_
    refine aw_iald C _ (hM.n (by omega) (by decide)) dX9_mean_15 sh_130 rfl (by decide) ?_
    refine aw_if_le_n C dX9_mean_16 (tgt := 39) (by decide) (by omega) (fun c_16 => ?_) (fun c_16 => ?_)
    · skip
      refine aw_ldc2 C dX9_mean_39 kc_X9_271 ?_
      refine aw_lretL C hR dX9_mean_42 ?_
      exact PGl.here hRR rfl (by unfold f_mean; rw [if_neg (fun z => z.2 c_16)]; rfl)
    · skip
      refine aw_aload_0 C dX9_mean_19 rfl ?_
      refine aw_cV0IE C (s_X9_halves hM hW) mf_X9_halves mv_X9_halves (sh_129) rfl ml_X9_251 dX9_mean_20 (by omega) (Nat.le_of_ble_eq_true rfl) ?_
      have hh8 := halvesM_le (gM g) (gM g 92)
      refine aw_i2l C dX9_mean_23 ?_
      rw [kL_i _ (by omega)]
      refine aw_aload_0 C dX9_mean_24 rfl ?_
      refine aw_g9_0 C dX9_mean_25 fl_X9_9 ?_
      refine aw_bipush C dX9_mean_28 k2_92 ?_
      refine aw_iald C _ (hM.n (by omega) (by decide)) dX9_mean_30 sh_130 rfl (by decide) ?_
      refine aw_i2l C dX9_mean_31 ?_
      rw [kL_i _ (by omega)]
      refine aw_iload_1 C dX9_mean_32 ?_
      refine aw_cS3LE C (s_X9_fraction _ _ w (by omega) (by omega) (by omega)) mf_X9_fraction ms_X9_fraction ml_X9_277 dX9_mean_33 (by omega) (Nat.le_of_ble_eq_true rfl) ?_
      refine aw_goto C dX9_mean_36 (tgt := 42) (by decide) ?_
      refine aw_lretL C hR dX9_mean_42 ?_
      exact PGl.here hRR rfl (by unfold f_mean; rw [if_pos ⟨c6, c_16⟩])
