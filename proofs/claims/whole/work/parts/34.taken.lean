/-- a kind's own kinds, upwards: 99 above the first -/
def abN (k : Nat) : Nat := if k = 0 then 99 else if k < 4 then 0 else if k < 7 then k - 3 else 99
def isAn (k : Nat) : Nat → Nat → Bool
  | 0, _ => false
  | m + 1, j => if j = 99 then false else if j = k then true else isAn k m (abN j)
def f_taken (g : GS) (p k : Int32) : Int32 × GS := (if ¬ inN k 7 then -2 else if ¬ inN p (gM g 92) then -11 else if isAn (u32 k) 4 (gM g (32 + 10 * u32 p + 0)) = true then nI (gM g (32 + 10 * u32 p + 0)) else -12, g)

def cdk (j : Nat) : Int32 := if j = 99 then -1 else nI j
theorem ab_k : ∀ j, j < 7 → abv j = cdk (abN j) := by decide +kernel
def dpk (j : Nat) : Nat := if j = 99 then 0 else if j = 0 then 1 else if j < 4 then 2 else 3
theorem dpk_s : ∀ j, j < 7 → dpk (abN j) < dpk j ∧ (abN j = 99 ∨ abN j < 7) := by decide +kernel
theorem dpk_4 (j : Nat) : dpk j < 4 := by
  unfold dpk
  repeat' split
  all_goals omega
theorem isAn_s (k m j : Nat) : isAn k (m + 1) j = if j = 99 then false else if j = k then true else isAn k m (abN j) := rfl

set_option maxRecDepth 100000 in
set_option maxHeartbeats 4000000 in
theorem s_X9_taken {G : GT} {q : S_} {g : GS} (p : Int32) (k : Int32) (hg : GOK g) (hRR : RR q g) : Spec G 3 yX9_taken cX9_taken 4 (some .int) [rfn G 129, .int p, .int k] q (PI (PG (f_taken g p k) q)) := by
  refine Spec.intro RX9 (by decide) rfl (Nat.le_of_ble_eq_true rfl) [some (rfn G 129), some (.int p), some (.int k), none] rfl ?_
  intro X d hd C hR
  obtain ⟨hW, hCy, h95, hN6, h94, hK, hT1, hT2, hTp, hR1, hSy, hSyJ⟩ := id hg
  obtain ⟨hM, hE, hNr, hKp, hIm, hTl, hTx, hTs, hAb, hBd, hRn, hTr⟩ := id hRR
  have hc := hW.c
  have hG : Goo (gM g) (gC g) := fun k hk => hCy k (by omega)
  refine aw_iload_2 C dX9_taken_0 ?_
  refine aw_iconst C dX9_taken_1 k1_0 ?_
  refine aw_bipush C dX9_taken_2 k2_6 ?_
  refine aw_cS3IE C (s_X9_isIn _ _ _) mf_X9_isIn ms_X9_isIn ml_X9_98 dX9_taken_4 (by omega) (Nat.le_of_ble_eq_true rfl) ?_
  refine aw_if_ne_b C dX9_taken_7 (tgt := 13) (by decide)  (fun c_7 => ?_) (fun c_7 => ?_)
  · have c7 := (inN_le (by omega)).mp c_7
    obtain ⟨k, hk1, hk2, rfl⟩ := inN_of c7
    have huk : u32 (nI k) = k := nI_clamp hk2
    refine aw_aload_0 C dX9_taken_13 rfl ?_
    refine aw_iload_1 C dX9_taken_14 ?_
    refine aw_cV1IE C (s_X9_isOne _ (hM.n (by omega) (by decide)) (by omega)) mf_X9_isOne mv_X9_isOne (sh_129) rfl ml_X9_114 dX9_taken_15 (by omega) (Nat.le_of_ble_eq_true rfl) ?_
    refine aw_if_ne_b C dX9_taken_18 (tgt := 24) (by decide)  (fun c_18 => ?_) (fun c_18 => ?_)
    · obtain ⟨p, hp1, hp2, rfl⟩ := inN_of c_18
      have hu : u32 (nI p) = p := nI_clamp hp2
      have hp := hW.p hp1
      refine aw_aload_0 C dX9_taken_24 rfl ?_
      refine aw_iload_1 C dX9_taken_25 ?_
      refine aw_iconst C dX9_taken_26 k1_0 ?_
      refine aw_cV2IE C (s_X9_oneN hM p 0 rfl (by omega) (by unfold isOpt; omega)) mf_X9_one mv_X9_one (sh_129) rfl ml_X9_102 dX9_taken_27 (by omega) (Nat.le_of_ble_eq_true rfl) ?_
      refine aw_istore_3 C dX9_taken_30 (by decide) (fun w h => by cases h <;> rfl) ?_
      have L31 : ∀ (n2 j : Nat), dpk j < n2 → (j = 99 ∨ j < 7) → isAn k 4 (gM g (32 + 10 * p + 0)) = isAn k n2 j → AW X G (q) 31 [some (rfn G 129), some (.int (nI p)), some (.int (nI k)), some (.int (cdk j))] [] := by
        refine nat_loop (fun j h1 hj hT => by omega) (fun n2 ih j h1 hj hT => ?_)
        refine aw_iload_3 C dX9_taken_31 ?_
        refine aw_iconst C dX9_taken_32 k1_m1 ?_
        refine aw_icmp_eq C dX9_taken_33 (tgt := 51) (by decide)  (fun c_33 => ?_) (fun c_33 => ?_)
        · have e9 : j = 99 := Decidable.byContradiction (fun z => absurd c_33 (by unfold cdk; rw [if_neg z]; exact m1_ne (by omega)))
          refine aw_iload_3 C dX9_taken_51 ?_
          refine aw_iload_2 C dX9_taken_52 ?_
          refine aw_icmp_ne C dX9_taken_53 (tgt := 65) (by decide)  (fun c_53 => ?_) (fun c_53 => absurd c_53 (fun z => m1_ne (n := k) (by omega) (z.symm.trans c_33)))
          refine aw_bipush C dX9_taken_65 k2_m12 ?_
          refine aw_iretI C hR dX9_taken_67 ?_
          exact PG.here hRR rfl (by unfold f_taken; rw [if_neg (fun z => z c7), if_neg (fun z => z c_18), hu, huk, hT, isAn_s, if_pos e9]; rfl)
        · have e9 : j ≠ 99 := fun z => c_33 (by unfold cdk; rw [if_pos z])
          have hj7 : j < 7 := by omega
          have hds := dpk_s j hj7
          have hT2 := hT.trans (isAn_s k n2 j)
          rw [if_neg e9] at hT2
          rw [show cdk j = nI j from if_neg e9]
          refine aw_iload_3 C dX9_taken_36 ?_
          refine aw_iload_2 C dX9_taken_37 ?_
          refine aw_icmp_eq_n C dX9_taken_38 (tgt := 51) (by decide) (by omega) (by omega) (fun c_38 => ?_) (fun c_38 => ?_)
          · skip
            refine aw_iload_3 C dX9_taken_51 ?_
            refine aw_iload_2 C dX9_taken_52 ?_
            refine aw_icmp_ne C dX9_taken_53 (tgt := 65) (by decide)  (fun c_53 => absurd c_53 (fun z => z (by rw [c_38]))) (fun c_53 => ?_)
            refine aw_aload_0 C dX9_taken_56 rfl ?_
            refine aw_iload_1 C dX9_taken_57 ?_
            refine aw_iconst C dX9_taken_58 k1_0 ?_
            refine aw_cV2IE C (s_X9_oneN hM p 0 rfl (by omega) (by unfold isOpt; omega)) mf_X9_one mv_X9_one (sh_129) rfl ml_X9_102 dX9_taken_59 (by omega) (Nat.le_of_ble_eq_true rfl) ?_
            refine aw_goto C dX9_taken_62 (tgt := 67) (by decide) ?_
            refine aw_iretI C hR dX9_taken_67 ?_
            exact PG.here hRR rfl (by unfold f_taken; rw [if_neg (fun z => z c7), if_neg (fun z => z c_18), hu, huk, hT2, if_pos c_38, if_pos rfl])
          · skip
            refine aw_aload_0 C dX9_taken_41 rfl ?_
            refine aw_g9_28 C dX9_taken_42 fl_X9_68 ?_
            refine aw_iload_3 C dX9_taken_45 ?_
            refine aw_iald C _ (hAb j (by omega)) dX9_taken_46 sh_148 rfl (by omega) ?_
            rw [ab_k j hj7]
            refine aw_istore_3 C dX9_taken_47 (by decide) (fun w h => by cases h <;> rfl) ?_
            refine aw_goto C dX9_taken_48 (tgt := 31) (by decide) ?_
            exact ih (abN j) (by omega) hds.2 (by rw [hT2, if_neg c_38])
      have h31 := L31 4 (gM g (32 + 10 * p + 0)) (dpk_4 _) (Or.inr (by omega)) rfl
      rw [show cdk (gM g (32 + 10 * p + 0)) = nI (gM g (32 + 10 * p + 0)) from if_neg (by omega)] at h31
      exact h31
    · skip
      refine aw_bipush C dX9_taken_21 k2_m11 ?_
      refine aw_iretI C hR dX9_taken_23 ?_
      exact PG.here hRR rfl (by unfold f_taken; rw [if_neg (fun z => z c7), if_pos c_18])
  · skip
    refine aw_bipush C dX9_taken_10 k2_m2 ?_
    refine aw_iretI C hR dX9_taken_12 ?_
    exact PG.here hRR rfl (by unfold f_taken; rw [if_pos (fun z => c_7 ((inN_le (by omega)).mpr z))])
