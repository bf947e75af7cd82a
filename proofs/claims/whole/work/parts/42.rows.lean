theorem Fr.fill {S : Nat → Nat → Prop} {q q2 : S_} {k n : Nat} {v : Int32} (h : Fr S q q2) (hs : ∀ j, S k j) : Fr S q (flI q2 k n v) := h.tr ⟨rfl, fun a c hn => by
  rw [gI_flI, if_neg]
  rintro ⟨rfl, -⟩
  exact hn (hs c)⟩
theorem Fr.cp {S : Nat → Nat → Prop} {q q2 : S_} {k1 k n : Nat} (h : Fr S q q2) (hs : ∀ j, S k j) : Fr S q (cpI q2 k1 k n) := h.tr ⟨rfl, fun a c hn => by
  rw [gI_cpI, if_neg]
  rintro ⟨rfl, -⟩
  exact hn (hs c)⟩

set_option maxRecDepth 100000 in
set_option maxHeartbeats 4000000 in
theorem s_X2_become {G : GT} {q : S_} (e k v x : Nat) (he : shE e) : Spec G 2 yX2_become cX2_become 4 none [rfn G e, .int (nI k), .int (nI v), .int (nI x)] q (PV (fun q3 => gI q3 e 0 = nI k ∧ gI q3 e 1 = nI v ∧ gI q3 e 2 = nI x ∧ gI q3 e 3 = nI x ∧ gI q3 e 4 = -5 ∧ gI q3 e 5 = nI 0 ∧ (∀ r, r < 4 → gI q3 (e + 1) r = nI 0) ∧ Fr (fun a _ => a = e ∨ a = e + 1) q q3)) := by
  refine Spec.intro RX2 (by decide) rfl (Nat.le_of_ble_eq_true rfl) [some (rfn G e), some (.int (nI k)), some (.int (nI v)), some (.int (nI x))] rfl ?_
  intro X d hd C hR
  refine aw_aload_0 C dX2_become_0 rfl ?_
  refine aw_iload_1 C dX2_become_1 ?_
  refine aw_p2_0 C dX2_become_2 he.1 fl_X2_19 ?_
  refine aw_aload_0 C dX2_become_5 rfl ?_
  refine aw_iload_2 C dX2_become_6 ?_
  refine aw_p2_1 C dX2_become_7 he.1 fl_X2_22 ?_
  refine aw_aload_0 C dX2_become_10 rfl ?_
  refine aw_iload_3 C dX2_become_11 ?_
  refine aw_p2_2 C dX2_become_12 he.1 fl_X2_25 ?_
  refine aw_aload_0 C dX2_become_15 rfl ?_
  refine aw_iload_3 C dX2_become_16 ?_
  refine aw_p2_3 C dX2_become_17 he.1 fl_X2_28 ?_
  refine aw_aload_0 C dX2_become_20 rfl ?_
  refine aw_bipush C dX2_become_21 k2_m5 ?_
  refine aw_p2_4 C dX2_become_23 he.1 fl_X2_9 ?_
  refine aw_aload_0 C dX2_become_26 rfl ?_
  refine aw_iconst C dX2_become_27 k1_0 ?_
  refine aw_p2_5 C dX2_become_28 he.1 fl_X2_31 ?_
  refine aw_aload_0 C dX2_become_31 rfl ?_
  refine aw_g2_6 C dX2_become_32 he.1 fl_X2_15 ?_
  refine aw_iconst C dX2_become_35 k1_0 ?_
  refine aw_cS2VE C (s_J7_fill_53178 (e + 1) 4 (nI 0) he.2) mf_J7_fill_53178 ms_J7_fill_53178 ml_X2_34 dX2_become_36 (by omega) (Nat.le_of_ble_eq_true rfl) ?_
  refine aw_vretV C hR dX2_become_39 ?_
  exact ⟨by simp [gI_flI, gI_sI], by simp [gI_flI, gI_sI], by simp [gI_flI, gI_sI], by simp [gI_flI, gI_sI], by simp [gI_flI, gI_sI], by simp [gI_flI, gI_sI], fun r hr => by simp [gI_flI, hr], (by repeat first | exact Fr.rf | refine Fr.put ?_ (by first | exact Or.inl rfl | exact Or.inr rfl | rfl) | refine Fr.fill ?_ (fun _ => by first | exact Or.inl rfl | exact Or.inr rfl | rfl) | refine Fr.cp ?_ (fun _ => by first | exact Or.inl rfl | exact Or.inr rfl | rfl))⟩

set_option maxRecDepth 100000 in
set_option maxHeartbeats 4000000 in
theorem s_X2_copyFrom {G : GT} {q : S_} (e e2 : Nat) (he : shE e) (he2 : shE e2) (h1 : e2 ≠ e) (h2 : e2 + 1 ≠ e) (h3 : e2 ≠ e + 1) : Spec G 1 yX2_copyFrom cX2_copyFrom 2 none [rfn G e, rfn G e2] q (PV (fun q3 => (∀ j, j < 6 → gI q3 e j = gI q e2 j) ∧ (∀ r, r < 4 → gI q3 (e + 1) r = gI q (e2 + 1) r) ∧ Fr (fun a _ => a = e ∨ a = e + 1) q q3)) := by
  refine Spec.intro RX2 (by decide) rfl (Nat.le_of_ble_eq_true rfl) [some (rfn G e), some (rfn G e2)] rfl ?_
  intro X d hd C hR
  refine aw_aload_0 C dX2_copyFrom_0 rfl ?_
  refine aw_aload_1 C dX2_copyFrom_1 rfl ?_
  refine aw_g2_0 C (show gI _ e2 0 = gI q e2 0 by simp [gI_sI, h1]) dX2_copyFrom_2 he2.1 fl_X2_19 ?_
  refine aw_p2_0 C dX2_copyFrom_5 he.1 fl_X2_19 ?_
  refine aw_aload_0 C dX2_copyFrom_8 rfl ?_
  refine aw_aload_1 C dX2_copyFrom_9 rfl ?_
  refine aw_g2_1 C (show gI _ e2 1 = gI q e2 1 by simp [gI_sI, h1]) dX2_copyFrom_10 he2.1 fl_X2_22 ?_
  refine aw_p2_1 C dX2_copyFrom_13 he.1 fl_X2_22 ?_
  refine aw_aload_0 C dX2_copyFrom_16 rfl ?_
  refine aw_aload_1 C dX2_copyFrom_17 rfl ?_
  refine aw_g2_2 C (show gI _ e2 2 = gI q e2 2 by simp [gI_sI, h1]) dX2_copyFrom_18 he2.1 fl_X2_25 ?_
  refine aw_p2_2 C dX2_copyFrom_21 he.1 fl_X2_25 ?_
  refine aw_aload_0 C dX2_copyFrom_24 rfl ?_
  refine aw_aload_1 C dX2_copyFrom_25 rfl ?_
  refine aw_g2_3 C (show gI _ e2 3 = gI q e2 3 by simp [gI_sI, h1]) dX2_copyFrom_26 he2.1 fl_X2_28 ?_
  refine aw_p2_3 C dX2_copyFrom_29 he.1 fl_X2_28 ?_
  refine aw_aload_0 C dX2_copyFrom_32 rfl ?_
  refine aw_aload_1 C dX2_copyFrom_33 rfl ?_
  refine aw_g2_4 C (show gI _ e2 4 = gI q e2 4 by simp [gI_sI, h1]) dX2_copyFrom_34 he2.1 fl_X2_9 ?_
  refine aw_p2_4 C dX2_copyFrom_37 he.1 fl_X2_9 ?_
  refine aw_aload_0 C dX2_copyFrom_40 rfl ?_
  refine aw_aload_1 C dX2_copyFrom_41 rfl ?_
  refine aw_g2_5 C (show gI _ e2 5 = gI q e2 5 by simp [gI_sI, h1]) dX2_copyFrom_42 he2.1 fl_X2_31 ?_
  refine aw_p2_5 C dX2_copyFrom_45 he.1 fl_X2_31 ?_
  refine aw_aload_1 C dX2_copyFrom_48 rfl ?_
  refine aw_g2_6 C dX2_copyFrom_49 he2.1 fl_X2_15 ?_
  refine aw_iconst C dX2_copyFrom_52 k1_0 ?_
  refine aw_aload_0 C dX2_copyFrom_53 rfl ?_
  refine aw_g2_6 C dX2_copyFrom_54 he.1 fl_X2_15 ?_
  refine aw_iconst C dX2_copyFrom_57 k1_0 ?_
  refine aw_iconst C dX2_copyFrom_58 k1_4 ?_
  refine aw_copy0 C arc_X2 dX2_copyFrom_59 (Nat.le_trans (by decide) hd) (Nat.le_of_ble_eq_true rfl) he2.2 he.2 (Nat.le_refl 4) (Nat.le_refl 4) rfl rfl rfl ?_
  refine aw_vretV C hR dX2_copyFrom_62 ?_
  refine ⟨fun j hj => ?_, fun r hr => ?_, (by repeat first | exact Fr.rf | refine Fr.put ?_ (by first | exact Or.inl rfl | exact Or.inr rfl | rfl) | refine Fr.fill ?_ (fun _ => by first | exact Or.inl rfl | exact Or.inr rfl | rfl) | refine Fr.cp ?_ (fun _ => by first | exact Or.inl rfl | exact Or.inr rfl | rfl))⟩
  · have : j = 0 ∨ j = 1 ∨ j = 2 ∨ j = 3 ∨ j = 4 ∨ j = 5 := by omega
    rcases this with rfl | rfl | rfl | rfl | rfl | rfl <;> simp [gI_cpI, gI_sI]
  · rw [gI_cpI, if_pos ⟨rfl, hr⟩]
    simp [gI_sI, h2]

theorem PerR.copy {q q3 : S_} {e e2 i : Nat} {M : Nat → Nat} (h : PerR q e2 M i) (h1 : ∀ j, j < 6 → gI q3 e j = gI q e2 j) (h2 : ∀ r, r < 4 → gI q3 (e + 1) r = gI q (e2 + 1) r) : PerR q3 e M i := by
  obtain ⟨a0, a1, a2, a3, a4, a5, a6⟩ := h
  exact ⟨(h1 0 (by omega)).trans a0, (h1 1 (by omega)).trans a1, (h1 2 (by omega)).trans a2, (h1 3 (by omega)).trans a3, (h1 4 (by omega)).trans a4, (h1 5 (by omega)).trans a5, fun r hr => (h2 r hr).trans (a6 r hr)⟩
theorem nI_l5 {a b : Nat} (ha : a < 90) (hb : b ≤ 99) : nI a = l5 b ↔ a = b := by
  unfold l5
  split
  · next z => exact ⟨fun y => absurd y.symm (fun y2 => absurd (congrArg Int32.toInt y2) (by rw [nI_toInt (by omega), show (-5 : Int32).toInt = -5 from by decide +kernel]; omega)), fun y => by omega⟩
  · exact nI_eq (by omega) (by omega)

set_option maxRecDepth 100000 in
set_option maxHeartbeats 4000000 in
theorem s_X2_isDone {G : GT} {q : S_} {M : Nat → Nat} (e i : Nat) (he : shE e) (hp : PerR q e M i) (hW : WF M) (hi : i < M 92) : Spec G 1 yX2_isDone cX2_isDone 1 (some .boolean) [rfn G e] q (PI fun r2 q3 => r2 = bP (doneM M i) ∧ q3 = q) := by
  refine Spec.intro RX2 (by decide) rfl (Nat.le_of_ble_eq_true rfl) [some (rfn G e)] rfl ?_
  intro X d hd C hR
  have hw := hW.p hi
  have hh := hW.half hi
  have h99 : M (32 + 10 * i + 4) ≤ 99 := by omega
  refine aw_aload_0 C dX2_isDone_0 rfl ?_
  refine aw_g2_5 C hp.2.2.2.2.2.1 dX2_isDone_1 he.1 fl_X2_31 ?_
  refine aw_if_ne_n C dX2_isDone_4 (tgt := 22) (by decide) (by omega) (fun c_4 => ?_) (fun c_4 => ?_)
  · skip
    refine aw_iconst C dX2_isDone_22 k1_0 ?_
    refine aw_iretZ C hR dX2_isDone_23 (by first | rfl | exact bP_nar) ?_
    exact ⟨(bP_f (fun z => c_4 z.2.2)).symm, rfl⟩
  · skip
    refine aw_aload_0 C dX2_isDone_7 rfl ?_
    refine aw_g2_2 C hp.2.2.1 dX2_isDone_8 he.1 fl_X2_25 ?_
    refine aw_aload_0 C dX2_isDone_11 rfl ?_
    refine aw_g2_4 C hp.2.2.2.2.1 dX2_isDone_12 he.1 fl_X2_9 ?_
    refine aw_icmp_ne C dX2_isDone_15 (tgt := 22) (by decide)  (fun c_15 => ?_) (fun c_15 => ?_)
    · have c15 : M (32 + 10 * i + 2) ≠ M (32 + 10 * i + 4) := fun z => c_15 ((nI_l5 (by omega) h99).mpr z)
      refine aw_iconst C dX2_isDone_22 k1_0 ?_
      refine aw_iretZ C hR dX2_isDone_23 (by first | rfl | exact bP_nar) ?_
      exact ⟨(bP_f (fun z => c15 z.2.1)).symm, rfl⟩
    · have c15 : M (32 + 10 * i + 2) = M (32 + 10 * i + 4) := (nI_l5 (by omega) h99).mp c_15
      refine aw_iconst C dX2_isDone_18 k1_1 ?_
      refine aw_goto C dX2_isDone_19 (tgt := 23) (by decide) ?_
      refine aw_iretZ C hR dX2_isDone_23 (by first | rfl | exact bP_nar) ?_
      exact ⟨(bP_t ⟨by omega, c15, by omega⟩).symm, rfl⟩

set_option maxRecDepth 100000 in
set_option maxHeartbeats 4000000 in
theorem s_X3_empty {G : GT} {q : S_} (k m : Nat) (hr : shR k m) : Spec G 1 yX3_empty cX3_empty 1 (some .int) [rfn G k] q (PI fun r2 q3 => r2 = nI 0 ∧ q3 = sI q k 3 (nI 0)) := by
  refine Spec.intro RX3 (by decide) rfl (Nat.le_of_ble_eq_true rfl) [some (rfn G k)] rfl ?_
  intro X d hd C hR
  refine aw_aload_0 C dX3_empty_0 rfl ?_
  refine aw_iconst C dX3_empty_1 k1_0 ?_
  refine aw_p3_3 C dX3_empty_2 hr.1 fl_X3_21 ?_
  refine aw_iconst C dX3_empty_5 k1_0 ?_
  refine aw_iretI C hR dX3_empty_6 ?_
  exact ⟨rfl, rfl⟩

set_option maxRecDepth 100000 in
set_option maxHeartbeats 4000000 in
theorem s_X3_add {G : GT} {q : S_} {n : Nat} {a b c : Nat → Nat} (k m : Nat) (x y z : Nat) (hr : shR k m) (hm : m ≤ 8) (h : RowR q k n a b c) (hn : n ≤ m) : Spec G 1 yX3_add cX3_add 4 (some .int) [rfn G k, .int (nI x), .int (nI y), .int (nI z)] q (PI (fun r q3 => (n = m ∧ r = -4 ∧ q3 = q) ∨ (n < m ∧ r = nI (n + 1) ∧ RowR q3 k (n + 1) (updN a n x) (updN b n y) (updN c n z) ∧ Fr (fun a _ => k ≤ a ∧ a ≤ k + 3) q q3))) := by
  refine Spec.intro RX3 (by decide) rfl (Nat.le_of_ble_eq_true rfl) [some (rfn G k), some (.int (nI x)), some (.int (nI y)), some (.int (nI z))] rfl ?_
  intro X d hd C hR
  refine aw_aload_0 C dX3_add_0 rfl ?_
  refine aw_g3_3 C h.1 dX3_add_1 hr.1 fl_X3_21 ?_
  refine aw_aload_0 C dX3_add_4 rfl ?_
  refine aw_g3_0 C dX3_add_5 hr.1 fl_X3_9 ?_
  refine aw_alen C dX3_add_8 hr.2.1 ?_
  refine aw_icmp_lt_n C dX3_add_9 (tgt := 15) (by decide) (by omega) (by omega) (fun c_9 => ?_) (fun c_9 => ?_)
  · skip
    refine aw_aload_0 C dX3_add_15 rfl ?_
    refine aw_g3_0 C dX3_add_16 hr.1 fl_X3_9 ?_
    refine aw_aload_0 C dX3_add_19 rfl ?_
    refine aw_g3_3 C h.1 dX3_add_20 hr.1 fl_X3_21 ?_
    refine aw_iload_1 C dX3_add_23 ?_
    refine aw_iast C _ dX3_add_24 hr.2.1 rfl (by omega) ?_
    refine aw_aload_0 C dX3_add_25 rfl ?_
    refine aw_g3_1 C dX3_add_26 hr.1 fl_X3_15 ?_
    refine aw_aload_0 C dX3_add_29 rfl ?_
    refine aw_g3_3 C (show gI _ k 3 = nI n by simp [gI_sI]; exact h.1) dX3_add_30 hr.1 fl_X3_21 ?_
    refine aw_iload_2 C dX3_add_33 ?_
    refine aw_iast C _ dX3_add_34 hr.2.2.1 rfl (by omega) ?_
    refine aw_aload_0 C dX3_add_35 rfl ?_
    refine aw_g3_2 C dX3_add_36 hr.1 fl_X3_18 ?_
    refine aw_aload_0 C dX3_add_39 rfl ?_
    refine aw_g3_3 C (show gI _ k 3 = nI n by simp [gI_sI]; exact h.1) dX3_add_40 hr.1 fl_X3_21 ?_
    refine aw_iload_3 C dX3_add_43 ?_
    refine aw_iast C _ dX3_add_44 hr.2.2.2 rfl (by omega) ?_
    refine aw_aload_0 C dX3_add_45 rfl ?_
    refine aw_dup C dX3_add_46 rfl ?_
    refine aw_g3_3 C (show gI _ k 3 = nI n by simp [gI_sI]; exact h.1) dX3_add_47 hr.1 fl_X3_21 ?_
    refine aw_iconst C dX3_add_50 k1_1 ?_
    refine aw_iadd_n C dX3_add_51  ?_
    refine aw_p3_3 C dX3_add_52 hr.1 fl_X3_21 ?_
    refine aw_aload_0 C dX3_add_55 rfl ?_
    refine aw_g3_3 C (show gI _ k 3 = nI (n + 1) by simp [gI_sI]) dX3_add_56 hr.1 fl_X3_21 ?_
    refine aw_iretI C hR dX3_add_59 ?_
    refine Or.inr ⟨c_9, rfl, ⟨by simp [gI_sI], fun r hr2 => ?_⟩, (by repeat first | exact Fr.rf | refine Fr.put ?_ ⟨by omega, by omega⟩ | refine Fr.cp ?_ (fun _ => ⟨by omega, by omega⟩))⟩
    by_cases e : r = n
    · rw [e, updN_eq, updN_eq, updN_eq]
      exact ⟨by simp [gI_sI], by simp [gI_sI], by simp [gI_sI]⟩
    · rw [updN_ne e, updN_ne e, updN_ne e]
      have hh := h.2 r (by omega)
      exact ⟨by simp [gI_sI, e]; exact hh.1, by simp [gI_sI, e]; exact hh.2.1, by simp [gI_sI, e]; exact hh.2.2⟩
  · skip
    refine aw_bipush C dX3_add_12 k2_m4 ?_
    refine aw_iretI C hR dX3_add_14 ?_
    exact Or.inl ⟨by omega, rfl, rfl⟩

set_option maxRecDepth 100000 in
set_option maxHeartbeats 4000000 in
theorem s_X3_copyFrom {G : GT} {q : S_} {n : Nat} {a b c : Nat → Nat} (k m : Nat) (k2 m2 : Nat) (hr : shR k m) (hr2 : shR k2 m2) (h : RowR q k2 n a b c) (hn : n ≤ m) (hn2 : n ≤ m2) (hm : m ≤ 8) (hk : k2 + 3 < k ∨ k + 3 < k2) : Spec G 1 yX3_copyFrom cX3_copyFrom 2 none [rfn G k, rfn G k2] q (PV (fun q3 => RowR q3 k n a b c ∧ Fr (fun a _ => k ≤ a ∧ a ≤ k + 3) q q3)) := by
  refine Spec.intro RX3 (by decide) rfl (Nat.le_of_ble_eq_true rfl) [some (rfn G k), some (rfn G k2)] rfl ?_
  intro X d hd C hR
  refine aw_aload_0 C dX3_copyFrom_0 rfl ?_
  refine aw_aload_1 C dX3_copyFrom_1 rfl ?_
  refine aw_g3_3 C h.1 dX3_copyFrom_2 hr2.1 fl_X3_21 ?_
  refine aw_aload_0 C dX3_copyFrom_5 rfl ?_
  refine aw_g3_0 C dX3_copyFrom_6 hr.1 fl_X3_9 ?_
  refine aw_alen C dX3_copyFrom_9 hr.2.1 ?_
  refine aw_mmin C ml_X3_25 dX3_copyFrom_10 (Nat.le_trans (by decide) hd) (Nat.le_of_ble_eq_true rfl) (by omega) (by omega) ?_
  rw [Nat.min_eq_left hn]
  refine aw_p3_3 C dX3_copyFrom_13 hr.1 fl_X3_21 ?_
  refine aw_aload_1 C dX3_copyFrom_16 rfl ?_
  refine aw_g3_0 C dX3_copyFrom_17 hr2.1 fl_X3_9 ?_
  refine aw_iconst C dX3_copyFrom_20 k1_0 ?_
  refine aw_aload_0 C dX3_copyFrom_21 rfl ?_
  refine aw_g3_0 C dX3_copyFrom_22 hr.1 fl_X3_9 ?_
  refine aw_iconst C dX3_copyFrom_25 k1_0 ?_
  refine aw_aload_0 C dX3_copyFrom_26 rfl ?_
  refine aw_g3_3 C (show gI _ k 3 = nI n by simp [gI_sI]) dX3_copyFrom_27 hr.1 fl_X3_21 ?_
  refine aw_copy0 C arc_X3 dX3_copyFrom_30 (Nat.le_trans (by decide) hd) (Nat.le_of_ble_eq_true rfl) hr2.2.1 hr.2.1 hn2 hn rfl rfl rfl ?_
  refine aw_aload_1 C dX3_copyFrom_33 rfl ?_
  refine aw_g3_1 C dX3_copyFrom_34 hr2.1 fl_X3_15 ?_
  refine aw_iconst C dX3_copyFrom_37 k1_0 ?_
  refine aw_aload_0 C dX3_copyFrom_38 rfl ?_
  refine aw_g3_1 C dX3_copyFrom_39 hr.1 fl_X3_15 ?_
  refine aw_iconst C dX3_copyFrom_42 k1_0 ?_
  refine aw_aload_0 C dX3_copyFrom_43 rfl ?_
  refine aw_g3_3 C (show gI _ k 3 = nI n by simp [gI_sI, gI_cpI]) dX3_copyFrom_44 hr.1 fl_X3_21 ?_
  refine aw_copy0 C arc_X3 dX3_copyFrom_47 (Nat.le_trans (by decide) hd) (Nat.le_of_ble_eq_true rfl) hr2.2.2.1 hr.2.2.1 hn2 hn rfl rfl rfl ?_
  refine aw_aload_1 C dX3_copyFrom_50 rfl ?_
  refine aw_g3_2 C dX3_copyFrom_51 hr2.1 fl_X3_18 ?_
  refine aw_iconst C dX3_copyFrom_54 k1_0 ?_
  refine aw_aload_0 C dX3_copyFrom_55 rfl ?_
  refine aw_g3_2 C dX3_copyFrom_56 hr.1 fl_X3_18 ?_
  refine aw_iconst C dX3_copyFrom_59 k1_0 ?_
  refine aw_aload_0 C dX3_copyFrom_60 rfl ?_
  refine aw_g3_3 C (show gI _ k 3 = nI n by simp [gI_sI, gI_cpI]) dX3_copyFrom_61 hr.1 fl_X3_21 ?_
  refine aw_copy0 C arc_X3 dX3_copyFrom_64 (Nat.le_trans (by decide) hd) (Nat.le_of_ble_eq_true rfl) hr2.2.2.2 hr.2.2.2 hn2 hn rfl rfl rfl ?_
  refine aw_vretV C hR dX3_copyFrom_67 ?_
  refine ⟨⟨by simp [gI_sI, gI_cpI], fun r hr3 => ?_⟩, (by repeat first | exact Fr.rf | refine Fr.put ?_ ⟨by omega, by omega⟩ | refine Fr.cp ?_ (fun _ => ⟨by omega, by omega⟩))⟩
  have hh := h.2 r hr3
  have d1 : ∀ x y, x ≤ 3 → y ≤ 3 → k2 + x ≠ k + y := fun x y hx hy => by omega
  have d2 : ∀ x, x ≤ 3 → k2 + x ≠ k := fun x hx => by omega
  refine ⟨?_, ?_, ?_⟩
  · simp [gI_cpI, gI_sI, hr3, d2 1 (by omega)]
    exact hh.1
  · simp [gI_cpI, gI_sI, hr3, d2 2 (by omega), d1 2 1 (by omega) (by omega)]
    exact hh.2.1
  · simp [gI_cpI, gI_sI, hr3, d2 3 (by omega), d1 3 1 (by omega) (by omega), d1 3 2 (by omega) (by omega)]
    exact hh.2.2

/-- one less than a number -/
def hI (L : Nat) : Int32 := nI L - nI 1
theorem hI_max : ∀ L, L < 12 → ∀ c, c < 12 → (if hI L < nI c then nI c else hI L) = hI (max L (c + 1)) := by decide +kernel
def lastN (a c : Nat → Nat) (p : Nat) : Nat → Nat
  | 0 => 0
  | r + 1 => if a r = p then max (lastN a c p r) (c r + 1) else lastN a c p r
theorem lastN_le {a c : Nat → Nat} {p n m : Nat} (h : ∀ r, r < n → c r ≤ m) : lastN a c p n ≤ m + 1 := by
  induction n with
  | zero => exact Nat.zero_le _
  | succ n ih =>
    have := ih (fun r hr => h r (by omega))
    have := h n (by omega)
    unfold lastN
    split <;> omega
abbrev agR (a b c : Nat → Nat) (p t h r : Nat) : Prop := a r ≠ p ∨ c r ≠ h ∨ t = b r

set_option maxRecDepth 100000 in
set_option maxHeartbeats 4000000 in
theorem s_X3_lastHour {G : GT} {q : S_} {n : Nat} {a b c : Nat → Nat} (k m : Nat) (p : Nat) (hr : shR k m) (hm : m ≤ 8) (h : RowR q k n a b c) (hn : n ≤ m) (ha : ∀ r, r < n → a r < 100 ∧ c r ≤ 8) (hp : p < 100) : Spec G 2 yX3_lastHour cX3_lastHour 4 (some .int) [rfn G k, .int (nI p)] q (PI fun r2 q3 => r2 = hI (lastN a c p n) ∧ q3 = q) := by
  refine Spec.intro RX3 (by decide) rfl (Nat.le_of_ble_eq_true rfl) [some (rfn G k), some (.int (nI p)), none, none] rfl ?_
  intro X d hd C hR
  have h0 : (-1 : Int32) = hI (lastN a c p 0) := show (-1 : Int32) = hI 0 by decide +kernel
  refine aw_iconst C dX3_lastHour_0 k1_m1 ?_
  refine aw_istore_2 C dX3_lastHour_1 (by decide) (fun w h => by cases h <;> rfl) ?_
  refine aw_iconst C dX3_lastHour_2 k1_0 ?_
  refine aw_istore_3 C dX3_lastHour_3 (by decide) (fun w h => by cases h <;> rfl) ?_
  have L4 : ∀ (n2 r : Nat), r ≤ n → n < r + n2 → AW X G (q) 4 [some (rfn G k), some (.int (nI p)), some (.int (hI (lastN a c p r))), some (.int (nI r))] [] := by
    refine nat_loop (fun r h1 h2 => by omega) (fun n2 ih r h1 h2 => ?_)
    refine aw_iload_3 C dX3_lastHour_4 ?_
    refine aw_aload_0 C dX3_lastHour_5 rfl ?_
    refine aw_g3_3 C h.1 dX3_lastHour_6 hr.1 fl_X3_21 ?_
    refine aw_icmp_ge_n C dX3_lastHour_9 (tgt := 39) (by decide) (by omega) (by omega) (fun c_9 => ?_) (fun c_9 => ?_)
    · skip
      refine aw_iload_2 C dX3_lastHour_39 ?_
      refine aw_iretI C hR dX3_lastHour_40 ?_
      exact ⟨by rw [show n = r by omega], rfl⟩
    · skip
      refine aw_aload_0 C dX3_lastHour_12 rfl ?_
      refine aw_g3_0 C dX3_lastHour_13 hr.1 fl_X3_9 ?_
      refine aw_iload_3 C dX3_lastHour_16 ?_
      refine aw_iald C _ (h.2 r (by omega)).1 dX3_lastHour_17 hr.2.1 rfl (by omega) ?_
      have har := ha r (by omega)
      refine aw_iload_1 C dX3_lastHour_18 ?_
      refine aw_icmp_ne_n C dX3_lastHour_19 (tgt := 33) (by decide) (by omega) (by omega) (fun c_19 => ?_) (fun c_19 => ?_)
      · skip
        refine aw_iinc_3 C dX3_lastHour_33 (by decide) (fun w h => by cases h <;> rfl) (show _ + Int32.ofInt 1 = _ by rw [k1_1, nI_add]) ?_
        refine aw_goto C dX3_lastHour_36 (tgt := 4) (by decide) ?_
        rw [show lastN a c p r = lastN a c p (r + 1) from (if_neg c_19).symm]
        exact ih (r + 1) (by omega) (by omega)
      · skip
        refine aw_iload_2 C dX3_lastHour_22 ?_
        refine aw_aload_0 C dX3_lastHour_23 rfl ?_
        refine aw_g3_2 C dX3_lastHour_24 hr.1 fl_X3_18 ?_
        refine aw_iload_3 C dX3_lastHour_27 ?_
        refine aw_iald C _ (h.2 r (by omega)).2.2 dX3_lastHour_28 hr.2.2.2 rfl (by omega) ?_
        refine aw_mmax C ml_X3_37 dX3_lastHour_29 (Nat.le_trans (by decide) hd) (Nat.le_of_ble_eq_true rfl) ?_
        rw [hI_max _ (by have := lastN_le (a := a) (p := p) (fun r2 h2 => (ha r2 (Nat.lt_of_lt_of_le h2 h1)).2); omega) _ (by omega), show max (lastN a c p r) (c r + 1) = lastN a c p (r + 1) from (if_pos c_19).symm]
        refine aw_istore_2 C dX3_lastHour_32 (by decide) (fun w h => by cases h <;> rfl) ?_
        refine aw_iinc_3 C dX3_lastHour_33 (by decide) (fun w h => by cases h <;> rfl) (show _ + Int32.ofInt 1 = _ by rw [k1_1, nI_add]) ?_
        refine aw_goto C dX3_lastHour_36 (tgt := 4) (by decide) ?_
        exact ih (r + 1) (by omega) (by omega)
  rw [h0]
  exact L4 (n + 1) 0 (by omega) (by omega)

set_option maxRecDepth 100000 in
set_option maxHeartbeats 4000000 in
theorem s_X3_agrees {G : GT} {q : S_} {n : Nat} {a b c : Nat → Nat} (k m : Nat) (p t h2 : Nat) (hr : shR k m) (hm : m ≤ 8) (h : RowR q k n a b c) (hn : n ≤ m) (ha : ∀ r, r < n → a r < 100 ∧ b r < 100 ∧ c r < 100) (hp : p < 100 ∧ t < 100 ∧ h2 < 100) : Spec G 1 yX3_agrees cX3_agrees 5 (some .boolean) [rfn G k, .int (nI p), .int (nI t), .int (nI h2)] q (PI fun r2 q3 => r2 = bP (∀ r, r < n → agR a b c p t h2 r) ∧ q3 = q) := by
  refine Spec.intro RX3 (by decide) rfl (Nat.le_of_ble_eq_true rfl) [some (rfn G k), some (.int (nI p)), some (.int (nI t)), some (.int (nI h2)), none] rfl ?_
  intro X d hd C hR
  refine aw_iconst C dX3_agrees_0 k1_0 ?_
  refine aw_istore_4 C dX3_agrees_1 (by decide) (fun w h => by cases h <;> rfl) ?_
  have L3 : ∀ (n2 r : Nat), r ≤ n → n < r + n2 → (∀ r2, r2 < r → agR a b c p t h2 r2) → AW X G (q) 3 [some (rfn G k), some (.int (nI p)), some (.int (nI t)), some (.int (nI h2)), some (.int (nI r))] [] := by
    refine nat_loop (fun r h1 h3 hag => by omega) (fun n2 ih r h1 h3 hag => ?_)
    refine aw_iload_4 C dX3_agrees_3 ?_
    refine aw_aload_0 C dX3_agrees_5 rfl ?_
    refine aw_g3_3 C h.1 dX3_agrees_6 hr.1 fl_X3_21 ?_
    refine aw_icmp_ge_n C dX3_agrees_9 (tgt := 53) (by decide) (by omega) (by omega) (fun c_9 => ?_) (fun c_9 => ?_)
    · skip
      refine aw_iconst C dX3_agrees_53 k1_1 ?_
      refine aw_iretZ C hR dX3_agrees_54 (by first | rfl | exact bP_nar) ?_
      exact ⟨(bP_t (fun r2 z => hag r2 (by omega))).symm, rfl⟩
    · skip
      refine aw_aload_0 C dX3_agrees_12 rfl ?_
      refine aw_g3_0 C dX3_agrees_13 hr.1 fl_X3_9 ?_
      refine aw_iload_4 C dX3_agrees_16 ?_
      refine aw_iald C _ (h.2 r (by omega)).1 dX3_agrees_18 hr.2.1 rfl (by omega) ?_
      have har := ha r (by omega)
      refine aw_iload_1 C dX3_agrees_19 ?_
      refine aw_icmp_ne_n C dX3_agrees_20 (tgt := 47) (by decide) (by omega) (by omega) (fun c_20 => ?_) (fun c_20 => ?_)
      · skip
        refine aw_iinc_4 C dX3_agrees_47 (by decide) (fun w h => by cases h <;> rfl) (show _ + Int32.ofInt 1 = _ by rw [k1_1, nI_add]) ?_
        refine aw_goto C dX3_agrees_50 (tgt := 3) (by decide) ?_
        exact ih (r + 1) (by omega) (by omega) (fun r2 z => by
          rcases Nat.lt_or_ge r2 r with y | y
          · exact hag r2 y
          · rw [show r2 = r by omega]
            exact Or.inl c_20)
      · skip
        refine aw_aload_0 C dX3_agrees_23 rfl ?_
        refine aw_g3_2 C dX3_agrees_24 hr.1 fl_X3_18 ?_
        refine aw_iload_4 C dX3_agrees_27 ?_
        refine aw_iald C _ (h.2 r (by omega)).2.2 dX3_agrees_29 hr.2.2.2 rfl (by omega) ?_
        refine aw_iload_3 C dX3_agrees_30 ?_
        refine aw_icmp_ne_n C dX3_agrees_31 (tgt := 47) (by decide) (by omega) (by omega) (fun c_31 => ?_) (fun c_31 => ?_)
        · skip
          refine aw_iinc_4 C dX3_agrees_47 (by decide) (fun w h => by cases h <;> rfl) (show _ + Int32.ofInt 1 = _ by rw [k1_1, nI_add]) ?_
          refine aw_goto C dX3_agrees_50 (tgt := 3) (by decide) ?_
          exact ih (r + 1) (by omega) (by omega) (fun r2 z => by
            rcases Nat.lt_or_ge r2 r with y | y
            · exact hag r2 y
            · rw [show r2 = r by omega]
              exact Or.inr (Or.inl c_31))
        · skip
          refine aw_aload_0 C dX3_agrees_34 rfl ?_
          refine aw_g3_1 C dX3_agrees_35 hr.1 fl_X3_15 ?_
          refine aw_iload_4 C dX3_agrees_38 ?_
          refine aw_iald C _ (h.2 r (by omega)).2.1 dX3_agrees_40 hr.2.2.1 rfl (by omega) ?_
          refine aw_iload_2 C dX3_agrees_41 ?_
          refine aw_icmp_eq_n C dX3_agrees_42 (tgt := 47) (by decide) (by omega) (by omega) (fun c_42 => ?_) (fun c_42 => ?_)
          · skip
            refine aw_iinc_4 C dX3_agrees_47 (by decide) (fun w h => by cases h <;> rfl) (show _ + Int32.ofInt 1 = _ by rw [k1_1, nI_add]) ?_
            refine aw_goto C dX3_agrees_50 (tgt := 3) (by decide) ?_
            exact ih (r + 1) (by omega) (by omega) (fun r2 z => by
              rcases Nat.lt_or_ge r2 r with y | y
              · exact hag r2 y
              · rw [show r2 = r by omega]
                exact Or.inr (Or.inr c_42.symm))
          · skip
            refine aw_iconst C dX3_agrees_45 k1_0 ?_
            refine aw_iretZ C hR dX3_agrees_46 (by first | rfl | exact bP_nar) ?_
            exact ⟨(bP_f (fun z => (z r (by omega)).elim (fun y => y c_20) (fun y => y.elim (fun x => x c_31) (fun x => c_42 x.symm)))).symm, rfl⟩
  exact L3 (n + 1) 0 (by omega) (by omega) (fun r2 z => absurd z (Nat.not_lt_zero r2))
