theorem isW.b {w : Nat} (h : isW w) : 1 ≤ w ∧ w ≤ 59 := by rcases h with rfl | rfl | rfl <;> omega
theorem l5_m5 {x : Nat} (h : x ≤ 99) : l5 x = -5 ↔ x = 99 := by
  unfold l5
  split
  · next z => exact ⟨fun _ => z, fun _ => rfl⟩
  · next z => exact ⟨fun y => absurd y (m5_ne (by omega)), fun y => absurd y z⟩
abbrev CBo (M : Nat → Nat) : Prop := M 93 ≤ 8 ∧ M 92 ≤ 6 ∧ M 94 < 100000 ∧ M 95 ≤ 6 ∧ M 96 ≤ 5 ∧ M 112 ≤ 8 ∧ M 129 ≤ 8
theorem RelW.sis {q : S_} {w c v : Nat} {M : Nat → Nat} (h : RelW q w M) (hc : CBo M) (h8 : c < 8) (hv : v ≠ 99) : RelW (sI q (w + 3) c (nI v)) w (mu M (4 * c + 2) v) := by
  have hq : ∀ k j, ¬ (k = w + 3 ∧ j = c) → gI (sI q (w + 3) c (nI v)) k j = gI q k j := fun k j z => by rw [gI_sI, if_neg z]
  have hM : ∀ j, j ≠ 4 * c + 2 → mu M (4 * c + 2) v j = M j := fun j z => mu_ne z
  obtain ⟨a1, a2, a3, a4, a5, a6, a7, a8⟩ := h
  refine ⟨⟨by rw [hq _ _ (by omega), hM 93 (by omega)]; exact a1.1, fun b hb => ?_⟩, a2.t (hq _ _ (by omega)) (hM _ (by omega)) (fun j h1 => hM _ (by omega)), a3.t (by omega) (fun k j z => hq k j (by omega)) (fun j _ _ => hM j (by omega)), a4.t (hq _ _ (by omega)) (hM _ (by omega)), a5.t (hq _ _ (by omega)) (hM _ (by omega)),
    a6.t (by omega) (fun k j z y => hq k j (by omega)) (fun j _ _ => hM j (by omega)), a7.t (by omega) (fun k j z y => hq k j (by omega)) (fun j _ _ => hM j (by omega)), a8.t (by omega) (fun k j z y => hq k j (by omega)) (fun j _ _ => hM j (by omega))⟩
  rw [hM 93 (by omega)] at hb
  obtain ⟨x, y, z⟩ := a1.2 b hb
  rw [hq _ _ (by omega), hq _ _ (by omega), hM (4 * b + 0) (by omega), hM (4 * b + 1) (by omega)]
  refine ⟨x, y, ?_⟩
  by_cases e : b = c
  · rw [e, gI_sI, if_pos ⟨rfl, rfl⟩, mu_eq]
    exact (if_neg hv).symm
  · rw [hq _ _ (by omega), hM _ (by omega)]
    exact z
def oeM (M : Nat → Nat) (b t : Nat) : Int32 := if adjP M t b then nI (M (4 * b + 0) + M (4 * b + 1) - t) else -1
theorem lost_addB {M : Nat → Nat} {x y : Nat} (h8 : M 93 < 8) : lostM (addB M x y) = lostM M := by
  unfold lostM
  rw [addB_93 h8, ← bsum_f (f := f_toldS (addB M x y)) (k := M 93) (by
    unfold f_toldS
    rw [addB_b h8 (Nat.le_refl _) (by decide), if_pos rfl]
    simp)]
  refine bsum_congr _ (fun b hb => ?_)
  unfold f_toldS
  rw [addB_b h8 (by omega) (by decide), if_neg (by omega), if_neg (by omega)]
theorem lost_addP {M : Nat → Nat} {k v x : Nat} (h6 : M 92 < 6) (h8 : M 93 ≤ 8) : lostM (addP M k v x) = lostM M := lostM_congr (addP_o h6 (by omega) (by omega)) (fun b hb => addP_o h6 (by omega) (by omega))
/-- a world with one more bridge -/
theorem RelW.nb {q q2 : S_} {w x y : Nat} {M : Nat → Nat} (h : RelW q w M) (hW : WF M) (h8 : M 93 < 8) (hq : ∀ k j, ¬ (k = w ∧ j = 0) → ¬ (w < k ∧ k ≤ w + 3) → gI q2 k j = gI q k j) (h0 : gI q2 w 0 = nI (M 93 + 1))
    (h1 : ∀ b, b ≤ M 93 → gI q2 (w + 1) b = if b = M 93 then nI x else gI q (w + 1) b) (h2 : ∀ b, b ≤ M 93 → gI q2 (w + 2) b = if b = M 93 then nI y else gI q (w + 2) b) (h3 : ∀ b, b ≤ M 93 → gI q2 (w + 3) b = if b = M 93 then (if M 93 % 2 = 1 then nI (M 93 - 1) else -5) else if b + 1 = M 93 ∧ M 93 % 2 = 1 then nI (M 93) else gI q (w + 3) b) : RelW q2 w (addB M x y) := by
  have hc := hW.c
  have hM : ∀ j, 32 ≤ j → j ≠ 93 → addB M x y j = M j := fun j => addB_o h8
  obtain ⟨a1, a2, a3, a4, a5, a6, a7, a8⟩ := h
  refine ⟨⟨by rw [addB_93 h8]; exact h0, fun b hb => ?_⟩, ?_, a3.t (by omega) (fun k j z => hq k j (by omega) (by omega)) (fun j _ _ => hM j (by omega) (by omega)), a4.t (hq _ _ (by omega) (by omega)) (hM _ (by omega) (by omega)), a5.t (hq _ _ (by omega) (by omega)) (hM _ (by omega) (by omega)),
    a6.t (by omega) (fun k j z y => hq k j (by omega) (by omega)) (fun j _ _ => hM j (by omega) (by omega)), a7.t (by omega) (fun k j z y => hq k j (by omega) (by omega)) (fun j _ _ => hM j (by omega) (by omega)), a8.t (by omega) (fun k j z y => hq k j (by omega) (by omega)) (fun j _ _ => hM j (by omega) (by omega))⟩
  · rw [addB_93 h8] at hb
    rw [h1 b (by omega), h2 b (by omega), h3 b (by omega), addB_b h8 (by omega) (by decide), addB_b h8 (by omega) (by decide), addB_s h8 (by omega)]
    by_cases e : b = M 93
    · simp only [if_pos e]
      refine ⟨by simp, by simp, ?_⟩
      by_cases ho : M 93 % 2 = 1
      · simp only [if_pos ho]
        exact (l5_n (by omega)).symm
      · simp only [if_neg ho]
        rfl
    · simp only [if_neg e]
      obtain ⟨u, v, z⟩ := a1.2 b (by omega)
      refine ⟨by simpa using u, by simpa using v, ?_⟩
      by_cases e2 : b + 1 = M 93 ∧ M 93 % 2 = 1
      · simp only [if_pos e2]
        exact (l5_n (by omega)).symm
      · simp only [if_neg e2]
        exact z
  · unfold wL
    rw [hq _ _ (by omega) (by omega), lost_addB h8]
    exact a2
theorem RelW.np {q q2 : S_} {w k v x : Nat} {M : Nat → Nat} (h : RelW q w M) (hW : WF M) (h6 : M 92 < 6) (hq : ∀ a j, w ≤ a → a < w + 29 → ¬ (a = w ∧ j = 5) → a ≠ w + 4 + 13 + 2 * M 92 → a ≠ w + 4 + 13 + 2 * M 92 + 1 → gI q2 a j = gI q a j) (h5 : gI q2 w 5 = nI (M 92 + 1))
    (hp : gI q2 (w + 4 + 13 + 2 * M 92) 0 = nI k ∧ gI q2 (w + 4 + 13 + 2 * M 92) 1 = nI v ∧ gI q2 (w + 4 + 13 + 2 * M 92) 2 = nI x ∧ gI q2 (w + 4 + 13 + 2 * M 92) 3 = nI x ∧ gI q2 (w + 4 + 13 + 2 * M 92) 4 = -5 ∧ gI q2 (w + 4 + 13 + 2 * M 92) 5 = nI 0 ∧ ∀ r, r < 4 → gI q2 (w + 4 + 13 + 2 * M 92 + 1) r = nI 0) : RelW q2 w (addP M k v x) := by
  have hc := hW.c
  have hM : ∀ j, ¬ (32 + 10 * M 92 ≤ j ∧ j < 32 + 10 * M 92 + 10) → j ≠ 92 → addP M k v x j = M j := fun j => addP_o h6
  obtain ⟨a1, a2, a3, a4, a5, a6, a7, a8⟩ := h
  refine ⟨a1.t (fun k j z => hq k j (by omega) (by omega) (by omega) (by omega) (by omega)) (hM _ (by omega) (by omega)) (fun j _ _ => hM j (by omega) (by omega)), ?_, ⟨by rw [addP_92 h6]; exact h5, fun i hi => ?_⟩, a4.t (hq _ _ (by omega) (by omega) (by omega) (by omega) (by omega)) (hM _ (by omega) (by omega)), a5.t (hq _ _ (by omega) (by omega) (by omega) (by omega) (by omega)) (hM _ (by omega) (by omega)),
    a6.t (by omega) (fun k j z y => hq k j (by omega) (by omega) (by omega) (by omega) (by omega)) (fun j _ _ => hM j (by omega) (by omega)), a7.t (by omega) (fun k j z y => hq k j (by omega) (by omega) (by omega) (by omega) (by omega)) (fun j _ _ => hM j (by omega) (by omega)), a8.t (by omega) (fun k j z y => hq k j (by omega) (by omega) (by omega) (by omega) (by omega)) (fun j _ _ => hM j (by omega) (by omega))⟩
  · unfold wL
    rw [hq _ _ (by omega) (by omega) (by omega) (by omega) (by omega), lost_addP h6 hc.1]
    exact a2
  · rw [addP_92 h6] at hi
    by_cases e : i = M 92
    · subst e
      obtain ⟨p0, p1, p2, p3, p4, p5, p6⟩ := hp
      have pv : ∀ c, addP M k v x (32 + 10 * M 92 + c) = _ := fun c => addP_v h6
      refine ⟨?_, ?_, ?_, ?_, ?_, ?_, fun r hr => ?_⟩
      · rw [pv, if_neg (by omega), if_neg (by omega), if_neg (by omega), if_neg (by omega), if_neg (by omega), if_pos rfl]; exact p0
      · rw [pv, if_neg (by omega), if_neg (by omega), if_neg (by omega), if_neg (by omega), if_pos rfl]; exact p1
      · rw [pv, if_neg (by omega), if_neg (by omega), if_neg (by omega), if_pos rfl]; exact p2
      · rw [pv, if_neg (by omega), if_neg (by omega), if_pos rfl]; exact p3
      · rw [pv, if_neg (by omega), if_pos rfl]; exact p4
      · rw [pv, if_neg (by omega), if_neg (by omega), if_neg (by omega), if_neg (by omega), if_neg (by omega), if_neg (by omega), if_pos (by omega)]; exact p5
      · rw [pv, if_neg (by omega), if_neg (by omega), if_neg (by omega), if_neg (by omega), if_neg (by omega), if_neg (by omega), if_pos (by omega)]; exact p6 r hr
    · exact (a3.2 i (by omega)).t (fun k j z => hq k j (by omega) (by omega) (by omega) (by omega) (by omega)) (fun j _ _ => hM j (by omega) (by omega))

set_option maxRecDepth 100000 in
set_option maxHeartbeats 4000000 in
theorem s_X7_addBridge {G : GT} {q : S_} {M : Nat → Nat} (w : Nat) (x y : Nat) (hw : isW w) (h : RelW q w M) (hW : WF M) : Spec G 1 yX7_addBridge cX7_addBridge 3 (some .int) [rfn G w, .int (nI x), .int (nI y)] q (PI (fun r q3 => (M 93 = 8 ∧ r = -4 ∧ q3 = q) ∨ (M 93 < 8 ∧ r = nI (M 93) ∧ RelW q3 w (addB M x y) ∧ Fr (fun a _ => w ≤ a ∧ a < w + 29) q q3))) := by
  refine Spec.intro RX7 (by decide) rfl (Nat.le_of_ble_eq_true rfl) [some (rfn G w), some (.int (nI x)), some (.int (nI y))] rfl ?_
  intro X d hd C hR
  have hc := hW.c
  refine aw_aload_0 C dX7_addBridge_0 rfl ?_
  refine aw_g7_0 C h.1.1 dX7_addBridge_1 (shW0 hw) fl_X7_43 ?_
  refine aw_bipush C dX7_addBridge_4 k2_8 ?_
  refine aw_icmp_lt_n C dX7_addBridge_6 (tgt := 12) (by decide) (by omega) (by omega) (fun c_6 => ?_) (fun c_6 => ?_)
  · skip
    refine aw_aload_0 C dX7_addBridge_12 rfl ?_
    refine aw_g7_1 C dX7_addBridge_13 (shW0 hw) fl_X7_9 ?_
    refine aw_aload_0 C dX7_addBridge_16 rfl ?_
    refine aw_g7_0 C h.1.1 dX7_addBridge_17 (shW0 hw) fl_X7_43 ?_
    refine aw_iload_1 C dX7_addBridge_20 ?_
    refine aw_iast C _ dX7_addBridge_21 (shW1 hw) rfl (by omega) ?_
    refine aw_aload_0 C dX7_addBridge_22 rfl ?_
    refine aw_g7_2 C dX7_addBridge_23 (shW0 hw) fl_X7_15 ?_
    refine aw_aload_0 C dX7_addBridge_26 rfl ?_
    refine aw_g7_0 C (show gI _ w 0 = nI (M 93) by simp [gI_sI]; exact h.1.1) dX7_addBridge_27 (shW0 hw) fl_X7_43 ?_
    refine aw_iload_2 C dX7_addBridge_30 ?_
    refine aw_iast C _ dX7_addBridge_31 (shW2 hw) rfl (by omega) ?_
    refine aw_aload_0 C dX7_addBridge_32 rfl ?_
    refine aw_g7_3 C dX7_addBridge_33 (shW0 hw) fl_X7_18 ?_
    refine aw_aload_0 C dX7_addBridge_36 rfl ?_
    refine aw_g7_0 C (show gI _ w 0 = nI (M 93) by simp [gI_sI]; exact h.1.1) dX7_addBridge_37 (shW0 hw) fl_X7_43 ?_
    refine aw_bipush C dX7_addBridge_40 k2_m5 ?_
    refine aw_iast C _ dX7_addBridge_42 (shW3 hw) rfl (by omega) ?_
    refine aw_aload_0 C dX7_addBridge_43 rfl ?_
    refine aw_g7_0 C (show gI _ w 0 = nI (M 93) by simp [gI_sI]; exact h.1.1) dX7_addBridge_44 (shW0 hw) fl_X7_43 ?_
    refine aw_iconst C dX7_addBridge_47 k1_2 ?_
    refine aw_irem_n C dX7_addBridge_48 (by omega) (by omega) (by omega) ?_
    refine aw_iconst C dX7_addBridge_49 k1_1 ?_
    refine aw_icmp_ne_n C dX7_addBridge_50 (tgt := 83) (by decide) (by omega) (by omega) (fun c_50 => ?_) (fun c_50 => ?_)
    · skip
      refine aw_aload_0 C dX7_addBridge_83 rfl ?_
      refine aw_dup C dX7_addBridge_84 rfl ?_
      refine aw_g7_0 C (show gI _ w 0 = nI (M 93) by simp [gI_sI]; exact h.1.1) dX7_addBridge_85 (shW0 hw) fl_X7_43 ?_
      refine aw_dup_x1 C dX7_addBridge_88 rfl rfl ?_
      refine aw_iconst C dX7_addBridge_89 k1_1 ?_
      refine aw_iadd_n C dX7_addBridge_90  ?_
      refine aw_p7_0 C dX7_addBridge_91 (shW0 hw) fl_X7_43 ?_
      refine aw_iretI C hR dX7_addBridge_94 ?_
      have b0 := hw.b
      refine Or.inr ⟨c_6, rfl, RelW.nb h hW c_6 (fun k j g1 g2 => ?_) (by rw [gI_sI, if_pos ⟨rfl, rfl⟩]) (fun b hb => ?_) (fun b hb => ?_) (fun b hb => ?_), (by repeat first | exact Fr.rf | refine Fr.put ?_ ⟨by omega, by omega⟩ | refine Fr.cp ?_ (fun _ => ⟨by omega, by omega⟩))⟩
      · simp only [gI_sI]
        repeat rw [if_neg (by omega)]
      · simp [gI_sI]
      · simp [gI_sI]
      · have wne : w + 3 ≠ w ∧ w + 3 ≠ w + 1 ∧ w + 3 ≠ w + 2 := by omega
        simp only [gI_sI, wne.1, wne.2.1, wne.2.2, false_and, if_false, true_and]
        repeat' split
        all_goals first | rfl | (exfalso; omega)
    · skip
      refine aw_aload_0 C dX7_addBridge_53 rfl ?_
      refine aw_g7_3 C dX7_addBridge_54 (shW0 hw) fl_X7_18 ?_
      refine aw_aload_0 C dX7_addBridge_57 rfl ?_
      refine aw_g7_0 C (show gI _ w 0 = nI (M 93) by simp [gI_sI]; exact h.1.1) dX7_addBridge_58 (shW0 hw) fl_X7_43 ?_
      refine aw_aload_0 C dX7_addBridge_61 rfl ?_
      refine aw_g7_0 C (show gI _ w 0 = nI (M 93) by simp [gI_sI]; exact h.1.1) dX7_addBridge_62 (shW0 hw) fl_X7_43 ?_
      refine aw_iconst C dX7_addBridge_65 k1_1 ?_
      refine aw_isub_n C dX7_addBridge_66 (by omega) ?_
      refine aw_iast C _ dX7_addBridge_67 (shW3 hw) rfl (by omega) ?_
      refine aw_aload_0 C dX7_addBridge_68 rfl ?_
      refine aw_g7_3 C dX7_addBridge_69 (shW0 hw) fl_X7_18 ?_
      refine aw_aload_0 C dX7_addBridge_72 rfl ?_
      refine aw_g7_0 C (show gI _ w 0 = nI (M 93) by simp [gI_sI]; exact h.1.1) dX7_addBridge_73 (shW0 hw) fl_X7_43 ?_
      refine aw_iconst C dX7_addBridge_76 k1_1 ?_
      refine aw_isub_n C dX7_addBridge_77 (by omega) ?_
      refine aw_aload_0 C dX7_addBridge_78 rfl ?_
      refine aw_g7_0 C (show gI _ w 0 = nI (M 93) by simp [gI_sI]; exact h.1.1) dX7_addBridge_79 (shW0 hw) fl_X7_43 ?_
      refine aw_iast C _ dX7_addBridge_82 (shW3 hw) rfl (by omega) ?_
      refine aw_aload_0 C dX7_addBridge_83 rfl ?_
      refine aw_dup C dX7_addBridge_84 rfl ?_
      refine aw_g7_0 C (show gI _ w 0 = nI (M 93) by simp [gI_sI]; exact h.1.1) dX7_addBridge_85 (shW0 hw) fl_X7_43 ?_
      refine aw_dup_x1 C dX7_addBridge_88 rfl rfl ?_
      refine aw_iconst C dX7_addBridge_89 k1_1 ?_
      refine aw_iadd_n C dX7_addBridge_90  ?_
      refine aw_p7_0 C dX7_addBridge_91 (shW0 hw) fl_X7_43 ?_
      refine aw_iretI C hR dX7_addBridge_94 ?_
      have b0 := hw.b
      refine Or.inr ⟨c_6, rfl, RelW.nb h hW c_6 (fun k j g1 g2 => ?_) (by rw [gI_sI, if_pos ⟨rfl, rfl⟩]) (fun b hb => ?_) (fun b hb => ?_) (fun b hb => ?_), (by repeat first | exact Fr.rf | refine Fr.put ?_ ⟨by omega, by omega⟩ | refine Fr.cp ?_ (fun _ => ⟨by omega, by omega⟩))⟩
      · simp only [gI_sI]
        repeat rw [if_neg (by omega)]
      · simp [gI_sI]
      · simp [gI_sI]
      · have wne : w + 3 ≠ w ∧ w + 3 ≠ w + 1 ∧ w + 3 ≠ w + 2 := by omega
        simp only [gI_sI, wne.1, wne.2.1, wne.2.2, false_and, if_false, true_and]
        repeat' split
        all_goals first | rfl | (exfalso; omega)
  · skip
    refine aw_bipush C dX7_addBridge_9 k2_m4 ?_
    refine aw_iretI C hR dX7_addBridge_11 ?_
    exact Or.inl ⟨by omega, rfl, rfl⟩

set_option maxRecDepth 100000 in
set_option maxHeartbeats 4000000 in
theorem s_X7_addPerson {G : GT} {q : S_} {M : Nat → Nat} (w : Nat) (k v x : Nat) (hw : isW w) (h : RelW q w M) (hW : WF M) : Spec G 3 yX7_addPerson cX7_addPerson 4 (some .int) [rfn G w, .int (nI k), .int (nI v), .int (nI x)] q (PI (fun r q3 => (M 92 = 6 ∧ r = -4 ∧ q3 = q) ∨ (M 92 < 6 ∧ r = nI (M 92) ∧ RelW q3 w (addP M k v x) ∧ Fr (fun a _ => w ≤ a ∧ a < w + 29) q q3))) := by
  refine Spec.intro RX7 (by decide) rfl (Nat.le_of_ble_eq_true rfl) [some (rfn G w), some (.int (nI k)), some (.int (nI v)), some (.int (nI x))] rfl ?_
  intro X d hd C hR
  have hc := hW.c
  have b0 := hw.b
  refine aw_aload_0 C dX7_addPerson_0 rfl ?_
  refine aw_g7_5 C h.2.2.1.1 dX7_addPerson_1 (shW0 hw) fl_X7_56 ?_
  refine aw_bipush C dX7_addPerson_4 k2_6 ?_
  refine aw_icmp_lt_n C dX7_addPerson_6 (tgt := 12) (by decide) (by omega) (by omega) (fun c_6 => ?_) (fun c_6 => ?_)
  · skip
    refine aw_aload_0 C dX7_addPerson_12 rfl ?_
    refine aw_g7_6 C dX7_addPerson_13 (shW0 hw) fl_X7_23 ?_
    refine aw_aload_0 C dX7_addPerson_16 rfl ?_
    refine aw_g7_5 C h.2.2.1.1 dX7_addPerson_17 (shW0 hw) fl_X7_56 ?_
    refine aw_pald C _ dX7_addPerson_20 (shW4 hw) rfl (by omega) ?_
    refine aw_iload_1 C dX7_addPerson_21 ?_
    refine aw_iload_2 C dX7_addPerson_22 ?_
    refine aw_iload_3 C dX7_addPerson_23 ?_
    refine aw_cV3V C (s_X2_become (w + 4 + 13 + 2 * M 92) k v x (shWE hw (by omega))) mf_X2_become mv_X2_become (shWE hw (by omega)).1 rfl ml_X7_73 dX7_addPerson_24 (by omega) (Nat.le_of_ble_eq_true rfl) (fun q_24 h_24 => ?_)
    obtain ⟨p0, p1, p2, p3, p4, p5, p6, hF⟩ := h_24
    refine aw_aload_0 C dX7_addPerson_27 rfl ?_
    refine aw_dup C dX7_addPerson_28 rfl ?_
    refine aw_g7_5 C ((hF.2 w 5 (by omega)).trans h.2.2.1.1) dX7_addPerson_29 (shW0 hw) fl_X7_56 ?_
    refine aw_dup_x1 C dX7_addPerson_32 rfl rfl ?_
    refine aw_iconst C dX7_addPerson_33 k1_1 ?_
    refine aw_iadd_n C dX7_addPerson_34  ?_
    refine aw_p7_5 C dX7_addPerson_35 (shW0 hw) fl_X7_56 ?_
    refine aw_iretI C hR dX7_addPerson_38 ?_
    refine Or.inr ⟨c_6, rfl, RelW.np h hW c_6 (fun a j g1 g2 g3 g4 g5 => by rw [gI_sI, if_neg g3, hF.2 a j (by omega)]) (by rw [gI_sI, if_pos ⟨rfl, rfl⟩]) ?_, (hF.mono (fun a j z => by omega)).put ⟨by omega, by omega⟩⟩
    have e : ∀ j, gI (sI q_24 w 5 (nI (M 92 + 1))) (w + 4 + 13 + 2 * M 92) j = gI q_24 (w + 4 + 13 + 2 * M 92) j := fun j => by rw [gI_sI, if_neg (by omega)]
    rw [e, e, e, e, e, e]
    exact ⟨p0, p1, p2, p3, p4, p5, fun r hr => by rw [gI_sI, if_neg (by omega)]; exact p6 r hr⟩
  · skip
    refine aw_bipush C dX7_addPerson_9 k2_m4 ?_
    refine aw_iretI C hR dX7_addPerson_11 ?_
    exact Or.inl ⟨by omega, rfl, rfl⟩

set_option maxRecDepth 100000 in
set_option maxHeartbeats 4000000 in
theorem s_X7_setLost {G : GT} {q : S_} {M : Nat → Nat} (w : Nat) (b : Nat) (z : Bool) (hw : isW w) (h : RelW q w M) (hW : WF M) (hb : b < M 93) : Spec G 1 yX7_setLost cX7_setLost 4 none [rfn G w, .int (nI b), .int (bP (z = true))] q (PV (fun q3 => RelW q3 w (mu M (4 * b + 3) (if z = true then 1 else 0)) ∧ Fr (fun a _ => w ≤ a ∧ a < w + 29) q q3)) := by
  refine Spec.intro RX7 (by decide) rfl (Nat.le_of_ble_eq_true rfl) [some (rfn G w), some (.int (nI b)), some (.int (bP (z = true))), none] rfl ?_
  intro X d hd C hR
  have hc := hW.c
  have b0 := hw.b
  have hl := lostM_lt M
  have hpw := pow_nb hc.1
  refine aw_iconst C dX7_setLost_0 k1_1 ?_
  refine aw_iload_1 C dX7_setLost_1 ?_
  refine aw_ishl_n C dX7_setLost_2 (by omega) (by rw [Nat.one_mul]; have := Nat.pow_le_pow_right (n := 2) (by decide) (show b ≤ 8 by omega); omega) ?_
  rw [Nat.one_mul]
  refine aw_istore_3 C dX7_setLost_3 (by decide) (fun w h => by cases h <;> rfl) ?_
  refine aw_aload_0 C dX7_setLost_4 rfl ?_
  refine aw_iload_2 C dX7_setLost_5 ?_
  refine aw_if_eq_b C dX7_setLost_6 (tgt := 18) (by decide)  (fun c_6 => ?_) (fun c_6 => ?_)
  · skip
    refine aw_aload_0 C dX7_setLost_18 rfl ?_
    refine aw_g7_4 C h.2.1 dX7_setLost_19 (shW0 hw) fl_X7_53 ?_
    refine aw_iload_3 C dX7_setLost_22 ?_
    refine aw_iconst C dX7_setLost_23 k1_m1 ?_
    refine aw_ixor C dX7_setLost_24  ?_
    refine aw_iand C dX7_setLost_25  ?_
    rw [and_off _ (by omega) b (by omega)]
    refine aw_p7_4 C dX7_setLost_26 (shW0 hw) fl_X7_53 ?_
    refine aw_vretV C hR dX7_setLost_29 ?_
    exact ⟨by rw [if_neg c_6]; exact h.lost hW (fun j hj => mu_ne (by omega)) (by rw [lostM_off hb hc.1]), (by repeat first | exact Fr.rf | refine Fr.put ?_ ⟨by omega, by omega⟩ | refine Fr.cp ?_ (fun _ => ⟨by omega, by omega⟩))⟩
  · skip
    refine aw_aload_0 C dX7_setLost_9 rfl ?_
    refine aw_g7_4 C h.2.1 dX7_setLost_10 (shW0 hw) fl_X7_53 ?_
    refine aw_iload_3 C dX7_setLost_13 ?_
    refine aw_ior_n C dX7_setLost_14  ?_
    refine aw_goto C dX7_setLost_15 (tgt := 26) (by decide) ?_
    skip
    refine aw_p7_4 C dX7_setLost_26 (shW0 hw) fl_X7_53 ?_
    refine aw_vretV C hR dX7_setLost_29 ?_
    exact ⟨by rw [if_pos c_6]; exact h.lost hW (fun j hj => mu_ne (by omega)) (by rw [lostM_on hb hc.1]), (by repeat first | exact Fr.rf | refine Fr.put ?_ ⟨by omega, by omega⟩ | refine Fr.cp ?_ (fun _ => ⟨by omega, by omega⟩))⟩

set_option maxRecDepth 100000 in
set_option maxHeartbeats 4000000 in
theorem s_X7_canExchange {G : GT} {q : S_} {M : Nat → Nat} (w : Nat) (a b : Nat) (hw : isW w) (h : RelW q w M) (hW : WF M) (ha : a < M 93) (hb : b < M 93) : Spec G 1 yX7_canExchange cX7_canExchange 3 (some .boolean) [rfn G w, .int (nI a), .int (nI b)] q (PI fun r2 q3 => r2 = bP (swP M a b) ∧ q3 = q) := by
  refine Spec.intro RX7 (by decide) rfl (Nat.le_of_ble_eq_true rfl) [some (rfn G w), some (.int (nI a)), some (.int (nI b))] rfl ?_
  intro X d hd C hR
  have hc := hW.c
  have ha1 := hW.b ha
  have hb1 := hW.b hb
  refine aw_iload_1 C dX7_canExchange_0 ?_
  refine aw_iload_2 C dX7_canExchange_1 ?_
  refine aw_icmp_eq_n C dX7_canExchange_2 (tgt := 41) (by decide) (by omega) (by omega) (fun c_2 => ?_) (fun c_2 => ?_)
  · skip
    refine aw_iconst C dX7_canExchange_41 k1_0 ?_
    refine aw_iretZ C hR dX7_canExchange_42 (by first | rfl | exact bP_nar) ?_
    exact ⟨(bP_f (fun z => z.1 c_2)).symm, rfl⟩
  · skip
    refine aw_aload_0 C dX7_canExchange_5 rfl ?_
    refine aw_g7_3 C dX7_canExchange_6 (shW0 hw) fl_X7_18 ?_
    refine aw_iload_1 C dX7_canExchange_9 ?_
    refine aw_iald C _ (h.1.2 a ha).2.2 dX7_canExchange_10 (shW3 hw) rfl (by omega) ?_
    refine aw_bipush C dX7_canExchange_11 k2_m5 ?_
    refine aw_icmp_eq C dX7_canExchange_13 (tgt := 41) (by decide)  (fun c_13 => ?_) (fun c_13 => ?_)
    · have h1 : M (4 * a + 2) = 99 := (l5_m5 (by omega)).mp c_13
      refine aw_iconst C dX7_canExchange_41 k1_0 ?_
      refine aw_iretZ C hR dX7_canExchange_42 (by first | rfl | exact bP_nar) ?_
      exact ⟨(bP_f (fun z => z.2.1 h1)).symm, rfl⟩
    · have h1 : M (4 * a + 2) ≠ 99 := fun z => c_13 ((l5_m5 (by omega)).mpr z)
      refine aw_aload_0 C dX7_canExchange_16 rfl ?_
      refine aw_g7_3 C dX7_canExchange_17 (shW0 hw) fl_X7_18 ?_
      refine aw_iload_2 C dX7_canExchange_20 ?_
      refine aw_iald C _ (h.1.2 b hb).2.2 dX7_canExchange_21 (shW3 hw) rfl (by omega) ?_
      refine aw_bipush C dX7_canExchange_22 k2_m5 ?_
      refine aw_icmp_eq C dX7_canExchange_24 (tgt := 41) (by decide)  (fun c_24 => ?_) (fun c_24 => ?_)
      · have h2 : M (4 * b + 2) = 99 := (l5_m5 (by omega)).mp c_24
        refine aw_iconst C dX7_canExchange_41 k1_0 ?_
        refine aw_iretZ C hR dX7_canExchange_42 (by first | rfl | exact bP_nar) ?_
        exact ⟨(bP_f (fun z => z.2.2.1 h2)).symm, rfl⟩
      · have h2 : M (4 * b + 2) ≠ 99 := fun z => c_24 ((l5_m5 (by omega)).mpr z)
        refine aw_aload_0 C dX7_canExchange_27 rfl ?_
        refine aw_g7_3 C dX7_canExchange_28 (shW0 hw) fl_X7_18 ?_
        refine aw_iload_1 C dX7_canExchange_31 ?_
        refine aw_iald C _ ((h.1.2 a ha).2.2.trans (l5_n h1)) dX7_canExchange_32 (shW3 hw) rfl (by omega) ?_
        refine aw_iload_2 C dX7_canExchange_33 ?_
        refine aw_icmp_eq_n C dX7_canExchange_34 (tgt := 41) (by decide) (by omega) (by omega) (fun c_34 => ?_) (fun c_34 => ?_)
        · skip
          refine aw_iconst C dX7_canExchange_41 k1_0 ?_
          refine aw_iretZ C hR dX7_canExchange_42 (by first | rfl | exact bP_nar) ?_
          exact ⟨(bP_f (fun z => z.2.2.2 c_34)).symm, rfl⟩
        · skip
          refine aw_iconst C dX7_canExchange_37 k1_1 ?_
          refine aw_goto C dX7_canExchange_38 (tgt := 42) (by decide) ?_
          refine aw_iretZ C hR dX7_canExchange_42 (by first | rfl | exact bP_nar) ?_
          exact ⟨(bP_t ⟨c_2, h1, h2, c_34⟩).symm, rfl⟩

set_option maxRecDepth 100000 in
set_option maxHeartbeats 4000000 in
theorem s_X7_exchange {G : GT} {q : S_} {M : Nat → Nat} (w : Nat) (a b : Nat) (hw : isW w) (h : RelW q w M) (hW : WF M) (ha : a < M 93) (hb : b < M 93) (h1 : M (4 * a + 2) ≠ 99) (h2 : M (4 * b + 2) ≠ 99) : Spec G 1 yX7_exchange cX7_exchange 5 none [rfn G w, .int (nI a), .int (nI b)] q (PV (fun q3 => RelW q3 w (swM M a b) ∧ Fr (fun a _ => w ≤ a ∧ a < w + 29) q q3)) := by
  refine Spec.intro RX7 (by decide) rfl (Nat.le_of_ble_eq_true rfl) [some (rfn G w), some (.int (nI a)), some (.int (nI b)), none, none] rfl ?_
  intro X d hd C hR
  have hc := hW.c
  have ha1 := hW.b ha
  have hb1 := hW.b hb
  have b0 := hw.b
  refine aw_aload_0 C dX7_exchange_0 rfl ?_
  refine aw_g7_3 C dX7_exchange_1 (shW0 hw) fl_X7_18 ?_
  refine aw_iload_1 C dX7_exchange_4 ?_
  refine aw_iald C _ ((h.1.2 a ha).2.2.trans (l5_n h1)) dX7_exchange_5 (shW3 hw) rfl (by omega) ?_
  refine aw_istore_3 C dX7_exchange_6 (by decide) (fun w h => by cases h <;> rfl) ?_
  refine aw_aload_0 C dX7_exchange_7 rfl ?_
  refine aw_g7_3 C dX7_exchange_8 (shW0 hw) fl_X7_18 ?_
  refine aw_iload_2 C dX7_exchange_11 ?_
  refine aw_iald C _ ((h.1.2 b hb).2.2.trans (l5_n h2)) dX7_exchange_12 (shW3 hw) rfl (by omega) ?_
  refine aw_istore_4 C dX7_exchange_13 (by decide) (fun w h => by cases h <;> rfl) ?_
  refine aw_aload_0 C dX7_exchange_15 rfl ?_
  refine aw_g7_3 C dX7_exchange_16 (shW0 hw) fl_X7_18 ?_
  refine aw_iload_1 C dX7_exchange_19 ?_
  refine aw_iload_4 C dX7_exchange_20 ?_
  refine aw_iast C _ dX7_exchange_22 (shW3 hw) rfl (by omega) ?_
  refine aw_aload_0 C dX7_exchange_23 rfl ?_
  refine aw_g7_3 C dX7_exchange_24 (shW0 hw) fl_X7_18 ?_
  refine aw_iload_4 C dX7_exchange_27 ?_
  refine aw_iload_1 C dX7_exchange_29 ?_
  refine aw_iast C _ dX7_exchange_30 (shW3 hw) rfl (by omega) ?_
  refine aw_aload_0 C dX7_exchange_31 rfl ?_
  refine aw_g7_3 C dX7_exchange_32 (shW0 hw) fl_X7_18 ?_
  refine aw_iload_2 C dX7_exchange_35 ?_
  refine aw_iload_3 C dX7_exchange_36 ?_
  refine aw_iast C _ dX7_exchange_37 (shW3 hw) rfl (by omega) ?_
  refine aw_aload_0 C dX7_exchange_38 rfl ?_
  refine aw_g7_3 C dX7_exchange_39 (shW0 hw) fl_X7_18 ?_
  refine aw_iload_3 C dX7_exchange_42 ?_
  refine aw_iload_2 C dX7_exchange_43 ?_
  refine aw_iast C _ dX7_exchange_44 (shW3 hw) rfl (by omega) ?_
  refine aw_vretV C hR dX7_exchange_45 ?_
  have k : ∀ (A : Nat → Nat) (c v : Nat), c < 8 → CBo A → CBo (mu A (4 * c + 2) v) := fun A c v h8 z => by
    unfold CBo
    rw [mu_ne (by omega), mu_ne (by omega), mu_ne (by omega), mu_ne (by omega), mu_ne (by omega), mu_ne (by omega), mu_ne (by omega)]
    exact z
  have hm1 : M (4 * a + 2) < 8 := by omega
  have hm2 : M (4 * b + 2) < 8 := by omega
  have c1 := k M a (M (4 * b + 2)) (by omega) hc
  have c2 := k _ (M (4 * b + 2)) a hm2 c1
  have c3 := k _ b (M (4 * a + 2)) (by omega) c2
  exact ⟨((((h.sis hc (by omega) (v := M (4 * b + 2)) h2).sis c1 hm2 (v := a) (by omega)).sis c2 (by omega) (v := M (4 * a + 2)) h1).sis c3 hm1 (v := b) (by omega)), (by repeat first | exact Fr.rf | refine Fr.put ?_ ⟨by omega, by omega⟩ | refine Fr.cp ?_ (fun _ => ⟨by omega, by omega⟩))⟩

set_option maxRecDepth 100000 in
set_option maxHeartbeats 4000000 in
theorem s_X7_otherEnd {G : GT} {q : S_} {M : Nat → Nat} (w : Nat) (b t : Nat) (hw : isW w) (h : RelW q w M) (hW : WF M) (hb : b < M 93) (ht : t < 6) : Spec G 1 yX7_otherEnd cX7_otherEnd 3 (some .int) [rfn G w, .int (nI b), .int (nI t)] q (PI fun r2 q3 => r2 = oeM M b t ∧ q3 = q) := by
  refine Spec.intro RX7 (by decide) rfl (Nat.le_of_ble_eq_true rfl) [some (rfn G w), some (.int (nI b)), some (.int (nI t))] rfl ?_
  intro X d hd C hR
  have hc := hW.c
  have hb1 := hW.b hb
  refine aw_aload_0 C dX7_otherEnd_0 rfl ?_
  refine aw_g7_1 C dX7_otherEnd_1 (shW0 hw) fl_X7_9 ?_
  refine aw_iload_1 C dX7_otherEnd_4 ?_
  refine aw_iald C _ (h.1.2 b hb).1 dX7_otherEnd_5 (shW1 hw) rfl (by omega) ?_
  refine aw_iload_2 C dX7_otherEnd_6 ?_
  refine aw_icmp_ne_n C dX7_otherEnd_7 (tgt := 17) (by decide) (by omega) (by omega) (fun c_7 => ?_) (fun c_7 => ?_)
  · skip
    refine aw_aload_0 C dX7_otherEnd_17 rfl ?_
    refine aw_g7_2 C dX7_otherEnd_18 (shW0 hw) fl_X7_15 ?_
    refine aw_iload_1 C dX7_otherEnd_21 ?_
    refine aw_iald C _ (h.1.2 b hb).2.1 dX7_otherEnd_22 (shW2 hw) rfl (by omega) ?_
    refine aw_iload_2 C dX7_otherEnd_23 ?_
    refine aw_icmp_ne_n C dX7_otherEnd_24 (tgt := 36) (by decide) (by omega) (by omega) (fun c_24 => ?_) (fun c_24 => ?_)
    · skip
      refine aw_iconst C dX7_otherEnd_36 k1_m1 ?_
      refine aw_iretI C hR dX7_otherEnd_37 ?_
      exact ⟨by unfold oeM; rw [if_neg (fun z => z.elim c_7 c_24)], rfl⟩
    · skip
      refine aw_aload_0 C dX7_otherEnd_27 rfl ?_
      refine aw_g7_1 C dX7_otherEnd_28 (shW0 hw) fl_X7_9 ?_
      refine aw_iload_1 C dX7_otherEnd_31 ?_
      refine aw_iald C _ (h.1.2 b hb).1 dX7_otherEnd_32 (shW1 hw) rfl (by omega) ?_
      refine aw_goto C dX7_otherEnd_33 (tgt := 37) (by decide) ?_
      refine aw_iretI C hR dX7_otherEnd_37 ?_
      exact ⟨by unfold oeM; rw [if_pos (Or.inr c_24)]; exact congrArg nI (by omega), rfl⟩
  · skip
    refine aw_aload_0 C dX7_otherEnd_10 rfl ?_
    refine aw_g7_2 C dX7_otherEnd_11 (shW0 hw) fl_X7_15 ?_
    refine aw_iload_1 C dX7_otherEnd_14 ?_
    refine aw_iald C _ (h.1.2 b hb).2.1 dX7_otherEnd_15 (shW2 hw) rfl (by omega) ?_
    refine aw_iretI C hR dX7_otherEnd_16 ?_
    exact ⟨by unfold oeM; rw [if_pos (Or.inl c_7)]; exact congrArg nI (by omega), rfl⟩

set_option maxRecDepth 100000 in
set_option maxHeartbeats 4000000 in
theorem s_X7_halfBehind {G : GT} {q : S_} {M : Nat → Nat} (w : Nat) (hf b : Nat) (hw : isW w) (h : RelW q w M) (hW : WF M) (hb : b < M 93) (hh : hf < 2 ^ M 93) : Spec G 1 yX7_halfBehind cX7_halfBehind 4 (some .int) [rfn G w, .int (nI hf), .int (nI b)] q (PI fun r2 q3 => r2 = nI (halfM M hf b) ∧ q3 = q) := by
  refine Spec.intro RX7 (by decide) rfl (Nat.le_of_ble_eq_true rfl) [some (rfn G w), some (.int (nI hf)), some (.int (nI b)), none] rfl ?_
  intro X d hd C hR
  have hc := hW.c
  have hbb := hW.b hb
  have hh2 : hf < 256 := Nat.lt_of_lt_of_le hh (pow_nb hc.1)
  refine aw_aload_0 C dX7_halfBehind_0 rfl ?_
  refine aw_g7_3 C dX7_halfBehind_1 (shW0 hw) fl_X7_18 ?_
  refine aw_iload_2 C dX7_halfBehind_4 ?_
  refine aw_iald C _ (h.1.2 b hb).2.2 dX7_halfBehind_5 (shW3 hw) rfl (by omega) ?_
  refine aw_istore_3 C dX7_halfBehind_6 (by decide) (fun w h => by cases h <;> rfl) ?_
  refine aw_iload_3 C dX7_halfBehind_7 ?_
  refine aw_bipush C dX7_halfBehind_8 k2_m5 ?_
  refine aw_icmp_eq C dX7_halfBehind_10 (tgt := 27) (by decide)  (fun c_10 => ?_) (fun c_10 => ?_)
  · have hs : M (4 * b + 2) = 99 := (l5_m5 (by omega)).mp c_10
    refine aw_iload_1 C dX7_halfBehind_27 ?_
    refine aw_iconst C dX7_halfBehind_28 k1_1 ?_
    refine aw_iload_2 C dX7_halfBehind_29 ?_
    refine aw_ishl C dX7_halfBehind_30  ?_
    refine aw_ixor C dX7_halfBehind_31  ?_
    refine aw_iretI C hR dX7_halfBehind_32 ?_
    exact ⟨by rw [xr_I hf hh2 b (by omega)]; unfold halfM; rw [if_neg (fun z => z.1 hs)], rfl⟩
  · have hs : M (4 * b + 2) ≠ 99 := fun z => c_10 ((l5_m5 (by omega)).mpr z)
    rw [l5_n hs]
    refine aw_iload_1 C dX7_halfBehind_13 ?_
    refine aw_iload_3 C dX7_halfBehind_14 ?_
    refine aw_ishr C dX7_halfBehind_15  ?_
    refine aw_iconst C dX7_halfBehind_16 k1_1 ?_
    refine aw_iand C dX7_halfBehind_17  ?_
    rw [bit_I hf hh2 (M (4 * b + 2)) (by omega)]
    have hlt := Nat.mod_lt (hf / 2 ^ M (4 * b + 2)) (by decide : 2 > 0)
    refine aw_if_eq_n C dX7_halfBehind_18 (tgt := 27) (by decide) (by omega) (fun c_18 => ?_) (fun c_18 => ?_)
    · skip
      refine aw_iload_1 C dX7_halfBehind_27 ?_
      refine aw_iconst C dX7_halfBehind_28 k1_1 ?_
      refine aw_iload_2 C dX7_halfBehind_29 ?_
      refine aw_ishl C dX7_halfBehind_30  ?_
      refine aw_ixor C dX7_halfBehind_31  ?_
      refine aw_iretI C hR dX7_halfBehind_32 ?_
      exact ⟨by rw [xr_I hf hh2 b (by omega)]; unfold halfM; rw [if_neg (fun z => absurd z.2 (by omega))], rfl⟩
    · skip
      refine aw_iload_1 C dX7_halfBehind_21 ?_
      refine aw_iconst C dX7_halfBehind_22 k1_1 ?_
      refine aw_iload_3 C dX7_halfBehind_23 ?_
      refine aw_ishl C dX7_halfBehind_24  ?_
      refine aw_ixor C dX7_halfBehind_25  ?_
      refine aw_iretI C hR dX7_halfBehind_26 ?_
      exact ⟨by rw [xr_I hf hh2 (M (4 * b + 2)) (by omega)]; unfold halfM; rw [if_pos ⟨hs, by omega⟩], rfl⟩

set_option maxRecDepth 100000 in
set_option maxHeartbeats 4000000 in
theorem s_X7_goOver {G : GT} {q : S_} {M : Nat → Nat} (w : Nat) (p b : Nat) (hw : isW w) (h : RelW q w M) (hW : WF M) (hp : p < M 92) (hb : b < M 93) (hadj : adjP M (M (32 + 10 * p + 2)) b) : Spec G 3 yX7_goOver cX7_goOver 4 none [rfn G w, .int (nI p), .int (nI b)] q (PV (fun q3 => RelW q3 w (crossM M p b) ∧ Fr (fun a _ => w ≤ a ∧ a < w + 29) q q3)) := by
  refine Spec.intro RX7 (by decide) rfl (Nat.le_of_ble_eq_true rfl) [some (rfn G w), some (.int (nI p)), some (.int (nI b)), none] rfl ?_
  intro X d hd C hR
  have hc := hW.c
  have hpp := hW.p hp
  have hbb := hW.b hb
  have b0 := hw.b
  have hRp := h.2.2.1.2 p hp
  have hh := halfM_lt hW hb hpp.2.2.2.2.2.2.1
  have hh2 : halfM M (M (32 + 10 * p + 5)) b < 256 := Nat.lt_of_lt_of_le hh (pow_nb hc.1)
  refine aw_aload_0 C dX7_goOver_0 rfl ?_
  refine aw_g7_6 C dX7_goOver_1 (shW0 hw) fl_X7_23 ?_
  refine aw_iload_1 C dX7_goOver_4 ?_
  refine aw_pald C _ dX7_goOver_5 (shW4 hw) rfl (by omega) ?_
  refine aw_astore_3 C dX7_goOver_6 (by decide) (fun w h => by cases h <;> rfl) rfl ?_
  refine aw_aload_3 C dX7_goOver_7 rfl ?_
  refine aw_aload_0 C dX7_goOver_8 rfl ?_
  refine aw_iload_2 C dX7_goOver_9 ?_
  refine aw_aload_3 C dX7_goOver_10 rfl ?_
  refine aw_g2_2 C hRp.2.2.1 dX7_goOver_11 (shWE hw (by omega)).1 fl_X7_77 ?_
  refine aw_cV2IE C (s_X7_otherEnd w b (M (32 + 10 * p + 2)) hw h hW hb hpp.2.2.2.1) mf_X7_otherEnd mv_X7_otherEnd (shW0 hw) rfl ml_X7_80 dX7_goOver_14 (by omega) (Nat.le_of_ble_eq_true rfl) ?_
  rw [show oeM M b (M (32 + 10 * p + 2)) = nI (M (4 * b + 0) + M (4 * b + 1) - M (32 + 10 * p + 2)) from if_pos hadj]
  refine aw_p2_2 C dX7_goOver_17 (shWE hw (by omega)).1 fl_X7_77 ?_
  have hW1 := hW.per hp (w := 2) (v := M (4 * b + 0) + M (4 * b + 1) - M (32 + 10 * p + 2)) (by omega) (by omega) (by omega) (fun _ => by rcases hadj with z | z <;> omega) (by omega) (by omega) (by omega) (by omega)
  have h1 := h.per hW hp (f := 2) (v := M (4 * b + 0) + M (4 * b + 1) - M (32 + 10 * p + 2)) (by omega)
  rw [show fv 2 (M (4 * b + 0) + M (4 * b + 1) - M (32 + 10 * p + 2)) = nI (M (4 * b + 0) + M (4 * b + 1) - M (32 + 10 * p + 2)) from rfl] at h1
  have hp1 : p < mu M (32 + 10 * p + 2) (M (4 * b + 0) + M (4 * b + 1) - M (32 + 10 * p + 2)) 92 := by rw [mu_ne (by omega)]; exact hp
  have hR1 := h1.2.2.1.2 p hp1
  have hF1 : Fr (fun a _ => w ≤ a ∧ a < w + 29) q (sI q (w + 4 + 13 + 2 * p) 2 (nI (M (4 * b + 0) + M (4 * b + 1) - M (32 + 10 * p + 2)))) := Fr.set ⟨by omega, by omega⟩
  generalize hq1 : sI q (w + 4 + 13 + 2 * p) 2 (nI (M (4 * b + 0) + M (4 * b + 1) - M (32 + 10 * p + 2))) = q1 at h1 hR1 hF1 ⊢
  refine aw_aload_3 C dX7_goOver_20 rfl ?_
  refine aw_aload_0 C dX7_goOver_21 rfl ?_
  refine aw_aload_3 C dX7_goOver_22 rfl ?_
  refine aw_g2_5 C (hR1.2.2.2.2.2.1.trans (by rw [mu_ne (by omega)])) dX7_goOver_23 (shWE hw (by omega)).1 fl_X7_84 ?_
  refine aw_iload_2 C dX7_goOver_26 ?_
  refine aw_cV2IE C (s_X7_halfBehind w (M (32 + 10 * p + 5)) b hw h1 hW1 (by rw [mu_ne (by omega)]; exact hb) (by rw [mu_ne (by omega)]; exact hpp.2.2.2.2.2.2.1)) mf_X7_halfBehind mv_X7_halfBehind (shW0 hw) rfl ml_X7_87 dX7_goOver_27 (by omega) (Nat.le_of_ble_eq_true rfl) ?_
  rw [halfM_mu (by omega) (by omega)]
  refine aw_p2_5 C dX7_goOver_30 (shWE hw (by omega)).1 fl_X7_84 ?_
  have hW2 := hW1.per hp1 (w := 5) (v := halfM M (M (32 + 10 * p + 5)) b) (by omega) (by omega) (by omega) (by omega) (by omega) (by omega) (fun _ => by rw [mu_ne (by omega)]; exact hh) (by omega)
  have h2 := h1.per hW1 hp1 (f := 5) (v := halfM M (M (32 + 10 * p + 5)) b) (by omega)
  rw [show fv 5 (halfM M (M (32 + 10 * p + 5)) b) = nI (halfM M (M (32 + 10 * p + 5)) b) from rfl] at h2
  have hp2 : p < mu (mu M (32 + 10 * p + 2) (M (4 * b + 0) + M (4 * b + 1) - M (32 + 10 * p + 2))) (32 + 10 * p + 5) (halfM M (M (32 + 10 * p + 5)) b) 92 := by rw [mu_ne (by omega), mu_ne (by omega)]; exact hp
  have hR2 := h2.2.2.1.2 p hp2
  have hF2 : Fr (fun a _ => w ≤ a ∧ a < w + 29) q (sI q1 (w + 4 + 13 + 2 * p) 5 (nI (halfM M (M (32 + 10 * p + 5)) b))) := hF1.put ⟨by omega, by omega⟩
  generalize hq2 : sI q1 (w + 4 + 13 + 2 * p) 5 (nI (halfM M (M (32 + 10 * p + 5)) b)) = q2 at h2 hR2 hF2 ⊢
  refine aw_aload_3 C dX7_goOver_33 rfl ?_
  refine aw_g2_5 C (hR2.2.2.2.2.2.1.trans (by rw [mu_eq])) dX7_goOver_34 (shWE hw (by omega)).1 fl_X7_84 ?_
  refine aw_if_ne_n C dX7_goOver_37 (tgt := 48) (by decide) (by omega) (fun c_37 => ?_) (fun c_37 => ?_)
  · skip
    refine aw_vretV C hR dX7_goOver_48 ?_
    exact ⟨by unfold crossM; rw [if_neg c_37]; exact h2, hF2⟩
  · skip
    refine aw_aload_3 C dX7_goOver_40 rfl ?_
    refine aw_aload_3 C dX7_goOver_41 rfl ?_
    refine aw_g2_2 C (hR2.2.2.1.trans (by rw [mu_ne (by omega), mu_eq])) dX7_goOver_42 (shWE hw (by omega)).1 fl_X7_77 ?_
    refine aw_p2_3 C dX7_goOver_45 (shWE hw (by omega)).1 fl_X7_90 ?_
    refine aw_vretV C hR dX7_goOver_48 ?_
    exact ⟨by unfold crossM; rw [if_pos (by omega)]; exact h2.per hW2 hp2 (f := 3) (by omega), hF2.put ⟨by omega, by omega⟩⟩

set_option maxRecDepth 100000 in
set_option maxHeartbeats 4000000 in
theorem s_X7_arrived {G : GT} {q : S_} {M : Nat → Nat} (w : Nat) (hw : isW w) (h : RelW q w M) (hW : WF M) : Spec G 2 yX7_arrived cX7_arrived 3 (some .int) [rfn G w] q (PI fun r2 q3 => r2 = nI (donesM M (M 92)) ∧ q3 = q) := by
  refine Spec.intro RX7 (by decide) rfl (Nat.le_of_ble_eq_true rfl) [some (rfn G w), none, none] rfl ?_
  intro X d hd C hR
  have hc := hW.c
  have hx : ∀ k, donesM M k < 2 ^ k := bsum_lt _
  refine aw_iconst C dX7_arrived_0 k1_0 ?_
  refine aw_istore_1 C dX7_arrived_1 (by decide) (fun w h => by cases h <;> rfl) ?_
  refine aw_iconst C dX7_arrived_2 k1_0 ?_
  refine aw_istore_2 C dX7_arrived_3 (by decide) (fun w h => by cases h <;> rfl) ?_
  have L4 : ∀ (n k : Nat), k ≤ M 92 → M 92 < k + n → AW X G (q) 4 [some (rfn G w), some (.int (nI (donesM M k))), some (.int (nI k))] [] := by
    refine nat_loop (fun k h1 h2 => by omega) (fun n ih k h1 h2 => ?_)
    refine aw_iload_2 C dX7_arrived_4 ?_
    refine aw_aload_0 C dX7_arrived_5 rfl ?_
    refine aw_g7_5 C h.2.2.1.1 dX7_arrived_6 (shW0 hw) fl_X7_56 ?_
    refine aw_icmp_ge_n C dX7_arrived_9 (tgt := 36) (by decide) (by omega) (by omega) (fun c_9 => ?_) (fun c_9 => ?_)
    · skip
      refine aw_iload_1 C dX7_arrived_36 ?_
      refine aw_iretI C hR dX7_arrived_37 ?_
      exact ⟨by rw [show k = M 92 by omega], rfl⟩
    · skip
      refine aw_aload_0 C dX7_arrived_12 rfl ?_
      refine aw_g7_6 C dX7_arrived_13 (shW0 hw) fl_X7_23 ?_
      refine aw_iload_2 C dX7_arrived_16 ?_
      refine aw_pald C _ dX7_arrived_17 (shW4 hw) rfl (by omega) ?_
      refine aw_cV0IE C (s_X2_isDone (w + 4 + 13 + 2 * k) k (shWE hw (by omega)) (h.2.2.1.2 k (by omega)) hW (by omega)) mf_X2_isDone mv_X2_isDone (shWE hw (by omega)).1 rfl ml_X7_115 dX7_arrived_18 (by omega) (Nat.le_of_ble_eq_true rfl) ?_
      refine aw_if_eq_b C dX7_arrived_21 (tgt := 30) (by decide)  (fun c_21 => ?_) (fun c_21 => ?_)
      · skip
        refine aw_iinc_2 C dX7_arrived_30 (by decide) (fun w h => by cases h <;> rfl) (show _ + Int32.ofInt 1 = _ by rw [k1_1, nI_add]) ?_
        refine aw_goto C dX7_arrived_33 (tgt := 4) (by decide) ?_
        rw [donesM_f c_21]
        exact ih (k + 1) (by omega) (by omega)
      · skip
        refine aw_iload_1 C dX7_arrived_24 ?_
        refine aw_iconst C dX7_arrived_25 k1_1 ?_
        refine aw_iload_2 C dX7_arrived_26 ?_
        refine aw_ishl_n C dX7_arrived_27 (by omega) (by rw [Nat.one_mul]; have := Nat.pow_le_pow_right (n := 2) (by decide) (show k ≤ 6 by omega); omega) ?_
        rw [Nat.one_mul]
        refine aw_ior_n C dX7_arrived_28  ?_
        rw [or_pow (hx k), donesM_t c_21]
        refine aw_istore_1 C dX7_arrived_29 (by decide) (fun w h => by cases h <;> rfl) ?_
        refine aw_iinc_2 C dX7_arrived_30 (by decide) (fun w h => by cases h <;> rfl) (show _ + Int32.ofInt 1 = _ by rw [k1_1, nI_add]) ?_
        refine aw_goto C dX7_arrived_33 (tgt := 4) (by decide) ?_
        exact ih (k + 1) (by omega) (by omega)
  exact L4 (M 92 + 1) 0 (by omega) (by omega)

set_option maxRecDepth 100000 in
set_option maxHeartbeats 4000000 in
theorem s_X7_halves {G : GT} {q : S_} {M : Nat → Nat} (w : Nat) (hw : isW w) (h : RelW q w M) (hW : WF M) : Spec G 2 yX7_halves cX7_halves 3 (some .int) [rfn G w] q (PI fun r2 q3 => r2 = nI (halvesM M (M 92)) ∧ q3 = q) := by
  refine Spec.intro RX7 (by decide) rfl (Nat.le_of_ble_eq_true rfl) [some (rfn G w), none, none] rfl ?_
  intro X d hd C hR
  have hc := hW.c
  refine aw_iconst C dX7_halves_0 k1_0 ?_
  refine aw_istore_1 C dX7_halves_1 (by decide) (fun w h => by cases h <;> rfl) ?_
  refine aw_iconst C dX7_halves_2 k1_0 ?_
  refine aw_istore_2 C dX7_halves_3 (by decide) (fun w h => by cases h <;> rfl) ?_
  have L4 : ∀ (n k : Nat), k ≤ M 92 → M 92 < k + n → AW X G (q) 4 [some (rfn G w), some (.int (nI (halvesM M k))), some (.int (nI k))] [] := by
    refine nat_loop (fun k h1 h2 => by omega) (fun n ih k h1 h2 => ?_)
    refine aw_iload_2 C dX7_halves_4 ?_
    refine aw_aload_0 C dX7_halves_5 rfl ?_
    refine aw_g7_5 C h.2.2.1.1 dX7_halves_6 (shW0 hw) fl_X7_56 ?_
    refine aw_icmp_ge_n C dX7_halves_9 (tgt := 33) (by decide) (by omega) (by omega) (fun c_9 => ?_) (fun c_9 => ?_)
    · skip
      refine aw_iload_1 C dX7_halves_33 ?_
      refine aw_iretI C hR dX7_halves_34 ?_
      exact ⟨by rw [show k = M 92 by omega], rfl⟩
    · skip
      refine aw_iload_1 C dX7_halves_12 ?_
      refine aw_aload_0 C dX7_halves_13 rfl ?_
      refine aw_g7_6 C dX7_halves_14 (shW0 hw) fl_X7_23 ?_
      refine aw_iload_2 C dX7_halves_17 ?_
      refine aw_pald C _ dX7_halves_18 (shW4 hw) rfl (by omega) ?_
      refine aw_g2_5 C (h.2.2.1.2 k (by omega)).2.2.2.2.2.1 dX7_halves_19 (shWE hw (by omega)).1 fl_X7_84 ?_
      have hh := hW.half (show k < M 92 by omega)
      refine aw_cS1IE C (s_J6_bitCount_0f7a4 _ hh) mf_J6_bitCount_0f7a4 ms_J6_bitCount_0f7a4 ml_X7_119 dX7_halves_22 (by omega) (Nat.le_of_ble_eq_true rfl) ?_
      refine aw_iadd_n C dX7_halves_25  ?_
      refine aw_istore_1 C dX7_halves_26 (by decide) (fun w h => by cases h <;> rfl) ?_
      refine aw_iinc_2 C dX7_halves_27 (by decide) (fun w h => by cases h <;> rfl) (show _ + Int32.ofInt 1 = _ by rw [k1_1, nI_add]) ?_
      refine aw_goto C dX7_halves_30 (tgt := 4) (by decide) ?_
      exact ih (k + 1) (by omega) (by omega)
  exact L4 (M 92 + 1) 0 (by omega) (by omega)

set_option maxRecDepth 100000 in
set_option maxHeartbeats 4000000 in
theorem s_X7_copyFrom {G : GT} {q : S_} {M : Nat → Nat} (w w2 : Nat) (hw : isW w) (hw2 : isW w2) (hne : w ≠ w2) (h : RelW q w2 M) (hW : WF M) : Spec G 2 yX7_copyFrom cX7_copyFrom 3 none [rfn G w, rfn G w2] q (PV (fun q3 => RelW q3 w M ∧ Fr (fun a _ => w ≤ a ∧ a < w + 29) q q3)) := by
  refine Spec.intro RX7 (by decide) rfl (Nat.le_of_ble_eq_true rfl) [some (rfn G w), some (rfn G w2), none] rfl ?_
  intro X d hd C hR
  have hc := hW.c
  have hd2 : w2 + 29 ≤ w ∨ w + 29 ≤ w2 := by rcases hw with rfl | rfl | rfl <;> rcases hw2 with rfl | rfl | rfl <;> omega
  refine aw_aload_0 C dX7_copyFrom_0 rfl ?_
  refine aw_aload_1 C dX7_copyFrom_1 rfl ?_
  refine aw_g7_0 C h.1.1 dX7_copyFrom_2 (shW0 hw2) fl_X7_43 ?_
  refine aw_p7_0 C dX7_copyFrom_5 (shW0 hw) fl_X7_43 ?_
  refine aw_aload_1 C dX7_copyFrom_8 rfl ?_
  refine aw_g7_1 C dX7_copyFrom_9 (shW0 hw2) fl_X7_9 ?_
  refine aw_iconst C dX7_copyFrom_12 k1_0 ?_
  refine aw_aload_0 C dX7_copyFrom_13 rfl ?_
  refine aw_g7_1 C dX7_copyFrom_14 (shW0 hw) fl_X7_9 ?_
  refine aw_iconst C dX7_copyFrom_17 k1_0 ?_
  refine aw_bipush C dX7_copyFrom_18 k2_8 ?_
  refine aw_copy0 C arc_X7 dX7_copyFrom_20 (Nat.le_trans (by decide) hd) (Nat.le_of_ble_eq_true rfl) (shW1 hw2) (shW1 hw) (Nat.le_refl 8) (Nat.le_refl 8) rfl rfl rfl ?_
  refine aw_aload_1 C dX7_copyFrom_23 rfl ?_
  refine aw_g7_2 C dX7_copyFrom_24 (shW0 hw2) fl_X7_15 ?_
  refine aw_iconst C dX7_copyFrom_27 k1_0 ?_
  refine aw_aload_0 C dX7_copyFrom_28 rfl ?_
  refine aw_g7_2 C dX7_copyFrom_29 (shW0 hw) fl_X7_15 ?_
  refine aw_iconst C dX7_copyFrom_32 k1_0 ?_
  refine aw_bipush C dX7_copyFrom_33 k2_8 ?_
  refine aw_copy0 C arc_X7 dX7_copyFrom_35 (Nat.le_trans (by decide) hd) (Nat.le_of_ble_eq_true rfl) (shW2 hw2) (shW2 hw) (Nat.le_refl 8) (Nat.le_refl 8) rfl rfl rfl ?_
  refine aw_aload_1 C dX7_copyFrom_38 rfl ?_
  refine aw_g7_3 C dX7_copyFrom_39 (shW0 hw2) fl_X7_18 ?_
  refine aw_iconst C dX7_copyFrom_42 k1_0 ?_
  refine aw_aload_0 C dX7_copyFrom_43 rfl ?_
  refine aw_g7_3 C dX7_copyFrom_44 (shW0 hw) fl_X7_18 ?_
  refine aw_iconst C dX7_copyFrom_47 k1_0 ?_
  refine aw_bipush C dX7_copyFrom_48 k2_8 ?_
  refine aw_copy0 C arc_X7 dX7_copyFrom_50 (Nat.le_trans (by decide) hd) (Nat.le_of_ble_eq_true rfl) (shW3 hw2) (shW3 hw) (Nat.le_refl 8) (Nat.le_refl 8) rfl rfl rfl ?_
  refine aw_aload_0 C dX7_copyFrom_53 rfl ?_
  refine aw_aload_1 C dX7_copyFrom_54 rfl ?_
  refine aw_g7_4 C (((show gI _ (w2 + 0) 4 = gI q (w2 + 0) 4 from (show Fr (fun a _ => w ≤ a ∧ a < w + 29) q _ from (by repeat first | exact Fr.rf | refine Fr.put ?_ ⟨by omega, by omega⟩ | refine Fr.cp ?_ (fun _ => ⟨by omega, by omega⟩))).2 _ _ (by omega))).trans h.2.1) dX7_copyFrom_55 (shW0 hw2) fl_X7_53 ?_
  refine aw_p7_4 C dX7_copyFrom_58 (shW0 hw) fl_X7_53 ?_
  refine aw_aload_0 C dX7_copyFrom_61 rfl ?_
  refine aw_aload_1 C dX7_copyFrom_62 rfl ?_
  refine aw_g7_5 C (((show gI _ (w2 + 0) 5 = gI q (w2 + 0) 5 from (show Fr (fun a _ => w ≤ a ∧ a < w + 29) q _ from (by repeat first | exact Fr.rf | refine Fr.put ?_ ⟨by omega, by omega⟩ | refine Fr.cp ?_ (fun _ => ⟨by omega, by omega⟩))).2 _ _ (by omega))).trans h.2.2.1.1) dX7_copyFrom_63 (shW0 hw2) fl_X7_56 ?_
  refine aw_p7_5 C dX7_copyFrom_66 (shW0 hw) fl_X7_56 ?_
  have hF1 : Fr (fun a _ => w ≤ a ∧ a < w + 29) q (sI (sI (cpI (cpI (cpI (sI q w 0 (nI (M 93))) (w2 + 1) (w + 1) 8) (w2 + 2) (w + 2) 8) (w2 + 3) (w + 3) 8) w 4 (nI (lostM M))) w 5 (nI (M 92))) := (by repeat first | exact Fr.rf | refine Fr.put ?_ ⟨by omega, by omega⟩ | refine Fr.cp ?_ (fun _ => ⟨by omega, by omega⟩))
  have hB1 : wB (sI (sI (cpI (cpI (cpI (sI q w 0 (nI (M 93))) (w2 + 1) (w + 1) 8) (w2 + 2) (w + 2) 8) (w2 + 3) (w + 3) 8) w 4 (nI (lostM M))) w 5 (nI (M 92))) w M := by
    refine ⟨by simp [gI_sI, gI_cpI], fun b hb => ?_⟩
    have d : ∀ x y, x ≤ 3 → y ≤ 3 → w2 + x ≠ w + y := fun x y hx hy => by omega
    have d0 : ∀ x, x ≤ 3 → w2 + x ≠ w := fun x hx => by omega
    have hb8 : b < 8 := by omega
    obtain ⟨y1, y2, y3⟩ := h.1.2 b hb
    refine ⟨?_, ?_, ?_⟩
    · simp [gI_sI, gI_cpI, hb8, d0 1 (by omega)]
      exact y1
    · simp [gI_sI, gI_cpI, hb8, d0 2 (by omega), d 2 1 (by omega) (by omega)]
      exact y2
    · simp [gI_sI, gI_cpI, hb8, d0 3 (by omega), d 3 1 (by omega) (by omega), d 3 2 (by omega) (by omega)]
      exact y3
  have hL1 : wL (sI (sI (cpI (cpI (cpI (sI q w 0 (nI (M 93))) (w2 + 1) (w + 1) 8) (w2 + 2) (w + 2) 8) (w2 + 3) (w + 3) 8) w 4 (nI (lostM M))) w 5 (nI (M 92))) w M := by
    unfold wL
    simp [gI_sI]
  have hP1 : gI (sI (sI (cpI (cpI (cpI (sI q w 0 (nI (M 93))) (w2 + 1) (w + 1) 8) (w2 + 2) (w + 2) 8) (w2 + 3) (w + 3) 8) w 4 (nI (lostM M))) w 5 (nI (M 92))) w 5 = nI (M 92) := by simp [gI_sI]
  generalize hq1 : (sI (sI (cpI (cpI (cpI (sI q w 0 (nI (M 93))) (w2 + 1) (w + 1) 8) (w2 + 2) (w + 2) 8) (w2 + 3) (w + 3) 8) w 4 (nI (lostM M))) w 5 (nI (M 92))) = q1 at hF1 hB1 hL1 hP1 ⊢
  refine aw_iconst C dX7_copyFrom_69 k1_0 ?_
  refine aw_istore_2 C dX7_copyFrom_70 (by decide) (fun w h => by cases h <;> rfl) ?_
  have L71 : ∀ (n k : Nat) (q2 : S_), k ≤ M 92 → M 92 < k + n → Fr (fun a _ => w + 17 ≤ a ∧ a < w + 29) q1 q2 → (∀ x, x < k → PerR q2 (w + 4 + 13 + 2 * x) M x) → AW X G (q2) 71 [some (rfn G w), some (rfn G w2), some (.int (nI k))] [] := by
    refine nat_loop (fun k q2 h1 h2 hF2 hPs => by omega) (fun n ih k q2 h1 h2 hF2 hPs => ?_)
    refine aw_iload_2 C dX7_copyFrom_71 ?_
    refine aw_aload_0 C dX7_copyFrom_72 rfl ?_
    refine aw_g7_5 C ((hF2.2 w 5 (by omega)).trans hP1) dX7_copyFrom_73 (shW0 hw) fl_X7_56 ?_
    refine aw_icmp_ge_n C dX7_copyFrom_76 (tgt := 100) (by decide) (by omega) (by omega) (fun c_76 => ?_) (fun c_76 => ?_)
    · skip
      refine aw_aload_0 C dX7_copyFrom_100 rfl ?_
      refine aw_aload_1 C dX7_copyFrom_101 rfl ?_
      refine aw_g7_7 C ((hF2.2 w2 7 (by omega)).trans ((hF1.2 w2 7 (by omega)).trans h.2.2.2.1)) dX7_copyFrom_102 (shW0 hw2) fl_X7_63 ?_
      refine aw_p7_7 C dX7_copyFrom_105 (shW0 hw) fl_X7_63 ?_
      have hF4 : Fr (fun a _ => w ≤ a ∧ a < w + 29) q (sI q2 w 7 (nI (M 94))) := (hF1.tr (hF2.mono (fun a j z => by omega))).put ⟨by omega, by omega⟩
      refine aw_aload_0 C dX7_copyFrom_108 rfl ?_
      refine aw_aload_1 C dX7_copyFrom_109 rfl ?_
      refine aw_g7_8 C dX7_copyFrom_110 (shW0 hw2) fl_X7_66 ?_
      refine aw_p7_8 C dX7_copyFrom_113 (shW0 hw) fl_X7_66 ?_
      have e8 : gI (sI q2 w 7 (nI (M 94))) w2 8 = cyA (M 95) := (hF4.2 w2 8 (by omega)).trans h.2.2.2.2.1
      rw [e8]
      have hF5 : Fr (fun a _ => w ≤ a ∧ a < w + 29) q (sI (sI q2 w 7 (nI (M 94))) w 8 (cyA (M 95))) := hF4.put ⟨by omega, by omega⟩
      have hF6 : Fr (fun a j => (w + 17 ≤ a ∧ a < w + 29) ∨ (a = w ∧ (j = 7 ∨ j = 8))) q1 (sI (sI q2 w 7 (nI (M 94))) w 8 (cyA (M 95))) := ((hF2.mono (fun a j z => by omega)).put (by omega)).put (by omega)
      have hP5 : ∀ x, x < M 92 → PerR (sI (sI q2 w 7 (nI (M 94))) w 8 (cyA (M 95))) (w + 4 + 13 + 2 * x) M x := fun x hx => (hPs x (by omega)).t (fun a j z => by rw [gI_sI, if_neg (by omega), gI_sI, if_neg (by omega)]) (fun _ _ _ => rfl)
      have h75 : gI (sI (sI q2 w 7 (nI (M 94))) w 8 (cyA (M 95))) w 7 = nI (M 94) := by simp [gI_sI]
      have h85 : gI (sI (sI q2 w 7 (nI (M 94))) w 8 (cyA (M 95))) w 8 = cyA (M 95) := by simp [gI_sI]
      generalize hq5 : sI (sI q2 w 7 (nI (M 94))) w 8 (cyA (M 95)) = q5 at hF5 hF6 hP5 h75 h85 ⊢
      refine aw_aload_0 C dX7_copyFrom_116 rfl ?_
      refine aw_g7_9 C dX7_copyFrom_117 (shW0 hw) fl_X7_32 ?_
      refine aw_aload_1 C dX7_copyFrom_120 rfl ?_
      refine aw_g7_9 C dX7_copyFrom_121 (shW0 hw2) fl_X7_32 ?_
      refine aw_cV1V C (s_X3_copyFrom (w + 5) 5 (w2 + 5) 5 (shW5R hw) (shW5R hw2) (RowR.t h.2.2.2.2.2.1 (fun a j z => hF5.2 a j (by omega)) rfl (fun r hr => ⟨rfl, rfl, rfl⟩)) (by omega) (by omega) (by omega) (by omega)) mf_X3_copyFrom mv_X3_copyFrom (shW5R hw).1 rfl ml_X7_70 dX7_copyFrom_124 (by omega) (Nat.le_of_ble_eq_true rfl) (fun q_124 h_124 => ?_)
      obtain ⟨g1, hG1⟩ := h_124
      have hF7 : Fr (fun a _ => w ≤ a ∧ a < w + 29) q q_124 := hF5.tr (hG1.mono (fun a j z => by omega))
      refine aw_aload_0 C dX7_copyFrom_127 rfl ?_
      refine aw_g7_10 C dX7_copyFrom_128 (shW0 hw) fl_X7_36 ?_
      refine aw_aload_1 C dX7_copyFrom_131 rfl ?_
      refine aw_g7_10 C dX7_copyFrom_132 (shW0 hw2) fl_X7_36 ?_
      refine aw_cV1V C (s_X3_copyFrom (w + 9) 8 (w2 + 9) 8 (shW9R hw) (shW9R hw2) (RowR.t h.2.2.2.2.2.2.1 (fun a j z => hF7.2 a j (by omega)) rfl (fun r hr => ⟨rfl, rfl, rfl⟩)) (by omega) (by omega) (by omega) (by omega)) mf_X3_copyFrom mv_X3_copyFrom (shW9R hw).1 rfl ml_X7_70 dX7_copyFrom_135 (by omega) (Nat.le_of_ble_eq_true rfl) (fun q_135 h_135 => ?_)
      obtain ⟨g2, hG2⟩ := h_135
      have hF8 : Fr (fun a _ => w ≤ a ∧ a < w + 29) q q_135 := hF7.tr (hG2.mono (fun a j z => by omega))
      refine aw_aload_0 C dX7_copyFrom_138 rfl ?_
      refine aw_g7_11 C dX7_copyFrom_139 (shW0 hw) fl_X7_39 ?_
      refine aw_aload_1 C dX7_copyFrom_142 rfl ?_
      refine aw_g7_11 C dX7_copyFrom_143 (shW0 hw2) fl_X7_39 ?_
      refine aw_cV1V C (s_X3_copyFrom (w + 13) 8 (w2 + 13) 8 (shW13R hw) (shW13R hw2) (RowR.t h.2.2.2.2.2.2.2 (fun a j z => hF8.2 a j (by omega)) rfl (fun r hr => ⟨rfl, rfl, rfl⟩)) (by omega) (by omega) (by omega) (by omega)) mf_X3_copyFrom mv_X3_copyFrom (shW13R hw).1 rfl ml_X7_70 dX7_copyFrom_146 (by omega) (Nat.le_of_ble_eq_true rfl) (fun q_146 h_146 => ?_)
      obtain ⟨g3, hG3⟩ := h_146
      have hF9 : Fr (fun a _ => w ≤ a ∧ a < w + 29) q q_146 := hF8.tr (hG3.mono (fun a j z => by omega))
      refine aw_vretV C hR dX7_copyFrom_149 ?_
      have hA : Fr (fun a _ => w + 5 ≤ a ∧ a ≤ w + 16) q5 q_146 := ((hG1.mono (fun a j z => by omega)).tr (hG2.mono (fun a j z => by omega))).tr (hG3.mono (fun a j z => by omega))
      have hB : Fr (fun a _ => w + 9 ≤ a ∧ a ≤ w + 16) q_124 q_146 := (hG2.mono (fun a j z => by omega)).tr (hG3.mono (fun a j z => by omega))
      refine ⟨⟨hB1.t (fun a j z => (hA.2 a j (by omega)).trans (hF6.2 a j (by omega))) rfl (fun _ _ _ => rfl), hL1.t ((hA.2 _ _ (by omega)).trans (hF6.2 _ _ (by omega))) rfl (fun _ _ => rfl), ⟨(hA.2 _ _ (by omega)).trans ((hF6.2 _ _ (by omega)).trans hP1), fun x hx => (hP5 x hx).t (fun a j z => hA.2 a j (by omega)) (fun _ _ _ => rfl)⟩, (hA.2 _ _ (by omega)).trans h75, (hA.2 _ _ (by omega)).trans h85, RowR.t g1 (fun a j z => hB.2 a j (by omega)) rfl (fun _ _ => ⟨rfl, rfl, rfl⟩), RowR.t g2 (fun a j z => hG3.2 a j (by omega)) rfl (fun _ _ => ⟨rfl, rfl, rfl⟩), g3⟩, hF9⟩
    · skip
      refine aw_aload_0 C dX7_copyFrom_79 rfl ?_
      refine aw_g7_6 C dX7_copyFrom_80 (shW0 hw) fl_X7_23 ?_
      refine aw_iload_2 C dX7_copyFrom_83 ?_
      refine aw_pald C _ dX7_copyFrom_84 (shW4 hw) rfl (by omega) ?_
      refine aw_aload_1 C dX7_copyFrom_85 rfl ?_
      refine aw_g7_6 C dX7_copyFrom_86 (shW0 hw2) fl_X7_23 ?_
      refine aw_iload_2 C dX7_copyFrom_89 ?_
      refine aw_pald C _ dX7_copyFrom_90 (shW4 hw2) rfl (by omega) ?_
      refine aw_cV1V C (s_X2_copyFrom (w + 4 + 13 + 2 * k) (w2 + 4 + 13 + 2 * k) (shWE hw (by omega)) (shWE hw2 (by omega)) (by omega) (by omega) (by omega)) mf_X2_copyFrom mv_X2_copyFrom (shWE hw (by omega)).1 rfl ml_X7_59 dX7_copyFrom_91 (by omega) (Nat.le_of_ble_eq_true rfl) (fun q_91 h_91 => ?_)
      obtain ⟨r1, r2, hF3⟩ := h_91
      have hPk : PerR q_91 (w + 4 + 13 + 2 * k) M k := ((h.2.2.1.2 k (by omega)).t (q2 := q2) (M2 := M) (fun a j z => (hF2.2 a j (by omega)).trans (hF1.2 a j (by omega))) (fun _ _ _ => rfl)).copy r1 r2
      refine aw_iinc_2 C dX7_copyFrom_94 (by decide) (fun w h => by cases h <;> rfl) (show _ + Int32.ofInt 1 = _ by rw [k1_1, nI_add]) ?_
      refine aw_goto C dX7_copyFrom_97 (tgt := 71) (by decide) ?_
      exact ih (k + 1) q_91 (by omega) (by omega) (hF2.tr (hF3.mono (fun a j z => by omega))) (fun x hx => by
        by_cases e : x = k
        · rw [e]
          exact hPk
        · exact (hPs x (by omega)).t (fun a j z => hF3.2 a j (by omega)) (fun _ _ _ => rfl))
  exact L71 (M 92 + 1) 0 q1 (by omega) (by omega) Fr.rf (fun x hx => absurd hx (Nat.not_lt_zero x))
