/-! THE CLASS'S SEARCH -/
def WQ (q : S_) (L : List E4) : Prop := gI q 88 4 = nI L.length ∧ (∀ k, k < L.length → gI q 89 k = nI (ent L k).1 ∧ (k ≠ 0 → gI q 90 k = nI ((ent L k).2.1 * 8 + (ent L k).2.2.1))) ∧ (∀ s, s < 1536 → gI q 91 s = bP (s ∈ sts L)) ∧ L.length ≤ 1536 ∧ ∀ k, k < L.length → (ent L k).1 < 1536
def SWm (k j : Nat) : Prop := (89 ≤ k ∧ k ≤ 91) ∨ (k = 88 ∧ j = 4)
def SWs (k j : Nat) : Prop := (88 ≤ k ∧ k ≤ 92) ∨ SFk k j
theorem WQ.t {q q2 : S_} {L : List E4} (h : WQ q L) (hq : ∀ k j, SWm k j → gI q2 k j = gI q k j) : WQ q2 L := by
  obtain ⟨a, b, c, d, e⟩ := h
  exact ⟨(hq _ _ (Or.inr ⟨rfl, rfl⟩)).trans a, fun k hk => ⟨(hq _ _ (Or.inl ⟨by omega, by omega⟩)).trans (b k hk).1, fun hz => (hq _ _ (Or.inl ⟨by omega, by omega⟩)).trans ((b k hk).2 hz)⟩, fun s hs => (hq _ _ (Or.inl ⟨by omega, by omega⟩)).trans (c s hs), d, e⟩
theorem WQ.push {q : S_} {L : List E4} (h : WQ q L) {s f x y : Nat} {a : Int32} (hn : s ∉ sts L) (hs : s < 1536) (hl : L.length < 1536) (ha : L.length ≠ 0 → a = nI (x * 8 + y)) : WQ (sI (sI (sI (sI q 91 s (nI 1)) 89 L.length (nI s)) 90 L.length a) 88 4 (nI (L.length + 1))) (L ++ [(s, x, y, f)]) := by
  obtain ⟨h1, h2, h3, h4, h5⟩ := h
  refine ⟨?_, fun k hk => ?_, fun t ht => ?_, ?_, fun k hk => ?_⟩
  · rw [gI_sI, if_pos ⟨rfl, rfl⟩, List.length_append]
    rfl
  · rw [List.length_append] at hk
    by_cases hl : k < L.length
    · obtain ⟨d, e⟩ := h2 k hl
      rw [ent_app hl]
      refine ⟨?_, fun hz => ?_⟩
      · rw [gI_sI, if_neg (by omega), gI_sI, if_neg (by omega), gI_sI, if_neg (by omega), gI_sI, if_neg (by omega)]
        exact d
      · rw [gI_sI, if_neg (by omega), gI_sI, if_neg (by omega), gI_sI, if_neg (by omega), gI_sI, if_neg (by omega)]
        exact e hz
    · obtain rfl : k = L.length := by simp at hk; omega
      rw [ent_last]
      refine ⟨?_, fun hz => ?_⟩
      · rw [gI_sI, if_neg (by omega), gI_sI, if_neg (by omega), gI_sI, if_pos ⟨rfl, rfl⟩]
      · rw [gI_sI, if_neg (by omega), gI_sI, if_pos ⟨rfl, rfl⟩]
        exact ha hz
  · have e : (t ∈ sts (L ++ [(s, x, y, f)])) ↔ (t ∈ sts L ∨ t = s) := by
      unfold sts
      rw [List.map_append, List.mem_append]
      simp
    rw [bP_congr e, gI_sI, if_neg (by omega), gI_sI, if_neg (by omega), gI_sI, if_neg (by omega), gI_sI]
    by_cases hts : t = s
    · rw [if_pos ⟨rfl, hts⟩, bP_t (Or.inr hts)]
    · rw [if_neg (fun z => hts z.2), h3 t ht]
      exact bP_congr ⟨Or.inl, fun z => z.resolve_right hts⟩
  · rw [List.length_append]
    show L.length + 1 ≤ 1536
    omega
  · rw [List.length_append] at hk
    by_cases hl : k < L.length
    · rw [ent_app hl]
      exact h5 k hl
    · obtain rfl : k = L.length := by simp at hk; omega
      rw [ent_last]
      exact hs

set_option maxRecDepth 100000 in
set_option maxHeartbeats 4000000 in
theorem s_X6_meet {G : GT} {q : S_} {L : List E4} (s f : Nat) (a : Int32) (x y : Nat) (h : WQ q L) (hs : s < 1536) (hl : s ∉ sts L → L.length < 1536) (ha : L.length ≠ 0 → a = nI (x * 8 + y)) : Spec G 1 yX6_meet cX6_meet 3 (some .boolean) [rfn G 88, .int (nI s), .int a] q (PI (fun r q3 => r = bP (s ∉ sts L) ∧ WQ q3 (arrB L (s, x, y, f)) ∧ Fr SWm q q3)) := by
  refine Spec.intro RX6 (by decide) rfl (Nat.le_of_ble_eq_true rfl) [some (rfn G 88), some (.int (nI s)), some (.int a)] rfl ?_
  intro X d hd C hR
  have h4 := h.2.2.2.1
  refine aw_aload_0 C dX6_meet_0 rfl ?_
  refine aw_g6_2 C dX6_meet_1 fl_X6_18 ?_
  refine aw_iload_1 C dX6_meet_4 ?_
  refine aw_zald C _ (h.2.2.1 s hs) dX6_meet_5 sh_91 rfl (by omega) ?_
  refine aw_if_ne_b C dX6_meet_6 (tgt := 19) (by decide)  (fun c_6 => ?_) (fun c_6 => ?_)
  · skip
    refine aw_iconst C dX6_meet_19 k1_0 ?_
    refine aw_iretZ C hR dX6_meet_20 (by first | rfl | exact bP_nar) ?_
    exact ⟨(bP_f (fun z => z c_6)).symm, by unfold arrB; rw [if_pos c_6]; exact h, Fr.rf⟩
  · have hlt := hl c_6
    refine aw_aload_0 C dX6_meet_9 rfl ?_
    refine aw_g6_4 C (show gI _ 88 4 = nI L.length from h.1) dX6_meet_10 fl_X6_35 ?_
    refine aw_sipush C dX6_meet_13 k3_1536 ?_
    refine aw_icmp_lt_n C dX6_meet_16 (tgt := 21) (by decide) (by omega) (by omega) (fun c_16 => ?_) (fun c_16 => absurd c_16 (fun z => z hlt))
    refine aw_aload_0 C dX6_meet_21 rfl ?_
    refine aw_g6_2 C dX6_meet_22 fl_X6_18 ?_
    refine aw_iload_1 C dX6_meet_25 ?_
    refine aw_iconst C dX6_meet_26 k1_1 ?_
    refine aw_zast C _ dX6_meet_27 sh_91 rfl (by omega) rfl ?_
    refine aw_aload_0 C dX6_meet_28 rfl ?_
    refine aw_g6_0 C dX6_meet_29 fl_X6_9 ?_
    refine aw_aload_0 C dX6_meet_32 rfl ?_
    refine aw_g6_4 C (show gI _ 88 4 = nI L.length from h.1) dX6_meet_33 fl_X6_35 ?_
    refine aw_iload_1 C dX6_meet_36 ?_
    refine aw_iast C _ dX6_meet_37 sh_89 rfl (by omega) ?_
    refine aw_aload_0 C dX6_meet_38 rfl ?_
    refine aw_g6_1 C dX6_meet_39 fl_X6_15 ?_
    refine aw_aload_0 C dX6_meet_42 rfl ?_
    refine aw_g6_4 C (show gI _ 88 4 = nI L.length from h.1) dX6_meet_43 fl_X6_35 ?_
    refine aw_iload_2 C dX6_meet_46 ?_
    refine aw_iast C _ dX6_meet_47 sh_90 rfl (by omega) ?_
    refine aw_aload_0 C dX6_meet_48 rfl ?_
    refine aw_dup C dX6_meet_49 rfl ?_
    refine aw_g6_4 C (show gI _ 88 4 = nI L.length from h.1) dX6_meet_50 fl_X6_35 ?_
    refine aw_iconst C dX6_meet_53 k1_1 ?_
    refine aw_iadd_n C dX6_meet_54  ?_
    refine aw_p6_4 C dX6_meet_55 fl_X6_35 ?_
    refine aw_iconst C dX6_meet_58 k1_1 ?_
    refine aw_iretZ C hR dX6_meet_59 (by first | rfl | exact bP_nar) ?_
    exact ⟨(bP_t c_6).symm, by unfold arrB; rw [if_neg c_6]; exact h.push c_6 hs hlt ha, ((((Fr.set (Or.inl ⟨by omega, by omega⟩)).put (Or.inl ⟨by omega, by omega⟩)).put (Or.inl ⟨by omega, by omega⟩)).put (Or.inr ⟨rfl, rfl⟩))⟩

set_option maxRecDepth 100000 in
set_option maxHeartbeats 4000000 in
theorem s_X6_begin {G : GT} {q : S_} {L : List E4} {M : Nat → Nat} (e i : Nat) (h : WQ q L) (he : shE e) (hp : PerR q e M i) (hW : WF M) (hi : i < M 92) (hd8 : e < 88) : Spec G 2 yX6_begin cX6_begin 3 none [rfn G 88, rfn G e] q (PV (fun q3 => WQ q3 [(256 * M (32 + 10 * i + 2) + M (32 + 10 * i + 5), 0, 0, 0)] ∧ (∀ j, j < 72 → gI q3 92 j = nI 0) ∧ Fr (fun k j => (89 ≤ k ∧ k ≤ 92) ∨ (k = 88 ∧ j = 4)) q q3)) := by
  refine Spec.intro RX6 (by decide) rfl (Nat.le_of_ble_eq_true rfl) [some (rfn G 88), some (rfn G e), none] rfl ?_
  intro X d hd C hR
  have h4 := h.2.2.2.1
  have hpp := hW.p hi
  have hh := hW.half hi
  refine aw_iconst C dX6_begin_0 k1_0 ?_
  refine aw_istore_2 C dX6_begin_1 (by decide) (fun w h => by cases h <;> rfl) ?_
  have L2 : ∀ (n2 k : Nat) (q1 : S_), k ≤ L.length → L.length < k + n2 → (∀ s, s < 1536 → (s ∉ sts L ∨ ∃ k2, k2 < k ∧ (ent L k2).1 = s) → gI q1 91 s = nI 0) → Fr (fun k _ => k = 91) q q1 → AW X G (q1) 2 [some (rfn G 88), some (rfn G e), some (.int (nI k))] [] := by
    refine nat_loop (fun k q1 g1 g2 hz hF1 => by omega) (fun n2 ih k q1 g1 g2 hz hF1 => ?_)
    refine aw_iload_2 C dX6_begin_2 ?_
    refine aw_aload_0 C dX6_begin_3 rfl ?_
    refine aw_g6_4 C ((hF1.2 88 4 (by omega)).trans h.1) dX6_begin_4 fl_X6_35 ?_
    refine aw_icmp_ge_n C dX6_begin_7 (tgt := 28) (by decide) (by omega) (by omega) (fun c_7 => ?_) (fun c_7 => ?_)
    · skip
      have hall : ∀ s, s < 1536 → gI q1 91 s = nI 0 := fun s hs => hz s hs (by
        by_cases y : s ∈ sts L
        · obtain ⟨k2, y1, y2⟩ := mem_sts.mp y
          exact Or.inr ⟨k2, by omega, y2⟩
        · exact Or.inl y)
      refine aw_aload_0 C dX6_begin_28 rfl ?_
      refine aw_g6_3 C dX6_begin_29 fl_X6_22 ?_
      refine aw_iconst C dX6_begin_32 k1_0 ?_
      refine aw_cS2VE C (s_J7_fill_53178 92 72 (nI 0) sh_92) mf_J7_fill_53178 ms_J7_fill_53178 ml_X6_70 dX6_begin_33 (by omega) (Nat.le_of_ble_eq_true rfl) ?_
      refine aw_aload_0 C dX6_begin_36 rfl ?_
      refine aw_iconst C dX6_begin_37 k1_0 ?_
      refine aw_p6_4 C dX6_begin_38 fl_X6_35 ?_
      have hWz : WQ (sI (flI q1 92 72 (nI 0)) 88 4 (nI 0)) [] := ⟨by rw [gI_sI, if_pos ⟨rfl, rfl⟩]; rfl, fun k hk => absurd hk (Nat.not_lt_zero k), fun s hs => by
        rw [gI_sI, if_neg (by omega), gI_flI, if_neg (by omega), hall s hs]
        exact (bP_f (by simp [sts])).symm, Nat.zero_le _, fun k hk => absurd hk (Nat.not_lt_zero k)⟩
      have hF2 : Fr (fun k j => (89 ≤ k ∧ k ≤ 92) ∨ (k = 88 ∧ j = 4)) q (sI (flI q1 92 72 (nI 0)) 88 4 (nI 0)) := (Fr.fill (hF1.mono (fun k j z => by omega)) (fun j => Or.inl ⟨by omega, by omega⟩)).put (Or.inr ⟨rfl, rfl⟩)
      have hm0 : ∀ j, j < 72 → gI (sI (flI q1 92 72 (nI 0)) 88 4 (nI 0)) 92 j = nI 0 := fun j hj => by rw [gI_sI, if_neg (by omega), gI_flI, if_pos ⟨rfl, hj⟩]
      generalize hq2 : sI (flI q1 92 72 (nI 0)) 88 4 (nI 0) = q2 at hWz hF2 hm0 ⊢
      refine aw_aload_0 C dX6_begin_41 rfl ?_
      refine aw_aload_1 C dX6_begin_42 rfl ?_
      refine aw_g2_2 C ((hF2.2 e 2 (by omega)).trans hp.2.2.1) dX6_begin_43 he.1 fl_X6_76 ?_
      refine aw_sipush C dX6_begin_46 k3_256 ?_
      refine aw_imul_n C dX6_begin_49  ?_
      refine aw_aload_1 C dX6_begin_50 rfl ?_
      refine aw_g2_5 C ((hF2.2 e 5 (by omega)).trans hp.2.2.2.2.2.1) dX6_begin_51 he.1 fl_X6_81 ?_
      refine aw_iadd_n C dX6_begin_54  ?_
      refine aw_iconst C dX6_begin_55 k1_0 ?_
      rw [Nat.mul_comm (M (32 + 10 * i + 2)) 256]
      refine aw_cV2I C (s_X6_meet (256 * M (32 + 10 * i + 2) + M (32 + 10 * i + 5)) 0 (nI 0) 0 0 hWz (by omega) (fun _ => by show 0 < 1536; decide) (fun z => absurd rfl z)) mf_X6_meet mv_X6_meet (sh_88) rfl ml_X6_59 dX6_begin_56 (by omega) (Nat.le_of_ble_eq_true rfl) (fun r_56 q_56 h_56 => ?_)
      obtain ⟨-, hW3, hF3⟩ := h_56
      refine aw_pop C dX6_begin_59 rfl ?_
      refine aw_vretV C hR dX6_begin_60 ?_
      exact ⟨hW3, fun j hj => (hF3.2 92 j (by unfold SWm; omega)).trans (hm0 j hj), hF2.tr (hF3.mono (fun k j z => by unfold SWm at z; omega))⟩
    · skip
      refine aw_aload_0 C dX6_begin_10 rfl ?_
      refine aw_g6_2 C dX6_begin_11 fl_X6_18 ?_
      have h5k := h.2.2.2.2 k (by omega)
      refine aw_aload_0 C dX6_begin_14 rfl ?_
      refine aw_g6_0 C dX6_begin_15 fl_X6_9 ?_
      refine aw_iload_2 C dX6_begin_18 ?_
      refine aw_iald C _ ((hF1.2 89 k (by omega)).trans (h.2.1 k (by omega)).1) dX6_begin_19 sh_89 rfl (by omega) ?_
      refine aw_iconst C dX6_begin_20 k1_0 ?_
      refine aw_zast C _ dX6_begin_21 sh_91 rfl (by omega) rfl ?_
      refine aw_iinc_2 C dX6_begin_22 (by decide) (fun w h => by cases h <;> rfl) (show _ + Int32.ofInt 1 = _ by rw [k1_1, nI_add]) ?_
      refine aw_goto C dX6_begin_25 (tgt := 2) (by decide) ?_
      exact ih (k + 1) _ (by omega) (by omega) (fun s hs z => by
        rw [gI_sI]
        by_cases y : s = (ent L k).1
        · rw [if_pos ⟨rfl, y⟩]
        · rw [if_neg (fun x => y x.2)]
          exact hz s hs (z.imp id (fun ⟨k2, x1, x2⟩ => ⟨k2, by
            rcases Nat.lt_or_ge k2 k with u | u
            · exact u
            · exact absurd (by rw [← x2, show k2 = k by omega]) y, x2⟩))) (hF1.put rfl)
  exact L2 (L.length + 1) 0 q (by omega) (by omega) (fun s hs z => z.elim (fun y => (h.2.2.1 s hs).trans (bP_f y)) (fun y => by obtain ⟨k2, y1, -⟩ := y; exact absurd y1 (Nat.not_lt_zero k2))) Fr.rf

def tI (T : Nat) : Int32 := if T = 5000 then nI 0 - nI 256 else nI T
theorem tI_eq {s T : Nat} (hs : s < 1536) (hT : T < 1536 ∨ T = 5000) : nI s = tI T ↔ s = T := by
  unfold tI
  split
  · next e => exact ⟨fun z => by have := congrArg Int32.toInt z; rw [nI_toInt (by omega), show (nI 0 - nI 256).toInt = -256 from by decide +kernel] at this; omega, fun z => by omega⟩
  · exact nI_eq (by omega) (by omega)
def lngT (F : List E4) (T : Nat) : Nat := if idxM F T < F.length then (ent F (idxM F T)).2.2.2 else 99
def FD (T : Nat) (F L : List E4) (d : Nat) : Prop := T ∈ sts L ∧ (∃ t, F = L ++ t) ∧ 0 < L.length ∧ (ent L (L.length - 1)).1 = T ∧ (ent L (L.length - 1)).2.2.2 = d ∧ ∀ k, k < L.length - 1 → (ent L k).1 ≠ T
theorem FD.ix {T d : Nat} {F L : List E4} (h : FD T F L d) : idxM F T = L.length - 1 ∧ lngT F T = d ∧ L.length ≤ F.length := by
  obtain ⟨h1, ⟨t, ht⟩, h3, h4, h5, h6⟩ := h
  have hl : L.length ≤ F.length := by rw [ht, List.length_append]; omega
  have e : ∀ k, k < L.length → ent F k = ent L k := fun k hk => by rw [ht, ent_app hk]
  have hi : idxM F T = L.length - 1 := ix_is F T (L.length - 1) F.length 0 (Nat.zero_le _) (by omega) (by rw [e _ (by omega)]; exact h4) (fun j _ hj => by rw [e _ (by omega)]; exact h6 j hj)
  refine ⟨hi, ?_, hl⟩
  unfold lngT
  rw [hi, if_pos (by omega), e _ (by omega)]
  exact h5
theorem lngT_no {T : Nat} {F : List E4} (h : T ∉ sts F) : lngT F T = 99 := if_neg (fun z => h (mem_sts.mpr ⟨_, z, ix_at F T F.length 0 (by have y : ix F T F.length 0 < F.length := z; omega)⟩))
theorem procB_new {M : Nat → Nat} {cts : Nat → List Nat} {i k : Nat} {L : List E4} : ∀ b, ∀ j, L.length ≤ j → j < (procB M cts i L k b).length → (ent (procB M cts i L k b) j).2.2.2 = (ent L k).2.2.2 + 1 := by
  intro b
  induction b with
  | zero =>
    intro j h1 h2
    have h3 : j < L.length := h2
    omega
  | succ b ih =>
    intro j h1 h2
    unfold procB at h2 ⊢
    split
    · next hs =>
      rw [if_pos hs] at h2
      unfold arrB at h2 ⊢
      split
      · next hm =>
        rw [if_pos hm] at h2
        exact ih j h1 h2
      · next hm =>
        rw [if_neg hm, List.length_append] at h2
        by_cases hj : j < (procB M cts i L k b).length
        · rw [ent_app hj]
          exact ih j h1 hj
        · obtain rfl : j = (procB M cts i L k b).length := by
            have h3 : j < (procB M cts i L k b).length + 1 := h2
            omega
          rw [ent_last]
    · next hs =>
      rw [if_neg hs] at h2
      exact ih j h1 h2
theorem procB_s (M : Nat → Nat) (cts : Nat → List Nat) (i : Nat) (L : List E4) (k b : Nat) : procB M cts i L k (b + 1) = if (ent L k).2.2.2 < 12 ∧ stepC M cts i (ent L k).1 b then arrB (procB M cts i L k b) (nxtS M (ent L k).1 b, k, b, (ent L k).2.2.2 + 1) else procB M cts i L k b := rfl
theorem procB_pre {M : Nat → Nat} {cts : Nat → List Nat} {i k : Nat} {L : List E4} (b : Nat) : ∀ m, ∃ t, procB M cts i L k (b + m) = procB M cts i L k b ++ t := by
  intro m
  induction m with
  | zero => exact ⟨[], (List.append_nil _).symm⟩
  | succ m ih =>
    obtain ⟨t, ht⟩ := ih
    rw [show b + (m + 1) = b + m + 1 from rfl, procB_s]
    split
    · obtain ⟨t2, h2⟩ := arrB_app (procB M cts i L k (b + m)) (nxtS M (ent L k).1 (b + m), k, b + m, (ent L k).2.2.2 + 1)
      exact ⟨t ++ t2, by rw [h2, ht, List.append_assoc]⟩
    · exact ⟨t, ht⟩
theorem bfs_stop {M : Nat → Nat} {cts : Nat → List Nat} {i h : Nat} (hf : ∀ k, h ≤ k → k < (bfsL M cts i h).length → 12 ≤ (ent (bfsL M cts i h) k).2.2.2) : ∀ m, bfsL M cts i (h + m) = bfsL M cts i h := by
  intro m
  induction m with
  | zero => rfl
  | succ m ih =>
    show (if h + m < (bfsL M cts i (h + m)).length then procB M cts i (bfsL M cts i (h + m)) (h + m) (M 93) else bfsL M cts i (h + m)) = _
    rw [ih]
    split
    · next z => exact procB_far (hf _ (by omega) z) _
    · rfl
theorem bfs_preF {M : Nat → Nat} {cts : Nat → List Nat} {i h b : Nat} (hh : h < (bfsL M cts i h).length) (h15 : h < 1536) (hb : b ≤ M 93) : ∃ t, bfsF M cts i = procB M cts i (bfsL M cts i h) h b ++ t := by
  obtain ⟨t1, e1⟩ := procB_pre (M := M) (cts := cts) (i := i) (k := h) (L := bfsL M cts i h) b (M 93 - b)
  rw [show b + (M 93 - b) = M 93 by omega] at e1
  obtain ⟨t2, e2⟩ := bfs_pre M cts i (h + 1) (1536 - (h + 1))
  rw [show h + 1 + (1536 - (h + 1)) = 1536 by omega] at e2
  have e3 : bfsL M cts i (h + 1) = procB M cts i (bfsL M cts i h) h (M 93) := if_pos hh
  exact ⟨t1 ++ t2, by rw [bfsF_eq, e2, e3, e1, List.append_assoc]⟩
def MayR (q : S_) (M : Nat → Nat) (cts : Nat → List Nat) (i : Nat) : Prop := ∀ b, b < 8 → ∀ n, n ≤ 8 → gI q 92 (b * 9 + n) = nI 0 ∨ gI q 92 (b * 9 + n) = (if mayX M cts i n b then nI 1 else nI 2)
theorem MayR.t {q q2 : S_} {M : Nat → Nat} {cts : Nat → List Nat} {i : Nat} (h : MayR q M cts i) (hq : ∀ j, gI q2 92 j = gI q 92 j) : MayR q2 M cts i := fun b hb n hn => by rw [hq]; exact h b hb n hn
theorem oe_ge {M : Nat → Nat} {b t : Nat} (h : M (4 * b + 0) + M (4 * b + 1) - t < 2 ^ 31) : 0 ≤ oeM M b t ↔ adjP M t b := by
  unfold oeM
  split
  · next e => exact ⟨fun _ => e, fun _ => Int32.not_lt.mp (nI_pos h)⟩
  · next e => exact ⟨fun z => absurd z (by decide +kernel), fun z => absurd z e⟩
