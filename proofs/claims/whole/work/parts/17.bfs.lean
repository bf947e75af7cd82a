/-! ALL THAT ONE COMES TO: rows of (QUARTER times 256 and HALF, the row that it came from, the BRIDGE, how far) -/
abbrev E4 : Type := Nat × Nat × Nat × Nat
def ent (L : List E4) (k : Nat) : E4 := L.getD k (0, 0, 0, 0)
def sts (L : List E4) : List Nat := L.map fun e => e.1
def arrB (L : List E4) (e : E4) : List E4 := if e.1 ∈ sts L then L else L ++ [e]
abbrev stepC (M : Nat → Nat) (cts : Nat → List Nat) (i s b : Nat) : Prop := adjP M (s / 256) b ∧ mayX M cts i (pop (s % 256)) b
def nxtS (M : Nat → Nat) (s b : Nat) : Nat := 256 * (M (4 * b + 0) + M (4 * b + 1) - s / 256) + halfM M (s % 256) b
def procB (M : Nat → Nat) (cts : Nat → List Nat) (i : Nat) (L : List E4) (k : Nat) : Nat → List E4
  | 0 => L
  | b + 1 => if (ent L k).2.2.2 < 12 ∧ stepC M cts i (ent L k).1 b then arrB (procB M cts i L k b) (nxtS M (ent L k).1 b, k, b, (ent L k).2.2.2 + 1) else procB M cts i L k b
def bfs (M : Nat → Nat) (cts : Nat → List Nat) (i : Nat) (L0 : List E4) : Nat → List E4
  | 0 => L0
  | k + 1 => if k < (bfs M cts i L0 k).length then procB M cts i (bfs M cts i L0 k) k (M 93) else bfs M cts i L0 k
def bfsL (M : Nat → Nat) (cts : Nat → List Nat) (i : Nat) : Nat → List E4 := bfs M cts i [(256 * M (32 + 10 * i + 2) + M (32 + 10 * i + 5), 0, 0, 0)]
/-- a number that isn't unfolded -/
def blk (n : Nat) : Nat := if h : n = 0 then 0 else blk (n - 1) + 1
termination_by n
decreasing_by omega
theorem blk_eq : ∀ n, blk n = n := by
  intro n
  induction n with
  | zero => rw [blk]; rfl
  | succ n ih => rw [blk, dif_neg (by omega), Nat.add_sub_cancel, ih]
def bfsF (M : Nat → Nat) (cts : Nat → List Nat) (i : Nat) : List E4 := bfsL M cts i (blk 1536)
theorem bfsF_eq (M : Nat → Nat) (cts : Nat → List Nat) (i : Nat) : bfsF M cts i = bfsL M cts i 1536 := by rw [bfsF, blk_eq]
theorem arrB_app (L : List E4) (e : E4) : ∃ t, arrB L e = L ++ t := by
  unfold arrB
  split
  · exact ⟨[], (List.append_nil L).symm⟩
  · exact ⟨[e], rfl⟩
theorem procB_app (M : Nat → Nat) (cts : Nat → List Nat) (i : Nat) (L : List E4) (k : Nat) : ∀ b, ∃ t, procB M cts i L k b = L ++ t := by
  intro b
  induction b with
  | zero => exact ⟨[], (List.append_nil L).symm⟩
  | succ b ih =>
    obtain ⟨t, ht⟩ := ih
    unfold procB
    split
    · obtain ⟨t2, h2⟩ := arrB_app (procB M cts i L k b) (nxtS M (ent L k).1 b, k, b, (ent L k).2.2.2 + 1)
      exact ⟨t ++ t2, by rw [h2, ht, List.append_assoc]⟩
    · exact ⟨t, ht⟩
theorem ent_app {L t : List E4} {k : Nat} (h : k < L.length) : ent (L ++ t) k = ent L k := by
  unfold ent
  rw [List.getD_eq_getElem?_getD, List.getD_eq_getElem?_getD, List.getElem?_append_left h]
theorem ent_last {L : List E4} {e : E4} : ent (L ++ [e]) L.length = e := by
  unfold ent
  rw [List.getD_eq_getElem?_getD, List.getElem?_append_right (Nat.le_refl _), Nat.sub_self]
  rfl
theorem procB_ent {M : Nat → Nat} {cts : Nat → List Nat} {i k b j : Nat} {L : List E4} (h : j < L.length) : ent (procB M cts i L k b) j = ent L j := by
  obtain ⟨t, ht⟩ := procB_app M cts i L k b
  rw [ht]
  exact ent_app h
theorem procB_len {M : Nat → Nat} {cts : Nat → List Nat} {i k b : Nat} {L : List E4} : L.length ≤ (procB M cts i L k b).length := by
  obtain ⟨t, ht⟩ := procB_app M cts i L k b
  rw [ht, List.length_append]
  omega
theorem procB_far {M : Nat → Nat} {cts : Nat → List Nat} {i k : Nat} {L : List E4} (h : 12 ≤ (ent L k).2.2.2) : ∀ b, procB M cts i L k b = L := by
  intro b
  induction b with
  | zero => rfl
  | succ b ih =>
    unfold procB
    rw [if_neg (by omega), ih]
theorem bfs_end {M : Nat → Nat} {cts : Nat → List Nat} {i k : Nat} {L0 : List E4} (h : (bfs M cts i L0 k).length ≤ k) : ∀ m, bfs M cts i L0 (k + m) = bfs M cts i L0 k := by
  intro m
  induction m with
  | zero => rfl
  | succ m ih =>
    show (if k + m < (bfs M cts i L0 (k + m)).length then procB M cts i (bfs M cts i L0 (k + m)) (k + m) (M 93) else bfs M cts i L0 (k + m)) = _
    rw [ih, if_neg (by omega)]
theorem mem_sts {L : List E4} {s : Nat} : s ∈ sts L ↔ ∃ k, k < L.length ∧ (ent L k).1 = s := by
  unfold sts
  rw [List.mem_map]
  constructor
  · rintro ⟨e, he, rfl⟩
    obtain ⟨k, hk, rfl⟩ := List.getElem_of_mem he
    refine ⟨k, hk, ?_⟩
    unfold ent
    rw [List.getD_eq_getElem?_getD, List.getElem?_eq_getElem hk]
    rfl
  · rintro ⟨k, hk, rfl⟩
    refine ⟨L[k], List.getElem_mem hk, ?_⟩
    unfold ent
    rw [List.getD_eq_getElem?_getD, List.getElem?_eq_getElem hk]
    rfl
theorem nodup_le : ∀ (n : Nat) (l : List Nat), l.Nodup → (∀ x ∈ l, x < n) → l.length ≤ n := by
  intro n
  induction n with
  | zero =>
    intro l _ h
    cases l with
    | nil => exact Nat.le_refl 0
    | cons a l => exact absurd (h a List.mem_cons_self) (Nat.not_lt_zero a)
  | succ n ih =>
    intro l hd h
    have h2 := ih (l.erase n) (hd.erase n) (fun x hx => by
      have hm := (hd.mem_erase_iff).mp hx
      have := h x hm.2
      have := hm.1
      omega)
    by_cases hn : n ∈ l
    · rw [List.length_erase_of_mem hn] at h2
      omega
    · rw [List.erase_of_not_mem hn] at h2
      omega
/-- what the rows keep to -/
def GL (M : Nat → Nat) (L : List E4) : Prop := (sts L).Nodup ∧ 0 < L.length ∧ (ent L 0).2.2.2 = 0 ∧ ∀ k, k < L.length → (ent L k).1 / 256 < 6 ∧ (ent L k).1 % 256 < 2 ^ M 93 ∧ (ent L k).2.2.2 ≤ 12 ∧ (k ≠ 0 → (ent L k).2.1 < k ∧ (ent L k).2.2.1 < M 93 ∧ (ent L k).2.2.2 = (ent L (ent L k).2.1).2.2.2 + 1 ∧ adjP M ((ent L (ent L k).2.1).1 / 256) (ent L k).2.2.1)
theorem GL.len {M : Nat → Nat} {L : List E4} (h : GL M L) : L.length ≤ 1536 := by
  have := nodup_le 1536 (sts L) h.1 (fun x hx => by
    obtain ⟨k, hk, rfl⟩ := mem_sts.mp hx
    have := (h.2.2.2 k hk).1
    omega)
  unfold sts at this
  rwa [List.length_map] at this
theorem GL.arr {M : Nat → Nat} {L : List E4} (h : GL M L) {e : E4} (h1 : e.1 / 256 < 6) (h2 : e.1 % 256 < 2 ^ M 93) (h3 : e.2.2.2 ≤ 12) (h4 : e.2.1 < L.length) (h5 : e.2.2.1 < M 93) (h6 : e.2.2.2 = (ent L e.2.1).2.2.2 + 1) (h7 : adjP M ((ent L e.2.1).1 / 256) e.2.2.1) : GL M (arrB L e) := by
  unfold arrB
  split
  · exact h
  · next hn =>
    refine ⟨?_, ?_, ?_, ?_⟩
    · unfold sts
      rw [List.map_append, List.nodup_append]
      refine ⟨h.1, by simp, ?_⟩
      intro a ha b hb z
      simp at hb
      subst z
      subst hb
      exact hn ha
    · rw [List.length_append]
      have := h.2.1
      omega
    · rw [ent_app h.2.1]
      exact h.2.2.1
    · intro k hk
      rw [List.length_append] at hk
      by_cases hl : k < L.length
      · have := h.2.2.2 k hl
        rw [ent_app hl]
        refine ⟨this.1, this.2.1, this.2.2.1, fun hz => ?_⟩
        have t := this.2.2.2 hz
        rw [ent_app (by omega)]
        exact t
      · obtain rfl : k = L.length := by simp at hk; omega
        rw [ent_last, ent_app h4]
        exact ⟨h1, h2, h3, fun _ => ⟨h4, h5, h6, h7⟩⟩
theorem GL.room {M : Nat → Nat} {L : List E4} (h : GL M L) {s : Nat} (hs : s < 1536) (hn : s ∉ sts L) : L.length < 1536 := by
  have := nodup_le 1536 (sts L ++ [s]) (by
    rw [List.nodup_append]
    refine ⟨h.1, by simp, ?_⟩
    intro a ha b hb z
    simp at hb
    subst z
    subst hb
    exact hn ha) (fun x hx => by
    rcases List.mem_append.mp hx with y | y
    · obtain ⟨k, hk, rfl⟩ := mem_sts.mp y
      have := (h.2.2.2 k hk).1
      omega
    · rw [List.mem_singleton.mp y]
      exact hs)
  rw [List.length_append] at this
  unfold sts at this
  rw [List.length_map] at this
  simp at this
  omega
/-- the reference's rows -/
def BR (q : S_) (L : List E4) : Prop := gI q 129 26 = nI L.length ∧ (∀ k, k < L.length → gI q 143 k = nI (ent L k).1 ∧ gI q 146 k = nI (ent L k).2.2.2 ∧ (k ≠ 0 → gI q 144 k = nI (ent L k).2.1 ∧ gI q 145 k = nI (ent L k).2.2.1)) ∧ ∀ s, s < 1536 → gI q 142 s = bP (s ∈ sts L)
def SBk (k j : Nat) : Prop := (142 ≤ k ∧ k ≤ 146) ∨ (k = 129 ∧ j = 26)
theorem BR.kept {S : Nat → Nat → Prop} {q q2 : S_} {L : List E4} (h : BR q L) (hf : Fr S q q2) (hs : ∀ k j, SBk k j → ¬ S k j) : BR q2 L := by
  obtain ⟨a, b, c⟩ := h
  refine ⟨(hf.2 _ _ (hs _ _ (Or.inr ⟨rfl, rfl⟩))).trans a, fun k hk => ?_, fun s hs2 => (hf.2 _ _ (hs _ _ (Or.inl ⟨by omega, by omega⟩))).trans (c s hs2)⟩
  obtain ⟨d, e, f⟩ := b k hk
  exact ⟨(hf.2 _ _ (hs _ _ (Or.inl ⟨by omega, by omega⟩))).trans d, (hf.2 _ _ (hs _ _ (Or.inl ⟨by omega, by omega⟩))).trans e, fun hz => ⟨(hf.2 _ _ (hs _ _ (Or.inl ⟨by omega, by omega⟩))).trans (f hz).1, (hf.2 _ _ (hs _ _ (Or.inl ⟨by omega, by omega⟩))).trans (f hz).2⟩⟩

theorem BR.push {q : S_} {L : List E4} (h : BR q L) {s f : Nat} {a br : Int32} {x y : Nat} (hn : s ∉ sts L) (ha : L.length ≠ 0 → a = nI x ∧ br = nI y) : BR (sI (sI (sI (sI (sI (sI q 142 s (nI 1)) 143 L.length (nI s)) 144 L.length a) 145 L.length br) 146 L.length (nI f)) 129 26 (nI (L.length + 1))) (L ++ [(s, x, y, f)]) := by
  obtain ⟨h1, h2, h3⟩ := h
  refine ⟨?_, fun k hk => ?_, fun t ht => ?_⟩
  · rw [gI_sI, if_pos ⟨rfl, rfl⟩, List.length_append]
    rfl
  · rw [List.length_append] at hk
    by_cases hl : k < L.length
    · obtain ⟨d, e, g⟩ := h2 k hl
      rw [ent_app hl]
      have hne : k ≠ L.length := by omega
      refine ⟨?_, ?_, fun hz => ⟨?_, ?_⟩⟩
      · simp only [gI_sI, hne, and_false, if_false, show ¬ (143 : Nat) = 129 by decide, show ¬ (143 : Nat) = 142 by decide, false_and]; exact d
      · simp only [gI_sI, hne, and_false, if_false, show ¬ (146 : Nat) = 129 by decide, show ¬ (146 : Nat) = 142 by decide, false_and]; exact e
      · simp only [gI_sI, hne, and_false, if_false, show ¬ (144 : Nat) = 129 by decide, show ¬ (144 : Nat) = 142 by decide, false_and]; exact (g hz).1
      · simp only [gI_sI, hne, and_false, if_false, show ¬ (145 : Nat) = 129 by decide, show ¬ (145 : Nat) = 142 by decide, false_and]; exact (g hz).2
    · obtain rfl : k = L.length := by simp at hk; omega
      rw [ent_last]
      refine ⟨?_, ?_, fun hz => ⟨?_, ?_⟩⟩
      · simp [gI_sI]
      · simp [gI_sI]
      · simp [gI_sI]; exact (ha hz).1
      · simp [gI_sI]; exact (ha hz).2
  · have e : (t ∈ sts (L ++ [(s, x, y, f)])) ↔ (t ∈ sts L ∨ t = s) := by
      unfold sts
      rw [List.map_append, List.mem_append]
      simp
    rw [bP_congr e]
    simp only [gI_sI, show ¬ (142 : Nat) = 129 by decide, show ¬ (142 : Nat) = 143 by decide, show ¬ (142 : Nat) = 144 by decide, show ¬ (142 : Nat) = 145 by decide, show ¬ (142 : Nat) = 146 by decide, false_and, if_false, true_and]
    by_cases hts : t = s
    · rw [if_pos hts, bP_t (Or.inr hts)]
    · rw [if_neg hts, h3 t ht]
      exact bP_congr ⟨Or.inl, fun z => z.resolve_right hts⟩

set_option maxRecDepth 100000 in
set_option maxHeartbeats 4000000 in
theorem s_X9_arrive {G : GT} {q : S_} {L : List E4} (s f : Nat) (a br : Int32) (x y : Nat) (hB : BR q L) (hs : s < 1536) (hl : s ∉ sts L → L.length < 1536) (ha : L.length ≠ 0 → a = nI x ∧ br = nI y) : Spec G 1 yX9_arrive cX9_arrive 5 none [rfn G 129, .int (nI s), .int a, .int br, .int (nI f)] q (PV (fun q3 => BR q3 (arrB L (s, x, y, f)) ∧ Fr SBk q q3)) := by
  refine Spec.intro RX9 (by decide) rfl (Nat.le_of_ble_eq_true rfl) [some (rfn G 129), some (.int (nI s)), some (.int a), some (.int br), some (.int (nI f))] rfl ?_
  intro X d hd C hR
  refine aw_aload_0 C dX9_arrive_0 rfl ?_
  refine aw_g9_21 C dX9_arrive_1 fl_X9_49 ?_
  refine aw_iload_1 C dX9_arrive_4 ?_
  refine aw_zald C _ (hB.2.2 s (by omega)) dX9_arrive_5 sh_142 rfl (by omega) ?_
  refine aw_if_ne_b C dX9_arrive_6 (tgt := 67) (by decide)  (fun c_6 => ?_) (fun c_6 => ?_)
  · skip
    refine aw_vretV C hR dX9_arrive_67 ?_
    exact ⟨by unfold arrB; rw [if_pos c_6]; exact hB, Fr.rf⟩
  · have hlt := hl c_6
    refine aw_aload_0 C dX9_arrive_9 rfl ?_
    refine aw_g9_21 C dX9_arrive_10 fl_X9_49 ?_
    refine aw_iload_1 C dX9_arrive_13 ?_
    refine aw_iconst C dX9_arrive_14 k1_1 ?_
    refine aw_zast C _ dX9_arrive_15 sh_142 rfl (by omega) (by decide) ?_
    refine aw_aload_0 C dX9_arrive_16 rfl ?_
    refine aw_g9_22 C dX9_arrive_17 fl_X9_53 ?_
    refine aw_aload_0 C dX9_arrive_20 rfl ?_
    refine aw_g9_26 C (show gI _ 129 26 = nI L.length from hB.1) dX9_arrive_21 fl_X9_226 ?_
    refine aw_iload_1 C dX9_arrive_24 ?_
    refine aw_iast C _ dX9_arrive_25 sh_143 rfl (by omega) ?_
    refine aw_aload_0 C dX9_arrive_26 rfl ?_
    refine aw_g9_23 C dX9_arrive_27 fl_X9_56 ?_
    refine aw_aload_0 C dX9_arrive_30 rfl ?_
    refine aw_g9_26 C (show gI _ 129 26 = nI L.length from hB.1) dX9_arrive_31 fl_X9_226 ?_
    refine aw_iload_2 C dX9_arrive_34 ?_
    refine aw_iast C _ dX9_arrive_35 sh_144 rfl (by omega) ?_
    refine aw_aload_0 C dX9_arrive_36 rfl ?_
    refine aw_g9_24 C dX9_arrive_37 fl_X9_59 ?_
    refine aw_aload_0 C dX9_arrive_40 rfl ?_
    refine aw_g9_26 C (show gI _ 129 26 = nI L.length from hB.1) dX9_arrive_41 fl_X9_226 ?_
    refine aw_iload_3 C dX9_arrive_44 ?_
    refine aw_iast C _ dX9_arrive_45 sh_145 rfl (by omega) ?_
    refine aw_aload_0 C dX9_arrive_46 rfl ?_
    refine aw_g9_25 C dX9_arrive_47 fl_X9_62 ?_
    refine aw_aload_0 C dX9_arrive_50 rfl ?_
    refine aw_g9_26 C (show gI _ 129 26 = nI L.length from hB.1) dX9_arrive_51 fl_X9_226 ?_
    refine aw_iload_4 C dX9_arrive_54 ?_
    refine aw_iast C _ dX9_arrive_56 sh_146 rfl (by omega) ?_
    refine aw_aload_0 C dX9_arrive_57 rfl ?_
    refine aw_dup C dX9_arrive_58 rfl ?_
    refine aw_g9_26 C (show gI _ 129 26 = nI L.length from hB.1) dX9_arrive_59 fl_X9_226 ?_
    refine aw_iconst C dX9_arrive_62 k1_1 ?_
    refine aw_iadd_n C dX9_arrive_63  ?_
    refine aw_p9_26 C dX9_arrive_64 fl_X9_226 ?_
    refine aw_vretV C hR dX9_arrive_67 ?_
    exact ⟨by unfold arrB; rw [if_neg c_6]; exact hB.push c_6 ha, ((((((Fr.set (Or.inl ⟨by omega, by omega⟩)).put (Or.inl ⟨by omega, by omega⟩)).put (Or.inl ⟨by omega, by omega⟩)).put (Or.inl ⟨by omega, by omega⟩)).put (Or.inl ⟨by omega, by omega⟩)).put (Or.inr ⟨rfl, rfl⟩))⟩
