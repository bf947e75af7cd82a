/-! READING A TEXT, as both systems do: ch p is the sign at p, 1000 behind the end -/
def tk (ch : Nat → Nat) (w : Bool) (p c : Nat) : Bool × Nat := if w = true ∧ ch p = c then (true, p + 1) else (false, p)
abbrev dg (ch : Nat → Nat) (w : Bool) (p : Nat) : Prop := w = true ∧ 48 ≤ ch p ∧ ch p ≤ 57
def numM (ch : Nat → Nat) (w : Bool) (p : Nat) : Bool × Nat × Nat := if dg ch w p then (if dg ch true (p + 1) then (true, p + 2, 10 * (ch p - 48) + (ch (p + 1) - 48)) else (true, p + 1, ch p - 48)) else (false, p, 0)
theorem numM_lt (ch : Nat → Nat) (w : Bool) (p : Nat) : (numM ch w p).2.2 < 100 := by
  unfold numM
  split
  · split <;> simp only <;> omega
  · show 0 < 100
    decide
def letN (k : Nat) : Nat := [112, 107, 118, 98, 110, 104].getD k 0
theorem letN_lt {k : Nat} (h : k < 6) : letN k < 128 := by
  have key : ∀ k, k < 6 → letN k < 128 := by decide
  exact key k h
def li (x : Nat) : Nat := if x = 112 then 0 else if x = 107 then 1 else if x = 118 then 2 else if x = 98 then 3 else if x = 110 then 4 else if x = 104 then 5 else 6
theorem li_iff {x k : Nat} (hk : k < 6) : x = letN k ↔ li x = k := by
  have : k = 0 ∨ k = 1 ∨ k = 2 ∨ k = 3 ∨ k = 4 ∨ k = 5 := by omega
  unfold li letN
  rcases this with rfl | rfl | rfl | rfl | rfl | rfl <;> simp only [List.getD_cons_zero, List.getD_cons_succ] <;> (split <;> try split) <;> (try split) <;> (try split) <;> (try split) <;> (try split) <;> omega
theorem li_le (x : Nat) : li x ≤ 6 := by
  unfold li
  repeat' split
  all_goals omega
theorem li_1000 {x : Nat} (h : li x < 6) : x < 128 := by
  unfold li at h
  revert h
  repeat' split
  all_goals omega
/-- which relation: < = > are 0 1 2 -/
def relN (x : Nat) : Nat := if x = 60 then 0 else if x = 62 then 2 else 1
def relC (x : Nat) : Nat := if x = 60 then 60 else if x = 62 then 62 else 61
def tstM (ch : Nat → Nat) (w : Bool) (p : Nat) : Bool × Nat × Nat := if w = true ∧ li (ch p) < 6 then
    ((numM ch (tk ch true (p + 1) (relC (ch (p + 1)))).1 (tk ch true (p + 1) (relC (ch (p + 1)))).2).1, (numM ch (tk ch true (p + 1) (relC (ch (p + 1)))).1 (tk ch true (p + 1) (relC (ch (p + 1)))).2).2.1, li (ch p) * 300 + relN (ch (p + 1)) * 100 + (numM ch (tk ch true (p + 1) (relC (ch (p + 1)))).1 (tk ch true (p + 1) (relC (ch (p + 1)))).2).2.2)
  else (false, p, 0)
def tvB (nm : Nat → Int32) (c : Nat) : Bool := if c / 100 % 3 = 0 then decide (nm (c / 300) < nI (c % 100)) else if c / 100 % 3 = 1 then decide (nm (c / 300) = nI (c % 100)) else decide (nI (c % 100) < nm (c / 300))
/-- the reference's reading: n signs, at p, well or not, so deep -/
def PS (q : S_) (ch : Nat → Nat) (n p : Nat) (w : Bool) (wi : Nat) : Prop := gI q 129 10 = nI n ∧ gI q 129 11 = nI p ∧ gI q 129 12 = bP (w = true) ∧ gI q 129 13 = nI wi ∧ n ≤ 100 ∧ p ≤ n ∧ (∀ j, j < n → gI q 136 j = nI (ch j) ∧ ch j < 128) ∧ (∀ j, n ≤ j → ch j = 1000) ∧ wi ≤ 4
theorem PS.rd {q : S_} {ch : Nat → Nat} {n p wi : Nat} {w : Bool} (h : PS q ch n p w wi) {j : Nat} (hj : j < n) : gI q 136 j = nI (ch j) ∧ ch j < 128 := h.2.2.2.2.2.2.1 j hj
theorem PS.out {q : S_} {ch : Nat → Nat} {n p wi : Nat} {w : Bool} (h : PS q ch n p w wi) {j : Nat} (hj : n ≤ j) : ch j = 1000 := h.2.2.2.2.2.2.2.1 j hj
theorem PS.lt {q : S_} {ch : Nat → Nat} {n p wi : Nat} {w : Bool} (h : PS q ch n p w wi) {j : Nat} (hj : ch j < 1000) : j < n := by
  rcases Nat.lt_or_ge j n with z | z
  · exact z
  · rw [h.out z] at hj
    omega
theorem PS.bd {q : S_} {ch : Nat → Nat} {n p wi : Nat} {w : Bool} (h : PS q ch n p w wi) : n ≤ 100 ∧ p ≤ n ∧ wi ≤ 4 := ⟨h.2.2.2.2.1, h.2.2.2.2.2.1, h.2.2.2.2.2.2.2.2⟩
theorem PS.at {q : S_} {ch : Nat → Nat} {n p wi : Nat} {w : Bool} (h : PS q ch n p w wi) {p2 : Nat} (hp : p2 ≤ n) : PS (sI q 129 11 (nI p2)) ch n p2 w wi := by
  obtain ⟨h1, h2, h3, h4, h5, h6, h7, h8, h9⟩ := h
  refine ⟨?_, ?_, ?_, ?_, h5, hp, ?_, h8, h9⟩
  · rw [gI_sI, if_neg (by omega)]; exact h1
  · rw [gI_sI, if_pos ⟨rfl, rfl⟩]
  · rw [gI_sI, if_neg (by omega)]; exact h3
  · rw [gI_sI, if_neg (by omega)]; exact h4
  · intro j hj
    rw [gI_sI, if_neg (by omega)]; exact h7 j hj
theorem PS.bad {q : S_} {ch : Nat → Nat} {n p wi : Nat} {w : Bool} (h : PS q ch n p w wi) : PS (sI q 129 12 (nI 0)) ch n p false wi := by
  obtain ⟨h1, h2, h3, h4, h5, h6, h7, h8, h9⟩ := h
  refine ⟨?_, ?_, ?_, ?_, h5, h6, ?_, h8, h9⟩
  · rw [gI_sI, if_neg (by omega)]; exact h1
  · rw [gI_sI, if_neg (by omega)]; exact h2
  · rw [gI_sI, if_pos ⟨rfl, rfl⟩]; rfl
  · rw [gI_sI, if_neg (by omega)]; exact h4
  · intro j hj
    rw [gI_sI, if_neg (by omega)]; exact h7 j hj
theorem PS.wi {q : S_} {ch : Nat → Nat} {n p wi : Nat} {w : Bool} (h : PS q ch n p w wi) {w2 : Nat} (hw : w2 ≤ 4) : PS (sI q 129 13 (nI w2)) ch n p w w2 := by
  obtain ⟨h1, h2, h3, h4, h5, h6, h7, h8, h9⟩ := h
  refine ⟨?_, ?_, ?_, ?_, h5, h6, ?_, h8, hw⟩
  · rw [gI_sI, if_neg (by omega)]; exact h1
  · rw [gI_sI, if_neg (by omega)]; exact h2
  · rw [gI_sI, if_neg (by omega)]; exact h3
  · rw [gI_sI, if_pos ⟨rfl, rfl⟩]
  · intro j hj
    rw [gI_sI, if_neg (by omega)]; exact h7 j hj
theorem PS.oth {q : S_} {ch : Nat → Nat} {n p wi : Nat} {w : Bool} (h : PS q ch n p w wi) {j : Nat} {v : Int32} (hj : j = 14 ∨ j = 15) : PS (sI q 129 j v) ch n p w wi := by
  obtain ⟨h1, h2, h3, h4, h5, h6, h7, h8, h9⟩ := h
  refine ⟨?_, ?_, ?_, ?_, h5, h6, ?_, h8, h9⟩
  · rw [gI_sI, if_neg (by omega)]; exact h1
  · rw [gI_sI, if_neg (by omega)]; exact h2
  · rw [gI_sI, if_neg (by omega)]; exact h3
  · rw [gI_sI, if_neg (by omega)]; exact h4
  · intro j hj
    rw [gI_sI, if_neg (by omega)]; exact h7 j hj
/-- what a reading writes -/
def SPk (k j : Nat) : Prop := k = 129 ∧ 11 ≤ j ∧ j ≤ 13
def LetC (q : S_) : Prop := (∀ j, j < 6 → gI q 138 j = nI (letN j))
theorem Fr.let' {q q2 : S_} (h : Fr SPk q q2) (hL : LetC q) : LetC q2 := fun j hj => (h.2 138 j (by unfold SPk; omega)).trans (hL j hj)
def nmd (ch : Nat → Nat) (w : Bool) (p k : Nat) : Int32 := if w = true ∧ li (ch p) < k then nI (li (ch p)) else -1
theorem nmd_t {ch : Nat → Nat} {w : Bool} {p k : Nat} (hk : k < 6) (h : w = true ∧ ch p = letN k) : nI k = nmd ch w p (k + 1) := by
  have := (li_iff hk).mp h.2
  unfold nmd
  rw [if_pos ⟨h.1, by omega⟩, this]
theorem nmd_f {ch : Nat → Nat} {w : Bool} {p k : Nat} (hk : k < 6) (h : ¬ (w = true ∧ ch p = letN k)) : nmd ch w p k = nmd ch w p (k + 1) := by
  unfold nmd
  by_cases z : w = true ∧ li (ch p) < k
  · rw [if_pos z, if_pos ⟨z.1, by omega⟩]
  · rw [if_neg z, if_neg]
    rintro ⟨z1, z2⟩
    have : li (ch p) = k := by
      rcases Nat.lt_or_ge (li (ch p)) k with y | y
      · exact absurd ⟨z1, y⟩ z
      · omega
    exact h ⟨z1, (li_iff hk).mpr this⟩

set_option maxRecDepth 100000 in
set_option maxHeartbeats 4000000 in
theorem s_X9_isAt {G : GT} {q : S_} {ch : Nat → Nat} {n p wi : Nat} {w : Bool} (c : Nat) (hP : PS q ch n p w wi) (hc : c < 128) : Spec G 1 yX9_isAt cX9_isAt 2 (some .boolean) [rfn G 129, .int (nI c)] q (PI fun r2 q3 => r2 = bP (w = true ∧ ch p = c) ∧ q3 = q) := by
  refine Spec.intro RX9 (by decide) rfl (Nat.le_of_ble_eq_true rfl) [some (rfn G 129), some (.int (nI c))] rfl ?_
  intro X d hd C hR
  have hb := hP.bd
  refine aw_aload_0 C dX9_isAt_0 rfl ?_
  refine aw_g9_12 C hP.2.2.1 dX9_isAt_1 fl_X9_154 ?_
  refine aw_if_eq_b C dX9_isAt_4 (tgt := 35) (by decide)  (fun c_4 => ?_) (fun c_4 => ?_)
  · skip
    refine aw_iconst C dX9_isAt_35 k1_0 ?_
    refine aw_iretZ C hR dX9_isAt_36 (by first | rfl | exact bP_nar) ?_
    exact ⟨(bP_f (fun z => c_4 z.1)).symm, rfl⟩
  · skip
    refine aw_aload_0 C dX9_isAt_7 rfl ?_
    refine aw_g9_11 C hP.2.1 dX9_isAt_8 fl_X9_157 ?_
    refine aw_aload_0 C dX9_isAt_11 rfl ?_
    refine aw_g9_10 C hP.1 dX9_isAt_12 fl_X9_160 ?_
    refine aw_icmp_ge_n C dX9_isAt_15 (tgt := 35) (by decide) (by omega) (by omega) (fun c_15 => ?_) (fun c_15 => ?_)
    · skip
      refine aw_iconst C dX9_isAt_35 k1_0 ?_
      refine aw_iretZ C hR dX9_isAt_36 (by first | rfl | exact bP_nar) ?_
      exact ⟨(bP_f (fun z => by have := hP.out c_15; omega)).symm, rfl⟩
    · skip
      have hr := (hP.rd (j := p) (by omega)).2
      refine aw_aload_0 C dX9_isAt_18 rfl ?_
      refine aw_g9_9 C dX9_isAt_19 fl_X9_30 ?_
      refine aw_aload_0 C dX9_isAt_22 rfl ?_
      refine aw_g9_11 C hP.2.1 dX9_isAt_23 fl_X9_157 ?_
      refine aw_iald C _ (hP.rd (j := p) (by omega)).1 dX9_isAt_26 sh_136 rfl (by omega) ?_
      refine aw_iload_1 C dX9_isAt_27 ?_
      refine aw_icmp_ne_n C dX9_isAt_28 (tgt := 35) (by decide) (by omega) (by omega) (fun c_28 => ?_) (fun c_28 => ?_)
      · skip
        refine aw_iconst C dX9_isAt_35 k1_0 ?_
        refine aw_iretZ C hR dX9_isAt_36 (by first | rfl | exact bP_nar) ?_
        exact ⟨(bP_f (fun z => c_28 z.2)).symm, rfl⟩
      · skip
        refine aw_iconst C dX9_isAt_31 k1_1 ?_
        refine aw_goto C dX9_isAt_32 (tgt := 36) (by decide) ?_
        refine aw_iretZ C hR dX9_isAt_36 (by first | rfl | exact bP_nar) ?_
        exact ⟨(bP_t ⟨c_4, c_28⟩).symm, rfl⟩

set_option maxRecDepth 100000 in
set_option maxHeartbeats 4000000 in
theorem s_X9_takes {G : GT} {q : S_} {ch : Nat → Nat} {n p wi : Nat} {w : Bool} (c : Nat) (hP : PS q ch n p w wi) (hc : c < 128) : Spec G 2 yX9_takes cX9_takes 2 none [rfn G 129, .int (nI c)] q (PV (fun q3 => PS q3 ch n (tk ch w p c).2 (tk ch w p c).1 wi ∧ Fr SPk q q3)) := by
  refine Spec.intro RX9 (by decide) rfl (Nat.le_of_ble_eq_true rfl) [some (rfn G 129), some (.int (nI c))] rfl ?_
  intro X d hd C hR
  have hb := hP.bd
  refine aw_aload_0 C dX9_takes_0 rfl ?_
  refine aw_iload_1 C dX9_takes_1 ?_
  refine aw_cV1IE C (s_X9_isAt _ hP (by omega)) mf_X9_isAt mv_X9_isAt (sh_129) rfl ml_X9_163 dX9_takes_2 (by omega) (Nat.le_of_ble_eq_true rfl) ?_
  refine aw_if_eq_b C dX9_takes_5 (tgt := 21) (by decide)  (fun c_5 => ?_) (fun c_5 => ?_)
  · skip
    refine aw_aload_0 C dX9_takes_21 rfl ?_
    refine aw_iconst C dX9_takes_22 k1_0 ?_
    refine aw_p9_12 C dX9_takes_23 rfl rfl fl_X9_154 ?_
    refine aw_vretV C hR dX9_takes_26 ?_
    exact ⟨by unfold tk; rw [if_neg c_5]; exact hP.bad, Fr.set (by unfold SPk; omega)⟩
  · obtain ⟨rfl, hc5⟩ := c_5
    have hlt := hP.lt (j := p) (by omega)
    refine aw_aload_0 C dX9_takes_8 rfl ?_
    refine aw_dup C dX9_takes_9 rfl ?_
    refine aw_g9_11 C hP.2.1 dX9_takes_10 fl_X9_157 ?_
    refine aw_iconst C dX9_takes_13 k1_1 ?_
    refine aw_iadd_n C dX9_takes_14  ?_
    refine aw_p9_11 C dX9_takes_15 fl_X9_157 ?_
    refine aw_goto C dX9_takes_18 (tgt := 26) (by decide) ?_
    refine aw_vretV C hR dX9_takes_26 ?_
    exact ⟨by unfold tk; rw [if_pos ⟨rfl, hc5⟩]; exact hP.at (by omega), Fr.set (by unfold SPk; omega)⟩

set_option maxRecDepth 100000 in
set_option maxHeartbeats 4000000 in
theorem s_X9_isDigit {G : GT} {q : S_} {ch : Nat → Nat} {n p wi : Nat} {w : Bool}  (hP : PS q ch n p w wi) : Spec G 1 yX9_isDigit cX9_isDigit 1 (some .boolean) [rfn G 129] q (PI fun r2 q3 => r2 = bP (dg ch w p) ∧ q3 = q) := by
  refine Spec.intro RX9 (by decide) rfl (Nat.le_of_ble_eq_true rfl) [some (rfn G 129)] rfl ?_
  intro X d hd C hR
  have hb := hP.bd
  refine aw_aload_0 C dX9_isDigit_0 rfl ?_
  refine aw_g9_12 C hP.2.2.1 dX9_isDigit_1 fl_X9_154 ?_
  refine aw_if_eq_b C dX9_isDigit_4 (tgt := 50) (by decide)  (fun c_4 => ?_) (fun c_4 => ?_)
  · skip
    refine aw_iconst C dX9_isDigit_50 k1_0 ?_
    refine aw_iretZ C hR dX9_isDigit_51 (by first | rfl | exact bP_nar) ?_
    exact ⟨(bP_f (fun z => c_4 z.1)).symm, rfl⟩
  · skip
    refine aw_aload_0 C dX9_isDigit_7 rfl ?_
    refine aw_g9_11 C hP.2.1 dX9_isDigit_8 fl_X9_157 ?_
    refine aw_aload_0 C dX9_isDigit_11 rfl ?_
    refine aw_g9_10 C hP.1 dX9_isDigit_12 fl_X9_160 ?_
    refine aw_icmp_ge_n C dX9_isDigit_15 (tgt := 50) (by decide) (by omega) (by omega) (fun c_15 => ?_) (fun c_15 => ?_)
    · skip
      refine aw_iconst C dX9_isDigit_50 k1_0 ?_
      refine aw_iretZ C hR dX9_isDigit_51 (by first | rfl | exact bP_nar) ?_
      exact ⟨(bP_f (fun z => by have := hP.out c_15; omega)).symm, rfl⟩
    · skip
      have hr := (hP.rd (j := p) (by omega)).2
      refine aw_aload_0 C dX9_isDigit_18 rfl ?_
      refine aw_g9_9 C dX9_isDigit_19 fl_X9_30 ?_
      refine aw_aload_0 C dX9_isDigit_22 rfl ?_
      refine aw_g9_11 C hP.2.1 dX9_isDigit_23 fl_X9_157 ?_
      refine aw_iald C _ (hP.rd (j := p) (by omega)).1 dX9_isDigit_26 sh_136 rfl (by omega) ?_
      refine aw_bipush C dX9_isDigit_27 k2_48 ?_
      refine aw_icmp_lt_n C dX9_isDigit_29 (tgt := 50) (by decide) (by omega) (by omega) (fun c_29 => ?_) (fun c_29 => ?_)
      · skip
        refine aw_iconst C dX9_isDigit_50 k1_0 ?_
        refine aw_iretZ C hR dX9_isDigit_51 (by first | rfl | exact bP_nar) ?_
        exact ⟨(bP_f (fun z => by omega)).symm, rfl⟩
      · skip
        refine aw_aload_0 C dX9_isDigit_32 rfl ?_
        refine aw_g9_9 C dX9_isDigit_33 fl_X9_30 ?_
        refine aw_aload_0 C dX9_isDigit_36 rfl ?_
        refine aw_g9_11 C hP.2.1 dX9_isDigit_37 fl_X9_157 ?_
        refine aw_iald C _ (hP.rd (j := p) (by omega)).1 dX9_isDigit_40 sh_136 rfl (by omega) ?_
        refine aw_bipush C dX9_isDigit_41 k2_57 ?_
        refine aw_icmp_gt_n C dX9_isDigit_43 (tgt := 50) (by decide) (by omega) (by omega) (fun c_43 => ?_) (fun c_43 => ?_)
        · skip
          refine aw_iconst C dX9_isDigit_50 k1_0 ?_
          refine aw_iretZ C hR dX9_isDigit_51 (by first | rfl | exact bP_nar) ?_
          exact ⟨(bP_f (fun z => by omega)).symm, rfl⟩
        · skip
          refine aw_iconst C dX9_isDigit_46 k1_1 ?_
          refine aw_goto C dX9_isDigit_47 (tgt := 51) (by decide) ?_
          refine aw_iretZ C hR dX9_isDigit_51 (by first | rfl | exact bP_nar) ?_
          exact ⟨(bP_t ⟨c_4, by omega, by omega⟩).symm, rfl⟩

set_option maxRecDepth 100000 in
set_option maxHeartbeats 4000000 in
theorem s_X9_number {G : GT} {q : S_} {ch : Nat → Nat} {n p wi : Nat} {w : Bool}  (hP : PS q ch n p w wi) : Spec G 2 yX9_number cX9_number 2 (some .int) [rfn G 129] q (PI (fun r q3 => r = nI (numM ch w p).2.2 ∧ PS q3 ch n (numM ch w p).2.1 (numM ch w p).1 wi ∧ Fr SPk q q3)) := by
  refine Spec.intro RX9 (by decide) rfl (Nat.le_of_ble_eq_true rfl) [some (rfn G 129), none] rfl ?_
  intro X d hd C hR
  have hb := hP.bd
  refine aw_aload_0 C dX9_number_0 rfl ?_
  refine aw_cV0IE C (s_X9_isDigit hP) mf_X9_isDigit mv_X9_isDigit (sh_129) rfl ml_X9_166 dX9_number_1 (by omega) (Nat.le_of_ble_eq_true rfl) ?_
  refine aw_if_ne_b C dX9_number_4 (tgt := 14) (by decide)  (fun c_4 => ?_) (fun c_4 => ?_)
  · obtain ⟨rfl, hd1, hd2⟩ := c_4
    have hlt := hP.lt (j := p) (by omega)
    have hP1 := hP.at (p2 := p + 1) (by omega)
    refine aw_aload_0 C dX9_number_14 rfl ?_
    refine aw_g9_9 C dX9_number_15 fl_X9_30 ?_
    refine aw_aload_0 C dX9_number_18 rfl ?_
    refine aw_g9_11 C hP.2.1 dX9_number_19 fl_X9_157 ?_
    refine aw_iald C _ (hP.rd (j := p) (by omega)).1 dX9_number_22 sh_136 rfl (by omega) ?_
    refine aw_bipush C dX9_number_23 k2_48 ?_
    refine aw_isub_n C dX9_number_25 (by omega) ?_
    refine aw_istore_1 C dX9_number_26 (by decide) (fun w h => by cases h <;> rfl) ?_
    refine aw_aload_0 C dX9_number_27 rfl ?_
    refine aw_dup C dX9_number_28 rfl ?_
    refine aw_g9_11 C hP.2.1 dX9_number_29 fl_X9_157 ?_
    refine aw_iconst C dX9_number_32 k1_1 ?_
    refine aw_iadd_n C dX9_number_33  ?_
    refine aw_p9_11 C dX9_number_34 fl_X9_157 ?_
    refine aw_aload_0 C dX9_number_37 rfl ?_
    refine aw_cV0IE C (s_X9_isDigit hP1) mf_X9_isDigit mv_X9_isDigit (sh_129) rfl ml_X9_166 dX9_number_38 (by omega) (Nat.le_of_ble_eq_true rfl) ?_
    refine aw_if_eq_b C dX9_number_41 (tgt := 72) (by decide)  (fun c_41 => ?_) (fun c_41 => ?_)
    · skip
      refine aw_iload_1 C dX9_number_72 ?_
      refine aw_iretI C hR dX9_number_73 ?_
      exact ⟨by unfold numM; rw [if_pos ⟨rfl, hd1, hd2⟩, if_neg c_41], by unfold numM; rw [if_pos ⟨rfl, hd1, hd2⟩, if_neg c_41]; exact hP1, Fr.set (by unfold SPk; omega)⟩
    · obtain ⟨-, he1, he2⟩ := c_41
      have hlt2 := hP.lt (j := p + 1) (by omega)
      refine aw_bipush C dX9_number_44 k2_10 ?_
      refine aw_iload_1 C dX9_number_46 ?_
      refine aw_imul_n C dX9_number_47  ?_
      refine aw_aload_0 C dX9_number_48 rfl ?_
      refine aw_g9_9 C dX9_number_49 fl_X9_30 ?_
      refine aw_aload_0 C dX9_number_52 rfl ?_
      refine aw_g9_11 C hP1.2.1 dX9_number_53 fl_X9_157 ?_
      refine aw_iald C _ (hP1.rd (j := p + 1) (by omega)).1 dX9_number_56 sh_136 rfl (by omega) ?_
      refine aw_iadd_n C dX9_number_57  ?_
      refine aw_bipush C dX9_number_58 k2_48 ?_
      refine aw_isub_n C dX9_number_60 (by omega) ?_
      refine aw_istore_1 C dX9_number_61 (by decide) (fun w h => by cases h <;> rfl) ?_
      refine aw_aload_0 C dX9_number_62 rfl ?_
      refine aw_dup C dX9_number_63 rfl ?_
      refine aw_g9_11 C hP1.2.1 dX9_number_64 fl_X9_157 ?_
      refine aw_iconst C dX9_number_67 k1_1 ?_
      refine aw_iadd_n C dX9_number_68  ?_
      refine aw_p9_11 C dX9_number_69 fl_X9_157 ?_
      refine aw_iload_1 C dX9_number_72 ?_
      refine aw_iretI C hR dX9_number_73 ?_
      exact ⟨by unfold numM; rw [if_pos ⟨rfl, hd1, hd2⟩, if_pos ⟨rfl, he1, he2⟩]; exact congrArg nI (by simp only; omega), by unfold numM; rw [if_pos ⟨rfl, hd1, hd2⟩, if_pos ⟨rfl, he1, he2⟩]; exact hP1.at (by omega), (Fr.set (by unfold SPk; omega)).put (by unfold SPk; omega)⟩
  · skip
    refine aw_aload_0 C dX9_number_7 rfl ?_
    refine aw_iconst C dX9_number_8 k1_0 ?_
    refine aw_p9_12 C dX9_number_9 rfl rfl fl_X9_154 ?_
    refine aw_iconst C dX9_number_12 k1_0 ?_
    refine aw_iretI C hR dX9_number_13 ?_
    exact ⟨by unfold numM; rw [if_neg c_4], by unfold numM; rw [if_neg c_4]; exact hP.bad, Fr.set (by unfold SPk; omega)⟩

/-- testing a code's answer -/
theorem tvB_0 {nm : Nat → Int32} {a v : Nat} (hv : v < 100) : tvB nm (a * 300 + 0 * 100 + v) = decide (nm a < nI v) := by
  have h1 : (a * 300 + 0 * 100 + v) / 100 % 3 = 0 := by omega
  have h2 : (a * 300 + 0 * 100 + v) / 300 = a := by omega
  have h3 : (a * 300 + 0 * 100 + v) % 100 = v := by omega
  unfold tvB
  rw [h1, h2, h3, if_pos rfl]
theorem tvB_1 {nm : Nat → Int32} {a v : Nat} (hv : v < 100) : tvB nm (a * 300 + 1 * 100 + v) = decide (nm a = nI v) := by
  have h1 : (a * 300 + 1 * 100 + v) / 100 % 3 = 1 := by omega
  have h2 : (a * 300 + 1 * 100 + v) / 300 = a := by omega
  have h3 : (a * 300 + 1 * 100 + v) % 100 = v := by omega
  unfold tvB
  rw [h1, h2, h3, if_neg (by decide), if_pos rfl]
theorem tvB_2 {nm : Nat → Int32} {a v : Nat} (hv : v < 100) : tvB nm (a * 300 + 2 * 100 + v) = decide (nI v < nm a) := by
  have h1 : (a * 300 + 2 * 100 + v) / 100 % 3 = 2 := by omega
  have h2 : (a * 300 + 2 * 100 + v) / 300 = a := by omega
  have h3 : (a * 300 + 2 * 100 + v) % 100 = v := by omega
  unfold tvB
  rw [h1, h2, h3, if_neg (by decide), if_neg (by decide)]
theorem tstM_t {ch : Nat → Nat} {p : Nat} (h : li (ch p) < 6) : tstM ch true p = ((numM ch (tk ch true (p + 1) (relC (ch (p + 1)))).1 (tk ch true (p + 1) (relC (ch (p + 1)))).2).1, (numM ch (tk ch true (p + 1) (relC (ch (p + 1)))).1 (tk ch true (p + 1) (relC (ch (p + 1)))).2).2.1, li (ch p) * 300 + relN (ch (p + 1)) * 100 + (numM ch (tk ch true (p + 1) (relC (ch (p + 1)))).1 (tk ch true (p + 1) (relC (ch (p + 1)))).2).2.2) := if_pos ⟨rfl, h⟩
theorem tstM_f {ch : Nat → Nat} {w : Bool} {p : Nat} (h : ¬ (w = true ∧ li (ch p) < 6)) : tstM ch w p = (false, p, 0) := if_neg h

set_option maxRecDepth 100000 in
set_option maxHeartbeats 4000000 in
theorem s_X9_test {G : GT} {q : S_} {ch : Nat → Nat} {n p wi : Nat} {w : Bool}  (hP : PS q ch n p w wi) (hL : LetC q) : Spec G 3 yX9_test cX9_test 4 (some .boolean) [rfn G 129] q (PI (fun r q3 => PS q3 ch n (tstM ch w p).2.1 (tstM ch w p).1 wi ∧ Fr SPk q q3 ∧ (r = nI 0 ∨ r = nI 1) ∧ ((tstM ch w p).1 = true → r = bP (tvB (gI q 137) (tstM ch w p).2.2 = true)))) := by
  refine Spec.intro RX9 (by decide) rfl (Nat.le_of_ble_eq_true rfl) [some (rfn G 129), none, none, none] rfl ?_
  intro X d hd C hR
  have hb := hP.bd
  refine aw_iconst C dX9_test_0 k1_m1 ?_
  refine aw_istore_1 C dX9_test_1 (by decide) (fun w h => by cases h <;> rfl) ?_
  refine aw_iconst C dX9_test_2 k1_0 ?_
  refine aw_istore_2 C dX9_test_3 (by decide) (fun w h => by cases h <;> rfl) ?_
  have L4 : ∀ (n2 k : Nat), k ≤ 6 → 6 < k + n2 → AW X G (q) 4 [some (rfn G 129), some (.int (nmd ch w p k)), some (.int (nI k)), none] [] := by
    refine nat_loop (fun k h1 h2 => by omega) (fun n2 ih k h1 h2 => ?_)
    refine aw_iload_2 C dX9_test_4 ?_
    refine aw_bipush C dX9_test_5 k2_6 ?_
    refine aw_icmp_ge_n C dX9_test_7 (tgt := 35) (by decide) (by omega) (by omega) (fun c_7 => ?_) (fun c_7 => ?_)
    · obtain rfl : k = 6 := by omega
      refine aw_iload_1 C dX9_test_35 ?_
      refine aw_iconst C dX9_test_36 k1_m1 ?_
      refine aw_icmp_ne C dX9_test_37 (tgt := 47) (by decide)  (fun c_37 => ?_) (fun c_37 => ?_)
      · have hz : w = true ∧ li (ch p) < 6 := Decidable.byContradiction (fun z => c_37 (if_neg z))
        obtain ⟨rfl, hli⟩ := hz
        rw [show nmd ch true p 6 = nI (li (ch p)) from if_pos ⟨rfl, hli⟩]
        have hch := li_1000 hli
        have hlt := hP.lt (j := p) (by omega)
        have hP1 := hP.at (p2 := p + 1) (by omega)
        have hF1 : Fr SPk q (sI q 129 11 (nI (p + 1))) := Fr.set (by unfold SPk; omega)
        refine aw_aload_0 C dX9_test_47 rfl ?_
        refine aw_dup C dX9_test_48 rfl ?_
        refine aw_g9_11 C hP.2.1 dX9_test_49 fl_X9_157 ?_
        refine aw_iconst C dX9_test_52 k1_1 ?_
        refine aw_iadd_n C dX9_test_53  ?_
        refine aw_p9_11 C dX9_test_54 fl_X9_157 ?_
        refine aw_aload_0 C dX9_test_57 rfl ?_
        refine aw_bipush C dX9_test_58 k2_60 ?_
        refine aw_cV1IE C (s_X9_isAt _ hP1 (by omega)) mf_X9_isAt mv_X9_isAt (sh_129) rfl ml_X9_163 dX9_test_60 (by omega) (Nat.le_of_ble_eq_true rfl) ?_
        refine aw_if_eq_b C dX9_test_63 (tgt := 70) (by decide)  (fun c_63 => ?_) (fun c_63 => ?_)
        · skip
          refine aw_aload_0 C dX9_test_70 rfl ?_
          refine aw_bipush C dX9_test_71 k2_62 ?_
          refine aw_cV1IE C (s_X9_isAt _ hP1 (by omega)) mf_X9_isAt mv_X9_isAt (sh_129) rfl ml_X9_163 dX9_test_73 (by omega) (Nat.le_of_ble_eq_true rfl) ?_
          refine aw_if_eq_b C dX9_test_76 (tgt := 83) (by decide)  (fun c_76 => ?_) (fun c_76 => ?_)
          · skip
            refine aw_iconst C dX9_test_83 k1_0 ?_
            refine aw_istore_2 C dX9_test_84 (by decide) (fun w h => by cases h <;> rfl) ?_
            refine aw_aload_0 C dX9_test_85 rfl ?_
            refine aw_iload_2 C dX9_test_86 ?_
            refine aw_if_ge_n C dX9_test_87 (tgt := 95) (by decide) (by omega) ?_
            refine aw_iload_2 C dX9_test_95 ?_
            refine aw_if_le_n C dX9_test_96 (tgt := 104) (by decide) (by omega) (fun c_96 => ?_) (fun c_96 => absurd c_96 (by omega))
            refine aw_bipush C dX9_test_104 k2_61 ?_
            refine aw_cV1V C (s_X9_takes _ hP1 (by omega)) mf_X9_takes mv_X9_takes (sh_129) rfl ml_X9_170 dX9_test_106 (by omega) (Nat.le_of_ble_eq_true rfl) (fun q_106 h_106 => ?_)
            obtain ⟨hP2, hF2⟩ := h_106
            rw [show (61 : Nat) = relC (ch (p + 1)) from by unfold relC; rw [if_neg (fun z => c_63 ⟨rfl, z⟩), if_neg (fun z => c_76 ⟨rfl, z⟩)]] at hP2
            refine aw_aload_0 C dX9_test_109 rfl ?_
            refine aw_cV0I C (s_X9_number hP2) mf_X9_number mv_X9_number (sh_129) rfl ml_X9_174 dX9_test_110 (by omega) (Nat.le_of_ble_eq_true rfl) (fun r_110 q_110 h_110 => ?_)
            obtain ⟨rfl, hP3, hF3⟩ := h_110
            have hnm : ∀ j, gI q_110 137 j = gI q 137 j := fun j => ((hF1.tr hF2).tr hF3).2 137 j (by unfold SPk; omega)
            refine aw_istore_3 C dX9_test_113 (by decide) (fun w h => by cases h <;> rfl) ?_
            refine aw_iload_2 C dX9_test_114 ?_
            refine aw_if_ge_n C dX9_test_115 (tgt := 136) (by decide) (by omega) ?_
            refine aw_iload_2 C dX9_test_136 ?_
            refine aw_if_le_n C dX9_test_137 (tgt := 158) (by decide) (by omega) (fun c_137 => ?_) (fun c_137 => absurd c_137 (by omega))
            refine aw_aload_0 C dX9_test_158 rfl ?_
            refine aw_g9_16 C dX9_test_159 fl_X9_33 ?_
            refine aw_iload_1 C dX9_test_162 ?_
            refine aw_iald C _ (hnm _) dX9_test_163 sh_137 rfl (by omega) ?_
            refine aw_iload_3 C dX9_test_164 ?_
            refine aw_icmp_ne C dX9_test_165 (tgt := 172) (by decide)  (fun c_165 => ?_) (fun c_165 => ?_)
            · skip
              refine aw_iconst C dX9_test_172 k1_0 ?_
              refine aw_iretZ C hR dX9_test_173 (by first | rfl | exact bP_nar) ?_
              have ez := tstM_t hli
              rw [show relN (ch (p + 1)) = 1 from by unfold relN; rw [if_neg (fun z => c_63 ⟨rfl, z⟩), if_neg (fun z => c_76 ⟨rfl, z⟩)]] at ez
              refine ⟨by rw [ez]; exact hP3, (hF1.tr hF2).tr hF3, by first | exact Or.inl rfl | exact Or.inr rfl, fun _ => ?_⟩
              rw [ez, tvB_1 (numM_lt _ _ _)]
              exact (bP_f (fun z => c_165 (of_decide_eq_true z))).symm
            · skip
              refine aw_iconst C dX9_test_168 k1_1 ?_
              refine aw_goto C dX9_test_169 (tgt := 173) (by decide) ?_
              refine aw_iretZ C hR dX9_test_173 (by first | rfl | exact bP_nar) ?_
              have ez := tstM_t hli
              rw [show relN (ch (p + 1)) = 1 from by unfold relN; rw [if_neg (fun z => c_63 ⟨rfl, z⟩), if_neg (fun z => c_76 ⟨rfl, z⟩)]] at ez
              refine ⟨by rw [ez]; exact hP3, (hF1.tr hF2).tr hF3, by first | exact Or.inl rfl | exact Or.inr rfl, fun _ => ?_⟩
              rw [ez, tvB_1 (numM_lt _ _ _)]
              exact (bP_t (decide_eq_true c_165)).symm
          · skip
            refine aw_iconst C dX9_test_79 k1_1 ?_
            refine aw_goto C dX9_test_80 (tgt := 84) (by decide) ?_
            refine aw_istore_2 C dX9_test_84 (by decide) (fun w h => by cases h <;> rfl) ?_
            refine aw_aload_0 C dX9_test_85 rfl ?_
            refine aw_iload_2 C dX9_test_86 ?_
            refine aw_if_ge_n C dX9_test_87 (tgt := 95) (by decide) (by omega) ?_
            refine aw_iload_2 C dX9_test_95 ?_
            refine aw_if_le_n C dX9_test_96 (tgt := 104) (by decide) (by omega) (fun c_96 => absurd c_96 (by omega)) (fun c_96 => ?_)
            refine aw_bipush C dX9_test_99 k2_62 ?_
            refine aw_goto C dX9_test_101 (tgt := 106) (by decide) ?_
            refine aw_cV1V C (s_X9_takes _ hP1 (by omega)) mf_X9_takes mv_X9_takes (sh_129) rfl ml_X9_170 dX9_test_106 (by omega) (Nat.le_of_ble_eq_true rfl) (fun q_106 h_106 => ?_)
            obtain ⟨hP2, hF2⟩ := h_106
            rw [show (62 : Nat) = relC (ch (p + 1)) from by unfold relC; rw [if_neg (fun z => c_63 ⟨rfl, z⟩), if_pos c_76.2]] at hP2
            refine aw_aload_0 C dX9_test_109 rfl ?_
            refine aw_cV0I C (s_X9_number hP2) mf_X9_number mv_X9_number (sh_129) rfl ml_X9_174 dX9_test_110 (by omega) (Nat.le_of_ble_eq_true rfl) (fun r_110 q_110 h_110 => ?_)
            obtain ⟨rfl, hP3, hF3⟩ := h_110
            have hnm : ∀ j, gI q_110 137 j = gI q 137 j := fun j => ((hF1.tr hF2).tr hF3).2 137 j (by unfold SPk; omega)
            refine aw_istore_3 C dX9_test_113 (by decide) (fun w h => by cases h <;> rfl) ?_
            refine aw_iload_2 C dX9_test_114 ?_
            refine aw_if_ge_n C dX9_test_115 (tgt := 136) (by decide) (by omega) ?_
            refine aw_iload_2 C dX9_test_136 ?_
            refine aw_if_le_n C dX9_test_137 (tgt := 158) (by decide) (by omega) (fun c_137 => absurd c_137 (by omega)) (fun c_137 => ?_)
            refine aw_aload_0 C dX9_test_140 rfl ?_
            refine aw_g9_16 C dX9_test_141 fl_X9_33 ?_
            refine aw_iload_1 C dX9_test_144 ?_
            refine aw_iald C _ (hnm _) dX9_test_145 sh_137 rfl (by omega) ?_
            refine aw_iload_3 C dX9_test_146 ?_
            refine aw_icmp_le C dX9_test_147 (tgt := 154) (by decide)  (fun c_147 => ?_) (fun c_147 => ?_)
            · skip
              refine aw_iconst C dX9_test_154 k1_0 ?_
              refine aw_goto C dX9_test_155 (tgt := 173) (by decide) ?_
              refine aw_iretZ C hR dX9_test_173 (by first | rfl | exact bP_nar) ?_
              have ez := tstM_t hli
              rw [show relN (ch (p + 1)) = 2 from by unfold relN; rw [if_neg (fun z => c_63 ⟨rfl, z⟩), if_pos c_76.2]] at ez
              refine ⟨by rw [ez]; exact hP3, (hF1.tr hF2).tr hF3, by first | exact Or.inl rfl | exact Or.inr rfl, fun _ => ?_⟩
              rw [ez, tvB_2 (numM_lt _ _ _)]
              exact (bP_f (fun z => absurd (of_decide_eq_true z) (Int32.not_lt.mpr c_147))).symm
            · skip
              refine aw_iconst C dX9_test_150 k1_1 ?_
              refine aw_goto C dX9_test_151 (tgt := 173) (by decide) ?_
              refine aw_iretZ C hR dX9_test_173 (by first | rfl | exact bP_nar) ?_
              have ez := tstM_t hli
              rw [show relN (ch (p + 1)) = 2 from by unfold relN; rw [if_neg (fun z => c_63 ⟨rfl, z⟩), if_pos c_76.2]] at ez
              refine ⟨by rw [ez]; exact hP3, (hF1.tr hF2).tr hF3, by first | exact Or.inl rfl | exact Or.inr rfl, fun _ => ?_⟩
              rw [ez, tvB_2 (numM_lt _ _ _)]
              exact (bP_t (decide_eq_true (Int32.not_le.mp c_147))).symm
        · skip
          refine aw_iconst C dX9_test_66 k1_m1 ?_
          refine aw_goto C dX9_test_67 (tgt := 84) (by decide) ?_
          refine aw_istore_2 C dX9_test_84 (by decide) (fun w h => by cases h <;> rfl) ?_
          refine aw_aload_0 C dX9_test_85 rfl ?_
          refine aw_iload_2 C dX9_test_86 ?_
          refine aw_if_ge C dX9_test_87 (tgt := 95) (by decide)  (fun c_87 => absurd c_87 (by decide +kernel)) (fun c_87 => ?_)
          refine aw_bipush C dX9_test_90 k2_60 ?_
          refine aw_goto C dX9_test_92 (tgt := 106) (by decide) ?_
          refine aw_cV1V C (s_X9_takes _ hP1 (by omega)) mf_X9_takes mv_X9_takes (sh_129) rfl ml_X9_170 dX9_test_106 (by omega) (Nat.le_of_ble_eq_true rfl) (fun q_106 h_106 => ?_)
          obtain ⟨hP2, hF2⟩ := h_106
          rw [show (60 : Nat) = relC (ch (p + 1)) from by unfold relC; rw [if_pos c_63.2]] at hP2
          refine aw_aload_0 C dX9_test_109 rfl ?_
          refine aw_cV0I C (s_X9_number hP2) mf_X9_number mv_X9_number (sh_129) rfl ml_X9_174 dX9_test_110 (by omega) (Nat.le_of_ble_eq_true rfl) (fun r_110 q_110 h_110 => ?_)
          obtain ⟨rfl, hP3, hF3⟩ := h_110
          have hnm : ∀ j, gI q_110 137 j = gI q 137 j := fun j => ((hF1.tr hF2).tr hF3).2 137 j (by unfold SPk; omega)
          refine aw_istore_3 C dX9_test_113 (by decide) (fun w h => by cases h <;> rfl) ?_
          refine aw_iload_2 C dX9_test_114 ?_
          refine aw_if_ge C dX9_test_115 (tgt := 136) (by decide)  (fun c_115 => absurd c_115 (by decide +kernel)) (fun c_115 => ?_)
          refine aw_aload_0 C dX9_test_118 rfl ?_
          refine aw_g9_16 C dX9_test_119 fl_X9_33 ?_
          refine aw_iload_1 C dX9_test_122 ?_
          refine aw_iald C _ (hnm _) dX9_test_123 sh_137 rfl (by omega) ?_
          refine aw_iload_3 C dX9_test_124 ?_
          refine aw_icmp_ge C dX9_test_125 (tgt := 132) (by decide)  (fun c_125 => ?_) (fun c_125 => ?_)
          · skip
            refine aw_iconst C dX9_test_132 k1_0 ?_
            refine aw_goto C dX9_test_133 (tgt := 173) (by decide) ?_
            refine aw_iretZ C hR dX9_test_173 (by first | rfl | exact bP_nar) ?_
            have ez := tstM_t hli
            rw [show relN (ch (p + 1)) = 0 from by unfold relN; rw [if_pos c_63.2]] at ez
            refine ⟨by rw [ez]; exact hP3, (hF1.tr hF2).tr hF3, by first | exact Or.inl rfl | exact Or.inr rfl, fun _ => ?_⟩
            rw [ez, tvB_0 (numM_lt _ _ _)]
            exact (bP_f (fun z => absurd (of_decide_eq_true z) (Int32.not_lt.mpr c_125))).symm
          · skip
            refine aw_iconst C dX9_test_128 k1_1 ?_
            refine aw_goto C dX9_test_129 (tgt := 173) (by decide) ?_
            refine aw_iretZ C hR dX9_test_173 (by first | rfl | exact bP_nar) ?_
            have ez := tstM_t hli
            rw [show relN (ch (p + 1)) = 0 from by unfold relN; rw [if_pos c_63.2]] at ez
            refine ⟨by rw [ez]; exact hP3, (hF1.tr hF2).tr hF3, by first | exact Or.inl rfl | exact Or.inr rfl, fun _ => ?_⟩
            rw [ez, tvB_0 (numM_lt _ _ _)]
            exact (bP_t (decide_eq_true (Int32.not_le.mp c_125))).symm
      · have hz : ¬ (w = true ∧ li (ch p) < 6) := by
          intro z
          rw [show nmd ch w p 6 = nI (li (ch p)) from if_pos z] at c_37
          exact m1_ne (by have := z.2; omega) c_37
        refine aw_aload_0 C dX9_test_40 rfl ?_
        refine aw_iconst C dX9_test_41 k1_0 ?_
        refine aw_p9_12 C dX9_test_42 rfl rfl fl_X9_154 ?_
        refine aw_iconst C dX9_test_45 k1_0 ?_
        refine aw_iretZ C hR dX9_test_46 (by first | rfl | exact bP_nar) ?_
        exact ⟨by rw [tstM_f hz]; exact hP.bad, Fr.set (by unfold SPk; omega), Or.inl rfl, fun z => by rw [tstM_f hz] at z; cases z⟩
    · skip
      refine aw_aload_0 C dX9_test_10 rfl ?_
      refine aw_aload_0 C dX9_test_11 rfl ?_
      refine aw_g9_17 C dX9_test_12 fl_X9_36 ?_
      refine aw_iload_2 C dX9_test_15 ?_
      refine aw_cald C _ (hL k (by omega)) dX9_test_16 sh_138 rfl (by omega) ?_
      refine aw_cV1IE C (s_X9_isAt _ hP (letN_lt (by omega))) mf_X9_isAt mv_X9_isAt (sh_129) rfl ml_X9_163 dX9_test_17 (by omega) (Nat.le_of_ble_eq_true rfl) ?_
      refine aw_if_eq_b C dX9_test_20 (tgt := 27) (by decide)  (fun c_20 => ?_) (fun c_20 => ?_)
      · skip
        refine aw_iload_1 C dX9_test_27 ?_
        refine aw_istore_1 C dX9_test_28 (by decide) (fun w h => by cases h <;> rfl) ?_
        refine aw_iinc_2 C dX9_test_29 (by decide) (fun w h => by cases h <;> rfl) (show _ + Int32.ofInt 1 = _ by rw [k1_1, nI_add]) ?_
        refine aw_goto C dX9_test_32 (tgt := 4) (by decide) ?_
        rw [nmd_f (by omega) c_20]
        exact ih (k + 1) (by omega) (by omega)
      · skip
        refine aw_iload_2 C dX9_test_23 ?_
        refine aw_goto C dX9_test_24 (tgt := 28) (by decide) ?_
        refine aw_istore_1 C dX9_test_28 (by decide) (fun w h => by cases h <;> rfl) ?_
        refine aw_iinc_2 C dX9_test_29 (by decide) (fun w h => by cases h <;> rfl) (show _ + Int32.ofInt 1 = _ by rw [k1_1, nI_add]) ?_
        refine aw_goto C dX9_test_32 (tgt := 4) (by decide) ?_
        rw [nmd_t (by omega) c_20]
        exact ih (k + 1) (by omega) (by omega)
  have L0 := L4 7 0 (by omega) (by omega)
  rw [show nmd ch w p 0 = -1 from if_neg (fun z => absurd z.2 (Nat.not_lt_zero _))] at L0
  exact L0
