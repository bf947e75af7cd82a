/-! WHOLE TEXTS -/
abbrev Zc : Type := Bool × Nat × List Nat × Nat
def cmb (z y : Zc) : Zc := (y.1, y.2.1, z.2.2.1 ++ y.2.2.1, y.2.2.2)
def clsM (ch : Nat → Nat) : Nat → Nat → Nat → Zc
  | 0, p, dk => clM ch p dk
  | m + 1, p, dk => if (clM ch p dk).1 = true ∧ ch (clM ch p dk).2.1 = 59 then cmb (clM ch p dk) (clsM ch m ((clM ch p dk).2.1 + 1) (clM ch p dk).2.2.2) else clM ch p dk
def contc (ch : Nat → Nat) : Nat → Zc → Zc
  | 0, z => z
  | m + 1, z => if z.1 = true ∧ ch z.2.1 = 59 then cmb z (clsM ch m (z.2.1 + 1) z.2.2.2) else z
theorem clsM_c (ch : Nat → Nat) (m p dk : Nat) : clsM ch m p dk = contc ch m (clM ch p dk) := by cases m <;> rfl
theorem contc_s (ch : Nat → Nat) (m : Nat) (z : Zc) (h : z.1 = true ∧ ch z.2.1 = 59) : contc ch (m + 1) z = contc ch m (cmb z (clM ch (z.2.1 + 1) z.2.2.2)) := by
  show (if _ then _ else _) = _
  rw [if_pos h, clsM_c]
  generalize clM ch (z.2.1 + 1) z.2.2.2 = y
  cases m with
  | zero => rfl
  | succ m =>
    show cmb z (if _ then _ else _) = (if _ then _ else _)
    by_cases h2 : y.1 = true ∧ ch y.2.1 = 59
    · rw [if_pos h2, if_pos (show (cmb z y).1 = true ∧ ch (cmb z y).2.1 = 59 from h2)]
      unfold cmb
      simp
    · rw [if_neg h2, if_neg (show ¬ ((cmb z y).1 = true ∧ ch (cmb z y).2.1 = 59) from h2)]
/-- codes behind which nothing stands open -/
def Clo (nm : Nat → Int32) (cs : List Nat) : Prop := ∀ (r : List Nat) (s : Int32), evS nm (cs ++ r) [] s = evS nm r [] (evS nm cs [] s)
theorem Clo.app {nm : Nat → Int32} {a b : List Nat} (ha : Clo nm a) (hb : Clo nm b) : Clo nm (a ++ b) := by
  intro r s
  rw [List.append_assoc, ha, hb, ha]
theorem Clo.nil {nm : Nat → Int32} : Clo nm [] := fun _ _ => rfl
theorem Clo.cl {nm : Nat → Int32} {cs : List Nat} {c : Nat} (h : ∀ x ∈ cs, isEx x) (h1 : 2000 ≤ c) (h2 : c ≤ 3000) : Clo nm (cs ++ [c]) := by
  intro r s
  rw [List.append_assoc, evS_ex _ _ _ _ _ h, evS_ex _ _ _ _ _ h]
  show (if _ then _ else _) = evS nm r [] (if _ then _ else _)
  rw [if_neg (by omega), if_neg (by omega)]
  rfl
theorem wk_le (x : Nat) : wk x ≤ 3 := by
  unfold wk
  repeat' split
  all_goals omega
theorem clM_clo (nm : Nat → Int32) (ch : Nat → Nat) (p dk : Nat) : Clo nm (clM ch p dk).2.2.1 := by
  have hv : (clN ch p).2.2 < 100 := numM_lt _ _ _
  have hk := wk_le (ch p)
  unfold clM
  split
  · exact Clo.nil
  · split
    · exact Clo.nil
    · exact Clo.cl (clE_ex ch p) (by omega) (by omega)
def okc (c : Nat) : Prop := c < 1800 ∨ (2000 ≤ c ∧ c ≤ 3003)
theorem pr_ok (ch : Nat → Nat) : ∀ (F m p wi : Nat), ∀ c ∈ (pr ch F m p wi).2.2, okc c := by
  intro F
  induction F with
  | zero => intro m p wi c hc; cases hc
  | succ F ih =>
    intro m p wi
    have app : ∀ (a b : List Nat), (∀ c ∈ a, okc c) → (∀ c ∈ b, okc c) → ∀ c ∈ a ++ b, okc c := fun a b ha hb c hc => (List.mem_append.mp hc).elim (ha c) (hb c)
    have one : ∀ x, okc x → ∀ c ∈ [x], okc c := fun x hx c hc => by rw [List.mem_singleton.mp hc]; exact hx
    have con : ∀ (x : Nat) (b : List Nat), okc x → (∀ c ∈ b, okc c) → ∀ c ∈ x :: b, okc c := fun x b hx hb c hc => (List.mem_cons.mp hc).elim (fun e => e ▸ hx) (hb c)
    have o1 : okc 3001 := Or.inr ⟨by decide, by decide⟩
    have o2 : okc 3002 := Or.inr ⟨by decide, by decide⟩
    have o3 : okc 3003 := Or.inr ⟨by decide, by decide⟩
    match m with
    | 0 =>
      rw [pr_e0]
      split
      · exact app _ _ (ih _ _ _) (one _ o3)
      · split
        · exact ih _ _ _
        · exact one _ (Or.inl tst_code)
    | 1 =>
      rw [pr_e1]
      split
      · exact app _ _ (ih _ _ _) (ih _ _ _)
      · exact ih _ _ _
    | 2 =>
      rw [pr_e2]
      split
      · exact app _ _ (ih _ _ _) (con _ _ o1 (ih _ _ _))
      · exact app _ _ (ih _ _ _) (one _ o1)
    | 3 =>
      rw [pr_e3]
      split
      · exact app _ _ (ih _ _ _) (ih _ _ _)
      · exact ih _ _ _
    | m + 4 =>
      rw [pr_e4]
      split
      · exact app _ _ (ih _ _ _) (con _ _ o2 (ih _ _ _))
      · exact app _ _ (ih _ _ _) (one _ o2)
theorem clE_ok (ch : Nat → Nat) (p : Nat) : ∀ c ∈ (clE ch p).2.2, okc c := by
  unfold clE
  split
  · exact pr_ok _ _ _ _ _
  · intro c hc
    cases hc
theorem clM_ok (ch : Nat → Nat) (p dk : Nat) : ∀ c ∈ (clM ch p dk).2.2.1, okc c := by
  unfold clM
  split
  · intro c hc; cases hc
  · split
    · intro c hc; cases hc
    · intro c hc
      rcases List.mem_append.mp hc with h | h
      · exact clE_ok ch p c h
      · rw [List.mem_singleton.mp h]
        have hv : (clN ch p).2.2 < 100 := numM_lt _ _ _
        have hk := wk_le (ch p)
        exact Or.inr ⟨by omega, by omega⟩
theorem clsM_ok (ch : Nat → Nat) : ∀ (m p dk : Nat), ∀ c ∈ (clsM ch m p dk).2.2.1, okc c := by
  intro m
  induction m with
  | zero => intro p dk; exact clM_ok ch p dk
  | succ m ih =>
    intro p dk c hc
    unfold clsM at hc
    split at hc
    · rcases List.mem_append.mp hc with h | h
      · exact clM_ok ch p dk c h
      · exact ih _ _ c h
    · exact clM_ok ch p dk c hc
theorem evS_congr {nm nm2 : Nat → Int32} (h : ∀ j, j < 6 → nm j = nm2 j) : ∀ (cs : List Nat) (st : List Bool) (s : Int32), (∀ c ∈ cs, okc c) → evS nm cs st s = evS nm2 cs st s := by
  intro cs
  induction cs with
  | nil => intro st s _; rfl
  | cons c cs ih =>
    intro st s ho
    have h1 : ∀ x ∈ cs, okc x := fun x hx => ho x (List.mem_cons_of_mem _ hx)
    show (if c < 2000 ∨ 3000 < c then evS nm cs (ev1 nm c st) s else evS nm cs [] (s + gb c st)) = (if c < 2000 ∨ 3000 < c then evS nm2 cs (ev1 nm2 c st) s else evS nm2 cs [] (s + gb c st))
    rw [ih _ _ h1, ih [] _ h1]
    have e : c < 2000 ∨ 3000 < c → ev1 nm c st = ev1 nm2 c st := by
      intro hc
      unfold ev1
      by_cases h3 : c = 3001
      · rw [if_pos h3, if_pos h3]
      · rw [if_neg h3, if_neg h3]
        by_cases h4 : c = 3002
        · rw [if_pos h4, if_pos h4]
        · rw [if_neg h4, if_neg h4]
          by_cases h5 : c = 3003
          · rw [if_pos h5, if_pos h5]
          · rw [if_neg h5, if_neg h5]
            by_cases h6 : c < 1800
            · unfold tvB
              rw [h (c / 300) (by omega)]
            · rcases ho c List.mem_cons_self with z | z
              · omega
              · exfalso
                rcases hc with y | y
                · omega
                · omega
    by_cases hc : c < 2000 ∨ 3000 < c
    · rw [if_pos hc, if_pos hc, e hc]
    · rw [if_neg hc, if_neg hc]

def PS0 (q : S_) (ch : Nat → Nat) (n : Nat) : Prop := gI q 129 10 = nI n ∧ (∃ wi, wi ≤ 4 ∧ gI q 129 13 = nI wi) ∧ n ≤ 100 ∧ (∀ j, j < n → gI q 136 j = nI (ch j) ∧ ch j < 128) ∧ (∀ j, n ≤ j → ch j = 1000)
theorem Fr.letc {S : Nat → Nat → Prop} {q q2 : S_} (h : Fr S q q2) (hs : ∀ j, ¬ S 138 j) (hL : LetC q) : LetC q2 := fun j hj => (h.2 138 j (hs j)).trans (hL j hj)
theorem Fr.bgc {S : Nat → Nat → Prop} {q q2 : S_} (h : Fr S q q2) (hs : ∀ k j, k = 139 ∨ k = 140 → ¬ S k j) (hL : BgC q) : BgC q2 := ⟨fun j hj => (h.2 139 j (hs _ _ (Or.inl rfl))).trans (hL.1 j hj), fun j hj => (h.2 140 j (hs _ _ (Or.inr rfl))).trans (hL.2 j hj)⟩

set_option maxRecDepth 100000 in
set_option maxHeartbeats 4000000 in
theorem s_X9_readAll {G : GT} {q : S_} {ch : Nat → Nat} {n : Nat}  (h0 : PS0 q ch n) (hL : LetC q) (hB : BgC q) : Spec G 20 yX9_readAll cX9_readAll 2 (some .boolean) [rfn G 129] q (PI (fun r q3 => r = bP ((clsM ch 9 0 0).1 = true ∧ (clsM ch 9 0 0).2.1 = n) ∧ (∃ w2, PS q3 ch n (clsM ch 9 0 0).2.1 (clsM ch 9 0 0).1 w2) ∧ Fr SCk q q3 ∧ gI q3 129 15 = nI (clsM ch 9 0 0).2.2.2 ∧ ((clsM ch 9 0 0).1 = true → gI q3 129 14 = evS (gI q 137) (clsM ch 9 0 0).2.2.1 [] (nI 3)))) := by
  refine Spec.intro RX9 (by decide) rfl (Nat.le_of_ble_eq_true rfl) [some (rfn G 129), none] rfl ?_
  intro X d hd C hR
  obtain ⟨a1, ⟨wi, a2, a3⟩, a4, a5, a6⟩ := h0
  refine aw_aload_0 C dX9_readAll_0 rfl ?_
  refine aw_iconst C dX9_readAll_1 k1_0 ?_
  refine aw_p9_11 C dX9_readAll_2 fl_X9_157 ?_
  refine aw_aload_0 C dX9_readAll_5 rfl ?_
  refine aw_iconst C dX9_readAll_6 k1_1 ?_
  refine aw_p9_12 C dX9_readAll_7 (by decide) (by decide) fl_X9_154 ?_
  refine aw_aload_0 C dX9_readAll_10 rfl ?_
  refine aw_iconst C dX9_readAll_11 k1_3 ?_
  refine aw_p9_14 C dX9_readAll_12 fl_X9_196 ?_
  refine aw_aload_0 C dX9_readAll_15 rfl ?_
  refine aw_iconst C dX9_readAll_16 k1_0 ?_
  refine aw_p9_15 C dX9_readAll_17 fl_X9_193 ?_
  refine aw_iconst C dX9_readAll_20 k1_1 ?_
  refine aw_istore_1 C dX9_readAll_21 (by decide) (fun w h => by cases h <;> rfl) ?_
  refine aw_aload_0 C dX9_readAll_22 rfl ?_
  have hP : PS (sI (sI (sI (sI q 129 11 (nI 0)) 129 12 (nI 1)) 129 14 (nI 3)) 129 15 (nI 0)) ch n 0 true wi := by
    refine ⟨?_, ?_, ?_, ?_, a4, Nat.zero_le _, fun j hj => ?_, a6, a2⟩
    · simp only [gI_sI]; exact a1
    · simp only [gI_sI]; rfl
    · simp only [gI_sI]; rfl
    · simp only [gI_sI]; exact a3
    · simp only [gI_sI]; exact a5 j hj
  have hF0 : Fr SCk q (sI (sI (sI (sI q 129 11 (nI 0)) 129 12 (nI 1)) 129 14 (nI 3)) 129 15 (nI 0)) := (((Fr.set (by unfold SCk; omega)).put (by unfold SCk; omega)).put (by unfold SCk; omega)).put (by unfold SCk; omega)
  have n137 : ∀ q2, Fr SCk q q2 → gI q2 137 = gI q 137 := fun q2 h => funext fun j => h.2 137 j (by unfold SCk; omega)
  refine aw_cV0V C (s_X9_clause hP (hF0.letc (fun j z => by unfold SCk at z; omega) hL) (hF0.bgc (fun k j e z => by unfold SCk at z; omega) hB) (dk := 0) rfl) mf_X9_clause mv_X9_clause (sh_129) rfl ml_X9_199 dX9_readAll_23 (by omega) (Nat.le_of_ble_eq_true rfl) (fun q_23 h_23 => ?_)
  obtain ⟨⟨w2, hP2⟩, hF2, hd2, hs2⟩ := h_23
  rw [n137 _ hF0, show gI (sI (sI (sI (sI q 129 11 (nI 0)) 129 12 (nI 1)) 129 14 (nI 3)) 129 15 (nI 0)) 129 14 = nI 3 from rfl] at hs2
  have L26 : ∀ (n2 m : Nat) (z : Zc) (w2 : Nat) (q1 : S_), m ≤ 10 → 10 < m + n2 → PS q1 ch n z.2.1 z.1 w2 → Fr SCk q q1 → gI q1 129 15 = nI z.2.2.2 → (z.1 = true → gI q1 129 14 = evS (gI q 137) z.2.2.1 [] (nI 3)) → Clo (gI q 137) z.2.2.1 → clsM ch 9 0 0 = contc ch (10 - m) z → AW X G (q1) 26 [some (rfn G 129), some (.int (nI m))] [] := by
    refine nat_loop (fun m z w2 q1 h1 h2 hP1 hF1 hd1 hs1 hc1 hz1 => by omega) (fun n2 ih m z w2 q1 h1 h2 hP1 hF1 hd1 hs1 hc1 hz1 => ?_)
    have hb1 := hP1.bd
    refine aw_iload_1 C dX9_readAll_26 ?_
    refine aw_bipush C dX9_readAll_27 k2_10 ?_
    refine aw_icmp_ge_n C dX9_readAll_29 (tgt := 61) (by decide) (by omega) (by omega) (fun c_29 => ?_) (fun c_29 => ?_)
    · skip
      refine aw_aload_0 C dX9_readAll_61 rfl ?_
      refine aw_g9_12 C hP1.2.2.1 dX9_readAll_62 fl_X9_154 ?_
      refine aw_if_eq_b C dX9_readAll_65 (tgt := 83) (by decide)  (fun c_65 => ?_) (fun c_65 => ?_)
      · skip
        refine aw_iconst C dX9_readAll_83 k1_0 ?_
        refine aw_iretZ C hR dX9_readAll_84 (by first | rfl | exact bP_nar) ?_
        have hzz : clsM ch 9 0 0 = z := hz1.trans (by rw [show 10 - m = 0 by omega]; rfl)
        rw [hzz]
        exact ⟨(bP_f (fun z => c_65 z.1)).symm, ⟨w2, hP1⟩, hF1, hd1, hs1⟩
      · skip
        refine aw_aload_0 C dX9_readAll_68 rfl ?_
        refine aw_g9_11 C hP1.2.1 dX9_readAll_69 fl_X9_157 ?_
        refine aw_aload_0 C dX9_readAll_72 rfl ?_
        refine aw_g9_10 C hP1.1 dX9_readAll_73 fl_X9_160 ?_
        refine aw_icmp_ne_n C dX9_readAll_76 (tgt := 83) (by decide) (by omega) (by omega) (fun c_76 => ?_) (fun c_76 => ?_)
        · skip
          refine aw_iconst C dX9_readAll_83 k1_0 ?_
          refine aw_iretZ C hR dX9_readAll_84 (by first | rfl | exact bP_nar) ?_
          have hzz : clsM ch 9 0 0 = z := hz1.trans (by rw [show 10 - m = 0 by omega]; rfl)
          rw [hzz]
          exact ⟨(bP_f (fun z => c_76 z.2)).symm, ⟨w2, hP1⟩, hF1, hd1, hs1⟩
        · skip
          refine aw_iconst C dX9_readAll_79 k1_1 ?_
          refine aw_goto C dX9_readAll_80 (tgt := 84) (by decide) ?_
          refine aw_iretZ C hR dX9_readAll_84 (by first | rfl | exact bP_nar) ?_
          have hzz : clsM ch 9 0 0 = z := hz1.trans (by rw [show 10 - m = 0 by omega]; rfl)
          rw [hzz]
          exact ⟨(bP_t ⟨c_65, c_76⟩).symm, ⟨w2, hP1⟩, hF1, hd1, hs1⟩
    · skip
      refine aw_aload_0 C dX9_readAll_32 rfl ?_
      refine aw_bipush C dX9_readAll_33 k2_59 ?_
      refine aw_cV1IE C (s_X9_isAt _ hP1 (by omega)) mf_X9_isAt mv_X9_isAt (sh_129) rfl ml_X9_163 dX9_readAll_35 (by omega) (Nat.le_of_ble_eq_true rfl) ?_
      refine aw_if_eq_b C dX9_readAll_38 (tgt := 61) (by decide)  (fun c_38 => ?_) (fun c_38 => ?_)
      · skip
        refine aw_aload_0 C dX9_readAll_61 rfl ?_
        refine aw_g9_12 C hP1.2.2.1 dX9_readAll_62 fl_X9_154 ?_
        refine aw_if_eq_b C dX9_readAll_65 (tgt := 83) (by decide)  (fun c_65 => ?_) (fun c_65 => ?_)
        · skip
          refine aw_iconst C dX9_readAll_83 k1_0 ?_
          refine aw_iretZ C hR dX9_readAll_84 (by first | rfl | exact bP_nar) ?_
          have hzz : clsM ch 9 0 0 = z := hz1.trans (by rw [show 10 - m = (9 - m) + 1 by omega]; exact if_neg c_38)
          rw [hzz]
          exact ⟨(bP_f (fun z => c_65 z.1)).symm, ⟨w2, hP1⟩, hF1, hd1, hs1⟩
        · skip
          refine aw_aload_0 C dX9_readAll_68 rfl ?_
          refine aw_g9_11 C hP1.2.1 dX9_readAll_69 fl_X9_157 ?_
          refine aw_aload_0 C dX9_readAll_72 rfl ?_
          refine aw_g9_10 C hP1.1 dX9_readAll_73 fl_X9_160 ?_
          refine aw_icmp_ne_n C dX9_readAll_76 (tgt := 83) (by decide) (by omega) (by omega) (fun c_76 => ?_) (fun c_76 => ?_)
          · skip
            refine aw_iconst C dX9_readAll_83 k1_0 ?_
            refine aw_iretZ C hR dX9_readAll_84 (by first | rfl | exact bP_nar) ?_
            have hzz : clsM ch 9 0 0 = z := hz1.trans (by rw [show 10 - m = (9 - m) + 1 by omega]; exact if_neg c_38)
            rw [hzz]
            exact ⟨(bP_f (fun z => c_76 z.2)).symm, ⟨w2, hP1⟩, hF1, hd1, hs1⟩
          · skip
            refine aw_iconst C dX9_readAll_79 k1_1 ?_
            refine aw_goto C dX9_readAll_80 (tgt := 84) (by decide) ?_
            refine aw_iretZ C hR dX9_readAll_84 (by first | rfl | exact bP_nar) ?_
            have hzz : clsM ch 9 0 0 = z := hz1.trans (by rw [show 10 - m = (9 - m) + 1 by omega]; exact if_neg c_38)
            rw [hzz]
            exact ⟨(bP_t ⟨c_65, c_76⟩).symm, ⟨w2, hP1⟩, hF1, hd1, hs1⟩
      · have hlt2 := hP1.lt (j := z.2.1) (by omega)
        have hP3 := hP1.at (p2 := z.2.1 + 1) (by omega)
        rw [c_38.1] at hP3
        have hF3 : Fr SCk q (sI q1 129 11 (nI (z.2.1 + 1))) := hF1.put (by unfold SCk; omega)
        refine aw_aload_0 C dX9_readAll_41 rfl ?_
        refine aw_dup C dX9_readAll_42 rfl ?_
        refine aw_g9_11 C hP1.2.1 dX9_readAll_43 fl_X9_157 ?_
        refine aw_iconst C dX9_readAll_46 k1_1 ?_
        refine aw_iadd_n C dX9_readAll_47  ?_
        refine aw_p9_11 C dX9_readAll_48 fl_X9_157 ?_
        refine aw_aload_0 C dX9_readAll_51 rfl ?_
        refine aw_cV0V C (s_X9_clause hP3 (hF3.letc (fun j z => by unfold SCk at z; omega) hL) (hF3.bgc (fun k j e z => by unfold SCk at z; omega) hB) (dk := z.2.2.2) (by rw [gI_sI, if_neg (by omega)]; exact hd1)) mf_X9_clause mv_X9_clause (sh_129) rfl ml_X9_199 dX9_readAll_52 (by omega) (Nat.le_of_ble_eq_true rfl) (fun q_52 h_52 => ?_)
        obtain ⟨⟨w4, hP4⟩, hF4, hd4, hs4⟩ := h_52
        rw [n137 _ hF3, gI_sI, if_neg (by omega)] at hs4
        refine aw_iinc_1 C dX9_readAll_55 (by decide) (fun w h => by cases h <;> rfl) (show _ + Int32.ofInt 1 = _ by rw [k1_1, nI_add]) ?_
        refine aw_goto C dX9_readAll_58 (tgt := 26) (by decide) ?_
        rw [show 10 - m = (10 - (m + 1)) + 1 by omega, contc_s ch _ z c_38] at hz1
        exact ih (m + 1) (cmb z (clM ch (z.2.1 + 1) z.2.2.2)) w4 q_52 (by omega) (by omega) hP4 (hF3.tr hF4) hd4 (fun ht => by rw [hs4 ht, hs1 c_38.1]; exact (hc1 _ _).symm) (hc1.app (clM_clo _ _ _ _)) hz1
  exact L26 10 1 _ w2 q_23 (by omega) (by omega) hP2 (hF0.tr hF2) hd2 hs2 (clM_clo _ _ _ _) (clsM_c ch 9 0 0)

/-! LEAVE -/
def chO (l : List Nat) (j : Nat) : Nat := l.getD j 1000
def CitR (q : S_) (cts : Nat → List Nat) : Prop := ∀ k, k < 6 → gI q 135 k = nI (cts k).length ∧ (cts k).length ≤ 100 ∧ ∀ j, j < (cts k).length → gI q 134 (100 * k + j) = nI (chO (cts k) j) ∧ chO (cts k) j < 128
def wiR (q : S_) : Prop := ∃ wi, wi ≤ 4 ∧ gI q 129 13 = nI wi
def RE (q : S_) (cts : Nat → List Nat) : Prop := LetC q ∧ BgC q ∧ CitR q cts ∧ wiR q
/-- a text that is a city -/
def isC (l : List Nat) : Prop := (clsM (chO l) 9 0 0).1 = true ∧ (clsM (chO l) 9 0 0).2.1 = l.length
def Goo (M : Nat → Nat) (cts : Nat → List Nat) : Prop := ∀ k, k < M 95 → isC (cts k)
def SQk (k j : Nat) : Prop := k = 136 ∨ k = 137 ∨ (k = 129 ∧ 10 ≤ j ∧ j ≤ 15)
theorem Fr.qc {q q2 : S_} (h : Fr SCk q q2) : Fr SQk q q2 := h.mono (fun k j z => Or.inr (Or.inr ⟨z.1, by have := z.2.1; omega, z.2.2⟩))
theorem Fr.re {S : Nat → Nat → Prop} {q q2 : S_} {cts : Nat → List Nat} (h : Fr S q q2) (hs : ∀ k j, (k = 134 ∨ k = 135 ∨ k = 138 ∨ k = 139 ∨ k = 140) → ¬ S k j) (hE : RE q cts) (hw : wiR q2) : RE q2 cts := by
  obtain ⟨h1, h2, h3, h4⟩ := hE
  refine ⟨h.letc (fun j => hs _ _ (by omega)) h1, h.bgc (fun k j e => hs _ _ (by omega)) h2, fun k hk => ?_, hw⟩
  obtain ⟨a, b, c⟩ := h3 k hk
  exact ⟨(h.2 135 k (hs _ _ (by omega))).trans a, b, fun j hj => ⟨(h.2 134 _ (hs _ _ (by omega))).trans (c j hj).1, (c j hj).2⟩⟩
def nmv (M : Nat → Nat) (i b n : Nat) (j : Nat) : Int32 := nI ([i, M (32 + 10 * i + 0), M (32 + 10 * i + 1), b, n, M 94 % 10].getD j 0)
def sumX (M : Nat → Nat) (cts : Nat → List Nat) (i b n : Nat) : Int32 := if M 95 = 0 then nI 3 else evS (nmv M i b n) (clsM (chO (cts (M 95 - 1))) 9 0 0).2.2.1 [] (nI 3)
def sumM (M : Nat → Nat) (cts : Nat → List Nat) (i b : Nat) : Int32 := sumX M cts i b (pop (M (32 + 10 * i + 5)))
def darkM (M : Nat → Nat) (cts : Nat → List Nat) : Nat := if M 95 = 0 then 0 else (clsM (chO (cts (M 95 - 1))) 9 0 0).2.2.2

set_option maxRecDepth 100000 in
set_option maxHeartbeats 4000000 in
theorem s_X9_readFor {G : GT} {q : S_} {M : Nat → Nat} {cts : Nat → List Nat} (i b : Nat) (hM : RelR q M) (hW : WF M) (hE : RE q cts) (hG : Goo M cts) (hi : i < 6) (hb : b < 8) : Spec G 21 yX9_readFor cX9_readFor 5 none [rfn G 129, .int (nI i), .int (nI b)] q (PV (fun q3 => gI q3 129 14 = sumX M cts i b (pop (M (32 + 10 * i + 5))) ∧ gI q3 129 15 = nI (darkM M cts) ∧ Fr SQk q q3 ∧ RE q3 cts)) := by
  refine Spec.intro RX9 (by decide) rfl (Nat.le_of_ble_eq_true rfl) [some (rfn G 129), some (.int (nI i)), some (.int (nI b)), none, none] rfl ?_
  intro X d hd C hR
  have hc := hW.c
  have hh := hW.h6 hi
  have hF : ∀ j v q2, Fr SQk q q2 → Fr SQk q (sI q2 137 j v) := fun j v q2 h => h.put (Or.inr (Or.inl rfl))
  refine aw_aload_0 C dX9_readFor_0 rfl ?_
  refine aw_g9_16 C dX9_readFor_1 fl_X9_33 ?_
  refine aw_iconst C dX9_readFor_4 k1_0 ?_
  refine aw_iload_1 C dX9_readFor_5 ?_
  refine aw_iast C _ dX9_readFor_6 sh_137 rfl (by decide) ?_
  refine aw_aload_0 C dX9_readFor_7 rfl ?_
  refine aw_g9_16 C dX9_readFor_8 fl_X9_33 ?_
  refine aw_iconst C dX9_readFor_11 k1_1 ?_
  refine aw_aload_0 C dX9_readFor_12 rfl ?_
  refine aw_iload_1 C dX9_readFor_13 ?_
  refine aw_iconst C dX9_readFor_14 k1_0 ?_
  refine aw_cV2IE C (s_X9_oneN ((hF 0 (nI i) q Fr.rf).rel (fun j z => by unfold SQk at z; omega) hM) i 0 rfl (by omega) (by unfold isOpt; omega)) mf_X9_one mv_X9_one (sh_129) rfl ml_X9_102 dX9_readFor_15 (by omega) (Nat.le_of_ble_eq_true rfl) ?_
  refine aw_iast C _ dX9_readFor_18 sh_137 rfl (by decide) ?_
  refine aw_aload_0 C dX9_readFor_19 rfl ?_
  refine aw_g9_16 C dX9_readFor_20 fl_X9_33 ?_
  refine aw_iconst C dX9_readFor_23 k1_2 ?_
  refine aw_aload_0 C dX9_readFor_24 rfl ?_
  refine aw_iload_1 C dX9_readFor_25 ?_
  refine aw_iconst C dX9_readFor_26 k1_1 ?_
  refine aw_cV2IE C (s_X9_oneN ((hF 1 _ _ (hF 0 (nI i) q Fr.rf)).rel (fun j z => by unfold SQk at z; omega) hM) i 1 rfl (by omega) (by unfold isOpt; omega)) mf_X9_one mv_X9_one (sh_129) rfl ml_X9_102 dX9_readFor_27 (by omega) (Nat.le_of_ble_eq_true rfl) ?_
  refine aw_iast C _ dX9_readFor_30 sh_137 rfl (by decide) ?_
  refine aw_aload_0 C dX9_readFor_31 rfl ?_
  refine aw_g9_16 C dX9_readFor_32 fl_X9_33 ?_
  refine aw_iconst C dX9_readFor_35 k1_3 ?_
  refine aw_iload_2 C dX9_readFor_36 ?_
  refine aw_iast C _ dX9_readFor_37 sh_137 rfl (by decide) ?_
  refine aw_aload_0 C dX9_readFor_38 rfl ?_
  refine aw_g9_16 C dX9_readFor_39 fl_X9_33 ?_
  refine aw_iconst C dX9_readFor_42 k1_4 ?_
  refine aw_aload_0 C dX9_readFor_43 rfl ?_
  refine aw_iload_1 C dX9_readFor_44 ?_
  refine aw_iconst C dX9_readFor_45 k1_5 ?_
  refine aw_cV2IE C (s_X9_oneN ((hF 3 _ _ (hF 2 _ _ (hF 1 _ _ (hF 0 (nI i) q Fr.rf)))).rel (fun j z => by unfold SQk at z; omega) hM) i 5 rfl (by omega) (by unfold isOpt; omega)) mf_X9_one mv_X9_one (sh_129) rfl ml_X9_102 dX9_readFor_46 (by omega) (Nat.le_of_ble_eq_true rfl) ?_
  refine aw_cS1IE C (s_X9_many _ (by omega)) mf_X9_many ms_X9_many ml_X9_202 dX9_readFor_49 (by omega) (Nat.le_of_ble_eq_true rfl) ?_
  refine aw_iast C _ dX9_readFor_52 sh_137 rfl (by decide) ?_
  refine aw_aload_0 C dX9_readFor_53 rfl ?_
  refine aw_g9_16 C dX9_readFor_54 fl_X9_33 ?_
  refine aw_iconst C dX9_readFor_57 k1_5 ?_
  refine aw_aload_0 C dX9_readFor_58 rfl ?_
  refine aw_g9_0 C dX9_readFor_59 fl_X9_9 ?_
  refine aw_bipush C dX9_readFor_62 k2_94 ?_
  refine aw_iald C _ (((hF 4 _ _ (hF 3 _ _ (hF 2 _ _ (hF 1 _ _ (hF 0 (nI i) q Fr.rf))))).rel (fun j z => by unfold SQk at z; omega) hM).n (by omega) (by decide)) dX9_readFor_64 sh_130 rfl (by decide) ?_
  refine aw_bipush C dX9_readFor_65 k2_10 ?_
  refine aw_irem_n C dX9_readFor_67 (by omega) (by omega) (by omega) ?_
  refine aw_iast C _ dX9_readFor_68 sh_137 rfl (by decide) ?_
  have hF6 : Fr SQk q (sI (sI (sI (sI (sI (sI q 137 0 (nI i)) 137 1 (nI (M (32 + 10 * i + 0)))) 137 2 (nI (M (32 + 10 * i + 1)))) 137 3 (nI b)) 137 4 (nI (pop (M (32 + 10 * i + 5))))) 137 5 (nI (M 94 % 10))) := hF 5 _ _ (hF 4 _ _ (hF 3 _ _ (hF 2 _ _ (hF 1 _ _ (hF 0 (nI i) q Fr.rf)))))
  have hM6 := hF6.rel (fun j z => by unfold SQk at z; omega) hM
  have hE6 := hF6.re (fun k j e z => by unfold SQk at z; omega) hE (by obtain ⟨wi, w1, w2⟩ := hE.2.2.2; exact ⟨wi, w1, by simp only [gI_sI]; exact w2⟩)
  have hnm : ∀ j, j < 6 → gI (sI (sI (sI (sI (sI (sI q 137 0 (nI i)) 137 1 (nI (M (32 + 10 * i + 0)))) 137 2 (nI (M (32 + 10 * i + 1)))) 137 3 (nI b)) 137 4 (nI (pop (M (32 + 10 * i + 5))))) 137 5 (nI (M 94 % 10))) 137 j = nmv M i b (pop (M (32 + 10 * i + 5))) j := by
    intro j hj
    have : j = 0 ∨ j = 1 ∨ j = 2 ∨ j = 3 ∨ j = 4 ∨ j = 5 := by omega
    rcases this with rfl | rfl | rfl | rfl | rfl | rfl <;> rfl
  generalize hq6 : (sI (sI (sI (sI (sI (sI q 137 0 (nI i)) 137 1 (nI (M (32 + 10 * i + 0)))) 137 2 (nI (M (32 + 10 * i + 1)))) 137 3 (nI b)) 137 4 (nI (pop (M (32 + 10 * i + 5))))) 137 5 (nI (M 94 % 10))) = q6 at hF6 hM6 hE6 hnm ⊢
  refine aw_aload_0 C dX9_readFor_69 rfl ?_
  refine aw_g9_0 C dX9_readFor_70 fl_X9_9 ?_
  refine aw_bipush C dX9_readFor_73 k2_95 ?_
  refine aw_iald C _ (hM6.n (by omega) (by decide)) dX9_readFor_75 sh_130 rfl (by decide) ?_
  refine aw_if_ne_n C dX9_readFor_76 (tgt := 90) (by decide) (by omega) (fun c_76 => ?_) (fun c_76 => ?_)
  · skip
    have hC := hE6.2.2.1 (M 95 - 1) (by omega)
    refine aw_aload_0 C dX9_readFor_90 rfl ?_
    refine aw_g9_0 C dX9_readFor_91 fl_X9_9 ?_
    refine aw_bipush C dX9_readFor_94 k2_95 ?_
    refine aw_iald C _ (hM6.n (by omega) (by decide)) dX9_readFor_96 sh_130 rfl (by decide) ?_
    refine aw_iconst C dX9_readFor_97 k1_1 ?_
    refine aw_isub_n C dX9_readFor_98 (by omega) ?_
    refine aw_istore_3 C dX9_readFor_99 (by decide) (fun w h => by cases h <;> rfl) ?_
    refine aw_aload_0 C dX9_readFor_100 rfl ?_
    refine aw_aload_0 C dX9_readFor_101 rfl ?_
    refine aw_g9_7 C dX9_readFor_102 fl_X9_27 ?_
    refine aw_iload_3 C dX9_readFor_105 ?_
    refine aw_iald C _ hC.1 dX9_readFor_106 sh_135 rfl (by omega) ?_
    refine aw_p9_10 C dX9_readFor_107 fl_X9_160 ?_
    refine aw_iconst C dX9_readFor_110 k1_0 ?_
    refine aw_istore_4 C dX9_readFor_111 (by decide) (fun w h => by cases h <;> rfl) ?_
    have L113 : ∀ (n2 k : Nat) (q1 : S_), k ≤ (cts (M 95 - 1)).length → (cts (M 95 - 1)).length < k + n2 → Fr (fun k j => k = 136 ∨ (k = 129 ∧ j = 10)) q6 q1 → gI q1 129 10 = nI (cts (M 95 - 1)).length → (∀ j, j < k → gI q1 136 j = nI (chO (cts (M 95 - 1)) j)) → AW X G (q1) 113 [some (rfn G 129), some (.int (nI i)), some (.int (nI b)), some (.int (nI (M 95 - 1))), some (.int (nI k))] [] := by
      refine nat_loop (fun k q1 h1 h2 hF1 hsz hrd => by omega) (fun n2 ih k q1 h1 h2 hF1 hsz hrd => ?_)
      refine aw_iload_4 C dX9_readFor_113 ?_
      refine aw_aload_0 C dX9_readFor_115 rfl ?_
      refine aw_g9_10 C hsz dX9_readFor_116 fl_X9_160 ?_
      refine aw_icmp_ge_n C dX9_readFor_119 (tgt := 147) (by decide) (by omega) (by omega) (fun c_119 => ?_) (fun c_119 => ?_)
      · skip
        have hk : k = (cts (M 95 - 1)).length := by omega
        subst hk
        have hF2 : Fr SQk q6 q1 := hF1.mono (fun k j z => by unfold SQk; omega)
        have hP0 : PS0 q1 (chO (cts (M 95 - 1))) (cts (M 95 - 1)).length := ⟨hsz, by obtain ⟨wi, w1, w2⟩ := hE6.2.2.2; exact ⟨wi, w1, (hF1.2 129 13 (by omega)).trans w2⟩, hC.2.1, fun j hj => ⟨hrd j hj, (hC.2.2 j hj).2⟩, fun j hj => by unfold chO; rw [List.getD_eq_getElem?_getD, List.getElem?_eq_none hj]; rfl⟩
        refine aw_aload_0 C dX9_readFor_147 rfl ?_
        refine aw_cV0I C (s_X9_readAll hP0 (hF2.letc (fun j z => by unfold SQk at z; omega) hE6.1) (hF2.bgc (fun k j e z => by unfold SQk at z; omega) hE6.2.1)) mf_X9_readAll mv_X9_readAll (sh_129) rfl ml_X9_205 dX9_readFor_148 (by omega) (Nat.le_of_ble_eq_true rfl) (fun r_148 q_148 h_148 => ?_)
        obtain ⟨-, ⟨w2, hP2⟩, hF3, hd3, hs3⟩ := h_148
        refine aw_pop C dX9_readFor_151 rfl ?_
        refine aw_vretV C hR dX9_readFor_152 ?_
        have hg := hG (M 95 - 1) (by omega)
        refine ⟨?_, ?_, hF6.tr (hF2.tr hF3.qc), (hF2.tr hF3.qc).re (fun k j e z => by unfold SQk at z; omega) hE6 ⟨w2, hP2.bd.2.2, hP2.2.2.2.1⟩⟩
        · rw [hs3 hg.1]
          unfold sumX
          rw [if_neg c_76]
          refine evS_congr (fun j hj => ?_) _ _ _ (clsM_ok _ _ _ _)
          rw [hF1.2 137 j (by omega)]
          exact hnm j hj
        · rw [hd3]
          unfold darkM
          rw [if_neg c_76]
      · skip
        refine aw_aload_0 C dX9_readFor_122 rfl ?_
        refine aw_g9_9 C dX9_readFor_123 fl_X9_30 ?_
        refine aw_iload_4 C dX9_readFor_126 ?_
        refine aw_aload_0 C dX9_readFor_128 rfl ?_
        refine aw_g9_6 C dX9_readFor_129 fl_X9_24 ?_
        refine aw_bipush C dX9_readFor_132 k2_100 ?_
        refine aw_iload_3 C dX9_readFor_134 ?_
        refine aw_imul_n C dX9_readFor_135  ?_
        refine aw_iload_4 C dX9_readFor_136 ?_
        refine aw_iadd_n C dX9_readFor_138  ?_
        refine aw_iald C _ ((hF1.2 134 (100 * (M 95 - 1) + k) (by omega)).trans (hC.2.2 k (by omega)).1) dX9_readFor_139 sh_134 rfl (by omega) ?_
        refine aw_iast C _ dX9_readFor_140 sh_136 rfl (by omega) ?_
        refine aw_iinc_4 C dX9_readFor_141 (by decide) (fun w h => by cases h <;> rfl) (show _ + Int32.ofInt 1 = _ by rw [k1_1, nI_add]) ?_
        refine aw_goto C dX9_readFor_144 (tgt := 113) (by decide) ?_
        exact ih (k + 1) _ (by omega) (by omega) (hF1.put (Or.inl rfl)) (by rw [gI_sI, if_neg (by omega)]; exact hsz) (fun j hj => by
          rw [gI_sI]
          split
          · next e => rw [e.2]
          · next e => exact hrd j (by omega))
    exact L113 101 0 _ (by omega) (by omega) (Fr.set (Or.inr ⟨rfl, rfl⟩)) (by rw [gI_sI, if_pos ⟨rfl, rfl⟩]) (fun j hj => absurd hj (Nat.not_lt_zero j))
  · skip
    refine aw_aload_0 C dX9_readFor_79 rfl ?_
    refine aw_iconst C dX9_readFor_80 k1_3 ?_
    refine aw_p9_14 C dX9_readFor_81 fl_X9_196 ?_
    refine aw_aload_0 C dX9_readFor_84 rfl ?_
    refine aw_iconst C dX9_readFor_85 k1_0 ?_
    refine aw_p9_15 C dX9_readFor_86 fl_X9_193 ?_
    refine aw_vretV C hR dX9_readFor_89 ?_
    exact ⟨by rw [gI_sI, if_neg (by omega), gI_sI, if_pos ⟨rfl, rfl⟩]; unfold sumX; rw [if_pos c_76], by rw [gI_sI, if_pos ⟨rfl, rfl⟩]; unfold darkM; rw [if_pos c_76], (hF6.put (Or.inr (Or.inr ⟨rfl, by omega, by omega⟩))).put (Or.inr (Or.inr ⟨rfl, by omega, by omega⟩)), ((Fr.set (S := SQk) (Or.inr (Or.inr ⟨rfl, by omega, by omega⟩))).put (Or.inr (Or.inr ⟨rfl, by omega, by omega⟩))).re (fun k j e z => by unfold SQk at z; omega) hE6 (by obtain ⟨wi, w1, w2⟩ := hE6.2.2.2; exact ⟨wi, w1, by simp only [gI_sI]; exact w2⟩)⟩

def leaveK (k : Nat) (s : Int32) (v h b rw4 : Nat) : Int32 := if k = 1 then s + nI v - (if b % 2 = 1 then nI 5 else nI 0) else if k = 2 then s / nI 2 else if k = 3 then s - nI (2 * h) else if k = 4 then (if 2 < h then nI 0 else s + nI v - (if b % 2 = 1 then nI 5 else nI 0)) else if k = 5 then s / nI 2 + nI 2 else if k = 6 then s - nI (2 * h) + nI rw4 - nI 4 else s
def leaveX (M : Nat → Nat) (cts : Nat → List Nat) (i b n : Nat) : Int32 := leaveK (M (32 + 10 * i + 0)) (sumX M cts i b n) (M (32 + 10 * i + 1)) n b (M (32 + 10 * i + (6 + b % 4)))
def leaveM (M : Nat → Nat) (cts : Nat → List Nat) (i b : Nat) : Int32 := leaveX M cts i b (pop (M (32 + 10 * i + 5)))

set_option maxRecDepth 100000 in
set_option maxHeartbeats 4000000 in
theorem s_X9_leave {G : GT} {q : S_} {M : Nat → Nat} {cts : Nat → List Nat} (i b : Nat) (hM : RelR q M) (hW : WF M) (hE : RE q cts) (hG : Goo M cts) (hi : i < M 92) (hb : b < 8) : Spec G 22 yX9_leave cX9_leave 5 (some .int) [rfn G 129, .int (nI i), .int (nI b)] q (PI (fun r q3 => r = leaveM M cts i b ∧ Fr SQk q q3 ∧ RE q3 cts)) := by
  refine Spec.intro RX9 (by decide) rfl (Nat.le_of_ble_eq_true rfl) [some (rfn G 129), some (.int (nI i)), some (.int (nI b)), none, none] rfl ?_
  intro X d hd C hR
  have hp := hW.p hi
  have hh := hW.half hi
  have hpl := pop_le (M (32 + 10 * i + 5))
  refine aw_aload_0 C dX9_leave_0 rfl ?_
  refine aw_iload_1 C dX9_leave_1 ?_
  refine aw_iload_2 C dX9_leave_2 ?_
  refine aw_cV2V C (s_X9_readFor _ _ hM hW hE hG (by omega) (by omega)) mf_X9_readFor mv_X9_readFor (sh_129) rfl ml_X9_211 dX9_leave_3 (by omega) (Nat.le_of_ble_eq_true rfl) (fun q_3 h_3 => ?_)
  obtain ⟨hs, hdk, hF, hE2⟩ := h_3
  replace hM : RelR q_3 M := hF.rel (fun j z => by unfold SQk at z; omega) hM
  refine aw_aload_0 C dX9_leave_6 rfl ?_
  refine aw_iload_1 C dX9_leave_7 ?_
  refine aw_iconst C dX9_leave_8 k1_5 ?_
  refine aw_cV2IE C (s_X9_oneN hM _ _ rfl (by omega) (by unfold isOpt; omega)) mf_X9_one mv_X9_one (sh_129) rfl ml_X9_102 dX9_leave_9 (by omega) (Nat.le_of_ble_eq_true rfl) ?_
  refine aw_cS1IE C (s_X9_many _ (by omega)) mf_X9_many ms_X9_many ml_X9_202 dX9_leave_12 (by omega) (Nat.le_of_ble_eq_true rfl) ?_
  refine aw_istore_3 C dX9_leave_15 (by decide) (fun w h => by cases h <;> rfl) ?_
  refine aw_aload_0 C dX9_leave_16 rfl ?_
  refine aw_g9_14 C hs dX9_leave_17 fl_X9_196 ?_
  refine aw_aload_0 C dX9_leave_20 rfl ?_
  refine aw_iload_1 C dX9_leave_21 ?_
  refine aw_iconst C dX9_leave_22 k1_1 ?_
  refine aw_cV2IE C (s_X9_oneN hM _ _ rfl (by omega) (by unfold isOpt; omega)) mf_X9_one mv_X9_one (sh_129) rfl ml_X9_102 dX9_leave_23 (by omega) (Nat.le_of_ble_eq_true rfl) ?_
  refine aw_iadd C dX9_leave_26  ?_
  refine aw_iload_2 C dX9_leave_27 ?_
  refine aw_iconst C dX9_leave_28 k1_2 ?_
  refine aw_irem_n C dX9_leave_29 (by omega) (by omega) (by omega) ?_
  refine aw_iconst C dX9_leave_30 k1_1 ?_
  refine aw_icmp_ne_n C dX9_leave_31 (tgt := 38) (by decide) (by omega) (by omega) (fun c_31 => ?_) (fun c_31 => ?_)
  · skip
    refine aw_iconst C dX9_leave_38 k1_0 ?_
    refine aw_isub C dX9_leave_39  ?_
    refine aw_istore_4 C dX9_leave_40 (by decide) (fun w h => by cases h <;> rfl) ?_
    refine aw_aload_0 C dX9_leave_42 rfl ?_
    refine aw_iload_1 C dX9_leave_43 ?_
    refine aw_iconst C dX9_leave_44 k1_0 ?_
    refine aw_cV2IE C (s_X9_oneN hM _ _ rfl (by omega) (by unfold isOpt; omega)) mf_X9_one mv_X9_one (sh_129) rfl ml_X9_102 dX9_leave_45 (by omega) (Nat.le_of_ble_eq_true rfl) ?_
    rcases (show M (32 + 10 * i + 0) = 0 ∨ M (32 + 10 * i + 0) = 1 ∨ M (32 + 10 * i + 0) = 2 ∨ M (32 + 10 * i + 0) = 3 ∨ M (32 + 10 * i + 0) = 4 ∨ M (32 + 10 * i + 0) = 5 ∨ M (32 + 10 * i + 0) = 6 by omega) with e | e | e | e | e | e | e
    · rw [e]
      refine aw_tableOut C dX9_leave_48 (tgt := 151) (Or.inl (by decide +kernel)) (by decide) ?_
      refine aw_aload_0 C dX9_leave_151 rfl ?_
      refine aw_g9_14 C hs dX9_leave_152 fl_X9_196 ?_
      refine aw_iretI C hR dX9_leave_155 ?_
      exact ⟨by unfold leaveM leaveX leaveK; rw [e]; rfl, hF, hE2⟩
    · rw [e]
      refine aw_tableIn C dX9_leave_48 (tgt := 88) (by decide +kernel) (by decide +kernel) (off := 40) (by decide +kernel) (by decide) ?_
      refine aw_iload_4 C dX9_leave_88 ?_
      refine aw_iretI C hR dX9_leave_90 ?_
      exact ⟨by unfold leaveM leaveX leaveK; rw [e, if_pos rfl, if_neg c_31], hF, hE2⟩
    · rw [e]
      refine aw_tableIn C dX9_leave_48 (tgt := 91) (by decide +kernel) (by decide +kernel) (off := 43) (by decide +kernel) (by decide) ?_
      refine aw_aload_0 C dX9_leave_91 rfl ?_
      refine aw_g9_14 C hs dX9_leave_92 fl_X9_196 ?_
      refine aw_iconst C dX9_leave_95 k1_2 ?_
      refine aw_idiv C dX9_leave_96 (by decide +kernel) ?_
      refine aw_iretI C hR dX9_leave_97 ?_
      exact ⟨by unfold leaveM leaveX leaveK; rw [e]; rfl, hF, hE2⟩
    · rw [e]
      refine aw_tableIn C dX9_leave_48 (tgt := 98) (by decide +kernel) (by decide +kernel) (off := 50) (by decide +kernel) (by decide) ?_
      refine aw_aload_0 C dX9_leave_98 rfl ?_
      refine aw_g9_14 C hs dX9_leave_99 fl_X9_196 ?_
      refine aw_iconst C dX9_leave_102 k1_2 ?_
      refine aw_iload_3 C dX9_leave_103 ?_
      refine aw_imul_n C dX9_leave_104  ?_
      refine aw_isub C dX9_leave_105  ?_
      refine aw_iretI C hR dX9_leave_106 ?_
      exact ⟨by unfold leaveM leaveX leaveK; rw [e]; rfl, hF, hE2⟩
    · rw [e]
      refine aw_tableIn C dX9_leave_48 (tgt := 107) (by decide +kernel) (by decide +kernel) (off := 59) (by decide +kernel) (by decide) ?_
      refine aw_iload_3 C dX9_leave_107 ?_
      refine aw_iconst C dX9_leave_108 k1_2 ?_
      refine aw_icmp_le_n C dX9_leave_109 (tgt := 116) (by decide) (by omega) (by omega) (fun c_109 => ?_) (fun c_109 => ?_)
      · skip
        refine aw_iload_4 C dX9_leave_116 ?_
        refine aw_iretI C hR dX9_leave_118 ?_
        exact ⟨by unfold leaveM leaveX leaveK; rw [e, if_neg c_31]; exact (if_neg (by omega)).symm, hF, hE2⟩
      · skip
        refine aw_iconst C dX9_leave_112 k1_0 ?_
        refine aw_goto C dX9_leave_113 (tgt := 118) (by decide) ?_
        refine aw_iretI C hR dX9_leave_118 ?_
        exact ⟨by unfold leaveM leaveX leaveK; rw [e]; exact (if_pos (by omega)).symm, hF, hE2⟩
    · rw [e]
      refine aw_tableIn C dX9_leave_48 (tgt := 119) (by decide +kernel) (by decide +kernel) (off := 71) (by decide +kernel) (by decide) ?_
      refine aw_aload_0 C dX9_leave_119 rfl ?_
      refine aw_g9_14 C hs dX9_leave_120 fl_X9_196 ?_
      refine aw_iconst C dX9_leave_123 k1_2 ?_
      refine aw_idiv C dX9_leave_124 (by decide +kernel) ?_
      refine aw_iconst C dX9_leave_125 k1_2 ?_
      refine aw_iadd C dX9_leave_126  ?_
      refine aw_iretI C hR dX9_leave_127 ?_
      exact ⟨by unfold leaveM leaveX leaveK; rw [e]; rfl, hF, hE2⟩
    · rw [e]
      refine aw_tableIn C dX9_leave_48 (tgt := 128) (by decide +kernel) (by decide +kernel) (off := 80) (by decide +kernel) (by decide) ?_
      refine aw_aload_0 C dX9_leave_128 rfl ?_
      refine aw_g9_14 C hs dX9_leave_129 fl_X9_196 ?_
      refine aw_iconst C dX9_leave_132 k1_2 ?_
      refine aw_iload_3 C dX9_leave_133 ?_
      refine aw_imul_n C dX9_leave_134  ?_
      refine aw_isub C dX9_leave_135  ?_
      refine aw_aload_0 C dX9_leave_136 rfl ?_
      refine aw_iload_1 C dX9_leave_137 ?_
      refine aw_bipush C dX9_leave_138 k2_6 ?_
      refine aw_iload_2 C dX9_leave_140 ?_
      refine aw_iconst C dX9_leave_141 k1_4 ?_
      refine aw_irem_n C dX9_leave_142 (by omega) (by omega) (by omega) ?_
      refine aw_iadd_n C dX9_leave_143  ?_
      refine aw_cV2IE C (s_X9_oneN hM i (6 + b % 4) rfl (by omega) (by unfold isOpt; omega)) mf_X9_one mv_X9_one (sh_129) rfl ml_X9_102 dX9_leave_144 (by omega) (Nat.le_of_ble_eq_true rfl) ?_
      refine aw_iadd C dX9_leave_147  ?_
      refine aw_iconst C dX9_leave_148 k1_4 ?_
      refine aw_isub C dX9_leave_149  ?_
      refine aw_iretI C hR dX9_leave_150 ?_
      exact ⟨by unfold leaveM leaveX leaveK; rw [e]; rfl, hF, hE2⟩
  · skip
    refine aw_iconst C dX9_leave_34 k1_5 ?_
    refine aw_goto C dX9_leave_35 (tgt := 39) (by decide) ?_
    refine aw_isub C dX9_leave_39  ?_
    refine aw_istore_4 C dX9_leave_40 (by decide) (fun w h => by cases h <;> rfl) ?_
    refine aw_aload_0 C dX9_leave_42 rfl ?_
    refine aw_iload_1 C dX9_leave_43 ?_
    refine aw_iconst C dX9_leave_44 k1_0 ?_
    refine aw_cV2IE C (s_X9_oneN hM _ _ rfl (by omega) (by unfold isOpt; omega)) mf_X9_one mv_X9_one (sh_129) rfl ml_X9_102 dX9_leave_45 (by omega) (Nat.le_of_ble_eq_true rfl) ?_
    rcases (show M (32 + 10 * i + 0) = 0 ∨ M (32 + 10 * i + 0) = 1 ∨ M (32 + 10 * i + 0) = 2 ∨ M (32 + 10 * i + 0) = 3 ∨ M (32 + 10 * i + 0) = 4 ∨ M (32 + 10 * i + 0) = 5 ∨ M (32 + 10 * i + 0) = 6 by omega) with e | e | e | e | e | e | e
    · rw [e]
      refine aw_tableOut C dX9_leave_48 (tgt := 151) (Or.inl (by decide +kernel)) (by decide) ?_
      refine aw_aload_0 C dX9_leave_151 rfl ?_
      refine aw_g9_14 C hs dX9_leave_152 fl_X9_196 ?_
      refine aw_iretI C hR dX9_leave_155 ?_
      exact ⟨by unfold leaveM leaveX leaveK; rw [e]; rfl, hF, hE2⟩
    · rw [e]
      refine aw_tableIn C dX9_leave_48 (tgt := 88) (by decide +kernel) (by decide +kernel) (off := 40) (by decide +kernel) (by decide) ?_
      refine aw_iload_4 C dX9_leave_88 ?_
      refine aw_iretI C hR dX9_leave_90 ?_
      exact ⟨by unfold leaveM leaveX leaveK; rw [e, if_pos rfl, if_pos c_31], hF, hE2⟩
    · rw [e]
      refine aw_tableIn C dX9_leave_48 (tgt := 91) (by decide +kernel) (by decide +kernel) (off := 43) (by decide +kernel) (by decide) ?_
      refine aw_aload_0 C dX9_leave_91 rfl ?_
      refine aw_g9_14 C hs dX9_leave_92 fl_X9_196 ?_
      refine aw_iconst C dX9_leave_95 k1_2 ?_
      refine aw_idiv C dX9_leave_96 (by decide +kernel) ?_
      refine aw_iretI C hR dX9_leave_97 ?_
      exact ⟨by unfold leaveM leaveX leaveK; rw [e]; rfl, hF, hE2⟩
    · rw [e]
      refine aw_tableIn C dX9_leave_48 (tgt := 98) (by decide +kernel) (by decide +kernel) (off := 50) (by decide +kernel) (by decide) ?_
      refine aw_aload_0 C dX9_leave_98 rfl ?_
      refine aw_g9_14 C hs dX9_leave_99 fl_X9_196 ?_
      refine aw_iconst C dX9_leave_102 k1_2 ?_
      refine aw_iload_3 C dX9_leave_103 ?_
      refine aw_imul_n C dX9_leave_104  ?_
      refine aw_isub C dX9_leave_105  ?_
      refine aw_iretI C hR dX9_leave_106 ?_
      exact ⟨by unfold leaveM leaveX leaveK; rw [e]; rfl, hF, hE2⟩
    · rw [e]
      refine aw_tableIn C dX9_leave_48 (tgt := 107) (by decide +kernel) (by decide +kernel) (off := 59) (by decide +kernel) (by decide) ?_
      refine aw_iload_3 C dX9_leave_107 ?_
      refine aw_iconst C dX9_leave_108 k1_2 ?_
      refine aw_icmp_le_n C dX9_leave_109 (tgt := 116) (by decide) (by omega) (by omega) (fun c_109 => ?_) (fun c_109 => ?_)
      · skip
        refine aw_iload_4 C dX9_leave_116 ?_
        refine aw_iretI C hR dX9_leave_118 ?_
        exact ⟨by unfold leaveM leaveX leaveK; rw [e, if_pos c_31]; exact (if_neg (by omega)).symm, hF, hE2⟩
      · skip
        refine aw_iconst C dX9_leave_112 k1_0 ?_
        refine aw_goto C dX9_leave_113 (tgt := 118) (by decide) ?_
        refine aw_iretI C hR dX9_leave_118 ?_
        exact ⟨by unfold leaveM leaveX leaveK; rw [e]; exact (if_pos (by omega)).symm, hF, hE2⟩
    · rw [e]
      refine aw_tableIn C dX9_leave_48 (tgt := 119) (by decide +kernel) (by decide +kernel) (off := 71) (by decide +kernel) (by decide) ?_
      refine aw_aload_0 C dX9_leave_119 rfl ?_
      refine aw_g9_14 C hs dX9_leave_120 fl_X9_196 ?_
      refine aw_iconst C dX9_leave_123 k1_2 ?_
      refine aw_idiv C dX9_leave_124 (by decide +kernel) ?_
      refine aw_iconst C dX9_leave_125 k1_2 ?_
      refine aw_iadd C dX9_leave_126  ?_
      refine aw_iretI C hR dX9_leave_127 ?_
      exact ⟨by unfold leaveM leaveX leaveK; rw [e]; rfl, hF, hE2⟩
    · rw [e]
      refine aw_tableIn C dX9_leave_48 (tgt := 128) (by decide +kernel) (by decide +kernel) (off := 80) (by decide +kernel) (by decide) ?_
      refine aw_aload_0 C dX9_leave_128 rfl ?_
      refine aw_g9_14 C hs dX9_leave_129 fl_X9_196 ?_
      refine aw_iconst C dX9_leave_132 k1_2 ?_
      refine aw_iload_3 C dX9_leave_133 ?_
      refine aw_imul_n C dX9_leave_134  ?_
      refine aw_isub C dX9_leave_135  ?_
      refine aw_aload_0 C dX9_leave_136 rfl ?_
      refine aw_iload_1 C dX9_leave_137 ?_
      refine aw_bipush C dX9_leave_138 k2_6 ?_
      refine aw_iload_2 C dX9_leave_140 ?_
      refine aw_iconst C dX9_leave_141 k1_4 ?_
      refine aw_irem_n C dX9_leave_142 (by omega) (by omega) (by omega) ?_
      refine aw_iadd_n C dX9_leave_143  ?_
      refine aw_cV2IE C (s_X9_oneN hM i (6 + b % 4) rfl (by omega) (by unfold isOpt; omega)) mf_X9_one mv_X9_one (sh_129) rfl ml_X9_102 dX9_leave_144 (by omega) (Nat.le_of_ble_eq_true rfl) ?_
      refine aw_iadd C dX9_leave_147  ?_
      refine aw_iconst C dX9_leave_148 k1_4 ?_
      refine aw_isub C dX9_leave_149  ?_
      refine aw_iretI C hR dX9_leave_150 ?_
      exact ⟨by unfold leaveM leaveX leaveK; rw [e]; rfl, hF, hE2⟩
