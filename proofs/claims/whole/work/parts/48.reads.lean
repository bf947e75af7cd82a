/-! THE CLASS'S READING OF A TEXT -/
def TX (q : S_) (ch : Nat → Nat) (n p : Nat) : Prop := gI q 93 1 = nI n ∧ gI q 93 2 = nI p ∧ n ≤ 100 ∧ p ≤ n ∧ (∀ j, j < n → gI q 94 j = nI (ch j) ∧ ch j < 128) ∧ ∀ j, n ≤ j → ch j = 1000
theorem TX.bd {q : S_} {ch : Nat → Nat} {n p : Nat} (h : TX q ch n p) : n ≤ 100 ∧ p ≤ n := ⟨h.2.2.1, h.2.2.2.1⟩
theorem TX.out {q : S_} {ch : Nat → Nat} {n p : Nat} (h : TX q ch n p) {j : Nat} (hj : n ≤ j) : ch j = 1000 := h.2.2.2.2.2 j hj
theorem TX.lt {q : S_} {ch : Nat → Nat} {n p : Nat} (h : TX q ch n p) {j : Nat} (hj : ch j < 1000) : j < n := by
  rcases Nat.lt_or_ge j n with z | z
  · exact z
  · rw [h.out z] at hj
    omega
theorem TX.ch {q : S_} {ch : Nat → Nat} {n p : Nat} (h : TX q ch n p) (j : Nat) : ch j < 128 ∨ ch j = 1000 := by
  rcases Nat.lt_or_ge j n with z | z
  · exact Or.inl (h.2.2.2.2.1 j z).2
  · exact Or.inr (h.out z)
theorem TX.fr {q q2 : S_} {ch : Nat → Nat} {n p p2 : Nat} (h : TX q ch n p) (hf : ∀ k j, k = 94 ∨ (k = 93 ∧ j = 1) → gI q2 k j = gI q k j) (h2 : gI q2 93 2 = nI p2) (hp : p2 ≤ n) : TX q2 ch n p2 := by
  obtain ⟨a, b, c, d, e, f⟩ := h
  exact ⟨(hf _ _ (by omega)).trans a, h2, c, hp, fun j hj => ⟨(hf _ _ (Or.inl rfl)).trans (e j hj).1, (e j hj).2⟩, f⟩
theorem TX.at {q : S_} {ch : Nat → Nat} {n p p2 : Nat} (h : TX q ch n p) (hp : p2 ≤ n) : TX (sI q 93 2 (nI p2)) ch n p2 := h.fr (fun k j z => by rw [gI_sI, if_neg (by omega)]) (by rw [gI_sI, if_pos ⟨rfl, rfl⟩]) hp
theorem TX.nu {q : S_} {ch : Nat → Nat} {n p : Nat} {v : Int32} (h : TX q ch n p) : TX (sI q 93 3 v) ch n p := h.fr (fun k j z => by rw [gI_sI, if_neg (by omega)]) (by rw [gI_sI, if_neg (by omega)]; exact h.2.1) h.bd.2
def sgn (x : Nat) : Int32 := if x = 1000 then -1 else nI x
theorem sgn_eq {x c : Nat} (hc : c < 128) (hx : x < 128 ∨ x = 1000) : sgn x = nI c ↔ x = c := by
  unfold sgn
  split
  · next e => exact ⟨fun z => absurd z.symm (m1_ne (by omega)), fun z => by omega⟩
  · exact nI_eq (by omega) (by omega)
theorem sgn_ge {x : Nat} (hx : x < 128 ∨ x = 1000) : 0 ≤ sgn x ↔ x < 128 := by
  unfold sgn
  split
  · next e => exact ⟨fun z => absurd z (by decide +kernel), fun z => by omega⟩
  · exact ⟨fun _ => by omega, fun _ => Int32.not_lt.mp (nI_pos (by omega))⟩
theorem sgn_dg {x : Nat} (hx : x < 128 ∨ x = 1000) : (¬ sgn x < nI 48 ∧ ¬ nI 57 < sgn x) ↔ (48 ≤ x ∧ x ≤ 57) := by
  unfold sgn
  split
  · next e => exact ⟨fun z => absurd (by decide +kernel) z.1, fun z => by omega⟩
  · rw [nI_ltI (by omega) (by decide), nI_ltI (by decide) (by omega)]
    omega
def ST2 (k j : Nat) : Prop := k = 93 ∧ j = 2
def ST3 (k j : Nat) : Prop := k = 93 ∧ (j = 2 ∨ j = 3)
theorem Fr.s3 {q q2 : S_} (h : Fr ST2 q q2) : Fr ST3 q q2 := h.mono (fun k j z => ⟨z.1, Or.inl z.2⟩)
theorem tkl_f (ch : Nat → Nat) : ∀ (l : List Nat) (p : Nat), tkl ch l false p = (false, p) := by
  intro l
  induction l with
  | nil => intro p; rfl
  | cons c l ih =>
    intro p
    show tkl ch l (tk ch false p c).1 (tk ch false p c).2 = _
    rw [show tk ch false p c = (false, p) from if_neg (fun z => by cases z.1)]
    exact ih p
theorem tkl_app (ch : Nat → Nat) : ∀ (l l2 : List Nat) (w : Bool) (p : Nat), tkl ch (l ++ l2) w p = tkl ch l2 (tkl ch l w p).1 (tkl ch l w p).2 := by
  intro l
  induction l with
  | nil => intro l2 w p; rfl
  | cons c l ih => intro l2 w p; exact ih l2 _ _
def scw (i : Nat) : List Nat := scW.getD i []
theorem scw_take : ∀ i, i < 5 → ∀ j, j < 6 → j < scl i → (scw i).take (j + 1) = (scw i).take j ++ [scN i j] := by decide
theorem scw_all : ∀ i, i < 5 → (scw i).take (scl i) = scw i := by decide
theorem scw_drop (i j : Nat) : scw i = (scw i).take j ++ (scw i).drop j := (List.take_append_drop j (scw i)).symm

set_option maxRecDepth 100000 in
set_option maxHeartbeats 4000000 in
theorem s_X5_sign {G : GT} {q : S_} {ch : Nat → Nat} {n p : Nat} (h : TX q ch n p) : Spec G 1 yX5_sign cX5_sign 1 (some .int) [rfn G 93] q (PI fun r2 q3 => r2 = sgn (ch p) ∧ q3 = q) := by
  refine Spec.intro RX5 (by decide) rfl (Nat.le_of_ble_eq_true rfl) [some (rfn G 93)] rfl ?_
  intro X d hd C hR
  have hb := h.bd
  refine aw_aload_0 C dX5_sign_0 rfl ?_
  refine aw_g5_2 C h.2.1 dX5_sign_1 fl_X5_24 ?_
  refine aw_aload_0 C dX5_sign_4 rfl ?_
  refine aw_g5_1 C h.1 dX5_sign_5 fl_X5_15 ?_
  refine aw_icmp_ge_n C dX5_sign_8 (tgt := 23) (by decide) (by omega) (by omega) (fun c_8 => ?_) (fun c_8 => ?_)
  · skip
    refine aw_iconst C dX5_sign_23 k1_m1 ?_
    refine aw_iretI C hR dX5_sign_24 ?_
    exact ⟨by unfold sgn; rw [if_pos (h.out c_8)], rfl⟩
  · skip
    refine aw_aload_0 C dX5_sign_11 rfl ?_
    refine aw_g5_0 C dX5_sign_12 fl_X5_9 ?_
    refine aw_aload_0 C dX5_sign_15 rfl ?_
    refine aw_g5_2 C h.2.1 dX5_sign_16 fl_X5_24 ?_
    refine aw_iald C _ (h.2.2.2.2.1 p (by omega)).1 dX5_sign_19 sh_94 rfl (by omega) ?_
    refine aw_goto C dX5_sign_20 (tgt := 24) (by decide) ?_
    refine aw_iretI C hR dX5_sign_24 ?_
    exact ⟨by unfold sgn; rw [if_neg (by have := (h.2.2.2.2.1 p (by omega)).2; omega)], rfl⟩

set_option maxRecDepth 100000 in
set_option maxHeartbeats 4000000 in
theorem s_X5_takes {G : GT} {q : S_} {ch : Nat → Nat} {n p : Nat} (c : Nat) (h : TX q ch n p) (hc : c < 128) : Spec G 2 yX5_takes cX5_takes 2 (some .boolean) [rfn G 93, .int (nI c)] q (PI (fun r q3 => r = bP ((tk ch true p c).1 = true) ∧ TX q3 ch n (tk ch true p c).2 ∧ Fr ST2 q q3)) := by
  refine Spec.intro RX5 (by decide) rfl (Nat.le_of_ble_eq_true rfl) [some (rfn G 93), some (.int (nI c))] rfl ?_
  intro X d hd C hR
  have hb := h.bd
  have hch := h.ch p
  refine aw_aload_0 C dX5_takes_0 rfl ?_
  refine aw_cV0IE C (s_X5_sign h) mf_X5_sign mv_X5_sign (sh_93) rfl ml_X5_35 dX5_takes_1 (by omega) (Nat.le_of_ble_eq_true rfl) ?_
  refine aw_iload_1 C dX5_takes_4 ?_
  refine aw_icmp_eq C dX5_takes_5 (tgt := 10) (by decide)  (fun c_5 => ?_) (fun c_5 => ?_)
  · have e5 := (sgn_eq hc hch).mp c_5
    have hlt := h.lt (j := p) (by omega)
    have etk : tk ch true p c = (true, p + 1) := if_pos ⟨rfl, e5⟩
    refine aw_aload_0 C dX5_takes_10 rfl ?_
    refine aw_dup C dX5_takes_11 rfl ?_
    refine aw_g5_2 C h.2.1 dX5_takes_12 fl_X5_24 ?_
    refine aw_iconst C dX5_takes_15 k1_1 ?_
    refine aw_iadd_n C dX5_takes_16  ?_
    refine aw_p5_2 C dX5_takes_17 fl_X5_24 ?_
    refine aw_iconst C dX5_takes_20 k1_1 ?_
    refine aw_iretZ C hR dX5_takes_21 rfl ?_
    exact ⟨by rw [etk]; exact (bP_t rfl).symm, by rw [etk]; exact h.at (by omega), Fr.set ⟨rfl, rfl⟩⟩
  · have etk : tk ch true p c = (false, p) := if_neg (fun z => c_5 ((sgn_eq hc hch).mpr z.2))
    refine aw_iconst C dX5_takes_8 k1_0 ?_
    refine aw_iretZ C hR dX5_takes_9 rfl ?_
    exact ⟨by rw [etk]; exact (bP_f (fun z => by cases z)).symm, by rw [etk]; exact h, Fr.rf⟩

set_option maxRecDepth 100000 in
set_option maxHeartbeats 4000000 in
theorem s_X5_takesWord {G : GT} {q : S_} {ch : Nat → Nat} {n p : Nat} (i : Nat) (h : TX q ch n p) (hi : i < 5) : Spec G 5 yX5_takesWord cX5_takesWord 3 (some .boolean) [rfn G 93, sK G i] q (PI (fun r q3 => r = bP ((tkl ch (scw i) true p).1 = true) ∧ TX q3 ch n (tkl ch (scw i) true p).2 ∧ Fr ST2 q q3)) := by
  refine Spec.intro RX5 (by decide) rfl (Nat.le_of_ble_eq_true rfl) [some (rfn G 93), some (sK G i), none] rfl ?_
  intro X d hd C hR
  have h6 := scl_lt i hi
  refine aw_iconst C dX5_takesWord_0 k1_0 ?_
  refine aw_istore_2 C dX5_takesWord_1 (by decide) (fun w h => by cases h <;> rfl) ?_
  have L2 : ∀ (n2 k : Nat) (q1 : S_), k ≤ scl i → scl i < k + n2 → (tkl ch ((scw i).take k) true p).1 = true → TX q1 ch n (tkl ch ((scw i).take k) true p).2 → Fr ST2 q q1 → AW X G (q1) 2 [some (rfn G 93), some (sK G i), some (.int (nI k))] [] := by
    refine nat_loop (fun k q1 g1 g2 hk h1 hF1 => by omega) (fun n2 ih k q1 g1 g2 hk h1 hF1 => ?_)
    refine aw_iload_2 C dX5_takesWord_2 ?_
    refine aw_aload_1 C dX5_takesWord_3 rfl ?_
    refine aw_cT C hi (s_J0_length_8abf5 i hi) mf_J0_length_8abf5 mv_J0_length_8abf5 rfl (vs := []) rfl ml_X5_84 dX5_takesWord_4 (by omega) rfl (Nat.le_of_ble_eq_true rfl) (fun r_4 q_4 h_4 => ?_)
    obtain ⟨rfl, rfl⟩ := h_4
    refine aw_icmp_ge_n C dX5_takesWord_7 (tgt := 30) (by decide) (by omega) (by omega) (fun c_7 => ?_) (fun c_7 => ?_)
    · skip
      refine aw_iconst C dX5_takesWord_30 k1_1 ?_
      refine aw_iretZ C hR dX5_takesWord_31 rfl ?_
      have ek : k = scl i := by omega
      rw [ek, scw_all i hi] at h1 hk
      exact ⟨by rw [hk]; exact (bP_t rfl).symm, h1, hF1⟩
    · skip
      refine aw_aload_0 C dX5_takesWord_10 rfl ?_
      refine aw_aload_1 C dX5_takesWord_11 rfl ?_
      refine aw_iload_2 C dX5_takesWord_12 ?_
      refine aw_cT C hi (s_J0_charAt_5068e i k hi (by omega)) mf_J0_charAt_5068e mv_J0_charAt_5068e rfl (vs := [.int (nI k)]) rfl ml_X5_88 dX5_takesWord_13 (by omega) rfl (Nat.le_of_ble_eq_true rfl) (fun r_13 q_13 h_13 => ?_)
      obtain ⟨rfl, rfl⟩ := h_13
      have hcl := scN_lt i hi k (by omega)
      refine aw_cV1I C (s_X5_takes (scN i k) h1 hcl) mf_X5_takes mv_X5_takes (sh_93) rfl ml_X5_31 dX5_takesWord_16 (by omega) (Nat.le_of_ble_eq_true rfl) (fun r_16 q_16 h_16 => ?_)
      obtain ⟨rfl, h2, hF2⟩ := h_16
      have hs : tkl ch ((scw i).take (k + 1)) true p = tk ch true (tkl ch ((scw i).take k) true p).2 (scN i k) := by
        rw [scw_take i hi k (by omega) (by omega), tkl_snoc, hk]
      refine aw_if_ne_b C dX5_takesWord_19 (tgt := 24) (by decide)  (fun c_19 => ?_) (fun c_19 => ?_)
      · skip
        refine aw_iinc_2 C dX5_takesWord_24 (by decide) (fun w h => by cases h <;> rfl) (show _ + Int32.ofInt 1 = _ by rw [k1_1, nI_add]) ?_
        refine aw_goto C dX5_takesWord_27 (tgt := 2) (by decide) ?_
        exact ih (k + 1) q_16 (by omega) (by omega) (by rw [hs]; exact c_19) (by rw [hs]; exact h2) (hF1.tr hF2)
      · skip
        refine aw_iconst C dX5_takesWord_22 k1_0 ?_
        refine aw_iretZ C hR dX5_takesWord_23 rfl ?_
        have hst : tk ch true (tkl ch ((scw i).take k) true p).2 (scN i k) = (false, (tkl ch ((scw i).take k) true p).2) := by
          unfold tk at c_19 ⊢
          split
          · next z => rw [if_pos z] at c_19; exact absurd rfl c_19
          · rfl
        rw [hst] at hs h2
        have hall : tkl ch (scw i) true p = (false, (tkl ch ((scw i).take k) true p).2) := by
          have hf := tkl_f ch (List.drop (k + 1) (scw i)) (tkl ch ((scw i).take k) true p).2
          have e := tkl_app ch ((scw i).take (k + 1)) ((scw i).drop (k + 1)) true p
          rw [List.take_append_drop, hs] at e
          exact e.trans hf
        exact ⟨by rw [hall]; exact (bP_f (fun z => by cases z)).symm, by rw [hall]; exact h2, hF1.tr hF2⟩
  exact L2 7 0 q (by omega) (by omega) rfl h Fr.rf

set_option maxRecDepth 100000 in
set_option maxHeartbeats 4000000 in
theorem s_X5_takesOneOf {G : GT} {q : S_} {ch : Nat → Nat} {n p : Nat} (i : Nat) (h : TX q ch n p) (hi : i < 5) : Spec G 5 yX5_takesOneOf cX5_takesOneOf 4 (some .int) [rfn G 93, sK G i] q (PI (fun r q3 => ((∃ j, j < scl i ∧ scN i j = ch p ∧ r = nI j ∧ TX q3 ch n (p + 1) ∧ p < n) ∨ ((∀ j, j < scl i → scN i j ≠ ch p) ∧ r = -1 ∧ TX q3 ch n p)) ∧ Fr ST2 q q3)) := by
  refine Spec.intro RX5 (by decide) rfl (Nat.le_of_ble_eq_true rfl) [some (rfn G 93), some (sK G i), none, none] rfl ?_
  intro X d hd C hR
  have h6 := scl_lt i hi
  have hb := h.bd
  have hch := h.ch p
  refine aw_aload_0 C dX5_takesOneOf_0 rfl ?_
  refine aw_cV0IE C (s_X5_sign h) mf_X5_sign mv_X5_sign (sh_93) rfl ml_X5_35 dX5_takesOneOf_1 (by omega) (Nat.le_of_ble_eq_true rfl) ?_
  refine aw_istore_2 C dX5_takesOneOf_4 (by decide) (fun w h => by cases h <;> rfl) ?_
  refine aw_iload_2 C dX5_takesOneOf_5 ?_
  refine aw_if_ge C dX5_takesOneOf_6 (tgt := 11) (by decide)  (fun c_6 => ?_) (fun c_6 => ?_)
  · have c6 := (sgn_ge hch).mp c_6
    have hlt := h.lt (j := p) (by omega)
    rw [show sgn (ch p) = nI (ch p) from if_neg (by omega)]
    refine aw_aload_1 C dX5_takesOneOf_11 rfl ?_
    refine aw_iload_2 C dX5_takesOneOf_12 ?_
    refine aw_i2c C dX5_takesOneOf_13 ?_
    rw [i2c_n _ c6]
    refine aw_cT C hi (s_J0_indexOf_0f7a4 i (ch p) hi c6) mf_J0_indexOf_0f7a4 mv_J0_indexOf_0f7a4 rfl (vs := [.int (nI (ch p))]) rfl ml_X5_92 dX5_takesOneOf_14 (by omega) rfl (Nat.le_of_ble_eq_true rfl) (fun r_14 q_14 h_14 => ?_)
    obtain ⟨h14, rfl⟩ := h_14
    refine aw_istore_3 C dX5_takesOneOf_17 (by decide) (fun w h => by cases h <;> rfl) ?_
    refine aw_iload_3 C dX5_takesOneOf_18 ?_
    refine aw_if_lt C dX5_takesOneOf_19 (tgt := 32) (by decide)  (fun c_19 => ?_) (fun c_19 => ?_)
    · have h19 := h14.resolve_left (fun z => by
        obtain ⟨j, z1, z2, z3⟩ := z
        rw [z3] at c_19
        exact nI_pos (by omega) c_19)
      refine aw_iload_3 C dX5_takesOneOf_32 ?_
      refine aw_iretI C hR dX5_takesOneOf_33 ?_
      exact ⟨Or.inr ⟨h19.1, h19.2, h⟩, Fr.rf⟩
    · have h19 := h14.resolve_right (fun z => by
        rw [z.2] at c_19
        exact c_19 (by decide +kernel))
      obtain ⟨j, g1, g2, rfl⟩ := h19
      refine aw_aload_0 C dX5_takesOneOf_22 rfl ?_
      refine aw_dup C dX5_takesOneOf_23 rfl ?_
      refine aw_g5_2 C h.2.1 dX5_takesOneOf_24 fl_X5_24 ?_
      refine aw_iconst C dX5_takesOneOf_27 k1_1 ?_
      refine aw_iadd_n C dX5_takesOneOf_28  ?_
      refine aw_p5_2 C dX5_takesOneOf_29 fl_X5_24 ?_
      refine aw_iload_3 C dX5_takesOneOf_32 ?_
      refine aw_iretI C hR dX5_takesOneOf_33 ?_
      exact ⟨Or.inl ⟨j, g1, g2, rfl, h.at (by omega), hlt⟩, Fr.set ⟨rfl, rfl⟩⟩
  · have c6 : ¬ ch p < 128 := fun z => c_6 ((sgn_ge hch).mpr z)
    refine aw_iconst C dX5_takesOneOf_9 k1_m1 ?_
    refine aw_iretI C hR dX5_takesOneOf_10 ?_
    exact ⟨Or.inr ⟨fun j hj e => by have := scN_lt i hi j (by omega); omega, rfl, h⟩, Fr.rf⟩

def numK (ch : Nat → Nat) (p : Nat) : Nat → Nat
  | 0 => 0
  | 1 => ch p - 48
  | _ => 10 * (ch p - 48) + (ch (p + 1) - 48)
theorem numK_lt (ch : Nat → Nat) (p k : Nat) (h : ∀ j, j < k → dg ch true (p + j)) (hk : k ≤ 2) : numK ch p k < 100 := by
  have : k = 0 ∨ k = 1 ∨ k = 2 := by omega
  rcases this with rfl | rfl | rfl
  · show 0 < 100; decide
  · have := h 0 (by omega)
    show ch p - 48 < 100
    rw [Nat.add_zero] at this
    omega
  · have a := h 0 (by omega)
    have b := h 1 (by omega)
    rw [Nat.add_zero] at a
    show 10 * (ch p - 48) + (ch (p + 1) - 48) < 100
    omega
theorem numK_s (ch : Nat → Nat) (p k : Nat) (h : dg ch true (p + k)) (hk : k < 2) : numK ch p k * 10 + ch (p + k) - 48 = numK ch p (k + 1) := by
  have : k = 0 ∨ k = 1 := by omega
  rcases this with rfl | rfl
  · show 0 * 10 + ch (p + 0) - 48 = ch p - 48
    rw [Nat.add_zero]
    omega
  · show (ch p - 48) * 10 + ch (p + 1) - 48 = 10 * (ch p - 48) + (ch (p + 1) - 48)
    omega
theorem numK_e (ch : Nat → Nat) (p k : Nat) (h : ∀ j, j < k → dg ch true (p + j)) (hk : k ≤ 2) (he : k = 2 ∨ ¬ dg ch true (p + k)) : numM ch true p = (decide (0 < k), p + k, numK ch p k) := by
  have : k = 0 ∨ k = 1 ∨ k = 2 := by omega
  unfold numM
  rcases this with rfl | rfl | rfl
  · have h0 := he.resolve_left (by decide)
    rw [Nat.add_zero] at h0
    rw [if_neg h0]
    rfl
  · have h1 := h 0 (by omega)
    rw [Nat.add_zero] at h1
    rw [if_pos h1, if_neg (he.resolve_left (by decide))]
    rfl
  · have h1 := h 0 (by omega)
    rw [Nat.add_zero] at h1
    rw [if_pos h1, if_pos (h 1 (by omega))]
    rfl

set_option maxRecDepth 100000 in
set_option maxHeartbeats 4000000 in
theorem s_X5_takesNumber {G : GT} {q : S_} {ch : Nat → Nat} {n p : Nat} (h : TX q ch n p) : Spec G 2 yX5_takesNumber cX5_takesNumber 3 (some .boolean) [rfn G 93] q (PI (fun r q3 => r = bP ((numM ch true p).1 = true) ∧ TX q3 ch n (numM ch true p).2.1 ∧ gI q3 93 3 = nI (numM ch true p).2.2 ∧ Fr ST3 q q3)) := by
  refine Spec.intro RX5 (by decide) rfl (Nat.le_of_ble_eq_true rfl) [some (rfn G 93), none, none] rfl ?_
  intro X d hd C hR
  have hb := h.bd
  refine aw_aload_0 C dX5_takesNumber_0 rfl ?_
  refine aw_iconst C dX5_takesNumber_1 k1_0 ?_
  refine aw_p5_3 C dX5_takesNumber_2 fl_X5_49 ?_
  refine aw_iconst C dX5_takesNumber_5 k1_0 ?_
  refine aw_istore_1 C dX5_takesNumber_6 (by decide) (fun w h => by cases h <;> rfl) ?_
  refine aw_iconst C dX5_takesNumber_7 k1_0 ?_
  refine aw_istore_2 C dX5_takesNumber_8 (by decide) (fun w h => by cases h <;> rfl) ?_
  have L9 : ∀ (n2 k : Nat) (q1 : S_), k ≤ 2 → 2 < k + n2 → (∀ j, j < k → dg ch true (p + j)) → TX q1 ch n (p + k) → gI q1 93 3 = nI (numK ch p k) → Fr ST3 q q1 → AW X G (q1) 9 [some (rfn G 93), some (.int (nI k)), some (.int (nI k))] [] := by
    refine nat_loop (fun k q1 g1 g2 hdg h1 hn1 hF1 => by omega) (fun n2 ih k q1 g1 g2 hdg h1 hn1 hF1 => ?_)
    refine aw_iload_2 C dX5_takesNumber_9 ?_
    refine aw_iconst C dX5_takesNumber_10 k1_2 ?_
    refine aw_icmp_ge_n C dX5_takesNumber_11 (tgt := 70) (by decide) (by omega) (by omega) (fun c_11 => ?_) (fun c_11 => ?_)
    · skip
      refine aw_iload_1 C dX5_takesNumber_70 ?_
      have hne := numK_e ch p k hdg g1 (Or.inl (by omega))
      
      refine aw_if_le_n C dX5_takesNumber_71 (tgt := 78) (by decide) (by omega) (fun c_71 => ?_) (fun c_71 => ?_)
      · skip
        refine aw_iconst C dX5_takesNumber_78 k1_0 ?_
        refine aw_iretZ C hR dX5_takesNumber_79 (by rfl) ?_
        exact ⟨by rw [hne]; exact (bP_f (by show ¬ decide (0 < k) = true; simp; omega)).symm, by rw [hne]; exact h1, by rw [hne]; exact hn1, hF1⟩
      · skip
        refine aw_iconst C dX5_takesNumber_74 k1_1 ?_
        refine aw_goto C dX5_takesNumber_75 (tgt := 79) (by decide) ?_
        refine aw_iretZ C hR dX5_takesNumber_79 (by rfl) ?_
        exact ⟨by rw [hne]; exact (bP_t (by show decide (0 < k) = true; simp; omega)).symm, by rw [hne]; exact h1, by rw [hne]; exact hn1, hF1⟩
    · skip
      refine aw_aload_0 C dX5_takesNumber_14 rfl ?_
      refine aw_cV0IE C (s_X5_sign h1) mf_X5_sign mv_X5_sign (sh_93) rfl ml_X5_35 dX5_takesNumber_15 (by omega) (Nat.le_of_ble_eq_true rfl) ?_
      refine aw_bipush C dX5_takesNumber_18 k2_48 ?_
      have hch := h.ch (p + k)
      refine aw_icmp_lt C dX5_takesNumber_20 (tgt := 70) (by decide)  (fun c_20 => ?_) (fun c_20 => ?_)
      · have c29 : ¬ dg ch true (p + k) := fun z => ((sgn_dg hch).mpr z.2).1 c_20
        refine aw_iload_1 C dX5_takesNumber_70 ?_
        have hne := numK_e ch p k hdg g1 (Or.inr c29)
        
        refine aw_if_le_n C dX5_takesNumber_71 (tgt := 78) (by decide) (by omega) (fun c_71 => ?_) (fun c_71 => ?_)
        · skip
          refine aw_iconst C dX5_takesNumber_78 k1_0 ?_
          refine aw_iretZ C hR dX5_takesNumber_79 (by rfl) ?_
          exact ⟨by rw [hne]; exact (bP_f (by show ¬ decide (0 < k) = true; simp; omega)).symm, by rw [hne]; exact h1, by rw [hne]; exact hn1, hF1⟩
        · skip
          refine aw_iconst C dX5_takesNumber_74 k1_1 ?_
          refine aw_goto C dX5_takesNumber_75 (tgt := 79) (by decide) ?_
          refine aw_iretZ C hR dX5_takesNumber_79 (by rfl) ?_
          exact ⟨by rw [hne]; exact (bP_t (by show decide (0 < k) = true; simp; omega)).symm, by rw [hne]; exact h1, by rw [hne]; exact hn1, hF1⟩
      · skip
        refine aw_aload_0 C dX5_takesNumber_23 rfl ?_
        refine aw_cV0IE C (s_X5_sign h1) mf_X5_sign mv_X5_sign (sh_93) rfl ml_X5_35 dX5_takesNumber_24 (by omega) (Nat.le_of_ble_eq_true rfl) ?_
        refine aw_bipush C dX5_takesNumber_27 k2_57 ?_
        refine aw_icmp_gt C dX5_takesNumber_29 (tgt := 70) (by decide)  (fun c_29 => ?_) (fun c_29 => ?_)
        · have c29 : ¬ dg ch true (p + k) := fun z => ((sgn_dg hch).mpr z.2).2 c_29
          refine aw_iload_1 C dX5_takesNumber_70 ?_
          have hne := numK_e ch p k hdg g1 (Or.inr c29)
          
          refine aw_if_le_n C dX5_takesNumber_71 (tgt := 78) (by decide) (by omega) (fun c_71 => ?_) (fun c_71 => ?_)
          · skip
            refine aw_iconst C dX5_takesNumber_78 k1_0 ?_
            refine aw_iretZ C hR dX5_takesNumber_79 (by rfl) ?_
            exact ⟨by rw [hne]; exact (bP_f (by show ¬ decide (0 < k) = true; simp; omega)).symm, by rw [hne]; exact h1, by rw [hne]; exact hn1, hF1⟩
          · skip
            refine aw_iconst C dX5_takesNumber_74 k1_1 ?_
            refine aw_goto C dX5_takesNumber_75 (tgt := 79) (by decide) ?_
            refine aw_iretZ C hR dX5_takesNumber_79 (by rfl) ?_
            exact ⟨by rw [hne]; exact (bP_t (by show decide (0 < k) = true; simp; omega)).symm, by rw [hne]; exact h1, by rw [hne]; exact hn1, hF1⟩
        · have c29 : dg ch true (p + k) := ⟨rfl, (sgn_dg hch).mp ⟨c_20, c_29⟩⟩
          have hlt := h.lt (j := p + k) (by have := c29.2; omega)
          have hnk := numK_lt ch p k hdg (by omega)
          refine aw_aload_0 C dX5_takesNumber_32 rfl ?_
          refine aw_aload_0 C dX5_takesNumber_33 rfl ?_
          refine aw_g5_3 C hn1 dX5_takesNumber_34 fl_X5_49 ?_
          refine aw_bipush C dX5_takesNumber_37 k2_10 ?_
          refine aw_imul_n C dX5_takesNumber_39  ?_
          refine aw_aload_0 C dX5_takesNumber_40 rfl ?_
          refine aw_cV0IE C (s_X5_sign h1) mf_X5_sign mv_X5_sign (sh_93) rfl ml_X5_35 dX5_takesNumber_41 (by omega) (Nat.le_of_ble_eq_true rfl) ?_
          rw [show sgn (ch (p + k)) = nI (ch (p + k)) from if_neg (by have := c29.2; omega)]
          refine aw_iadd_n C dX5_takesNumber_44  ?_
          refine aw_bipush C dX5_takesNumber_45 k2_48 ?_
          refine aw_isub_n C dX5_takesNumber_47 (by have := c29.2; omega) ?_
          rw [numK_s ch p k c29 (by omega)]
          refine aw_p5_3 C dX5_takesNumber_48 fl_X5_49 ?_
          refine aw_aload_0 C dX5_takesNumber_51 rfl ?_
          refine aw_dup C dX5_takesNumber_52 rfl ?_
          refine aw_g5_2 C (show gI _ 93 2 = nI (p + k) by rw [gI_sI, if_neg (by omega)]; exact h1.2.1) dX5_takesNumber_53 fl_X5_24 ?_
          refine aw_iconst C dX5_takesNumber_56 k1_1 ?_
          refine aw_iadd_n C dX5_takesNumber_57  ?_
          refine aw_p5_2 C dX5_takesNumber_58 fl_X5_24 ?_
          refine aw_iinc_1 C dX5_takesNumber_61 (by decide) (fun w h => by cases h <;> rfl) (show _ + Int32.ofInt 1 = _ by rw [k1_1, nI_add]) ?_
          refine aw_iinc_2 C dX5_takesNumber_64 (by decide) (fun w h => by cases h <;> rfl) (show _ + Int32.ofInt 1 = _ by rw [k1_1, nI_add]) ?_
          refine aw_goto C dX5_takesNumber_67 (tgt := 9) (by decide) ?_
          exact ih (k + 1) _ (by omega) (by omega) (fun j z => by
            rcases Nat.lt_or_ge j k with y | y
            · exact hdg j y
            · rw [show j = k by omega]
              exact c29) (h1.nu.at (by omega)) (by rw [gI_sI, if_neg (by omega), gI_sI, if_pos ⟨rfl, rfl⟩]) ((hF1.put ⟨rfl, Or.inr rfl⟩).put ⟨rfl, Or.inl rfl⟩)
  exact L9 3 0 _ (by omega) (by omega) (fun j z => absurd z (Nat.not_lt_zero j)) h.nu (by rw [gI_sI, if_pos ⟨rfl, rfl⟩]; rfl) (Fr.set ⟨rfl, Or.inr rfl⟩)

def SRD (c k j : Nat) : Prop := (k = 93 ∧ (j = 2 ∨ j = 3)) ∨ k = c + 1 ∨ (k = c ∧ j = 2)
def PRD (ch : Nat → Nat) (n c : Nat) (cs : List Nat) (q : S_) (z : Bool × Nat × List Nat) : Int32 → S_ → Prop := fun r q3 => r = bP (z.1 = true) ∧ TX q3 ch n z.2.1 ∧ (z.1 = true → CitC q3 c (cs ++ z.2.2)) ∧ (∃ cs2, CitC q3 c cs2) ∧ Fr (SRD c) q q3
theorem Fr.rd {q q2 : S_} {c : Nat} (h : Fr ST3 q q2) : Fr (SRD c) q q2 := h.mono (fun k j z => Or.inl z)
theorem Fr.cit {q q2 : S_} {c : Nat} {cs : List Nat} (h : Fr ST3 q q2) (hc : 99 ≤ c) (hC : CitC q c cs) : CitC q2 c cs := hC.t (h.2 _ _ (by unfold ST3; omega)) (fun j => h.2 _ _ (by unfold ST3; omega))
theorem sc3 : ∀ j, j < 6 → scN 3 j = letN j := by decide
theorem sc4 : ∀ j, j < 3 → scN 4 j = 60 + j := by decide
theorem PRD.no {ch : Nat → Nat} {n c p : Nat} {cs : List Nat} {q q3 : S_} {z : Bool × Nat × List Nat} {r : Int32} (hz : z.1 = false) (hp : z.2.1 = p) (hr : r = nI 0) (hT : TX q3 ch n p) (hC : ∃ cs2, CitC q3 c cs2) (hF : Fr (SRD c) q q3) : PRD ch n c cs q z r q3 := by
  refine ⟨by rw [hr, hz]; exact (bP_f (fun z => by cases z)).symm, by rw [hp]; exact hT, fun y => (by rw [hz] at y; cases y), hC, hF⟩
theorem PRD.yes {ch : Nat → Nat} {n c p : Nat} {cs l : List Nat} {q q3 : S_} {z : Bool × Nat × List Nat} {r : Int32} (hz : z = (true, p, l)) (hr : r = nI 1) (hT : TX q3 ch n p) (hC : CitC q3 c (cs ++ l)) (hF : Fr (SRD c) q q3) : PRD ch n c cs q z r q3 := by
  subst hz
  exact ⟨by rw [hr]; exact (bP_t rfl).symm, hT, fun _ => hC, ⟨_, hC⟩, hF⟩
theorem rel60 : ∀ m, m < 3 → relC (60 + m) = 60 + m ∧ relN (60 + m) = m := by decide
def tsC (ch : Nat → Nat) (p : Nat) : Bool × Nat × List Nat := ((tstM ch true p).1, (tstM ch true p).2.1, [(tstM ch true p).2.2])

set_option maxRecDepth 100000 in
set_option maxHeartbeats 4000000 in
theorem s_X5_readTest {G : GT} {q : S_} {ch : Nat → Nat} {n p : Nat} {cs : List Nat} (c : Nat) (h : TX q ch n p) (hc : shC c) (hc9 : 99 ≤ c) (hC : CitC q c cs) (hl : cs.length ≤ p) (hl2 : cs.length < 100) : Spec G 6 yX5_readTest cX5_readTest 4 (some .boolean) [rfn G 93, rfn G c] q (PI (PRD ch n c cs q (tsC ch p))) := by
  refine Spec.intro RX5 (by decide) rfl (Nat.le_of_ble_eq_true rfl) [some (rfn G 93), some (rfn G c), none, none] rfl ?_
  intro X d hd C hR
  have hb := h.bd
  refine aw_aload_0 C dX5_readTest_0 rfl ?_
  refine aw_ldcS C dX5_readTest_1 (i := 3) (by decide) rfl ?_
  refine aw_cV1I C (s_X5_takesOneOf 3 h (by decide)) mf_X5_takesOneOf mv_X5_takesOneOf (sh_93) rfl ml_X5_78 dX5_readTest_3 (by omega) (Nat.le_of_ble_eq_true rfl) (fun r_3 q_3 h_3 => ?_)
  obtain ⟨h3, hF1⟩ := h_3
  refine aw_istore_2 C dX5_readTest_6 (by decide) (fun w h => by cases h <;> rfl) ?_
  refine aw_iload_2 C dX5_readTest_7 ?_
  refine aw_if_ge C dX5_readTest_8 (tgt := 13) (by decide)  (fun c_8 => ?_) (fun c_8 => ?_)
  · obtain ⟨j, j1, j2, j3, h1, j4⟩ := h3.resolve_right (fun z => by rw [z.2.1] at c_8; exact absurd c_8 (by decide +kernel))
    subst j3
    have hj6 : j < 6 := j1
    have hlj : li (ch p) = j := (li_iff hj6).mp (by rw [← j2, sc3 j hj6])
    have hts := tstM_t (ch := ch) (p := p) (by omega)
    have hb1 := h1.bd
    have hchp := h.ch (p + 1)
    refine aw_aload_0 C dX5_readTest_13 rfl ?_
    refine aw_ldcS C dX5_readTest_14 (i := 4) (by decide) rfl ?_
    refine aw_cV1I C (s_X5_takesOneOf 4 h1 (by decide)) mf_X5_takesOneOf mv_X5_takesOneOf (sh_93) rfl ml_X5_78 dX5_readTest_16 (by omega) (Nat.le_of_ble_eq_true rfl) (fun r_16 q_16 h_16 => ?_)
    obtain ⟨h16, hF2⟩ := h_16
    refine aw_istore_3 C dX5_readTest_19 (by decide) (fun w h => by cases h <;> rfl) ?_
    refine aw_iload_3 C dX5_readTest_20 ?_
    refine aw_if_lt C dX5_readTest_21 (tgt := 31) (by decide)  (fun c_21 => ?_) (fun c_21 => ?_)
    · have h160 := h16.resolve_left (fun z => by
        obtain ⟨m, m1, m2, m3, -⟩ := z
        rw [m3] at c_21
        exact nI_pos (by have : m < 3 := m1; omega) c_21)
      have etk : tk ch true (p + 1) (relC (ch (p + 1))) = (false, p + 1) := if_neg (fun z => by
        have a := h160.1 0 (by decide)
        have b := h160.1 1 (by decide)
        have d := h160.1 2 (by decide)
        rw [sc4 _ (by decide)] at a b d
        have e := z.2
        unfold relC at e
        revert e
        repeat' split
        all_goals omega)
      have enm : numM ch false (p + 1) = (false, p + 1, 0) := if_neg (fun z => by cases z.1)
      rw [etk] at hts
      simp only [enm] at hts
      refine aw_iconst C dX5_readTest_31 k1_0 ?_
      refine aw_iretZ C hR dX5_readTest_32 (by first | rfl | exact bP_nar) ?_
      exact PRD.no (by unfold tsC; rw [hts]) (by unfold tsC; rw [hts]) rfl h160.2.2 ⟨cs, (hF1.s3.tr hF2.s3).cit hc9 hC⟩ (hF1.s3.tr hF2.s3).rd
    · obtain ⟨m, m1, m2, m3, h2, m4⟩ := h16.resolve_right (fun z => by rw [z.2.1] at c_21; exact c_21 (by decide +kernel))
      subst m3
      have hm3 : m < 3 := m1
      have hcm : ch (p + 1) = 60 + m := by rw [← m2, sc4 m hm3]
      have etk : tk ch true (p + 1) (relC (ch (p + 1))) = (true, p + 2) := if_pos ⟨rfl, by rw [hcm, (rel60 m hm3).1]⟩
      have ern : relN (ch (p + 1)) = m := by rw [hcm, (rel60 m hm3).2]
      rw [etk, ern, hlj] at hts
      have hvl := numM_lt ch true (p + 2)
      refine aw_aload_0 C dX5_readTest_24 rfl ?_
      refine aw_cV0I C (s_X5_takesNumber h2) mf_X5_takesNumber mv_X5_takesNumber (sh_93) rfl ml_X5_45 dX5_readTest_25 (by omega) (Nat.le_of_ble_eq_true rfl) (fun r_25 q_25 h_25 => ?_)
      obtain ⟨rfl, h4, hn4, hF3⟩ := h_25
      have hF5 := (hF1.s3.tr hF2.s3).tr hF3
      have hC5 := hF5.cit hc9 hC
      refine aw_if_ne_b C dX5_readTest_28 (tgt := 33) (by decide)  (fun c_28 => ?_) (fun c_28 => ?_)
      · skip
        refine aw_aload_1 C dX5_readTest_33 rfl ?_
        refine aw_iload_2 C dX5_readTest_34 ?_
        refine aw_sipush C dX5_readTest_35 k3_300 ?_
        refine aw_imul_n C dX5_readTest_38  ?_
        refine aw_iload_3 C dX5_readTest_39 ?_
        refine aw_bipush C dX5_readTest_40 k2_100 ?_
        refine aw_imul_n C dX5_readTest_42  ?_
        refine aw_iadd_n C dX5_readTest_43  ?_
        refine aw_aload_0 C dX5_readTest_44 rfl ?_
        refine aw_g5_3 C hn4 dX5_readTest_45 fl_X5_49 ?_
        refine aw_iadd_n C dX5_readTest_48  ?_
        rw [show nI (j * 300 + m * 100 + (numM ch true (p + 2)).2.2) = cK (j * 300 + m * 100 + (numM ch true (p + 2)).2.2) from (if_neg (by omega)).symm]
        refine aw_cV1V C (s_X1_add c (j * 300 + m * 100 + (numM ch true (p + 2)).2.2) hc hC5) mf_X1_add mv_X1_add hc.1 rfl ml_X5_63 dX5_readTest_49 (by omega) (Nat.le_of_ble_eq_true rfl) (fun q_49 h_49 => ?_)
        obtain ⟨hC6, hF6⟩ := h_49
        rw [if_pos hl2] at hC6
        refine aw_iconst C dX5_readTest_52 k1_1 ?_
        refine aw_iretZ C hR dX5_readTest_53 (by first | rfl | exact bP_nar) ?_
        exact PRD.yes (p := (numM ch true (p + 2)).2.1) (l := [j * 300 + m * 100 + (numM ch true (p + 2)).2.2]) (by unfold tsC; rw [hts]; simp only [c_28]) rfl (h4.fr (fun k i z => hF6.2 k i (by omega)) ((hF6.2 93 2 (by omega)).trans h4.2.1) h4.bd.2) hC6 (hF5.rd.tr (hF6.mono (fun k i z => Or.inr z)))
      · skip
        refine aw_iconst C dX5_readTest_31 k1_0 ?_
        refine aw_iretZ C hR dX5_readTest_32 (by first | rfl | exact bP_nar) ?_
        exact PRD.no (by unfold tsC; rw [hts]; exact Bool.eq_false_iff.mpr c_28) (by unfold tsC; rw [hts]) rfl h4 ⟨cs, hC5⟩ hF5.rd
  · have h30 := h3.resolve_left (fun z => by
      obtain ⟨j, j1, j2, j3, -⟩ := z
      rw [j3] at c_8
      exact c_8 (Int32.not_lt.mp (nI_pos (by have : j < 6 := j1; omega))))
    have hl6 : ¬ li (ch p) < 6 := fun z => h30.1 (li (ch p)) z (by rw [sc3 _ z]; exact ((li_iff z).mpr rfl).symm)
    refine aw_iconst C dX5_readTest_11 k1_0 ?_
    refine aw_iretZ C hR dX5_readTest_12 (by first | rfl | exact bP_nar) ?_
    exact PRD.no (by unfold tsC; rw [tstM_f (fun z => hl6 z.2)]) (by unfold tsC; rw [tstM_f (fun z => hl6 z.2)]) rfl h30.2.2 ⟨cs, hF1.s3.cit hc9 hC⟩ hF1.s3.rd
