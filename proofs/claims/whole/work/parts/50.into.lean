/-! THE CLASS'S READING OF CLAUSES -/
theorem tkl_w (ch : Nat → Nat) : ∀ (l : List Nat) (w : Bool) (p : Nat), (tkl ch l w p).1 = true → w = true ∧ (tkl ch l w p).2 = p + l.length := by
  intro l
  induction l with
  | nil => intro w p h; exact ⟨h, rfl⟩
  | cons c l ih =>
    intro w p h
    obtain ⟨a, b⟩ := ih (tk ch w p c).1 (tk ch w p c).2 h
    have k := tk_w a
    refine ⟨k.1, ?_⟩
    show (tkl ch l (tk ch w p c).1 (tk ch w p c).2).2 = p + (l.length + 1)
    rw [b, k.2.2]
    omega
theorem wdL_len (k : Nat) : 3 ≤ (wdL k).length := by
  unfold wdL
  split
  · decide
  · split <;> decide
theorem clW_w {ch : Nat → Nat} {p : Nat} (h : (clW ch p).1 = true) : p + 4 ≤ (clW ch p).2 := by
  have k := tk_w (show (tk ch _ _ 32).1 = true from h)
  have k2 := tkl_w ch _ _ _ k.1
  have := wdL_len (wk (ch p))
  have e : (clW ch p).2 = (tkl ch (wdL (wk (ch p))) true p).2 + 1 := k.2.2
  omega
theorem clN_w {ch : Nat → Nat} {p : Nat} (h : (clN ch p).1 = true) : (clW ch p).1 = true ∧ p + 5 ≤ (clN ch p).2.1 := by
  have k := numM_w h
  have := clW_w k.1
  have e : (clW ch p).2 + 1 ≤ (clN ch p).2.1 := k.2
  exact ⟨k.1, by omega⟩
theorem clE_w {ch : Nat → Nat} {p : Nat} (h : (clE ch p).1 = true) : (clN ch p).1 = true ∧ ch (clN ch p).2.1 = 32 ∧ p + 6 ≤ (clN ch p).2.1 + 1 ∧ clE ch p = prX ch 3 ((clN ch p).2.1 + 1) 0 ∧ p + 6 + (clE ch p).2.2.length ≤ (clE ch p).2.1 := by
  by_cases e : (tk ch (clN ch p).1 (clN ch p).2.1 32).1 = true
  · have k := tk_w e
    have k2 := clN_w k.1
    have e2 : clE ch p = prX ch 3 ((clN ch p).2.1 + 1) 0 := by
      unfold clE
      rw [if_pos e, k.2.2]
      rfl
    have hl := (pr_len ch 1000).2.2.2.1 ((clN ch p).2.1 + 1) 0 (by rw [e2] at h; exact h)
    refine ⟨k.1, k.2.1, by omega, e2, ?_⟩
    rw [e2]
    show p + 6 + (pr ch 1000 3 ((clN ch p).2.1 + 1) 0).2.2.length ≤ (pr ch 1000 3 ((clN ch p).2.1 + 1) 0).2.1
    omega
  · unfold clE at h
    rw [if_neg e] at h
    cases h
theorem clM_len {ch : Nat → Nat} {p dk : Nat} (h : (clM ch p dk).1 = true) : p + 1 + (clM ch p dk).2.2.1.length ≤ (clM ch p dk).2.1 := by
  unfold clM at h ⊢
  by_cases e1 : wk (ch p) = 3
  · rw [if_pos e1] at h
    cases h
  · rw [if_neg e1] at h ⊢
    by_cases e2 : wk (ch p) = 2
    · rw [if_pos e2] at h ⊢
      have := clN_w h
      show p + 1 + 0 ≤ (clN ch p).2.1
      omega
    · rw [if_neg e2] at h ⊢
      have := clE_w h
      show p + 1 + ((clE ch p).2.2 ++ [_]).length ≤ (clE ch p).2.1
      rw [List.length_append]
      show p + 1 + ((clE ch p).2.2.length + 1) ≤ _
      omega
theorem tkl_scw {ch : Nat → Nat} {p i k : Nat} (h : scw i = wdL k ++ [32]) (hk : wk (ch p) = k) : tkl ch (scw i) true p = clW ch p := by
  rw [h, tkl_snoc]
  unfold clW
  rw [hk]
theorem tkl_no {ch : Nat → Nat} {p : Nat} (h : wk (ch p) = 3) : tkl ch (scw 2) true p = (false, p) := by
  have hne : ch p ≠ 103 := fun z => by rw [z] at h; exact absurd h (by decide)
  rw [show scw 2 = 103 :: [114, 97, 110, 116, 32] from by decide]
  show tkl ch [114, 97, 110, 116, 32] (tk ch true p 103).1 (tk ch true p 103).2 = _
  rw [show tk ch true p 103 = (false, p) from if_neg (fun z => hne z.2)]
  exact tkl_f ch _ _
theorem wk_v (x : Nat) : (wk x = 2 ↔ x = 100) ∧ (wk x = 1 ↔ x = 98) ∧ (wk x = 0 ↔ x = 103) := by
  unfold wk
  repeat' split
  all_goals omega
theorem wk_c (x : Nat) : wk x = 0 ∨ wk x = 1 ∨ wk x = 2 ∨ wk x = 3 := by
  have := wk_le x
  omega
theorem clN_f {ch : Nat → Nat} {p : Nat} (h : (clW ch p).1 = false) : clN ch p = (false, (clW ch p).2, 0) := by
  unfold clN
  rw [h]
  exact if_neg (fun z => by cases z.1)
theorem clE_f {ch : Nat → Nat} {p : Nat} (h : (clN ch p).1 = false) : clE ch p = (false, (clN ch p).2.1, []) := by
  unfold clE
  have e : tk ch (clN ch p).1 (clN ch p).2.1 32 = (false, (clN ch p).2.1) := if_neg (fun z => by rw [h] at z; cases z.1)
  rw [e]
  rfl
theorem clE_g {ch : Nat → Nat} {p : Nat} (h : (clN ch p).1 = true) (h2 : ch (clN ch p).2.1 ≠ 32) : clE ch p = (false, (clN ch p).2.1, []) := by
  unfold clE
  have e : tk ch (clN ch p).1 (clN ch p).2.1 32 = (false, (clN ch p).2.1) := if_neg (fun z => h2 z.2)
  rw [e]
  rfl
theorem clE_t {ch : Nat → Nat} {p : Nat} (h : (clN ch p).1 = true) (h2 : ch (clN ch p).2.1 = 32) : clE ch p = prX ch 3 ((clN ch p).2.1 + 1) 0 := by
  unfold clE
  have e : tk ch (clN ch p).1 (clN ch p).2.1 32 = (true, (clN ch p).2.1 + 1) := if_pos ⟨h, h2⟩
  rw [e]
  rfl
def SRC (c k j : Nat) : Prop := SRD c k j ∨ (k = c ∧ j = 0)
theorem Fr.rc {q q2 : S_} {c : Nat} (h : Fr (SRD c) q q2) : Fr (SRC c) q q2 := h.mono (fun k j z => Or.inl z)
def PCL (ch : Nat → Nat) (n c : Nat) (cs : List Nat) (q : S_) (z : Zc) : Int32 → S_ → Prop := fun r q3 => r = bP (z.1 = true) ∧ TX q3 ch n z.2.1 ∧ (z.1 = true → CitC q3 c (cs ++ z.2.2.1) ∧ gI q3 c 0 = nI z.2.2.2) ∧ (∃ cs2, CitC q3 c cs2) ∧ Fr (SRC c) q q3
theorem PCL.no {ch : Nat → Nat} {n c p : Nat} {cs : List Nat} {q q3 : S_} {z : Zc} {r : Int32} (hz : z.1 = false) (hp : z.2.1 = p) (hr : r = nI 0) (hT : TX q3 ch n p) (hC : ∃ cs2, CitC q3 c cs2) (hF : Fr (SRC c) q q3) : PCL ch n c cs q z r q3 := by
  refine ⟨by rw [hr, hz]; exact (bP_f (fun z => by cases z)).symm, by rw [hp]; exact hT, fun y => (by rw [hz] at y; cases y), hC, hF⟩
theorem PCL.yes {ch : Nat → Nat} {n c p d : Nat} {cs l : List Nat} {q q3 : S_} {z : Zc} {r : Int32} (hz : z = (true, p, l, d)) (hr : r = nI 1) (hT : TX q3 ch n p) (hC : CitC q3 c (cs ++ l)) (hd : gI q3 c 0 = nI d) (hF : Fr (SRC c) q q3) : PCL ch n c cs q z r q3 := by
  subst hz
  exact ⟨by rw [hr]; exact (bP_t rfl).symm, hT, fun _ => ⟨hC, hd⟩, ⟨_, hC⟩, hF⟩

set_option maxRecDepth 100000 in
set_option maxHeartbeats 4000000 in
theorem s_X5_readClause {G : GT} {q : S_} {ch : Nat → Nat} {n p dk : Nat} {cs : List Nat} (c : Nat) (h : TX q ch n p) (hc : shC c) (hc9 : 99 ≤ c) (hC : CitC q c cs) (hl : cs.length ≤ p) (hdk : gI q c 0 = nI dk) : Spec G 17 yX5_readClause cX5_readClause 4 (some .boolean) [rfn G 93, rfn G c] q (PI (PCL ch n c cs q (clM ch p dk))) := by
  refine Spec.intro RX5 (by decide) rfl (Nat.le_of_ble_eq_true rfl) [some (rfn G 93), some (rfn G c), none, none] rfl ?_
  intro X d hd C hR
  have hb := h.bd
  have hch := h.ch p
  have hwv := wk_v (ch p)
  refine aw_aload_0 C dX5_readClause_0 rfl ?_
  refine aw_cV0IE C (s_X5_sign h) mf_X5_sign mv_X5_sign (sh_93) rfl ml_X5_35 dX5_readClause_1 (by omega) (Nat.le_of_ble_eq_true rfl) ?_
  refine aw_bipush C dX5_readClause_4 k2_100 ?_
  refine aw_icmp_ne C dX5_readClause_6 (tgt := 41) (by decide)  (fun c_6 => ?_) (fun c_6 => ?_)
  · have hd2 : wk (ch p) ≠ 2 := fun z => c_6 ((sgn_eq (by decide) hch).mpr (hwv.1.mp z))
    refine aw_aload_0 C dX5_readClause_41 rfl ?_
    refine aw_cV0IE C (s_X5_sign h) mf_X5_sign mv_X5_sign (sh_93) rfl ml_X5_35 dX5_readClause_42 (by omega) (Nat.le_of_ble_eq_true rfl) ?_
    refine aw_bipush C dX5_readClause_45 k2_98 ?_
    refine aw_icmp_ne C dX5_readClause_47 (tgt := 54) (by decide)  (fun c_47 => ?_) (fun c_47 => ?_)
    · have hb1 : wk (ch p) ≠ 1 := fun z => c_47 ((sgn_eq (by decide) hch).mpr (hwv.2.1.mp z))
      refine aw_iconst C dX5_readClause_54 k1_0 ?_
      refine aw_istore_2 C dX5_readClause_55 (by decide) (fun w h => by cases h <;> rfl) ?_
      refine aw_aload_0 C dX5_readClause_56 rfl ?_
      refine aw_iload_2 C dX5_readClause_57 ?_
      refine aw_if_eq_n C dX5_readClause_58 (tgt := 66) (by decide) (by omega) (fun c_58 => ?_) (fun c_58 => absurd c_58 (fun z => z rfl))
      refine aw_ldcS C dX5_readClause_66 (i := 2) (by decide) rfl ?_
      refine aw_cV1I C (s_X5_takesWord 2 h (by decide)) mf_X5_takesWord mv_X5_takesWord (sh_93) rfl ml_X5_41 dX5_readClause_68 (by omega) (Nat.le_of_ble_eq_true rfl) (fun r_68 q_68 h_68 => ?_)
      obtain ⟨rfl, hT1, hF1⟩ := h_68
      refine aw_if_eq_b C dX5_readClause_71 (tgt := 81) (by decide)  (fun c_71 => ?_) (fun c_71 => ?_)
      · skip
        refine aw_iconst C dX5_readClause_81 k1_0 ?_
        refine aw_iretZ C hR dX5_readClause_82 (by first | rfl | exact bP_nar) ?_
        rcases wk_c (ch p) with y | y | y | y
        · have e := tkl_scw (ch := ch) (p := p) (i := 2) (k := 0) (by decide) y
          rw [e] at hT1 c_71
          have hNf := clN_f (Bool.eq_false_iff.mpr c_71)
          have hEf := clE_f (p := p) (by rw [hNf])
          have hCL : clM ch p dk = ((clE ch p).1, (clE ch p).2.1, (clE ch p).2.2 ++ [2000 + 100 * wk (ch p) + (clN ch p).2.2], dk) := by unfold clM; rw [if_neg (by omega), if_neg (by omega)]
          exact PCL.no (by rw [hCL, hEf]) (by rw [hCL, hEf, hNf]) rfl hT1 ⟨cs, hF1.s3.cit hc9 hC⟩ hF1.s3.rd.rc
        · exact absurd y hb1
        · exact absurd y hd2
        · rw [tkl_no y] at hT1
          have hCL : clM ch p dk = (false, p, [], dk) := by unfold clM; rw [if_pos y]
          exact PCL.no (by rw [hCL]) (by rw [hCL]) rfl hT1 ⟨cs, hF1.s3.cit hc9 hC⟩ hF1.s3.rd.rc
      · have hb0 : wk (ch p) = 0 := by
          rcases wk_c (ch p) with y | y | y | y
          · exact y
          · exact absurd y hb1
          · exact absurd y hd2
          · rw [tkl_no y] at c_71; cases c_71
        rw [tkl_scw (k := 0) (by decide) hb0] at hT1 c_71
        refine aw_aload_0 C dX5_readClause_74 rfl ?_
        refine aw_cV0I C (s_X5_takesNumber hT1) mf_X5_takesNumber mv_X5_takesNumber (sh_93) rfl ml_X5_45 dX5_readClause_75 (by omega) (Nat.le_of_ble_eq_true rfl) (fun r_75 q_75 h_75 => ?_)
        obtain ⟨rfl, hT2, hn2, hF2⟩ := h_75
        have hN : numM ch true (clW ch p).2 = clN ch p := by unfold clN; rw [c_71]
        rw [hN] at hT2 hn2
        rw [show bP ((numM ch true (clW ch p).2).1 = true) = bP ((clN ch p).1 = true) from by rw [hN]]
        have hF3 := hF1.s3.tr hF2
        have hCL : clM ch p dk = ((clE ch p).1, (clE ch p).2.1, (clE ch p).2.2 ++ [2000 + 100 * wk (ch p) + (clN ch p).2.2], dk) := by unfold clM; rw [if_neg (by omega), if_neg (by omega)]
        refine aw_if_ne_b C dX5_readClause_78 (tgt := 83) (by decide)  (fun c_78 => ?_) (fun c_78 => ?_)
        · have hNw := clN_w c_78
          have hn100 : (clN ch p).2.2 < 100 := numM_lt _ _ _
          refine aw_aload_0 C dX5_readClause_83 rfl ?_
          refine aw_g5_3 C hn2 dX5_readClause_84 fl_X5_49 ?_
          refine aw_istore_3 C dX5_readClause_87 (by decide) (fun w h => by cases h <;> rfl) ?_
          refine aw_aload_0 C dX5_readClause_88 rfl ?_
          refine aw_bipush C dX5_readClause_89 k2_32 ?_
          refine aw_cV1I C (s_X5_takes 32 hT2 (by decide)) mf_X5_takes mv_X5_takes (sh_93) rfl ml_X5_31 dX5_readClause_91 (by omega) (Nat.le_of_ble_eq_true rfl) (fun r_91 q_91 h_91 => ?_)
          obtain ⟨rfl, hT3, hF4⟩ := h_91
          have hF5 := hF3.tr hF4.s3
          have hC5 := hF5.cit hc9 hC
          refine aw_if_eq_b C dX5_readClause_94 (tgt := 106) (by decide)  (fun c_94 => ?_) (fun c_94 => ?_)
          · have e94 : ch (clN ch p).2.1 ≠ 32 := fun z => c_94 (by rw [show tk ch true (clN ch p).2.1 32 = (true, (clN ch p).2.1 + 1) from if_pos ⟨rfl, z⟩])
            have hEf := clE_g c_78 e94
            rw [show tk ch true (clN ch p).2.1 32 = (false, (clN ch p).2.1) from if_neg (fun z => e94 z.2)] at hT3
            refine aw_iconst C dX5_readClause_106 k1_0 ?_
            refine aw_iretZ C hR dX5_readClause_107 (by first | rfl | exact bP_nar) ?_
            exact PCL.no (by rw [hCL, hEf]) (by rw [hCL, hEf]) rfl hT3 ⟨cs, hC5⟩ hF5.rd.rc
          · have e94 := tk_w c_94
            rw [e94.2.2] at hT3
            have hEt := clE_t c_78 e94.2.1
            refine aw_aload_0 C dX5_readClause_97 rfl ?_
            refine aw_aload_1 C dX5_readClause_98 rfl ?_
            refine aw_iconst C dX5_readClause_99 k1_0 ?_
            refine aw_cV2I C (s_X5_readExpression c hT3 hc hc9 hC5 (by omega)) mf_X5_readExpression mv_X5_readExpression (sh_93) rfl ml_X5_59 dX5_readClause_100 (by omega) (Nat.le_of_ble_eq_true rfl) (fun r_100 q_100 h_100 => ?_)
            obtain ⟨rfl, hT6, hC6, hX6, hF6⟩ := h_100
            rw [← hEt] at hT6 hC6
            rw [show bP ((prX ch 3 ((clN ch p).2.1 + 1) 0).1 = true) = bP ((clE ch p).1 = true) from by rw [hEt]]
            have hF7 := hF5.rd.tr hF6
            have hb6 := hT6.bd
            refine aw_if_ne_b C dX5_readClause_103 (tgt := 108) (by decide)  (fun c_103 => ?_) (fun c_103 => ?_)
            · have hEw := clE_w c_103
              have hC7 := hC6 c_103
              refine aw_aload_1 C dX5_readClause_108 rfl ?_
              refine aw_iload_2 C dX5_readClause_109 ?_
              refine aw_if_eq_n C dX5_readClause_110 (tgt := 119) (by decide) (by omega) (fun c_110 => ?_) (fun c_110 => absurd c_110 (fun z => z rfl))
              refine aw_sipush C dX5_readClause_119 k3_2000 ?_
              refine aw_iload_3 C dX5_readClause_122 ?_
              refine aw_iadd_n C dX5_readClause_123  ?_
              have hwk : wk (ch p) = 0 := hb0
              rw [show nI (2000 + (clN ch p).2.2) = cK (2000 + 100 * wk (ch p) + (clN ch p).2.2) from by rw [hwk]; exact (congrArg nI (by omega)).trans (if_neg (by omega)).symm]
              refine aw_cV1V C (s_X1_add c (2000 + 100 * wk (ch p) + (clN ch p).2.2) hc hC7) mf_X1_add mv_X1_add hc.1 rfl ml_X5_63 dX5_readClause_124 (by omega) (Nat.le_of_ble_eq_true rfl) (fun q_124 h_124 => ?_)
              obtain ⟨hC8, hF8⟩ := h_124
              rw [if_pos (by rw [List.length_append]; omega)] at hC8
              have hT8 : TX q_124 ch n (clE ch p).2.1 := hT6.fr (fun k i z => hF8.2 k i (by omega)) ((hF8.2 93 2 (by omega)).trans hT6.2.1) hT6.bd.2
              have hF9 := hF7.tr (hF8.mono (fun k i z => Or.inr z))
              refine aw_iconst C dX5_readClause_127 k1_1 ?_
              refine aw_iretZ C hR dX5_readClause_128 (by first | rfl | exact bP_nar) ?_
              exact PCL.yes (p := (clE ch p).2.1) (l := (clE ch p).2.2 ++ [2000 + 100 * wk (ch p) + (clN ch p).2.2]) (d := dk) (by rw [hCL, c_103]) rfl hT8 (by rw [← List.append_assoc]; exact hC8) ((hF9.2 c 0 (by unfold SRD; omega)).trans hdk) hF9.rc
            · skip
              refine aw_iconst C dX5_readClause_106 k1_0 ?_
              refine aw_iretZ C hR dX5_readClause_107 (by first | rfl | exact bP_nar) ?_
              exact PCL.no (by rw [hCL]; exact Bool.eq_false_iff.mpr c_103) (by rw [hCL]) rfl hT6 hX6 hF7.rc
        · have hEf := clE_f (Bool.eq_false_iff.mpr c_78)
          refine aw_iconst C dX5_readClause_81 k1_0 ?_
          refine aw_iretZ C hR dX5_readClause_82 (by first | rfl | exact bP_nar) ?_
          exact PCL.no (by rw [hCL, hEf]) (by rw [hCL, hEf]) rfl hT2 ⟨cs, hF3.cit hc9 hC⟩ hF3.rd.rc
    · have hb1 : wk (ch p) = 1 := hwv.2.1.mpr ((sgn_eq (by decide) hch).mp c_47)
      refine aw_iconst C dX5_readClause_50 k1_1 ?_
      refine aw_goto C dX5_readClause_51 (tgt := 55) (by decide) ?_
      refine aw_istore_2 C dX5_readClause_55 (by decide) (fun w h => by cases h <;> rfl) ?_
      refine aw_aload_0 C dX5_readClause_56 rfl ?_
      refine aw_iload_2 C dX5_readClause_57 ?_
      refine aw_if_eq_n C dX5_readClause_58 (tgt := 66) (by decide) (by omega) (fun c_58 => absurd c_58 (by decide)) (fun c_58 => ?_)
      refine aw_ldcS C dX5_readClause_61 (i := 1) (by decide) rfl ?_
      refine aw_goto C dX5_readClause_63 (tgt := 68) (by decide) ?_
      refine aw_cV1I C (s_X5_takesWord 1 h (by decide)) mf_X5_takesWord mv_X5_takesWord (sh_93) rfl ml_X5_41 dX5_readClause_68 (by omega) (Nat.le_of_ble_eq_true rfl) (fun r_68 q_68 h_68 => ?_)
      obtain ⟨rfl, hT1, hF1⟩ := h_68
      rw [tkl_scw (k := 1) (by decide) hb1] at hT1
      rw [show bP ((tkl ch (scw 1) true p).1 = true) = bP ((clW ch p).1 = true) from by rw [tkl_scw (k := 1) (by decide) hb1]]
      refine aw_if_eq_b C dX5_readClause_71 (tgt := 81) (by decide)  (fun c_71 => ?_) (fun c_71 => ?_)
      · have hNf := clN_f (Bool.eq_false_iff.mpr c_71)
        have hEf := clE_f (p := p) (by rw [hNf])
        refine aw_iconst C dX5_readClause_81 k1_0 ?_
        refine aw_iretZ C hR dX5_readClause_82 (by first | rfl | exact bP_nar) ?_
        have hCL : clM ch p dk = ((clE ch p).1, (clE ch p).2.1, (clE ch p).2.2 ++ [2000 + 100 * wk (ch p) + (clN ch p).2.2], dk) := by unfold clM; rw [if_neg (by omega), if_neg (by omega)]
        exact PCL.no (by rw [hCL, hEf]) (by rw [hCL, hEf, hNf]) rfl hT1 ⟨cs, hF1.s3.cit hc9 hC⟩ hF1.s3.rd.rc
      · skip
        refine aw_aload_0 C dX5_readClause_74 rfl ?_
        refine aw_cV0I C (s_X5_takesNumber hT1) mf_X5_takesNumber mv_X5_takesNumber (sh_93) rfl ml_X5_45 dX5_readClause_75 (by omega) (Nat.le_of_ble_eq_true rfl) (fun r_75 q_75 h_75 => ?_)
        obtain ⟨rfl, hT2, hn2, hF2⟩ := h_75
        have hN : numM ch true (clW ch p).2 = clN ch p := by unfold clN; rw [c_71]
        rw [hN] at hT2 hn2
        rw [show bP ((numM ch true (clW ch p).2).1 = true) = bP ((clN ch p).1 = true) from by rw [hN]]
        have hF3 := hF1.s3.tr hF2
        have hCL : clM ch p dk = ((clE ch p).1, (clE ch p).2.1, (clE ch p).2.2 ++ [2000 + 100 * wk (ch p) + (clN ch p).2.2], dk) := by unfold clM; rw [if_neg (by omega), if_neg (by omega)]
        refine aw_if_ne_b C dX5_readClause_78 (tgt := 83) (by decide)  (fun c_78 => ?_) (fun c_78 => ?_)
        · have hNw := clN_w c_78
          have hn100 : (clN ch p).2.2 < 100 := numM_lt _ _ _
          refine aw_aload_0 C dX5_readClause_83 rfl ?_
          refine aw_g5_3 C hn2 dX5_readClause_84 fl_X5_49 ?_
          refine aw_istore_3 C dX5_readClause_87 (by decide) (fun w h => by cases h <;> rfl) ?_
          refine aw_aload_0 C dX5_readClause_88 rfl ?_
          refine aw_bipush C dX5_readClause_89 k2_32 ?_
          refine aw_cV1I C (s_X5_takes 32 hT2 (by decide)) mf_X5_takes mv_X5_takes (sh_93) rfl ml_X5_31 dX5_readClause_91 (by omega) (Nat.le_of_ble_eq_true rfl) (fun r_91 q_91 h_91 => ?_)
          obtain ⟨rfl, hT3, hF4⟩ := h_91
          have hF5 := hF3.tr hF4.s3
          have hC5 := hF5.cit hc9 hC
          refine aw_if_eq_b C dX5_readClause_94 (tgt := 106) (by decide)  (fun c_94 => ?_) (fun c_94 => ?_)
          · have e94 : ch (clN ch p).2.1 ≠ 32 := fun z => c_94 (by rw [show tk ch true (clN ch p).2.1 32 = (true, (clN ch p).2.1 + 1) from if_pos ⟨rfl, z⟩])
            have hEf := clE_g c_78 e94
            rw [show tk ch true (clN ch p).2.1 32 = (false, (clN ch p).2.1) from if_neg (fun z => e94 z.2)] at hT3
            refine aw_iconst C dX5_readClause_106 k1_0 ?_
            refine aw_iretZ C hR dX5_readClause_107 (by first | rfl | exact bP_nar) ?_
            exact PCL.no (by rw [hCL, hEf]) (by rw [hCL, hEf]) rfl hT3 ⟨cs, hC5⟩ hF5.rd.rc
          · have e94 := tk_w c_94
            rw [e94.2.2] at hT3
            have hEt := clE_t c_78 e94.2.1
            refine aw_aload_0 C dX5_readClause_97 rfl ?_
            refine aw_aload_1 C dX5_readClause_98 rfl ?_
            refine aw_iconst C dX5_readClause_99 k1_0 ?_
            refine aw_cV2I C (s_X5_readExpression c hT3 hc hc9 hC5 (by omega)) mf_X5_readExpression mv_X5_readExpression (sh_93) rfl ml_X5_59 dX5_readClause_100 (by omega) (Nat.le_of_ble_eq_true rfl) (fun r_100 q_100 h_100 => ?_)
            obtain ⟨rfl, hT6, hC6, hX6, hF6⟩ := h_100
            rw [← hEt] at hT6 hC6
            rw [show bP ((prX ch 3 ((clN ch p).2.1 + 1) 0).1 = true) = bP ((clE ch p).1 = true) from by rw [hEt]]
            have hF7 := hF5.rd.tr hF6
            have hb6 := hT6.bd
            refine aw_if_ne_b C dX5_readClause_103 (tgt := 108) (by decide)  (fun c_103 => ?_) (fun c_103 => ?_)
            · have hEw := clE_w c_103
              have hC7 := hC6 c_103
              refine aw_aload_1 C dX5_readClause_108 rfl ?_
              refine aw_iload_2 C dX5_readClause_109 ?_
              refine aw_if_eq_n C dX5_readClause_110 (tgt := 119) (by decide) (by omega) (fun c_110 => absurd c_110 (by decide)) (fun c_110 => ?_)
              refine aw_sipush C dX5_readClause_113 k3_2100 ?_
              refine aw_goto C dX5_readClause_116 (tgt := 122) (by decide) ?_
              refine aw_iload_3 C dX5_readClause_122 ?_
              refine aw_iadd_n C dX5_readClause_123  ?_
              have hwk : wk (ch p) = 1 := hb1
              rw [show nI (2100 + (clN ch p).2.2) = cK (2000 + 100 * wk (ch p) + (clN ch p).2.2) from by rw [hwk]; exact (congrArg nI (by omega)).trans (if_neg (by omega)).symm]
              refine aw_cV1V C (s_X1_add c (2000 + 100 * wk (ch p) + (clN ch p).2.2) hc hC7) mf_X1_add mv_X1_add hc.1 rfl ml_X5_63 dX5_readClause_124 (by omega) (Nat.le_of_ble_eq_true rfl) (fun q_124 h_124 => ?_)
              obtain ⟨hC8, hF8⟩ := h_124
              rw [if_pos (by rw [List.length_append]; omega)] at hC8
              have hT8 : TX q_124 ch n (clE ch p).2.1 := hT6.fr (fun k i z => hF8.2 k i (by omega)) ((hF8.2 93 2 (by omega)).trans hT6.2.1) hT6.bd.2
              have hF9 := hF7.tr (hF8.mono (fun k i z => Or.inr z))
              refine aw_iconst C dX5_readClause_127 k1_1 ?_
              refine aw_iretZ C hR dX5_readClause_128 (by first | rfl | exact bP_nar) ?_
              exact PCL.yes (p := (clE ch p).2.1) (l := (clE ch p).2.2 ++ [2000 + 100 * wk (ch p) + (clN ch p).2.2]) (d := dk) (by rw [hCL, c_103]) rfl hT8 (by rw [← List.append_assoc]; exact hC8) ((hF9.2 c 0 (by unfold SRD; omega)).trans hdk) hF9.rc
            · skip
              refine aw_iconst C dX5_readClause_106 k1_0 ?_
              refine aw_iretZ C hR dX5_readClause_107 (by first | rfl | exact bP_nar) ?_
              exact PCL.no (by rw [hCL]; exact Bool.eq_false_iff.mpr c_103) (by rw [hCL]) rfl hT6 hX6 hF7.rc
        · have hEf := clE_f (Bool.eq_false_iff.mpr c_78)
          refine aw_iconst C dX5_readClause_81 k1_0 ?_
          refine aw_iretZ C hR dX5_readClause_82 (by first | rfl | exact bP_nar) ?_
          exact PCL.no (by rw [hCL, hEf]) (by rw [hCL, hEf]) rfl hT2 ⟨cs, hF3.cit hc9 hC⟩ hF3.rd.rc
  · have hd2 : wk (ch p) = 2 := hwv.1.mpr ((sgn_eq (by decide) hch).mp c_6)
    have hcl : clM ch p dk = ((clN ch p).1, (clN ch p).2.1, [], (clN ch p).2.2) := by unfold clM; rw [if_neg (by omega), if_pos hd2]
    refine aw_aload_0 C dX5_readClause_9 rfl ?_
    refine aw_ldcS C dX5_readClause_10 (i := 0) (by decide) rfl ?_
    refine aw_cV1I C (s_X5_takesWord 0 h (by decide)) mf_X5_takesWord mv_X5_takesWord (sh_93) rfl ml_X5_41 dX5_readClause_12 (by omega) (Nat.le_of_ble_eq_true rfl) (fun r_12 q_12 h_12 => ?_)
    obtain ⟨rfl, hT1, hF1⟩ := h_12
    rw [tkl_scw (k := 2) (by decide) hd2] at hT1
    rw [show bP ((tkl ch (scw 0) true p).1 = true) = bP ((clW ch p).1 = true) from by rw [tkl_scw (k := 2) (by decide) hd2]]
    refine aw_if_eq_b C dX5_readClause_15 (tgt := 29) (by decide)  (fun c_15 => ?_) (fun c_15 => ?_)
    · have hNf := clN_f (Bool.eq_false_iff.mpr c_15)
      refine aw_iconst C dX5_readClause_29 k1_0 ?_
      refine aw_istore_2 C dX5_readClause_30 (by decide) (fun w h => by cases h <;> rfl) ?_
      refine aw_aload_1 C dX5_readClause_31 rfl ?_
      refine aw_aload_0 C dX5_readClause_32 rfl ?_
      refine aw_g5_3 C rfl dX5_readClause_33 fl_X5_49 ?_
      refine aw_p1_0 C dX5_readClause_36 hc.1 fl_X5_52 ?_
      refine aw_iload_2 C dX5_readClause_39 ?_
      refine aw_iretZ C hR dX5_readClause_40 (by rfl) ?_
      exact PCL.no (by rw [hcl, hNf]) (by rw [hcl, hNf]) rfl (hT1.fr (fun k i z => by rw [gI_sI, if_neg (by omega)]) (by rw [gI_sI, if_neg (by omega)]; exact hT1.2.1) hT1.bd.2) ⟨cs, (hF1.s3.cit hc9 hC).t (by rw [gI_sI, if_neg (by omega)]) (fun j => by rw [gI_sI, if_neg (by omega)])⟩ (hF1.s3.rd.rc.put (Or.inr ⟨rfl, rfl⟩))
    · skip
      refine aw_aload_0 C dX5_readClause_18 rfl ?_
      refine aw_cV0I C (s_X5_takesNumber hT1) mf_X5_takesNumber mv_X5_takesNumber (sh_93) rfl ml_X5_45 dX5_readClause_19 (by omega) (Nat.le_of_ble_eq_true rfl) (fun r_19 q_19 h_19 => ?_)
      obtain ⟨rfl, hT2, hn2, hF2⟩ := h_19
      have hN : numM ch true (clW ch p).2 = clN ch p := by unfold clN; rw [c_15]
      rw [hN] at hT2 hn2
      rw [show bP ((numM ch true (clW ch p).2).1 = true) = bP ((clN ch p).1 = true) from by rw [hN]]
      have hF3 := hF1.s3.tr hF2
      refine aw_if_eq_b C dX5_readClause_22 (tgt := 29) (by decide)  (fun c_22 => ?_) (fun c_22 => ?_)
      · skip
        refine aw_iconst C dX5_readClause_29 k1_0 ?_
        refine aw_istore_2 C dX5_readClause_30 (by decide) (fun w h => by cases h <;> rfl) ?_
        refine aw_aload_1 C dX5_readClause_31 rfl ?_
        refine aw_aload_0 C dX5_readClause_32 rfl ?_
        refine aw_g5_3 C hn2 dX5_readClause_33 fl_X5_49 ?_
        refine aw_p1_0 C dX5_readClause_36 hc.1 fl_X5_52 ?_
        refine aw_iload_2 C dX5_readClause_39 ?_
        refine aw_iretZ C hR dX5_readClause_40 (by rfl) ?_
        exact PCL.no (by rw [hcl]; exact Bool.eq_false_iff.mpr c_22) (by rw [hcl]) rfl (hT2.fr (fun k i z => by rw [gI_sI, if_neg (by omega)]) (by rw [gI_sI, if_neg (by omega)]; exact hT2.2.1) hT2.bd.2) ⟨cs, (hF3.cit hc9 hC).t (by rw [gI_sI, if_neg (by omega)]) (fun j => by rw [gI_sI, if_neg (by omega)])⟩ (hF3.rd.rc.put (Or.inr ⟨rfl, rfl⟩))
      · skip
        refine aw_iconst C dX5_readClause_25 k1_1 ?_
        refine aw_goto C dX5_readClause_26 (tgt := 30) (by decide) ?_
        refine aw_istore_2 C dX5_readClause_30 (by decide) (fun w h => by cases h <;> rfl) ?_
        refine aw_aload_1 C dX5_readClause_31 rfl ?_
        refine aw_aload_0 C dX5_readClause_32 rfl ?_
        refine aw_g5_3 C hn2 dX5_readClause_33 fl_X5_49 ?_
        refine aw_p1_0 C dX5_readClause_36 hc.1 fl_X5_52 ?_
        refine aw_iload_2 C dX5_readClause_39 ?_
        refine aw_iretZ C hR dX5_readClause_40 (by rfl) ?_
        exact PCL.yes (p := (clN ch p).2.1) (l := []) (d := (clN ch p).2.2) (by rw [hcl, c_22]) rfl (hT2.fr (fun k i z => by rw [gI_sI, if_neg (by omega)]) (by rw [gI_sI, if_neg (by omega)]; exact hT2.2.1) hT2.bd.2) (by rw [List.append_nil]; exact (hF3.cit hc9 hC).t (by rw [gI_sI, if_neg (by omega)]) (fun j => by rw [gI_sI, if_neg (by omega)])) (by rw [gI_sI, if_pos ⟨rfl, rfl⟩]) (hF3.rd.rc.put (Or.inr ⟨rfl, rfl⟩))

def preC (l : List Nat) (z : Zc) : Zc := (z.1, z.2.1, l ++ z.2.2.1, z.2.2.2)
theorem clsM_n {ch : Nat → Nat} {m p dk : Nat} (h : ¬ ((clM ch p dk).1 = true ∧ ch (clM ch p dk).2.1 = 59)) : clsM ch m p dk = clM ch p dk := by
  cases m with
  | zero => rfl
  | succ m => exact if_neg h
theorem clsM_y {ch : Nat → Nat} {m p dk : Nat} (h : (clM ch p dk).1 = true ∧ ch (clM ch p dk).2.1 = 59) : clsM ch (m + 1) p dk = preC (clM ch p dk).2.2.1 (clsM ch m ((clM ch p dk).2.1 + 1) (clM ch p dk).2.2.2) := if_pos h
theorem preC_preC (a b : List Nat) (z : Zc) : preC a (preC b z) = preC (a ++ b) z := by unfold preC; simp
def PIN (ch : Nat → Nat) (n c : Nat) (q : S_) : Int32 → S_ → Prop := fun r q3 => r = (if (clsM ch 9 0 0).1 = true ∧ (clsM ch 9 0 0).2.1 = n then -1 else nI (clsM ch 9 0 0).2.1) ∧ ((clsM ch 9 0 0).1 = true ∧ (clsM ch 9 0 0).2.1 = n → CitC q3 c (clsM ch 9 0 0).2.2.1 ∧ gI q3 c 0 = nI (clsM ch 9 0 0).2.2.2) ∧ Fr (SRC c) q q3 ∧ (clsM ch 9 0 0).2.1 ≤ n

set_option maxRecDepth 100000 in
set_option maxHeartbeats 4000000 in
theorem s_X5_readInto {G : GT} {q : S_} {ch : Nat → Nat} {n : Nat} (c : Nat) (hl : gI q 93 1 = nI n) (hn : n ≤ 100) (hx : ∀ j, j < n → gI q 94 j = nI (ch j) ∧ ch j < 128) (ho : ∀ j, n ≤ j → ch j = 1000) (hc : shC c) (hc9 : 99 ≤ c) : Spec G 18 yX5_readInto cX5_readInto 3 (some .int) [rfn G 93, rfn G c] q (PI (PIN ch n c q)) := by
  refine Spec.intro RX5 (by decide) rfl (Nat.le_of_ble_eq_true rfl) [some (rfn G 93), some (rfn G c), none] rfl ?_
  intro X d hd C hR
  skip
  refine aw_aload_1 C dX5_readInto_0 rfl ?_
  refine aw_cV0V C (s_X1_clear c hc) mf_X1_clear mv_X1_clear hc.1 rfl ml_X5_19 dX5_readInto_1 (by omega) (Nat.le_of_ble_eq_true rfl) (fun q_1 h_1 => ?_)
  obtain ⟨hC0, hd0, hF0⟩ := h_1
  have hT0 : TX (sI q_1 93 2 (nI 0)) ch n 0 := ⟨by rw [gI_sI, if_neg (by omega), hF0.2 93 1 (by omega)]; exact hl, by rw [gI_sI, if_pos ⟨rfl, rfl⟩], hn, Nat.zero_le _, fun j hj => ⟨by rw [gI_sI, if_neg (by omega), hF0.2 94 j (by omega)]; exact (hx j hj).1, (hx j hj).2⟩, ho⟩
  refine aw_aload_0 C dX5_readInto_4 rfl ?_
  refine aw_iconst C dX5_readInto_5 k1_0 ?_
  refine aw_p5_2 C dX5_readInto_6 fl_X5_24 ?_
  refine aw_iconst C dX5_readInto_9 k1_0 ?_
  refine aw_istore_2 C dX5_readInto_10 (by decide) (fun w h => by cases h <;> rfl) ?_
  have L11 : ∀ (n2 k p dk : Nat) (a : List Nat) (q1 : S_), k ≤ 9 → 9 < k + n2 → clsM ch 9 0 0 = preC a (clsM ch (9 - k) p dk) → TX q1 ch n p → CitC q1 c a → gI q1 c 0 = nI dk → a.length ≤ p → Fr (SRC c) q q1 → AW X G (q1) 11 [some (rfn G 93), some (rfn G c), some (.int (nI k))] [] := by
    refine nat_loop (fun k p dk a q1 g1 g2 hZ h1 hC1 hdk1 hlen hF1 => by omega) (fun n2 ih k p dk a q1 g1 g2 hZ h1 hC1 hdk1 hlen hF1 => ?_)
    refine aw_iload_2 C dX5_readInto_11 ?_
    refine aw_bipush C dX5_readInto_12 k2_10 ?_
    refine aw_icmp_ge_n C dX5_readInto_14 (tgt := 69) (by decide) (by omega) (by omega) (fun c_14 => absurd c_14 (by omega)) (fun c_14 => ?_)
    refine aw_aload_0 C dX5_readInto_17 rfl ?_
    refine aw_aload_1 C dX5_readInto_18 rfl ?_
    refine aw_cV1I C (s_X5_readClause c h1 hc hc9 hC1 hlen hdk1) mf_X5_readClause mv_X5_readClause (sh_93) rfl ml_X5_27 dX5_readInto_19 (by omega) (Nat.le_of_ble_eq_true rfl) (fun r_19 q_19 h_19 => ?_)
    obtain ⟨rfl, h2, h3, h4, hF2⟩ := h_19
    have hb2 := h2.bd
    have hF3 := hF1.tr hF2
    refine aw_if_ne_b C dX5_readInto_22 (tgt := 30) (by decide)  (fun c_22 => ?_) (fun c_22 => ?_)
    · obtain ⟨hC2, hd2⟩ := h3 c_22
      have hln := clM_len c_22
      refine aw_aload_0 C dX5_readInto_30 rfl ?_
      refine aw_g5_2 C h2.2.1 dX5_readInto_31 fl_X5_24 ?_
      refine aw_aload_0 C dX5_readInto_34 rfl ?_
      refine aw_g5_1 C h2.1 dX5_readInto_35 fl_X5_15 ?_
      refine aw_icmp_lt_n C dX5_readInto_38 (tgt := 43) (by decide) (by omega) (by omega) (fun c_38 => ?_) (fun c_38 => ?_)
      · skip
        refine aw_iload_2 C dX5_readInto_43 ?_
        refine aw_bipush C dX5_readInto_44 k2_9 ?_
        refine aw_icmp_eq_n C dX5_readInto_46 (tgt := 58) (by decide) (by omega) (by omega) (fun c_46 => ?_) (fun c_46 => ?_)
        · skip
          refine aw_aload_0 C dX5_readInto_58 rfl ?_
          refine aw_g5_2 C h2.2.1 dX5_readInto_59 fl_X5_24 ?_
          refine aw_iretI C hR dX5_readInto_62 ?_
          have ek : k = 9 := by omega
          subst ek
          have hz : clsM ch 9 0 0 = preC a (clM ch p dk) := hZ
          exact ⟨by rw [hz]; exact (if_neg (fun z => by have a1 := z.2; have a2 : (clM ch p dk).2.1 = n := a1; omega)).symm, fun z => by rw [hz] at z; have a2 : (clM ch p dk).2.1 = n := z.2; omega, hF3, by rw [hz]; exact hb2.2⟩
        · skip
          refine aw_aload_0 C dX5_readInto_49 rfl ?_
          refine aw_bipush C dX5_readInto_50 k2_59 ?_
          refine aw_cV1I C (s_X5_takes 59 h2 (by decide)) mf_X5_takes mv_X5_takes (sh_93) rfl ml_X5_31 dX5_readInto_52 (by omega) (Nat.le_of_ble_eq_true rfl) (fun r_52 q_52 h_52 => ?_)
          obtain ⟨rfl, h5, hF5⟩ := h_52
          refine aw_if_ne_b C dX5_readInto_55 (tgt := 63) (by decide)  (fun c_55 => ?_) (fun c_55 => ?_)
          · have e55 := tk_w c_55
            rw [e55.2.2] at h5
            have hb5 := h5.bd
            refine aw_iinc_2 C dX5_readInto_63 (by decide) (fun w h => by cases h <;> rfl) (show _ + Int32.ofInt 1 = _ by rw [k1_1, nI_add]) ?_
            refine aw_goto C dX5_readInto_66 (tgt := 11) (by decide) ?_
            have hy := clsM_y (m := 9 - (k + 1)) ⟨c_22, e55.2.1⟩
            exact ih (k + 1) ((clM ch p dk).2.1 + 1) (clM ch p dk).2.2.2 (a ++ (clM ch p dk).2.2.1) q_52 (by omega) (by omega) (by rw [hZ, show 9 - k = 9 - (k + 1) + 1 by omega, hy, preC_preC]) h5 (hF5.s3.cit hc9 hC2) ((hF5.2 c 0 (by unfold ST2; omega)).trans hd2) (by rw [List.length_append]; omega) (hF3.tr hF5.s3.rd.rc)
          · have e55 : ch (clM ch p dk).2.1 ≠ 59 := fun z => c_55 (by rw [show tk ch true (clM ch p dk).2.1 59 = (true, (clM ch p dk).2.1 + 1) from if_pos ⟨rfl, z⟩])
            rw [show tk ch true (clM ch p dk).2.1 59 = (false, (clM ch p dk).2.1) from if_neg (fun z => e55 z.2)] at h5
            refine aw_aload_0 C dX5_readInto_58 rfl ?_
            refine aw_g5_2 C h5.2.1 dX5_readInto_59 fl_X5_24 ?_
            refine aw_iretI C hR dX5_readInto_62 ?_
            have hz := hZ.trans (congrArg (preC a) (clsM_n (m := 9 - k) (fun z => e55 z.2)))
            exact ⟨by rw [hz]; exact (if_neg (fun z => by have a1 := z.2; have a2 : (clM ch p dk).2.1 = n := a1; omega)).symm, fun z => by rw [hz] at z; have a2 : (clM ch p dk).2.1 = n := z.2; omega, hF3.tr hF5.s3.rd.rc, by rw [hz]; exact hb2.2⟩
      · skip
        refine aw_iconst C dX5_readInto_41 k1_m1 ?_
        refine aw_iretI C hR dX5_readInto_42 ?_
        have e59 : ¬ (((clM ch p dk).1 = true) ∧ ch (clM ch p dk).2.1 = 59) := fun z => by rw [ho _ (by omega)] at z; exact absurd z.2 (by decide)
        have hz := hZ.trans (congrArg (preC a) (clsM_n (m := 9 - k) e59))
        have hpn : (clM ch p dk).2.1 = n := by omega
        exact ⟨by rw [hz]; exact (if_pos ⟨c_22, hpn⟩).symm, fun z => by rw [hz]; exact ⟨hC2, hd2⟩, hF3, by rw [hz]; exact hb2.2⟩
    · skip
      refine aw_aload_0 C dX5_readInto_25 rfl ?_
      refine aw_g5_2 C h2.2.1 dX5_readInto_26 fl_X5_24 ?_
      refine aw_iretI C hR dX5_readInto_29 ?_
      have hz := hZ.trans (congrArg (preC a) (clsM_n (m := 9 - k) (fun z => c_22 z.1)))
      have hzf : (clM ch p dk).1 = false := Bool.eq_false_iff.mpr c_22
      exact ⟨by rw [hz]; exact (if_neg (fun z => c_22 z.1)).symm, fun z => by rw [hz] at z; exact absurd z.1 c_22, hF3, by rw [hz]; exact hb2.2⟩
  exact L11 10 0 0 0 [] _ (by omega) (by omega) rfl hT0 (hC0.t (by rw [gI_sI, if_neg (by omega)]) (fun j => by rw [gI_sI, if_neg (by omega)])) (by rw [gI_sI, if_neg (by omega)]; exact hd0) (Nat.le_refl 0) ((hF0.mono (fun k i z => by unfold SRC SRD; omega)).put (Or.inl (Or.inl ⟨rfl, Or.inl rfl⟩)))

set_option maxRecDepth 100000 in
set_option maxHeartbeats 4000000 in
theorem s_X5_append {G : GT} {q : S_} {n : Nat} (x : Nat) (hl : gI q 93 1 = nI n) (hn : n ≤ 100) : Spec G 1 yX5_append cX5_append 2 (some .int) [rfn G 93, .int (nI x)] q (PI (fun r q3 => (n = 100 ∧ r = -4 ∧ q3 = q) ∨ (n < 100 ∧ r = nI (n + 1) ∧ q3 = sI (sI q 94 n (nI x)) 93 1 (nI (n + 1))))) := by
  refine Spec.intro RX5 (by decide) rfl (Nat.le_of_ble_eq_true rfl) [some (rfn G 93), some (.int (nI x))] rfl ?_
  intro X d hd C hR
  refine aw_aload_0 C dX5_append_0 rfl ?_
  refine aw_g5_1 C hl dX5_append_1 fl_X5_15 ?_
  refine aw_bipush C dX5_append_4 k2_100 ?_
  refine aw_icmp_lt_n C dX5_append_6 (tgt := 12) (by decide) (by omega) (by omega) (fun c_6 => ?_) (fun c_6 => ?_)
  · skip
    refine aw_aload_0 C dX5_append_12 rfl ?_
    refine aw_g5_0 C dX5_append_13 fl_X5_9 ?_
    refine aw_aload_0 C dX5_append_16 rfl ?_
    refine aw_g5_1 C hl dX5_append_17 fl_X5_15 ?_
    refine aw_iload_1 C dX5_append_20 ?_
    refine aw_iast C _ dX5_append_21 sh_94 rfl (by omega) ?_
    refine aw_aload_0 C dX5_append_22 rfl ?_
    refine aw_dup C dX5_append_23 rfl ?_
    refine aw_g5_1 C (show gI _ 93 1 = nI n by rw [gI_sI, if_neg (by omega)]; exact hl) dX5_append_24 fl_X5_15 ?_
    refine aw_iconst C dX5_append_27 k1_1 ?_
    refine aw_iadd_n C dX5_append_28  ?_
    refine aw_p5_1 C dX5_append_29 fl_X5_15 ?_
    refine aw_aload_0 C dX5_append_32 rfl ?_
    refine aw_g5_1 C (show gI _ 93 1 = nI (n + 1) by rw [gI_sI, if_pos ⟨rfl, rfl⟩]) dX5_append_33 fl_X5_15 ?_
    refine aw_iretI C hR dX5_append_36 ?_
    exact Or.inr ⟨c_6, rfl, rfl⟩
  · skip
    refine aw_bipush C dX5_append_9 k2_m4 ?_
    refine aw_iretI C hR dX5_append_11 ?_
    exact Or.inl ⟨by omega, rfl, rfl⟩
