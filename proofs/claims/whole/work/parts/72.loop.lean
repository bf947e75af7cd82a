theorem LX.le {X : CT} {G : GT} {b L : Nat} {xs : Nat → Int32} (h : LX X G b L xs) : L ≤ 3072 := by
  obtain ⟨p, l, e, R, s, m, args, below, meth, c, ce, sl, Q⟩ := X
  exact h.2.2.2
set_option maxRecDepth 100000 in
set_option maxHeartbeats 4000000 in
theorem law_loop {X : CT} {G : GT} {d b L : Nat} {xs : Nat → Int32} (C : Cx X G cL_law RL 4 d) (hd : 31 ≤ d) (hL : LX X G b L xs) (hEnd : ∀ (q : S_) (i : Nat), AW X G q 1385 [some (.ref b), some (rfn G 0), some (rfn G 129), some (.int (nI i))] []) : ∀ (n i : Nat) (q : S_) (g : GS), i ≤ L + 6 → L < i + 6 * n → GOK2 g → CC q g → RR q g → AW X G q 18 [some (.ref b), some (rfn G 0), some (rfn G 129), some (.int (nI i))] [] := by
  have h3 := hL.le
  intro n
  induction n with
  | zero =>
    intro i q g h1 h2 hg hc hr
    refine aw_iload_3 C dL_law_18 ?_
    refine aw_aload_0 C dL_law_19 rfl ?_
    refine aw_lslen C hL dL_law_20 ?_
    refine aw_bipush C dL_law_21 k2_6 ?_
    refine aw_isub C dL_law_23 ?_
    refine aw_icmp_gt C dL_law_24 (tgt := 1385) (by decide) (fun _ => hEnd q i) (fun c => ?_)
    have hi := law_le hL.le (by omega) c
    omega
  | succ n ih =>
    intro i q g h1 h2 hg hc hr
    refine aw_iload_3 C dL_law_18 ?_
    refine aw_aload_0 C dL_law_19 rfl ?_
    refine aw_lslen C hL dL_law_20 ?_
    refine aw_bipush C dL_law_21 k2_6 ?_
    refine aw_isub C dL_law_23 ?_
    refine aw_icmp_gt C dL_law_24 (tgt := 1385) (by decide) (fun _ => hEnd q i) (fun c => ?_)
    have hi := law_le hL.le (by omega) c
    refine aw_aload_0 C dL_law_27 rfl ?_
    refine aw_iload_3 C dL_law_28 ?_
    refine aw_lsld C hL (i := i) rfl (by omega) dL_law_29 ?_
    refine aw_bipush C dL_law_30 k2_63 ?_
    refine aw_iand C dL_law_32 ?_
    obtain ⟨j, hj, ej⟩ := and63 (xs i)
    rw [ej]
    have hN : ∀ (q2 : S_) (g2 : GS), GOK2 g2 → CC q2 g2 → RR q2 g2 → AW X G q2 1379 [some (.ref b), some (rfn G 0), some (rfn G 129), some (.int (nI i))] [] := fun q2 g2 a1 a2 a3 => by
      refine aw_iinc_3 C dL_law_1379 (by decide) (fun w h => by cases h <;> rfl) (show _ + Int32.ofInt 6 = _ by rw [k1_6, nI_add]) ?_
      refine aw_goto C dL_law_1382 (tgt := 18) (by decide) ?_
      exact ih (i + 6) q2 g2 (by omega) (by omega) a1 a2 a3
    by_cases h36 : j < 36
    · rcases (show j = 0 ∨ j = 1 ∨ j = 2 ∨ j = 3 ∨ j = 4 ∨ j = 5 ∨ j = 6 ∨ j = 7 ∨ j = 8 ∨ j = 9 ∨ j = 10 ∨ j = 11 ∨ j = 12 ∨ j = 13 ∨ j = 14 ∨ j = 15 ∨ j = 16 ∨ j = 17 ∨ j = 18 ∨ j = 19 ∨ j = 20 ∨ j = 21 ∨ j = 22 ∨ j = 23 ∨ j = 24 ∨ j = 25 ∨ j = 26 ∨ j = 27 ∨ j = 28 ∨ j = 29 ∨ j = 30 ∨ j = 31 ∨ j = 32 ∨ j = 33 ∨ j = 34 ∨ j = 35 by omega) with rfl | rfl | rfl | rfl | rfl | rfl | rfl | rfl | rfl | rfl | rfl | rfl | rfl | rfl | rfl | rfl | rfl | rfl | rfl | rfl | rfl | rfl | rfl | rfl | rfl | rfl | rfl | rfl | rfl | rfl | rfl | rfl | rfl | rfl | rfl | rfl
      · exact aw_tableIn C dL_law_33 (off := 159) (tgt := 192) (by decide +kernel) (by decide +kernel) (by decide +kernel) (by decide) (law_0 C hd hL hi hg hc hr hN)
      · exact aw_tableIn C dL_law_33 (off := 192) (tgt := 225) (by decide +kernel) (by decide +kernel) (by decide +kernel) (by decide) (law_1 C hd hL hi hg hc hr hN)
      · exact aw_tableIn C dL_law_33 (off := 235) (tgt := 268) (by decide +kernel) (by decide +kernel) (by decide +kernel) (by decide) (law_2 C hd hL hi hg hc hr hN)
      · exact aw_tableIn C dL_law_33 (off := 268) (tgt := 301) (by decide +kernel) (by decide +kernel) (by decide +kernel) (by decide) (law_3 C hd hL hi hg hc hr hN)
      · exact aw_tableIn C dL_law_33 (off := 301) (tgt := 334) (by decide +kernel) (by decide +kernel) (by decide +kernel) (by decide) (law_4 C hd hL hi hg hc hr hN)
      · exact aw_tableIn C dL_law_33 (off := 334) (tgt := 367) (by decide +kernel) (by decide +kernel) (by decide +kernel) (by decide) (law_5 C hd hL hi hg hc hr hN)
      · exact aw_tableIn C dL_law_33 (off := 367) (tgt := 400) (by decide +kernel) (by decide +kernel) (by decide +kernel) (by decide) (law_6 C hd hL hi hg hc hr hN)
      · exact aw_tableIn C dL_law_33 (off := 416) (tgt := 449) (by decide +kernel) (by decide +kernel) (by decide +kernel) (by decide) (law_7 C hd hL hi hg hc hr hN)
      · exact aw_tableIn C dL_law_33 (off := 449) (tgt := 482) (by decide +kernel) (by decide +kernel) (by decide +kernel) (by decide) (law_8 C hd hL hi hg hc hr hN)
      · exact aw_tableIn C dL_law_33 (off := 492) (tgt := 525) (by decide +kernel) (by decide +kernel) (by decide +kernel) (by decide) (law_9 C hd hL hi hg hc hr hN)
      · exact aw_tableIn C dL_law_33 (off := 515) (tgt := 548) (by decide +kernel) (by decide +kernel) (by decide +kernel) (by decide) (law_10 C hd hL hi hg hc hr hN)
      · exact aw_tableIn C dL_law_33 (off := 528) (tgt := 561) (by decide +kernel) (by decide +kernel) (by decide +kernel) (by decide) (law_11 C hd hL hi hg hc hr hN)
      · exact aw_tableIn C dL_law_33 (off := 551) (tgt := 584) (by decide +kernel) (by decide +kernel) (by decide +kernel) (by decide) (law_12 C hd hL hi hg hc hr hN)
      · exact aw_tableIn C dL_law_33 (off := 574) (tgt := 607) (by decide +kernel) (by decide +kernel) (by decide +kernel) (by decide) (law_13 C hd hL hi hg hc hr hN)
      · exact aw_tableIn C dL_law_33 (off := 607) (tgt := 640) (by decide +kernel) (by decide +kernel) (by decide +kernel) (by decide) (law_14 C hd hL hi hg hc hr hN)
      · exact aw_tableIn C dL_law_33 (off := 650) (tgt := 683) (by decide +kernel) (by decide +kernel) (by decide +kernel) (by decide) (law_15 C hd hL hi hg hc hr hN)
      · exact aw_tableIn C dL_law_33 (off := 683) (tgt := 716) (by decide +kernel) (by decide +kernel) (by decide +kernel) (by decide) (law_16 C hd hL hi hg hc hr hN)
      · exact aw_tableIn C dL_law_33 (off := 726) (tgt := 759) (by decide +kernel) (by decide +kernel) (by decide +kernel) (by decide) (law_17 C hd hL hi hg hc hr hN)
      · exact aw_tableIn C dL_law_33 (off := 749) (tgt := 782) (by decide +kernel) (by decide +kernel) (by decide +kernel) (by decide) (law_18 C hd hL hi hg hc hr hN)
      · exact aw_tableIn C dL_law_33 (off := 782) (tgt := 815) (by decide +kernel) (by decide +kernel) (by decide +kernel) (by decide) (law_19 C hd hL hi hg hc hr hN)
      · exact aw_tableIn C dL_law_33 (off := 826) (tgt := 859) (by decide +kernel) (by decide +kernel) (by decide +kernel) (by decide) (law_20 C hd hL hi hg hc hr hN)
      · exact aw_tableIn C dL_law_33 (off := 850) (tgt := 883) (by decide +kernel) (by decide +kernel) (by decide +kernel) (by decide) (law_21 C hd hL hi hg hc hr hN)
      · exact aw_tableIn C dL_law_33 (off := 883) (tgt := 916) (by decide +kernel) (by decide +kernel) (by decide +kernel) (by decide) (law_22 C hd hL hi hg hc hr hN)
      · exact aw_tableIn C dL_law_33 (off := 906) (tgt := 939) (by decide +kernel) (by decide +kernel) (by decide +kernel) (by decide) (law_23 C hd hL hi hg hc hr hN)
      · exact aw_tableIn C dL_law_33 (off := 939) (tgt := 972) (by decide +kernel) (by decide +kernel) (by decide +kernel) (by decide) (law_24 C hd hL hi hg hc hr hN)
      · exact aw_tableIn C dL_law_33 (off := 952) (tgt := 985) (by decide +kernel) (by decide +kernel) (by decide +kernel) (by decide) (law_25 C hd hL hi hg hc hr hN)
      · exact aw_tableIn C dL_law_33 (off := 985) (tgt := 1018) (by decide +kernel) (by decide +kernel) (by decide +kernel) (by decide) (law_26 C hd hL hi hg hc hr hN)
      · exact aw_tableIn C dL_law_33 (off := 998) (tgt := 1031) (by decide +kernel) (by decide +kernel) (by decide +kernel) (by decide) (law_27 C hd hL hi hg hc hr hN)
      · exact aw_tableIn C dL_law_33 (off := 1011) (tgt := 1044) (by decide +kernel) (by decide +kernel) (by decide +kernel) (by decide) (law_28 C hd hL hi hg hc hr hN)
      · exact aw_tableIn C dL_law_33 (off := 1054) (tgt := 1087) (by decide +kernel) (by decide +kernel) (by decide +kernel) (by decide) (law_29 C hd hL hi hg hc hr hN)
      · exact aw_tableIn C dL_law_33 (off := 1077) (tgt := 1110) (by decide +kernel) (by decide +kernel) (by decide +kernel) (by decide) (law_30 C hd hL hi hg hc hr hN)
      · exact aw_tableIn C dL_law_33 (off := 1110) (tgt := 1143) (by decide +kernel) (by decide +kernel) (by decide +kernel) (by decide) (law_31 C hd hL hi hg hc hr hN)
      · exact aw_tableIn C dL_law_33 (off := 1133) (tgt := 1166) (by decide +kernel) (by decide +kernel) (by decide +kernel) (by decide) (law_32 C hd hL hi hg hc hr hN)
      · exact aw_tableIn C dL_law_33 (off := 1176) (tgt := 1209) (by decide +kernel) (by decide +kernel) (by decide +kernel) (by decide) (law_33 C hd hL hi hg hc hr hN)
      · exact aw_tableIn C dL_law_33 (off := 1249) (tgt := 1282) (by decide +kernel) (by decide +kernel) (by decide +kernel) (by decide) (law_34 C hd hL hi hg hc hr hN)
      · exact aw_tableIn C dL_law_33 (off := 1283) (tgt := 1316) (by decide +kernel) (by decide +kernel) (by decide +kernel) (by decide) (law_35 C hd hL hi hg hc hr hN)
    · refine aw_tableOut C dL_law_33 (tgt := 1379) (Or.inr ?_) (by decide) (hN q g hg hc hr)
      rw [nI_toInt (by omega)]
      omega
