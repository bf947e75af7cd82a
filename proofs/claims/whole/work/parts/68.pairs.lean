set_option maxRecDepth 100000 in
set_option maxHeartbeats 4000000 in
theorem kX8_init {G : GT}  : KS G 3 yX8_init cX8_init 2 [] (0) 8 kd8 128 6414 := by
  refine KS.intro RX8 (by decide) rfl rfl (Nat.le_of_ble_eq_true rfl) [some (rfn G (0)), none] rfl ?_
  intro X d B hd hB C hI hR
  refine kw_aload_0 C dX8_init_0 rfl ?_
  refine kw_objInit C rfl ko_X8 ko_i ko_c dX8_init_1 (by omega) ?_
  refine kw_aload_0 C dX8_init_4 rfl ?_
  refine kw_new C (1) 7 (by omega) rfl (gtb_u inX7) tyX7 tyX7_ok kl_X8_11 kn_X7 ky_X7 kd7 kd7_ok (by omega) (by omega) dX8_init_5 ?_
  refine kw_dup C dX8_init_8 rfl ?_
  refine kw_call C (kX7_init isW1) mf_X7_init rfl kx_X7 (Or.inl ml_X8_13) rfl dX8_init_9 (by omega) (by omega) (by omega) (by omega) (by intro b h1 h2; exact ((kov_ne (by omega)).trans (hB _ (by omega)))) rfl (Nat.le_of_ble_eq_true rfl) ?_
  refine kw_putF C hI 8 0 rfl (gtb_u inX8) tyX8 tyX8_ok nmX8 (fs := kd8) kov_eq (by omega) (by decide) rfl rfl rfl rfl (Nat.le_of_ble_eq_true rfl) fl_X8_14 dX8_init_12 ?_
  rw [kov_kov]
  refine kw_aload_0 C dX8_init_15 rfl ?_
  refine kw_new C (30) 7 (by omega) rfl (gtb_u inX7) tyX7 tyX7_ok kl_X8_11 kn_X7 ky_X7 kd7 kd7_ok (by omega) (by omega) dX8_init_16 ?_
  refine kw_dup C dX8_init_19 rfl ?_
  refine kw_call C (kX7_init isW30) mf_X7_init rfl kx_X7 (Or.inl ml_X8_13) rfl dX8_init_20 (by omega) (by omega) (by omega) (by omega) (by intro b h1 h2; exact ((kov_ne (by omega)).trans (hB _ (by omega)))) rfl (Nat.le_of_ble_eq_true rfl) ?_
  refine kw_putF C hI 8 1 rfl (gtb_u inX8) tyX8 tyX8_ok nmX8 (fs := (kd8.set 0 (rfn G (1)))) kov_eq (by omega) (by decide) rfl rfl rfl rfl (Nat.le_of_ble_eq_true rfl) fl_X8_18 dX8_init_23 ?_
  rw [kov_kov]
  refine kw_aload_0 C dX8_init_26 rfl ?_
  refine kw_new C (59) 7 (by omega) rfl (gtb_u inX7) tyX7 tyX7_ok kl_X8_11 kn_X7 ky_X7 kd7 kd7_ok (by omega) (by omega) dX8_init_27 ?_
  refine kw_dup C dX8_init_30 rfl ?_
  refine kw_call C (kX7_init isW59) mf_X7_init rfl kx_X7 (Or.inl ml_X8_13) rfl dX8_init_31 (by omega) (by omega) (by omega) (by omega) (by intro b h1 h2; exact ((kov_ne (by omega)).trans (hB _ (by omega)))) rfl (Nat.le_of_ble_eq_true rfl) ?_
  refine kw_putF C hI 8 2 rfl (gtb_u inX8) tyX8 tyX8_ok nmX8 (fs := ((kd8.set 0 (rfn G (1))).set 1 (rfn G (30)))) kov_eq (by omega) (by decide) rfl rfl rfl rfl (Nat.le_of_ble_eq_true rfl) fl_X8_21 dX8_init_34 ?_
  rw [kov_kov]
  refine kw_aload_0 C dX8_init_37 rfl ?_
  refine kw_new C (88) 6 (by omega) rfl (gtb_u inX6) tyX6 tyX6_ok kl_X8_24 kn_X6 ky_X6 kd6 kd6_ok (by omega) (by omega) dX8_init_38 ?_
  refine kw_dup C dX8_init_41 rfl ?_
  refine kw_call C kX6_init mf_X6_init rfl kx_X6 (Or.inr ⟨RX8, fun U h => h.1.2.1⟩) rfl dX8_init_42 (by omega) (by omega) (by omega) (by omega) (by intro b h1 h2; exact ((kov_ne (by omega)).trans (hB _ (by omega)))) rfl (Nat.le_of_ble_eq_true rfl) ?_
  refine kw_putF C hI 8 3 rfl (gtb_u inX8) tyX8 tyX8_ok nmX8 (fs := (((kd8.set 0 (rfn G (1))).set 1 (rfn G (30))).set 2 (rfn G (59)))) kov_eq (by omega) (by decide) rfl rfl rfl rfl (Nat.le_of_ble_eq_true rfl) fl_X8_27 dX8_init_45 ?_
  rw [kov_kov]
  refine kw_aload_0 C dX8_init_48 rfl ?_
  refine kw_new C (93) 5 (by omega) rfl (gtb_u inX5) tyX5 tyX5_ok kl_X8_31 kn_X5 ky_X5 kd5 kd5_ok (by omega) (by omega) dX8_init_49 ?_
  refine kw_dup C dX8_init_52 rfl ?_
  refine kw_call C kX5_init mf_X5_init rfl kx_X5 (Or.inr ⟨RX8, fun U h => h.1.2.2.1⟩) rfl dX8_init_53 (by omega) (by omega) (by omega) (by omega) (by intro b h1 h2; exact ((kov_ne (by omega)).trans (hB _ (by omega)))) rfl (Nat.le_of_ble_eq_true rfl) ?_
  refine kw_putF C hI 8 4 rfl (gtb_u inX8) tyX8 tyX8_ok nmX8 (fs := ((((kd8.set 0 (rfn G (1))).set 1 (rfn G (30))).set 2 (rfn G (59))).set 3 (rfn G (88)))) kov_eq (by omega) (by decide) rfl rfl rfl rfl (Nat.le_of_ble_eq_true rfl) fl_X8_34 dX8_init_56 ?_
  rw [kov_kov]
  refine kw_aload_0 C dX8_init_59 rfl ?_
  refine kw_bipush C dX8_init_60 k2_6 ?_
  refine kw_newr C (95) (by omega) 5 rfl kl_X8_38 (fun U h => h.2.2.1) (kfil (fun j => some (G.2.2.1 + (99 + 3 * j))) 0) (fun j hj => kfil_0 hj) rfl (by decide) (by omega) (by omega) dX8_init_62 ?_
  rw [kov_com (by omega)]
  refine kw_putF C hI 8 5 rfl (gtb_u inX8) tyX8 tyX8_ok nmX8 (fs := (((((kd8.set 0 (rfn G (1))).set 1 (rfn G (30))).set 2 (rfn G (59))).set 3 (rfn G (88))).set 4 (rfn G (93)))) kov_eq (by omega) (by decide) rfl rfl rfl rfl (Nat.le_of_ble_eq_true rfl) fl_X8_40 dX8_init_65 ?_
  rw [kov_kov]
  refine kw_aload_0 C dX8_init_68 rfl ?_
  refine kw_bipush C dX8_init_69 k2_6 ?_
  refine kw_newr C (96) (by omega) 6 rfl kl_X8_44 (fun U h => h.2.2.2) (kfil (fun j => some (G.2.2.1 + (117 + 2 * j))) 0) (fun j hj => kfil_0 hj) rfl (by decide) (by omega) (by omega) dX8_init_71 ?_
  rw [kov_com (by omega)]
  refine kw_putF C hI 8 6 rfl (gtb_u inX8) tyX8 tyX8_ok nmX8 (fs := ((((((kd8.set 0 (rfn G (1))).set 1 (rfn G (30))).set 2 (rfn G (59))).set 3 (rfn G (88))).set 4 (rfn G (93))).set 5 (rfn G (95)))) kov_eq (by omega) (by decide) rfl rfl rfl rfl (Nat.le_of_ble_eq_true rfl) fl_X8_46 dX8_init_74 ?_
  rw [kov_kov]
  refine kw_aload_0 C dX8_init_77 rfl ?_
  refine kw_new C (97) 0 (by omega) rfl (gtb_u inX0) tyX0 tyX0_ok kl_X8_50 kn_X0 ky_X0 kd0 kd0_ok (by omega) (by omega) dX8_init_78 ?_
  refine kw_dup C dX8_init_81 rfl ?_
  refine kw_call C kX0_init mf_X0_init rfl kx_X0 (Or.inr ⟨RX8, fun U h => h.1.2.2.2.1⟩) rfl dX8_init_82 (by omega) (by omega) (by omega) (by omega) (by intro b h1 h2; exact ((kov_ne (by omega)).trans ((kov_ne (by omega)).trans ((kov_ne (by omega)).trans (hB _ (by omega)))))) rfl (Nat.le_of_ble_eq_true rfl) ?_
  refine kw_putF C hI 8 7 rfl (gtb_u inX8) tyX8 tyX8_ok nmX8 (fs := (((((((kd8.set 0 (rfn G (1))).set 1 (rfn G (30))).set 2 (rfn G (59))).set 3 (rfn G (88))).set 4 (rfn G (93))).set 5 (rfn G (95))).set 6 (rfn G (96)))) kov_eq (by omega) (by decide) rfl rfl rfl rfl (Nat.le_of_ble_eq_true rfl) fl_X8_53 dX8_init_85 ?_
  rw [kov_kov]
  refine kw_iconst C dX8_init_88 k1_0 ?_
  refine kw_istore_1 C dX8_init_89 (by decide) (fun w h => by cases h <;> rfl) ?_
  have L2 : ∀ n i, i + n = 6 → KW X G (0 + 1) (kov (kov (kov B (95) (.inl (G.2.1 5, 6, .inr (.inr (.inr (.inr (kfil (fun j => some (G.2.2.1 + (99 + 3 * j))) 6))))))) (96) (.inl (G.2.1 6, 6, .inr (.inr (.inr (.inr (kfil (fun j => some (G.2.2.1 + (117 + 2 * j))) i))))))) (0) (.inr (8, ((((((((kd8.set 0 (rfn G (1))).set 1 (rfn G (30))).set 2 (rfn G (59))).set 3 (rfn G (88))).set 4 (rfn G (93))).set 5 (rfn G (95))).set 6 (rfn G (96))).set 7 (rfn G (97)))))) (116 + 2 * i) (6036 + 63 * i) 117 [some (rfn G 0), some (.int (nI i))] [] := by
    intro n
    induction n with
    | zero =>
      intro i hi
      refine kw_iload_1 C dX8_init_117 ?_
      refine kw_bipush C dX8_init_118 k2_6 ?_
      refine kw_icmp_ge C dX8_init_120 (tgt := 142) (by decide) (fun _ => ?_) (fun c => absurd (nI_le (by omega) (by omega)) c)
      have e6 : i = 6 := by omega
      subst e6
      rw [kfil_6, kfil_6]
      refine kw_ret C hR (by omega) (by omega) ?_ dX8_init_142
      rw [kov_self (k := 95) ((hB _ (by omega)).trans (cell_cit sh_95)), kov_self (k := 96) ((hB _ (by omega)).trans (cell_tap sh_96))]
      refine kov_self ((hB _ (Nat.le_refl _)).trans ?_)
      rw [cell_obj sh_0]
      unfold flds
      simp only [gI, kq_ob (show 0 < 129 by omega) sh_0 (by decide) (by decide)]
      rfl
    | succ n ih =>
      intro i hi
      refine kw_iload_1 C dX8_init_117 ?_
      refine kw_bipush C dX8_init_118 k2_6 ?_
      refine kw_icmp_ge C dX8_init_120 (tgt := 142) (by decide) (fun c => absurd c (nI_ge (by omega) (by omega))) (fun _ => ?_)
      refine kw_aload_0 C dX8_init_123 rfl ?_
      refine kw_get C 8 6 rfl (gtb_u inX8) (fs := ((((((((kd8.set 0 (rfn G (1))).set 1 (rfn G (30))).set 2 (rfn G (59))).set 3 (rfn G (88))).set 4 (rfn G (93))).set 5 (rfn G (95))).set 6 (rfn G (96))).set 7 (rfn G (97)))) (v := rfn G (96)) kov_eq (by omega) (by decide) rfl fl_X8_46 dX8_init_124 ?_
      refine kw_iload_1 C dX8_init_127 ?_
      refine kw_new C (117 + 2 * i) 4 (by omega) rfl (gtb_u inX4) tyX4 tyX4_ok kl_X8_44 kn_X4 ky_X4 kd4 kd4_ok (by omega) (by omega) dX8_init_128 ?_
      refine kw_dup C dX8_init_131 rfl ?_
      refine kw_call C (kX4_init (by omega) (shTa (by omega))) mf_X4_init rfl kx_X4 (Or.inr ⟨RX8, fun U h => h.1.2.2.2.2.2⟩) rfl dX8_init_132 (by omega) (by omega) (by omega) (by omega) (by intro b h1 h2; exact ((kov_ne (by omega)).trans ((kov_ne (by omega)).trans ((kov_ne (by omega)).trans (hB _ (by omega)))))) rfl (Nat.le_of_ble_eq_true rfl) ?_
      refine kw_aast C 6 (117 + 2 * i) 4 (f := kfil (fun j => some (G.2.2.1 + (117 + 2 * j))) i) rfl ((kov_ne (by omega)).trans kov_eq) rfl (((kov_ne (by omega)).trans ((kov_ne (by omega)).trans ((kov_ne (by omega)).trans (hB _ (by omega))))).trans (cell_obj (shTa (j := i) (by omega)).1)) rfl (by omega) (by omega) (by omega) (by decide) dX8_init_135 ?_
      rw [kfil_s (g := (fun j => some (G.2.2.1 + (117 + 2 * j)))) (i := i) (v := G.2.2.1 + (117 + 2 * i)) (by omega) rfl]
      rw [kov_com (k := 0) (j := 96) (by omega), kov_kov]
      refine kw_iinc_1 C dX8_init_136 (by decide) (fun w h => by cases h <;> rfl) (show _ + Int32.ofInt 1 = _ by rw [k1_1, nI_add]) ?_
      refine kw_goto C dX8_init_139 (tgt := 117) (by decide) ?_
      have hn := ih (i + 1) (by omega)
      rw [show 116 + 2 * (i + 1) = 116 + 2 * i + 1 + 1 by omega, show 6036 + 63 * (i + 1) = 6036 + 63 * i + 3 + 60 by omega] at hn
      exact hn
  have L1 : ∀ n i, i + n = 6 → KW X G (0 + 1) (kov (kov (kov B (95) (.inl (G.2.1 5, 6, .inr (.inr (.inr (.inr (kfil (fun j => some (G.2.2.1 + (99 + 3 * j))) i))))))) (96) (.inl (G.2.1 6, 6, .inr (.inr (.inr (.inr (kfil (fun j => some (G.2.2.1 + (117 + 2 * j))) 0))))))) (0) (.inr (8, ((((((((kd8.set 0 (rfn G (1))).set 1 (rfn G (30))).set 2 (rfn G (59))).set 3 (rfn G (88))).set 4 (rfn G (93))).set 5 (rfn G (95))).set 6 (rfn G (96))).set 7 (rfn G (97)))))) (98 + 3 * i) (5376 + 110 * i) 90 [some (rfn G 0), some (.int (nI i))] [] := by
    intro n
    induction n with
    | zero =>
      intro i hi
      refine kw_iload_1 C dX8_init_90 ?_
      refine kw_bipush C dX8_init_91 k2_6 ?_
      refine kw_icmp_ge C dX8_init_93 (tgt := 115) (by decide) (fun _ => ?_) (fun c => absurd (nI_le (by omega) (by omega)) c)
      have e6 : i = 6 := by omega
      subst e6
      refine kw_iconst C dX8_init_115 k1_0 ?_
      refine kw_istore_1 C dX8_init_116 (by decide) (fun w h => by cases h <;> rfl) ?_
      exact L2 6 0 rfl
    | succ n ih =>
      intro i hi
      refine kw_iload_1 C dX8_init_90 ?_
      refine kw_bipush C dX8_init_91 k2_6 ?_
      refine kw_icmp_ge C dX8_init_93 (tgt := 115) (by decide) (fun c => absurd c (nI_ge (by omega) (by omega))) (fun _ => ?_)
      refine kw_aload_0 C dX8_init_96 rfl ?_
      refine kw_get C 8 5 rfl (gtb_u inX8) (fs := ((((((((kd8.set 0 (rfn G (1))).set 1 (rfn G (30))).set 2 (rfn G (59))).set 3 (rfn G (88))).set 4 (rfn G (93))).set 5 (rfn G (95))).set 6 (rfn G (96))).set 7 (rfn G (97)))) (v := rfn G (95)) kov_eq (by omega) (by decide) rfl fl_X8_40 dX8_init_97 ?_
      refine kw_iload_1 C dX8_init_100 ?_
      refine kw_new C (99 + 3 * i) 1 (by omega) rfl (gtb_u inX1) tyX1 tyX1_ok kl_X8_38 kn_X1 ky_X1 kd1 kd1_ok (by omega) (by omega) dX8_init_101 ?_
      refine kw_dup C dX8_init_104 rfl ?_
      refine kw_call C (kX1_init (by omega) (shCi (by omega))) mf_X1_init rfl kx_X1 (Or.inr ⟨RX8, fun U h => h.1.2.2.2.2.1⟩) rfl dX8_init_105 (by omega) (by omega) (by omega) (by omega) (by intro b h1 h2; exact ((kov_ne (by omega)).trans ((kov_ne (by omega)).trans ((kov_ne (by omega)).trans (hB _ (by omega)))))) rfl (Nat.le_of_ble_eq_true rfl) ?_
      refine kw_aast C 5 (99 + 3 * i) 1 (f := kfil (fun j => some (G.2.2.1 + (99 + 3 * j))) i) rfl ((kov_ne (by omega)).trans ((kov_ne (by omega)).trans kov_eq)) rfl (((kov_ne (by omega)).trans ((kov_ne (by omega)).trans ((kov_ne (by omega)).trans (hB _ (by omega))))).trans (cell_obj (shCi (j := i) (by omega)).1)) rfl (by omega) (by omega) (by omega) (by decide) dX8_init_108 ?_
      rw [kfil_s (g := (fun j => some (G.2.2.1 + (99 + 3 * j)))) (i := i) (v := G.2.2.1 + (99 + 3 * i)) (by omega) rfl]
      rw [kov_com (k := 0) (j := 95) (by omega), kov_com (k := 96) (j := 95) (by omega), kov_kov]
      refine kw_iinc_1 C dX8_init_109 (by decide) (fun w h => by cases h <;> rfl) (show _ + Int32.ofInt 1 = _ by rw [k1_1, nI_add]) ?_
      refine kw_goto C dX8_init_112 (tgt := 90) (by decide) ?_
      have hn := ih (i + 1) (by omega)
      rw [show 98 + 3 * (i + 1) = 98 + 3 * i + 1 + 2 by omega, show 5376 + 110 * (i + 1) = 5376 + 110 * i + 4 + 106 by omega] at hn
      exact hn
  exact L1 6 0 rfl
