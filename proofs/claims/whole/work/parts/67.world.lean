/-! an array of objects that is being filled -/
def kfil (g : Nat → Option Nat) (i : Nat) : Nat → Option Nat := fun j => if i ≤ j ∧ j < 6 then none else g j
theorem kfil_0 {g : Nat → Option Nat} {j : Nat} (h : j < 6) : kfil g 0 j = none := if_pos ⟨Nat.zero_le _, h⟩
theorem kfil_s {g : Nat → Option Nat} {i v : Nat} (hi : i < 6) (h : g i = some v) : va_up (kfil g i) i (some v) = kfil g (i + 1) := by
  funext j
  unfold va_up kfil
  by_cases e : j = i
  · subst e
    rw [if_pos rfl, if_neg (by omega), h]
  · rw [if_neg e]
    by_cases z : i ≤ j ∧ j < 6
    · rw [if_pos z]
      by_cases z2 : i + 1 ≤ j ∧ j < 6
      · rw [if_pos z2]
      · exact absurd (by omega) e
    · rw [if_neg z, if_neg (by omega)]
theorem kfil_6 {g : Nat → Option Nat} : kfil g 6 = g := by
  funext j
  exact if_neg (by omega)

set_option maxRecDepth 100000 in
set_option maxHeartbeats 4000000 in
theorem kX7_init {G : GT} {w : Nat} (hw : isW w) : KS G 2 yX7_init cX7_init 2 [] (w) 7 kd7 28 171 := by
  have hwb : w < 60 := by rcases hw with rfl | rfl | rfl <;> omega
  refine KS.intro RX7 (by decide) rfl rfl (Nat.le_of_ble_eq_true rfl) [some (rfn G (w)), none] rfl ?_
  intro X d B hd hB C hI hR
  refine kw_aload_0 C dX7_init_0 rfl ?_
  refine kw_objInit C rfl ko_X7 ko_i ko_c dX7_init_1 (by omega) ?_
  refine kw_aload_0 C dX7_init_4 rfl ?_
  refine kw_bipush C dX7_init_5 k2_8 ?_
  refine kw_newa C (w + 1) (by omega) 0 (atype := .int) (N := 8) (z := .inl (fun _ => 0)) rfl ka_int (fun _ => rfl) rfl (by omega) (Nat.le_of_ble_eq_true rfl) (by omega) (by omega) dX7_init_7 ?_
  rw [kov_self (((kov_ne (by omega)).trans (hB _ (by omega))).trans (kz_int (by omega) (shW1 hw)))]
  refine kw_putF C hI 7 1 rfl (gtb_u inX7) tyX7 tyX7_ok nmX7 (fs := kd7) kov_eq (by omega) (by decide) rfl rfl rfl rfl (Nat.le_of_ble_eq_true rfl) fl_X7_9 dX7_init_9 ?_
  rw [kov_kov]
  refine kw_aload_0 C dX7_init_12 rfl ?_
  refine kw_bipush C dX7_init_13 k2_8 ?_
  refine kw_newa C (w + 2) (by omega) 0 (atype := .int) (N := 8) (z := .inl (fun _ => 0)) rfl ka_int (fun _ => rfl) rfl (by omega) (Nat.le_of_ble_eq_true rfl) (by omega) (by omega) dX7_init_15 ?_
  rw [kov_self (((kov_ne (by omega)).trans (hB _ (by omega))).trans (kz_int (by omega) (shW2 hw)))]
  refine kw_putF C hI 7 2 rfl (gtb_u inX7) tyX7 tyX7_ok nmX7 (fs := (kd7.set 1 (rfn G (w + 1)))) kov_eq (by omega) (by decide) rfl rfl rfl rfl (Nat.le_of_ble_eq_true rfl) fl_X7_15 dX7_init_17 ?_
  rw [kov_kov]
  refine kw_aload_0 C dX7_init_20 rfl ?_
  refine kw_bipush C dX7_init_21 k2_8 ?_
  refine kw_newa C (w + 3) (by omega) 0 (atype := .int) (N := 8) (z := .inl (fun _ => 0)) rfl ka_int (fun _ => rfl) rfl (by omega) (Nat.le_of_ble_eq_true rfl) (by omega) (by omega) dX7_init_23 ?_
  rw [kov_self (((kov_ne (by omega)).trans (hB _ (by omega))).trans (kz_int (by omega) (shW3 hw)))]
  refine kw_putF C hI 7 3 rfl (gtb_u inX7) tyX7 tyX7_ok nmX7 (fs := ((kd7.set 1 (rfn G (w + 1))).set 2 (rfn G (w + 2)))) kov_eq (by omega) (by decide) rfl rfl rfl rfl (Nat.le_of_ble_eq_true rfl) fl_X7_18 dX7_init_25 ?_
  rw [kov_kov]
  refine kw_aload_0 C dX7_init_28 rfl ?_
  refine kw_bipush C dX7_init_29 k2_6 ?_
  refine kw_newr C (w + 4) (by omega) 4 rfl kl_X7_21 (fun U h => h.2.1) (kfil (fun j => some (G.2.2.1 + (w + 4 + 13 + 2 * j))) 0) (fun j hj => kfil_0 hj) rfl (by decide) (by omega) (by omega) dX7_init_31 ?_
  rw [kov_com (by omega)]
  refine kw_putF C hI 7 6 rfl (gtb_u inX7) tyX7 tyX7_ok nmX7 (fs := (((kd7.set 1 (rfn G (w + 1))).set 2 (rfn G (w + 2))).set 3 (rfn G (w + 3)))) kov_eq (by omega) (by decide) rfl rfl rfl rfl (Nat.le_of_ble_eq_true rfl) fl_X7_23 dX7_init_34 ?_
  rw [kov_kov]
  refine kw_aload_0 C dX7_init_37 rfl ?_
  refine kw_new C (w + 5) 3 (by omega) rfl (gtb_u inX3) tyX3 tyX3_ok kl_X7_27 kn_X3 ky_X3 kd3 kd3_ok (by omega) (by omega) dX7_init_38 ?_
  refine kw_dup C dX7_init_41 rfl ?_
  refine kw_iconst C dX7_init_42 k1_5 ?_
  refine kw_call C (kX3_init (m := 5) (by omega) (by omega) (shW5R hw)) mf_X3_init rfl kx_X3 (Or.inl ml_X7_29) rfl dX7_init_43 (by omega) (by omega) (by omega) (by omega) (by intro b h1 h2; exact ((kov_ne (by omega)).trans ((kov_ne (by omega)).trans (hB _ (by omega))))) rfl (Nat.le_of_ble_eq_true rfl) ?_
  refine kw_putF C hI 7 9 rfl (gtb_u inX7) tyX7 tyX7_ok nmX7 (fs := ((((kd7.set 1 (rfn G (w + 1))).set 2 (rfn G (w + 2))).set 3 (rfn G (w + 3))).set 6 (rfn G (w + 4)))) kov_eq (by omega) (by decide) rfl rfl rfl rfl (Nat.le_of_ble_eq_true rfl) fl_X7_32 dX7_init_46 ?_
  rw [kov_kov]
  refine kw_aload_0 C dX7_init_49 rfl ?_
  refine kw_new C (w + 9) 3 (by omega) rfl (gtb_u inX3) tyX3 tyX3_ok kl_X7_27 kn_X3 ky_X3 kd3 kd3_ok (by omega) (by omega) dX7_init_50 ?_
  refine kw_dup C dX7_init_53 rfl ?_
  refine kw_bipush C dX7_init_54 k2_8 ?_
  refine kw_call C (kX3_init (m := 8) (by omega) (by omega) (shW9R hw)) mf_X3_init rfl kx_X3 (Or.inl ml_X7_29) rfl dX7_init_56 (by omega) (by omega) (by omega) (by omega) (by intro b h1 h2; exact ((kov_ne (by omega)).trans ((kov_ne (by omega)).trans (hB _ (by omega))))) rfl (Nat.le_of_ble_eq_true rfl) ?_
  refine kw_putF C hI 7 10 rfl (gtb_u inX7) tyX7 tyX7_ok nmX7 (fs := (((((kd7.set 1 (rfn G (w + 1))).set 2 (rfn G (w + 2))).set 3 (rfn G (w + 3))).set 6 (rfn G (w + 4))).set 9 (rfn G (w + 5)))) kov_eq (by omega) (by decide) rfl rfl rfl rfl (Nat.le_of_ble_eq_true rfl) fl_X7_36 dX7_init_59 ?_
  rw [kov_kov]
  refine kw_aload_0 C dX7_init_62 rfl ?_
  refine kw_new C (w + 13) 3 (by omega) rfl (gtb_u inX3) tyX3 tyX3_ok kl_X7_27 kn_X3 ky_X3 kd3 kd3_ok (by omega) (by omega) dX7_init_63 ?_
  refine kw_dup C dX7_init_66 rfl ?_
  refine kw_bipush C dX7_init_67 k2_8 ?_
  refine kw_call C (kX3_init (m := 8) (by omega) (by omega) (shW13R hw)) mf_X3_init rfl kx_X3 (Or.inl ml_X7_29) rfl dX7_init_69 (by omega) (by omega) (by omega) (by omega) (by intro b h1 h2; exact ((kov_ne (by omega)).trans ((kov_ne (by omega)).trans (hB _ (by omega))))) rfl (Nat.le_of_ble_eq_true rfl) ?_
  refine kw_putF C hI 7 11 rfl (gtb_u inX7) tyX7 tyX7_ok nmX7 (fs := ((((((kd7.set 1 (rfn G (w + 1))).set 2 (rfn G (w + 2))).set 3 (rfn G (w + 3))).set 6 (rfn G (w + 4))).set 9 (rfn G (w + 5))).set 10 (rfn G (w + 9)))) kov_eq (by omega) (by decide) rfl rfl rfl rfl (Nat.le_of_ble_eq_true rfl) fl_X7_39 dX7_init_72 ?_
  rw [kov_kov]
  refine kw_iconst C dX7_init_75 k1_0 ?_
  refine kw_istore_1 C dX7_init_76 (by decide) (fun w h => by cases h <;> rfl) ?_
  have L : ∀ n i, i + n = 6 → KW X G (w + 1) (kov (kov B (w + 4) (.inl (G.2.1 4, 6, .inr (.inr (.inr (.inr (kfil (fun j => some (G.2.2.1 + (w + 4 + 13 + 2 * j))) i))))))) (w) (.inr (7, (((((((kd7.set 1 (rfn G (w + 1))).set 2 (rfn G (w + 2))).set 3 (rfn G (w + 3))).set 6 (rfn G (w + 4))).set 9 (rfn G (w + 5))).set 10 (rfn G (w + 9))).set 11 (rfn G (w + 13)))))) (16 + 2 * i) (105 + 11 * i) 77 [some (rfn G w), some (.int (nI i))] [] := by
    intro n
    induction n with
    | zero =>
      intro i hi
      refine kw_iload_1 C dX7_init_77 ?_
      refine kw_bipush C dX7_init_78 k2_6 ?_
      refine kw_icmp_ge C dX7_init_80 (tgt := 102) (by decide) (fun _ => ?_) (fun c => absurd (nI_le (by omega) (by omega)) c)
      have e6 : i = 6 := by omega
      subst e6
      rw [kfil_6]
      refine kw_ret C hR (by omega) (by omega) ?_ dX7_init_102
      rw [kov_self (k := w + 4) ((hB _ (by omega)).trans (cell_per (shW4 hw)))]
      refine kov_self ((hB _ (Nat.le_refl _)).trans ?_)
      rw [cell_obj (shW0 hw)]
      unfold flds
      simp only [gI, kq_ob (show w < 129 by omega) (shW0 hw) (by decide) (by decide)]
      rfl
    | succ n ih =>
      intro i hi
      refine kw_iload_1 C dX7_init_77 ?_
      refine kw_bipush C dX7_init_78 k2_6 ?_
      refine kw_icmp_ge C dX7_init_80 (tgt := 102) (by decide) (fun c => absurd c (nI_ge (by omega) (by omega))) (fun _ => ?_)
      refine kw_aload_0 C dX7_init_83 rfl ?_
      refine kw_get C 7 6 rfl (gtb_u inX7) (fs := (((((((kd7.set 1 (rfn G (w + 1))).set 2 (rfn G (w + 2))).set 3 (rfn G (w + 3))).set 6 (rfn G (w + 4))).set 9 (rfn G (w + 5))).set 10 (rfn G (w + 9))).set 11 (rfn G (w + 13)))) (v := rfn G (w + 4)) kov_eq (by omega) (by decide) rfl fl_X7_23 dX7_init_84 ?_
      refine kw_iload_1 C dX7_init_87 ?_
      refine kw_new C (w + 4 + 13 + 2 * i) 2 (by omega) rfl (gtb_u inX2) tyX2 tyX2_ok kl_X7_21 kn_X2 ky_X2 kd2 kd2_ok (by omega) (by omega) dX7_init_88 ?_
      refine kw_dup C dX7_init_91 rfl ?_
      refine kw_call C (kX2_init (by omega) (shWE hw (by omega))) mf_X2_init rfl kx_X2 (Or.inr ⟨RX8, fun U h => h.1.1⟩) rfl dX7_init_92 (by omega) (by omega) (by omega) (by omega) (by intro b h1 h2; exact ((kov_ne (by omega)).trans ((kov_ne (by omega)).trans (hB _ (by omega))))) rfl (Nat.le_of_ble_eq_true rfl) ?_
      refine kw_aast C 4 (w + 4 + 13 + 2 * i) 2 (f := kfil (fun j => some (G.2.2.1 + (w + 4 + 13 + 2 * j))) i) rfl ((kov_ne (by omega)).trans kov_eq) rfl (((kov_ne (by omega)).trans ((kov_ne (by omega)).trans (hB _ (by omega)))).trans (cell_obj (shWE hw (by omega)).1)) rfl (by omega) (by omega) (by omega) (by decide) dX7_init_95 ?_
      rw [kfil_s (g := (fun j => some (G.2.2.1 + (w + 4 + 13 + 2 * j)))) (i := i) (v := G.2.2.1 + (w + 4 + 13 + 2 * i)) (by omega) rfl]
      rw [kov_com (by omega), kov_kov]
      refine kw_iinc_1 C dX7_init_96 (by decide) (fun w h => by cases h <;> rfl) (show _ + Int32.ofInt 1 = _ by rw [k1_1, nI_add]) ?_
      refine kw_goto C dX7_init_99 (tgt := 77) (by decide) ?_
      have hn := ih (i + 1) (by omega)
      rw [show 16 + 2 * (i + 1) = 16 + 2 * i + 1 + 1 by omega, show 105 + 11 * (i + 1) = 105 + 11 * i + 7 + 4 by omega] at hn
      exact hn
  exact L 6 0 rfl
