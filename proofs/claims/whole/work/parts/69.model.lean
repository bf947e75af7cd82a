theorem kw_eq {X : CT} {G : GT} {E : Nat → va_E} {k0 ce sl pc k : Nat} {v : va_E} {lv : List (Option Value)} {st : List Value} (h : E k = v) (kk : KW X G k0 E ce sl pc lv st) : KW X G k0 (kov E k v) ce sl pc lv st := by
  rw [kov_self h]
  exact kk

set_option maxRecDepth 100000 in
set_option maxHeartbeats 4000000 in
theorem kX9_init {G : GT}  : KS G 1 yX9_init cX9_init 1 [] (129) 9 kd9 25 9455 := by
  refine KS.intro RX9 (by decide) rfl rfl (Nat.le_of_ble_eq_true rfl) [some (rfn G (129))] rfl ?_
  intro X d B hd hB C hI hR
  unfold kd9
  refine kw_aload_0 C dX9_init_0 rfl ?_
  refine kw_objInit C rfl ko_X9 ko_i ko_c dX9_init_1 (by omega) ?_
  refine kw_aload_0 C dX9_init_4 rfl ?_
  refine kw_sipush C dX9_init_5 k3_146 ?_
  refine kw_newa C (130) (by omega) 0 (atype := .int) (N := 146) (z := .inl (fun _ => 0)) rfl ka_int (fun _ => rfl) rfl (by omega) (Nat.le_of_ble_eq_true rfl) (by omega) (by omega) dX9_init_8 ?_
  refine kw_eq ((kov_ne (by omega)).trans ((hB _ (by omega)).trans (by rw [cell_int sh_130, kq_ge (by decide)] <;> rfl))) ?_
  refine kw_putF C hI 9 0 rfl (gtb_u inX9) tyX9 tyX9_ok nmX9 (fs := [.null, .null, .null, .int 0, .null, .int 0, .null, .null, .int 0, .null, .int 0, .int 0, .int 0, .int 0, .int 0, .int 0, .null, .null, .null, .null, .null, .null, .null, .null, .null, .null, .int 0, .null, .null, .null, .null, .int 0, .null, .null, .null, .null]) (by exact kov_eq) (by omega) (by decide) rfl rfl rfl rfl (Nat.le_of_ble_eq_true rfl) fl_X9_9 dX9_init_10 ?_
  rw [kov_kov, show ([.null, .null, .null, .int 0, .null, .int 0, .null, .null, .int 0, .null, .int 0, .int 0, .int 0, .int 0, .int 0, .int 0, .null, .null, .null, .null, .null, .null, .null, .null, .null, .null, .int 0, .null, .null, .null, .null, .int 0, .null, .null, .null, .null] : List Value).set 0 (rfn G 130) = [rfn G 130, .null, .null, .int 0, .null, .int 0, .null, .null, .int 0, .null, .int 0, .int 0, .int 0, .int 0, .int 0, .int 0, .null, .null, .null, .null, .null, .null, .null, .null, .null, .null, .int 0, .null, .null, .null, .null, .int 0, .null, .null, .null, .null] from rfl]
  refine kw_aload_0 C dX9_init_13 rfl ?_
  refine kw_sipush C dX9_init_14 k3_146 ?_
  refine kw_newa C (131) (by omega) 0 (atype := .int) (N := 146) (z := .inl (fun _ => 0)) rfl ka_int (fun _ => rfl) rfl (by omega) (Nat.le_of_ble_eq_true rfl) (by omega) (by omega) dX9_init_17 ?_
  refine kw_eq ((kov_ne (by omega)).trans ((hB _ (by omega)).trans (by rw [cell_int sh_131, kq_ge (by decide)] <;> rfl))) ?_
  refine kw_putF C hI 9 1 rfl (gtb_u inX9) tyX9 tyX9_ok nmX9 (fs := [rfn G 130, .null, .null, .int 0, .null, .int 0, .null, .null, .int 0, .null, .int 0, .int 0, .int 0, .int 0, .int 0, .int 0, .null, .null, .null, .null, .null, .null, .null, .null, .null, .null, .int 0, .null, .null, .null, .null, .int 0, .null, .null, .null, .null]) (by exact kov_eq) (by omega) (by decide) rfl rfl rfl rfl (Nat.le_of_ble_eq_true rfl) fl_X9_15 dX9_init_19 ?_
  rw [kov_kov, show ([rfn G 130, .null, .null, .int 0, .null, .int 0, .null, .null, .int 0, .null, .int 0, .int 0, .int 0, .int 0, .int 0, .int 0, .null, .null, .null, .null, .null, .null, .null, .null, .null, .null, .int 0, .null, .null, .null, .null, .int 0, .null, .null, .null, .null] : List Value).set 1 (rfn G 131) = [rfn G 130, rfn G 131, .null, .int 0, .null, .int 0, .null, .null, .int 0, .null, .int 0, .int 0, .int 0, .int 0, .int 0, .int 0, .null, .null, .null, .null, .null, .null, .null, .null, .null, .null, .int 0, .null, .null, .null, .null, .int 0, .null, .null, .null, .null] from rfl]
  refine kw_aload_0 C dX9_init_22 rfl ?_
  refine kw_sipush C dX9_init_23 k3_146 ?_
  refine kw_newa C (132) (by omega) 0 (atype := .int) (N := 146) (z := .inl (fun _ => 0)) rfl ka_int (fun _ => rfl) rfl (by omega) (Nat.le_of_ble_eq_true rfl) (by omega) (by omega) dX9_init_26 ?_
  refine kw_eq ((kov_ne (by omega)).trans ((hB _ (by omega)).trans (by rw [cell_int sh_132, kq_ge (by decide)] <;> rfl))) ?_
  refine kw_putF C hI 9 2 rfl (gtb_u inX9) tyX9 tyX9_ok nmX9 (fs := [rfn G 130, rfn G 131, .null, .int 0, .null, .int 0, .null, .null, .int 0, .null, .int 0, .int 0, .int 0, .int 0, .int 0, .int 0, .null, .null, .null, .null, .null, .null, .null, .null, .null, .null, .int 0, .null, .null, .null, .null, .int 0, .null, .null, .null, .null]) (by exact kov_eq) (by omega) (by decide) rfl rfl rfl rfl (Nat.le_of_ble_eq_true rfl) fl_X9_18 dX9_init_28 ?_
  rw [kov_kov, show ([rfn G 130, rfn G 131, .null, .int 0, .null, .int 0, .null, .null, .int 0, .null, .int 0, .int 0, .int 0, .int 0, .int 0, .int 0, .null, .null, .null, .null, .null, .null, .null, .null, .null, .null, .int 0, .null, .null, .null, .null, .int 0, .null, .null, .null, .null] : List Value).set 2 (rfn G 132) = [rfn G 130, rfn G 131, rfn G 132, .int 0, .null, .int 0, .null, .null, .int 0, .null, .int 0, .int 0, .int 0, .int 0, .int 0, .int 0, .null, .null, .null, .null, .null, .null, .null, .null, .null, .null, .int 0, .null, .null, .null, .null, .int 0, .null, .null, .null, .null] from rfl]
  refine kw_aload_0 C dX9_init_31 rfl ?_
  refine kw_bipush C dX9_init_32 k2_100 ?_
  refine kw_newa C (133) (by omega) 0 (atype := .int) (N := 100) (z := .inl (fun _ => 0)) rfl ka_int (fun _ => rfl) rfl (by omega) (Nat.le_of_ble_eq_true rfl) (by omega) (by omega) dX9_init_34 ?_
  refine kw_eq ((kov_ne (by omega)).trans ((hB _ (by omega)).trans (by rw [cell_int sh_133, kq_ge (by decide)] <;> rfl))) ?_
  refine kw_putF C hI 9 4 rfl (gtb_u inX9) tyX9 tyX9_ok nmX9 (fs := [rfn G 130, rfn G 131, rfn G 132, .int 0, .null, .int 0, .null, .null, .int 0, .null, .int 0, .int 0, .int 0, .int 0, .int 0, .int 0, .null, .null, .null, .null, .null, .null, .null, .null, .null, .null, .int 0, .null, .null, .null, .null, .int 0, .null, .null, .null, .null]) (by exact kov_eq) (by omega) (by decide) rfl rfl rfl rfl (Nat.le_of_ble_eq_true rfl) fl_X9_21 dX9_init_36 ?_
  rw [kov_kov, show ([rfn G 130, rfn G 131, rfn G 132, .int 0, .null, .int 0, .null, .null, .int 0, .null, .int 0, .int 0, .int 0, .int 0, .int 0, .int 0, .null, .null, .null, .null, .null, .null, .null, .null, .null, .null, .int 0, .null, .null, .null, .null, .int 0, .null, .null, .null, .null] : List Value).set 4 (rfn G 133) = [rfn G 130, rfn G 131, rfn G 132, .int 0, rfn G 133, .int 0, .null, .null, .int 0, .null, .int 0, .int 0, .int 0, .int 0, .int 0, .int 0, .null, .null, .null, .null, .null, .null, .null, .null, .null, .null, .int 0, .null, .null, .null, .null, .int 0, .null, .null, .null, .null] from rfl]
  refine kw_aload_0 C dX9_init_39 rfl ?_
  refine kw_sipush C dX9_init_40 k3_600 ?_
  refine kw_newa C (134) (by omega) 0 (atype := .int) (N := 600) (z := .inl (fun _ => 0)) rfl ka_int (fun _ => rfl) rfl (by omega) (Nat.le_of_ble_eq_true rfl) (by omega) (by omega) dX9_init_43 ?_
  refine kw_eq ((kov_ne (by omega)).trans ((hB _ (by omega)).trans (by rw [cell_int sh_134, kq_ge (by decide)] <;> rfl))) ?_
  refine kw_putF C hI 9 6 rfl (gtb_u inX9) tyX9 tyX9_ok nmX9 (fs := [rfn G 130, rfn G 131, rfn G 132, .int 0, rfn G 133, .int 0, .null, .null, .int 0, .null, .int 0, .int 0, .int 0, .int 0, .int 0, .int 0, .null, .null, .null, .null, .null, .null, .null, .null, .null, .null, .int 0, .null, .null, .null, .null, .int 0, .null, .null, .null, .null]) (by exact kov_eq) (by omega) (by decide) rfl rfl rfl rfl (Nat.le_of_ble_eq_true rfl) fl_X9_24 dX9_init_45 ?_
  rw [kov_kov, show ([rfn G 130, rfn G 131, rfn G 132, .int 0, rfn G 133, .int 0, .null, .null, .int 0, .null, .int 0, .int 0, .int 0, .int 0, .int 0, .int 0, .null, .null, .null, .null, .null, .null, .null, .null, .null, .null, .int 0, .null, .null, .null, .null, .int 0, .null, .null, .null, .null] : List Value).set 6 (rfn G 134) = [rfn G 130, rfn G 131, rfn G 132, .int 0, rfn G 133, .int 0, rfn G 134, .null, .int 0, .null, .int 0, .int 0, .int 0, .int 0, .int 0, .int 0, .null, .null, .null, .null, .null, .null, .null, .null, .null, .null, .int 0, .null, .null, .null, .null, .int 0, .null, .null, .null, .null] from rfl]
  refine kw_aload_0 C dX9_init_48 rfl ?_
  refine kw_bipush C dX9_init_49 k2_6 ?_
  refine kw_newa C (135) (by omega) 0 (atype := .int) (N := 6) (z := .inl (fun _ => 0)) rfl ka_int (fun _ => rfl) rfl (by omega) (Nat.le_of_ble_eq_true rfl) (by omega) (by omega) dX9_init_51 ?_
  refine kw_eq ((kov_ne (by omega)).trans ((hB _ (by omega)).trans (by rw [cell_int sh_135, kq_ge (by decide)] <;> rfl))) ?_
  refine kw_putF C hI 9 7 rfl (gtb_u inX9) tyX9 tyX9_ok nmX9 (fs := [rfn G 130, rfn G 131, rfn G 132, .int 0, rfn G 133, .int 0, rfn G 134, .null, .int 0, .null, .int 0, .int 0, .int 0, .int 0, .int 0, .int 0, .null, .null, .null, .null, .null, .null, .null, .null, .null, .null, .int 0, .null, .null, .null, .null, .int 0, .null, .null, .null, .null]) (by exact kov_eq) (by omega) (by decide) rfl rfl rfl rfl (Nat.le_of_ble_eq_true rfl) fl_X9_27 dX9_init_53 ?_
  rw [kov_kov, show ([rfn G 130, rfn G 131, rfn G 132, .int 0, rfn G 133, .int 0, rfn G 134, .null, .int 0, .null, .int 0, .int 0, .int 0, .int 0, .int 0, .int 0, .null, .null, .null, .null, .null, .null, .null, .null, .null, .null, .int 0, .null, .null, .null, .null, .int 0, .null, .null, .null, .null] : List Value).set 7 (rfn G 135) = [rfn G 130, rfn G 131, rfn G 132, .int 0, rfn G 133, .int 0, rfn G 134, rfn G 135, .int 0, .null, .int 0, .int 0, .int 0, .int 0, .int 0, .int 0, .null, .null, .null, .null, .null, .null, .null, .null, .null, .null, .int 0, .null, .null, .null, .null, .int 0, .null, .null, .null, .null] from rfl]
  refine kw_aload_0 C dX9_init_56 rfl ?_
  refine kw_bipush C dX9_init_57 k2_100 ?_
  refine kw_newa C (136) (by omega) 0 (atype := .int) (N := 100) (z := .inl (fun _ => 0)) rfl ka_int (fun _ => rfl) rfl (by omega) (Nat.le_of_ble_eq_true rfl) (by omega) (by omega) dX9_init_59 ?_
  refine kw_eq ((kov_ne (by omega)).trans ((hB _ (by omega)).trans (by rw [cell_int sh_136, kq_ge (by decide)] <;> rfl))) ?_
  refine kw_putF C hI 9 9 rfl (gtb_u inX9) tyX9 tyX9_ok nmX9 (fs := [rfn G 130, rfn G 131, rfn G 132, .int 0, rfn G 133, .int 0, rfn G 134, rfn G 135, .int 0, .null, .int 0, .int 0, .int 0, .int 0, .int 0, .int 0, .null, .null, .null, .null, .null, .null, .null, .null, .null, .null, .int 0, .null, .null, .null, .null, .int 0, .null, .null, .null, .null]) (by exact kov_eq) (by omega) (by decide) rfl rfl rfl rfl (Nat.le_of_ble_eq_true rfl) fl_X9_30 dX9_init_61 ?_
  rw [kov_kov, show ([rfn G 130, rfn G 131, rfn G 132, .int 0, rfn G 133, .int 0, rfn G 134, rfn G 135, .int 0, .null, .int 0, .int 0, .int 0, .int 0, .int 0, .int 0, .null, .null, .null, .null, .null, .null, .null, .null, .null, .null, .int 0, .null, .null, .null, .null, .int 0, .null, .null, .null, .null] : List Value).set 9 (rfn G 136) = [rfn G 130, rfn G 131, rfn G 132, .int 0, rfn G 133, .int 0, rfn G 134, rfn G 135, .int 0, rfn G 136, .int 0, .int 0, .int 0, .int 0, .int 0, .int 0, .null, .null, .null, .null, .null, .null, .null, .null, .null, .null, .int 0, .null, .null, .null, .null, .int 0, .null, .null, .null, .null] from rfl]
  refine kw_aload_0 C dX9_init_64 rfl ?_
  refine kw_bipush C dX9_init_65 k2_6 ?_
  refine kw_newa C (137) (by omega) 0 (atype := .int) (N := 6) (z := .inl (fun _ => 0)) rfl ka_int (fun _ => rfl) rfl (by omega) (Nat.le_of_ble_eq_true rfl) (by omega) (by omega) dX9_init_67 ?_
  refine kw_eq ((kov_ne (by omega)).trans ((hB _ (by omega)).trans (by rw [cell_int sh_137, kq_ge (by decide)] <;> rfl))) ?_
  refine kw_putF C hI 9 16 rfl (gtb_u inX9) tyX9 tyX9_ok nmX9 (fs := [rfn G 130, rfn G 131, rfn G 132, .int 0, rfn G 133, .int 0, rfn G 134, rfn G 135, .int 0, rfn G 136, .int 0, .int 0, .int 0, .int 0, .int 0, .int 0, .null, .null, .null, .null, .null, .null, .null, .null, .null, .null, .int 0, .null, .null, .null, .null, .int 0, .null, .null, .null, .null]) (by exact kov_eq) (by omega) (by decide) rfl rfl rfl rfl (Nat.le_of_ble_eq_true rfl) fl_X9_33 dX9_init_69 ?_
  rw [kov_kov, show ([rfn G 130, rfn G 131, rfn G 132, .int 0, rfn G 133, .int 0, rfn G 134, rfn G 135, .int 0, rfn G 136, .int 0, .int 0, .int 0, .int 0, .int 0, .int 0, .null, .null, .null, .null, .null, .null, .null, .null, .null, .null, .int 0, .null, .null, .null, .null, .int 0, .null, .null, .null, .null] : List Value).set 16 (rfn G 137) = [rfn G 130, rfn G 131, rfn G 132, .int 0, rfn G 133, .int 0, rfn G 134, rfn G 135, .int 0, rfn G 136, .int 0, .int 0, .int 0, .int 0, .int 0, .int 0, rfn G 137, .null, .null, .null, .null, .null, .null, .null, .null, .null, .int 0, .null, .null, .null, .null, .int 0, .null, .null, .null, .null] from rfl]
  refine kw_aload_0 C dX9_init_72 rfl ?_
  refine kw_bipush C dX9_init_73 k2_6 ?_
  refine kw_newa C (138) (by omega) 2 (atype := .char) (N := 6) (z := .inl (fun _ => 0)) rfl ka_char (fun _ => rfl) rfl (by omega) (Nat.le_of_ble_eq_true rfl) (by omega) (by omega) dX9_init_75 ?_
  refine kw_dup C dX9_init_77 rfl ?_
  refine kw_iconst C dX9_init_78 k1_0 ?_
  refine kw_bipush C dX9_init_79 k2_112 ?_
  refine kw_cast C (k := 138) (i := 0) (N := 6) rfl (by decide +kernel) kov_eq (by omega) (by decide) (by decide) dX9_init_81 ?_
  rw [kov_kov]
  refine kw_dup C dX9_init_82 rfl ?_
  refine kw_iconst C dX9_init_83 k1_1 ?_
  refine kw_bipush C dX9_init_84 k2_107 ?_
  refine kw_cast C (k := 138) (i := 1) (N := 6) rfl (by decide +kernel) kov_eq (by omega) (by decide) (by decide) dX9_init_86 ?_
  rw [kov_kov]
  refine kw_dup C dX9_init_87 rfl ?_
  refine kw_iconst C dX9_init_88 k1_2 ?_
  refine kw_bipush C dX9_init_89 k2_118 ?_
  refine kw_cast C (k := 138) (i := 2) (N := 6) rfl (by decide +kernel) kov_eq (by omega) (by decide) (by decide) dX9_init_91 ?_
  rw [kov_kov]
  refine kw_dup C dX9_init_92 rfl ?_
  refine kw_iconst C dX9_init_93 k1_3 ?_
  refine kw_bipush C dX9_init_94 k2_98 ?_
  refine kw_cast C (k := 138) (i := 3) (N := 6) rfl (by decide +kernel) kov_eq (by omega) (by decide) (by decide) dX9_init_96 ?_
  rw [kov_kov]
  refine kw_dup C dX9_init_97 rfl ?_
  refine kw_iconst C dX9_init_98 k1_4 ?_
  refine kw_bipush C dX9_init_99 k2_110 ?_
  refine kw_cast C (k := 138) (i := 4) (N := 6) rfl (by decide +kernel) kov_eq (by omega) (by decide) (by decide) dX9_init_101 ?_
  rw [kov_kov]
  refine kw_dup C dX9_init_102 rfl ?_
  refine kw_iconst C dX9_init_103 k1_5 ?_
  refine kw_bipush C dX9_init_104 k2_104 ?_
  refine kw_cast C (k := 138) (i := 5) (N := 6) rfl (by decide +kernel) kov_eq (by omega) (by decide) (by decide) dX9_init_106 ?_
  rw [kov_kov]
  refine kw_eq ((kov_ne (by omega)).trans ((hB _ (by omega)).trans (by rw [cell_cha sh_138, kq_ge (by decide)] <;> rfl))) ?_
  refine kw_putF C hI 9 17 rfl (gtb_u inX9) tyX9 tyX9_ok nmX9 (fs := [rfn G 130, rfn G 131, rfn G 132, .int 0, rfn G 133, .int 0, rfn G 134, rfn G 135, .int 0, rfn G 136, .int 0, .int 0, .int 0, .int 0, .int 0, .int 0, rfn G 137, .null, .null, .null, .null, .null, .null, .null, .null, .null, .int 0, .null, .null, .null, .null, .int 0, .null, .null, .null, .null]) (by exact kov_eq) (by omega) (by decide) rfl rfl rfl rfl (Nat.le_of_ble_eq_true rfl) fl_X9_36 dX9_init_107 ?_
  rw [kov_kov, show ([rfn G 130, rfn G 131, rfn G 132, .int 0, rfn G 133, .int 0, rfn G 134, rfn G 135, .int 0, rfn G 136, .int 0, .int 0, .int 0, .int 0, .int 0, .int 0, rfn G 137, .null, .null, .null, .null, .null, .null, .null, .null, .null, .int 0, .null, .null, .null, .null, .int 0, .null, .null, .null, .null] : List Value).set 17 (rfn G 138) = [rfn G 130, rfn G 131, rfn G 132, .int 0, rfn G 133, .int 0, rfn G 134, rfn G 135, .int 0, rfn G 136, .int 0, .int 0, .int 0, .int 0, .int 0, .int 0, rfn G 137, rfn G 138, .null, .null, .null, .null, .null, .null, .null, .null, .int 0, .null, .null, .null, .null, .int 0, .null, .null, .null, .null] from rfl]
  refine kw_aload_0 C dX9_init_110 rfl ?_
  refine kw_iconst C dX9_init_111 k1_3 ?_
  refine kw_newa C (139) (by omega) 2 (atype := .char) (N := 3) (z := .inl (fun _ => 0)) rfl ka_char (fun _ => rfl) rfl (by omega) (Nat.le_of_ble_eq_true rfl) (by omega) (by omega) dX9_init_112 ?_
  refine kw_dup C dX9_init_114 rfl ?_
  refine kw_iconst C dX9_init_115 k1_0 ?_
  refine kw_bipush C dX9_init_116 k2_103 ?_
  refine kw_cast C (k := 139) (i := 0) (N := 3) rfl (by decide +kernel) kov_eq (by omega) (by decide) (by decide) dX9_init_118 ?_
  rw [kov_kov]
  refine kw_dup C dX9_init_119 rfl ?_
  refine kw_iconst C dX9_init_120 k1_1 ?_
  refine kw_bipush C dX9_init_121 k2_98 ?_
  refine kw_cast C (k := 139) (i := 1) (N := 3) rfl (by decide +kernel) kov_eq (by omega) (by decide) (by decide) dX9_init_123 ?_
  rw [kov_kov]
  refine kw_dup C dX9_init_124 rfl ?_
  refine kw_iconst C dX9_init_125 k1_2 ?_
  refine kw_bipush C dX9_init_126 k2_100 ?_
  refine kw_cast C (k := 139) (i := 2) (N := 3) rfl (by decide +kernel) kov_eq (by omega) (by decide) (by decide) dX9_init_128 ?_
  rw [kov_kov]
  refine kw_eq ((kov_ne (by omega)).trans ((hB _ (by omega)).trans (by rw [cell_cha sh_139, kq_ge (by decide)] <;> rfl))) ?_
  refine kw_putF C hI 9 18 rfl (gtb_u inX9) tyX9 tyX9_ok nmX9 (fs := [rfn G 130, rfn G 131, rfn G 132, .int 0, rfn G 133, .int 0, rfn G 134, rfn G 135, .int 0, rfn G 136, .int 0, .int 0, .int 0, .int 0, .int 0, .int 0, rfn G 137, rfn G 138, .null, .null, .null, .null, .null, .null, .null, .null, .int 0, .null, .null, .null, .null, .int 0, .null, .null, .null, .null]) (by exact kov_eq) (by omega) (by decide) rfl rfl rfl rfl (Nat.le_of_ble_eq_true rfl) fl_X9_40 dX9_init_129 ?_
  rw [kov_kov, show ([rfn G 130, rfn G 131, rfn G 132, .int 0, rfn G 133, .int 0, rfn G 134, rfn G 135, .int 0, rfn G 136, .int 0, .int 0, .int 0, .int 0, .int 0, .int 0, rfn G 137, rfn G 138, .null, .null, .null, .null, .null, .null, .null, .null, .int 0, .null, .null, .null, .null, .int 0, .null, .null, .null, .null] : List Value).set 18 (rfn G 139) = [rfn G 130, rfn G 131, rfn G 132, .int 0, rfn G 133, .int 0, rfn G 134, rfn G 135, .int 0, rfn G 136, .int 0, .int 0, .int 0, .int 0, .int 0, .int 0, rfn G 137, rfn G 138, rfn G 139, .null, .null, .null, .null, .null, .null, .null, .int 0, .null, .null, .null, .null, .int 0, .null, .null, .null, .null] from rfl]
  refine kw_aload_0 C dX9_init_132 rfl ?_
  refine kw_bipush C dX9_init_133 k2_15 ?_
  refine kw_newa C (140) (by omega) 2 (atype := .char) (N := 15) (z := .inl (fun _ => 0)) rfl ka_char (fun _ => rfl) rfl (by omega) (Nat.le_of_ble_eq_true rfl) (by omega) (by omega) dX9_init_135 ?_
  refine kw_dup C dX9_init_137 rfl ?_
  refine kw_iconst C dX9_init_138 k1_0 ?_
  refine kw_bipush C dX9_init_139 k2_103 ?_
  refine kw_cast C (k := 140) (i := 0) (N := 15) rfl (by decide +kernel) kov_eq (by omega) (by decide) (by decide) dX9_init_141 ?_
  rw [kov_kov]
  refine kw_dup C dX9_init_142 rfl ?_
  refine kw_iconst C dX9_init_143 k1_1 ?_
  refine kw_bipush C dX9_init_144 k2_114 ?_
  refine kw_cast C (k := 140) (i := 1) (N := 15) rfl (by decide +kernel) kov_eq (by omega) (by decide) (by decide) dX9_init_146 ?_
  rw [kov_kov]
  refine kw_dup C dX9_init_147 rfl ?_
  refine kw_iconst C dX9_init_148 k1_2 ?_
  refine kw_bipush C dX9_init_149 k2_97 ?_
  refine kw_cast C (k := 140) (i := 2) (N := 15) rfl (by decide +kernel) kov_eq (by omega) (by decide) (by decide) dX9_init_151 ?_
  rw [kov_kov]
  refine kw_dup C dX9_init_152 rfl ?_
  refine kw_iconst C dX9_init_153 k1_3 ?_
  refine kw_bipush C dX9_init_154 k2_110 ?_
  refine kw_cast C (k := 140) (i := 3) (N := 15) rfl (by decide +kernel) kov_eq (by omega) (by decide) (by decide) dX9_init_156 ?_
  rw [kov_kov]
  refine kw_dup C dX9_init_157 rfl ?_
  refine kw_iconst C dX9_init_158 k1_4 ?_
  refine kw_bipush C dX9_init_159 k2_116 ?_
  refine kw_cast C (k := 140) (i := 4) (N := 15) rfl (by decide +kernel) kov_eq (by omega) (by decide) (by decide) dX9_init_161 ?_
  rw [kov_kov]
  refine kw_dup C dX9_init_162 rfl ?_
  refine kw_iconst C dX9_init_163 k1_5 ?_
  refine kw_bipush C dX9_init_164 k2_98 ?_
  refine kw_cast C (k := 140) (i := 5) (N := 15) rfl (by decide +kernel) kov_eq (by omega) (by decide) (by decide) dX9_init_166 ?_
  rw [kov_kov]
  refine kw_dup C dX9_init_167 rfl ?_
  refine kw_bipush C dX9_init_168 k2_6 ?_
  refine kw_bipush C dX9_init_170 k2_97 ?_
  refine kw_cast C (k := 140) (i := 6) (N := 15) rfl (by decide +kernel) kov_eq (by omega) (by decide) (by decide) dX9_init_172 ?_
  rw [kov_kov]
  refine kw_dup C dX9_init_173 rfl ?_
  refine kw_bipush C dX9_init_174 k2_7 ?_
  refine kw_bipush C dX9_init_176 k2_114 ?_
  refine kw_cast C (k := 140) (i := 7) (N := 15) rfl (by decide +kernel) kov_eq (by omega) (by decide) (by decide) dX9_init_178 ?_
  rw [kov_kov]
  refine kw_dup C dX9_init_179 rfl ?_
  refine kw_bipush C dX9_init_180 k2_8 ?_
  refine kw_iconst C dX9_init_182 k1_0 ?_
  refine kw_cast C (k := 140) (i := 8) (N := 15) rfl (by decide +kernel) kov_eq (by omega) (by decide) (by decide) dX9_init_183 ?_
  rw [kov_kov]
  refine kw_dup C dX9_init_184 rfl ?_
  refine kw_bipush C dX9_init_185 k2_9 ?_
  refine kw_iconst C dX9_init_187 k1_0 ?_
  refine kw_cast C (k := 140) (i := 9) (N := 15) rfl (by decide +kernel) kov_eq (by omega) (by decide) (by decide) dX9_init_188 ?_
  rw [kov_kov]
  refine kw_dup C dX9_init_189 rfl ?_
  refine kw_bipush C dX9_init_190 k2_10 ?_
  refine kw_bipush C dX9_init_192 k2_100 ?_
  refine kw_cast C (k := 140) (i := 10) (N := 15) rfl (by decide +kernel) kov_eq (by omega) (by decide) (by decide) dX9_init_194 ?_
  rw [kov_kov]
  refine kw_dup C dX9_init_195 rfl ?_
  refine kw_bipush C dX9_init_196 k2_11 ?_
  refine kw_bipush C dX9_init_198 k2_97 ?_
  refine kw_cast C (k := 140) (i := 11) (N := 15) rfl (by decide +kernel) kov_eq (by omega) (by decide) (by decide) dX9_init_200 ?_
  rw [kov_kov]
  refine kw_dup C dX9_init_201 rfl ?_
  refine kw_bipush C dX9_init_202 k2_12 ?_
  refine kw_bipush C dX9_init_204 k2_114 ?_
  refine kw_cast C (k := 140) (i := 12) (N := 15) rfl (by decide +kernel) kov_eq (by omega) (by decide) (by decide) dX9_init_206 ?_
  rw [kov_kov]
  refine kw_dup C dX9_init_207 rfl ?_
  refine kw_bipush C dX9_init_208 k2_13 ?_
  refine kw_bipush C dX9_init_210 k2_107 ?_
  refine kw_cast C (k := 140) (i := 13) (N := 15) rfl (by decide +kernel) kov_eq (by omega) (by decide) (by decide) dX9_init_212 ?_
  rw [kov_kov]
  refine kw_dup C dX9_init_213 rfl ?_
  refine kw_bipush C dX9_init_214 k2_14 ?_
  refine kw_iconst C dX9_init_216 k1_0 ?_
  refine kw_cast C (k := 140) (i := 14) (N := 15) rfl (by decide +kernel) kov_eq (by omega) (by decide) (by decide) dX9_init_217 ?_
  rw [kov_kov]
  refine kw_eq ((kov_ne (by omega)).trans ((hB _ (by omega)).trans (by rw [cell_cha sh_140, kq_ge (by decide)] <;> rfl))) ?_
  refine kw_putF C hI 9 19 rfl (gtb_u inX9) tyX9 tyX9_ok nmX9 (fs := [rfn G 130, rfn G 131, rfn G 132, .int 0, rfn G 133, .int 0, rfn G 134, rfn G 135, .int 0, rfn G 136, .int 0, .int 0, .int 0, .int 0, .int 0, .int 0, rfn G 137, rfn G 138, rfn G 139, .null, .null, .null, .null, .null, .null, .null, .int 0, .null, .null, .null, .null, .int 0, .null, .null, .null, .null]) (by exact kov_eq) (by omega) (by decide) rfl rfl rfl rfl (Nat.le_of_ble_eq_true rfl) fl_X9_43 dX9_init_218 ?_
  rw [kov_kov, show ([rfn G 130, rfn G 131, rfn G 132, .int 0, rfn G 133, .int 0, rfn G 134, rfn G 135, .int 0, rfn G 136, .int 0, .int 0, .int 0, .int 0, .int 0, .int 0, rfn G 137, rfn G 138, rfn G 139, .null, .null, .null, .null, .null, .null, .null, .int 0, .null, .null, .null, .null, .int 0, .null, .null, .null, .null] : List Value).set 19 (rfn G 140) = [rfn G 130, rfn G 131, rfn G 132, .int 0, rfn G 133, .int 0, rfn G 134, rfn G 135, .int 0, rfn G 136, .int 0, .int 0, .int 0, .int 0, .int 0, .int 0, rfn G 137, rfn G 138, rfn G 139, rfn G 140, .null, .null, .null, .null, .null, .null, .int 0, .null, .null, .null, .null, .int 0, .null, .null, .null, .null] from rfl]
  refine kw_aload_0 C dX9_init_221 rfl ?_
  refine kw_bipush C dX9_init_222 k2_9 ?_
  refine kw_newa C (141) (by omega) 0 (atype := .int) (N := 9) (z := .inl (fun _ => 0)) rfl ka_int (fun _ => rfl) rfl (by omega) (Nat.le_of_ble_eq_true rfl) (by omega) (by omega) dX9_init_224 ?_
  refine kw_eq ((kov_ne (by omega)).trans ((hB _ (by omega)).trans (by rw [cell_int sh_141, kq_ge (by decide)] <;> rfl))) ?_
  refine kw_putF C hI 9 20 rfl (gtb_u inX9) tyX9 tyX9_ok nmX9 (fs := [rfn G 130, rfn G 131, rfn G 132, .int 0, rfn G 133, .int 0, rfn G 134, rfn G 135, .int 0, rfn G 136, .int 0, .int 0, .int 0, .int 0, .int 0, .int 0, rfn G 137, rfn G 138, rfn G 139, rfn G 140, .null, .null, .null, .null, .null, .null, .int 0, .null, .null, .null, .null, .int 0, .null, .null, .null, .null]) (by exact kov_eq) (by omega) (by decide) rfl rfl rfl rfl (Nat.le_of_ble_eq_true rfl) fl_X9_46 dX9_init_226 ?_
  rw [kov_kov, show ([rfn G 130, rfn G 131, rfn G 132, .int 0, rfn G 133, .int 0, rfn G 134, rfn G 135, .int 0, rfn G 136, .int 0, .int 0, .int 0, .int 0, .int 0, .int 0, rfn G 137, rfn G 138, rfn G 139, rfn G 140, .null, .null, .null, .null, .null, .null, .int 0, .null, .null, .null, .null, .int 0, .null, .null, .null, .null] : List Value).set 20 (rfn G 141) = [rfn G 130, rfn G 131, rfn G 132, .int 0, rfn G 133, .int 0, rfn G 134, rfn G 135, .int 0, rfn G 136, .int 0, .int 0, .int 0, .int 0, .int 0, .int 0, rfn G 137, rfn G 138, rfn G 139, rfn G 140, rfn G 141, .null, .null, .null, .null, .null, .int 0, .null, .null, .null, .null, .int 0, .null, .null, .null, .null] from rfl]
  refine kw_aload_0 C dX9_init_229 rfl ?_
  refine kw_sipush C dX9_init_230 k3_1536 ?_
  refine kw_newa C (142) (by omega) 1 (atype := .boolean) (N := 1536) (z := .inl (fun _ => 0)) rfl ka_boolean (fun _ => rfl) rfl (by omega) (Nat.le_of_ble_eq_true rfl) (by omega) (by omega) dX9_init_233 ?_
  refine kw_eq ((kov_ne (by omega)).trans ((hB _ (by omega)).trans (by rw [cell_boo sh_142, kq_ge (by decide)] <;> rfl))) ?_
  refine kw_putF C hI 9 21 rfl (gtb_u inX9) tyX9 tyX9_ok nmX9 (fs := [rfn G 130, rfn G 131, rfn G 132, .int 0, rfn G 133, .int 0, rfn G 134, rfn G 135, .int 0, rfn G 136, .int 0, .int 0, .int 0, .int 0, .int 0, .int 0, rfn G 137, rfn G 138, rfn G 139, rfn G 140, rfn G 141, .null, .null, .null, .null, .null, .int 0, .null, .null, .null, .null, .int 0, .null, .null, .null, .null]) (by exact kov_eq) (by omega) (by decide) rfl rfl rfl rfl (Nat.le_of_ble_eq_true rfl) fl_X9_49 dX9_init_235 ?_
  rw [kov_kov, show ([rfn G 130, rfn G 131, rfn G 132, .int 0, rfn G 133, .int 0, rfn G 134, rfn G 135, .int 0, rfn G 136, .int 0, .int 0, .int 0, .int 0, .int 0, .int 0, rfn G 137, rfn G 138, rfn G 139, rfn G 140, rfn G 141, .null, .null, .null, .null, .null, .int 0, .null, .null, .null, .null, .int 0, .null, .null, .null, .null] : List Value).set 21 (rfn G 142) = [rfn G 130, rfn G 131, rfn G 132, .int 0, rfn G 133, .int 0, rfn G 134, rfn G 135, .int 0, rfn G 136, .int 0, .int 0, .int 0, .int 0, .int 0, .int 0, rfn G 137, rfn G 138, rfn G 139, rfn G 140, rfn G 141, rfn G 142, .null, .null, .null, .null, .int 0, .null, .null, .null, .null, .int 0, .null, .null, .null, .null] from rfl]
  refine kw_aload_0 C dX9_init_238 rfl ?_
  refine kw_sipush C dX9_init_239 k3_1536 ?_
  refine kw_newa C (143) (by omega) 0 (atype := .int) (N := 1536) (z := .inl (fun _ => 0)) rfl ka_int (fun _ => rfl) rfl (by omega) (Nat.le_of_ble_eq_true rfl) (by omega) (by omega) dX9_init_242 ?_
  refine kw_eq ((kov_ne (by omega)).trans ((hB _ (by omega)).trans (by rw [cell_int sh_143, kq_ge (by decide)] <;> rfl))) ?_
  refine kw_putF C hI 9 22 rfl (gtb_u inX9) tyX9 tyX9_ok nmX9 (fs := [rfn G 130, rfn G 131, rfn G 132, .int 0, rfn G 133, .int 0, rfn G 134, rfn G 135, .int 0, rfn G 136, .int 0, .int 0, .int 0, .int 0, .int 0, .int 0, rfn G 137, rfn G 138, rfn G 139, rfn G 140, rfn G 141, rfn G 142, .null, .null, .null, .null, .int 0, .null, .null, .null, .null, .int 0, .null, .null, .null, .null]) (by exact kov_eq) (by omega) (by decide) rfl rfl rfl rfl (Nat.le_of_ble_eq_true rfl) fl_X9_53 dX9_init_244 ?_
  rw [kov_kov, show ([rfn G 130, rfn G 131, rfn G 132, .int 0, rfn G 133, .int 0, rfn G 134, rfn G 135, .int 0, rfn G 136, .int 0, .int 0, .int 0, .int 0, .int 0, .int 0, rfn G 137, rfn G 138, rfn G 139, rfn G 140, rfn G 141, rfn G 142, .null, .null, .null, .null, .int 0, .null, .null, .null, .null, .int 0, .null, .null, .null, .null] : List Value).set 22 (rfn G 143) = [rfn G 130, rfn G 131, rfn G 132, .int 0, rfn G 133, .int 0, rfn G 134, rfn G 135, .int 0, rfn G 136, .int 0, .int 0, .int 0, .int 0, .int 0, .int 0, rfn G 137, rfn G 138, rfn G 139, rfn G 140, rfn G 141, rfn G 142, rfn G 143, .null, .null, .null, .int 0, .null, .null, .null, .null, .int 0, .null, .null, .null, .null] from rfl]
  refine kw_aload_0 C dX9_init_247 rfl ?_
  refine kw_sipush C dX9_init_248 k3_1536 ?_
  refine kw_newa C (144) (by omega) 0 (atype := .int) (N := 1536) (z := .inl (fun _ => 0)) rfl ka_int (fun _ => rfl) rfl (by omega) (Nat.le_of_ble_eq_true rfl) (by omega) (by omega) dX9_init_251 ?_
  refine kw_eq ((kov_ne (by omega)).trans ((hB _ (by omega)).trans (by rw [cell_int sh_144, kq_ge (by decide)] <;> rfl))) ?_
  refine kw_putF C hI 9 23 rfl (gtb_u inX9) tyX9 tyX9_ok nmX9 (fs := [rfn G 130, rfn G 131, rfn G 132, .int 0, rfn G 133, .int 0, rfn G 134, rfn G 135, .int 0, rfn G 136, .int 0, .int 0, .int 0, .int 0, .int 0, .int 0, rfn G 137, rfn G 138, rfn G 139, rfn G 140, rfn G 141, rfn G 142, rfn G 143, .null, .null, .null, .int 0, .null, .null, .null, .null, .int 0, .null, .null, .null, .null]) (by exact kov_eq) (by omega) (by decide) rfl rfl rfl rfl (Nat.le_of_ble_eq_true rfl) fl_X9_56 dX9_init_253 ?_
  rw [kov_kov, show ([rfn G 130, rfn G 131, rfn G 132, .int 0, rfn G 133, .int 0, rfn G 134, rfn G 135, .int 0, rfn G 136, .int 0, .int 0, .int 0, .int 0, .int 0, .int 0, rfn G 137, rfn G 138, rfn G 139, rfn G 140, rfn G 141, rfn G 142, rfn G 143, .null, .null, .null, .int 0, .null, .null, .null, .null, .int 0, .null, .null, .null, .null] : List Value).set 23 (rfn G 144) = [rfn G 130, rfn G 131, rfn G 132, .int 0, rfn G 133, .int 0, rfn G 134, rfn G 135, .int 0, rfn G 136, .int 0, .int 0, .int 0, .int 0, .int 0, .int 0, rfn G 137, rfn G 138, rfn G 139, rfn G 140, rfn G 141, rfn G 142, rfn G 143, rfn G 144, .null, .null, .int 0, .null, .null, .null, .null, .int 0, .null, .null, .null, .null] from rfl]
  refine kw_aload_0 C dX9_init_256 rfl ?_
  refine kw_sipush C dX9_init_257 k3_1536 ?_
  refine kw_newa C (145) (by omega) 0 (atype := .int) (N := 1536) (z := .inl (fun _ => 0)) rfl ka_int (fun _ => rfl) rfl (by omega) (Nat.le_of_ble_eq_true rfl) (by omega) (by omega) dX9_init_260 ?_
  refine kw_eq ((kov_ne (by omega)).trans ((hB _ (by omega)).trans (by rw [cell_int sh_145, kq_ge (by decide)] <;> rfl))) ?_
  refine kw_putF C hI 9 24 rfl (gtb_u inX9) tyX9 tyX9_ok nmX9 (fs := [rfn G 130, rfn G 131, rfn G 132, .int 0, rfn G 133, .int 0, rfn G 134, rfn G 135, .int 0, rfn G 136, .int 0, .int 0, .int 0, .int 0, .int 0, .int 0, rfn G 137, rfn G 138, rfn G 139, rfn G 140, rfn G 141, rfn G 142, rfn G 143, rfn G 144, .null, .null, .int 0, .null, .null, .null, .null, .int 0, .null, .null, .null, .null]) (by exact kov_eq) (by omega) (by decide) rfl rfl rfl rfl (Nat.le_of_ble_eq_true rfl) fl_X9_59 dX9_init_262 ?_
  rw [kov_kov, show ([rfn G 130, rfn G 131, rfn G 132, .int 0, rfn G 133, .int 0, rfn G 134, rfn G 135, .int 0, rfn G 136, .int 0, .int 0, .int 0, .int 0, .int 0, .int 0, rfn G 137, rfn G 138, rfn G 139, rfn G 140, rfn G 141, rfn G 142, rfn G 143, rfn G 144, .null, .null, .int 0, .null, .null, .null, .null, .int 0, .null, .null, .null, .null] : List Value).set 24 (rfn G 145) = [rfn G 130, rfn G 131, rfn G 132, .int 0, rfn G 133, .int 0, rfn G 134, rfn G 135, .int 0, rfn G 136, .int 0, .int 0, .int 0, .int 0, .int 0, .int 0, rfn G 137, rfn G 138, rfn G 139, rfn G 140, rfn G 141, rfn G 142, rfn G 143, rfn G 144, rfn G 145, .null, .int 0, .null, .null, .null, .null, .int 0, .null, .null, .null, .null] from rfl]
  refine kw_aload_0 C dX9_init_265 rfl ?_
  refine kw_sipush C dX9_init_266 k3_1536 ?_
  refine kw_newa C (146) (by omega) 0 (atype := .int) (N := 1536) (z := .inl (fun _ => 0)) rfl ka_int (fun _ => rfl) rfl (by omega) (Nat.le_of_ble_eq_true rfl) (by omega) (by omega) dX9_init_269 ?_
  refine kw_eq ((kov_ne (by omega)).trans ((hB _ (by omega)).trans (by rw [cell_int sh_146, kq_ge (by decide)] <;> rfl))) ?_
  refine kw_putF C hI 9 25 rfl (gtb_u inX9) tyX9 tyX9_ok nmX9 (fs := [rfn G 130, rfn G 131, rfn G 132, .int 0, rfn G 133, .int 0, rfn G 134, rfn G 135, .int 0, rfn G 136, .int 0, .int 0, .int 0, .int 0, .int 0, .int 0, rfn G 137, rfn G 138, rfn G 139, rfn G 140, rfn G 141, rfn G 142, rfn G 143, rfn G 144, rfn G 145, .null, .int 0, .null, .null, .null, .null, .int 0, .null, .null, .null, .null]) (by exact kov_eq) (by omega) (by decide) rfl rfl rfl rfl (Nat.le_of_ble_eq_true rfl) fl_X9_62 dX9_init_271 ?_
  rw [kov_kov, show ([rfn G 130, rfn G 131, rfn G 132, .int 0, rfn G 133, .int 0, rfn G 134, rfn G 135, .int 0, rfn G 136, .int 0, .int 0, .int 0, .int 0, .int 0, .int 0, rfn G 137, rfn G 138, rfn G 139, rfn G 140, rfn G 141, rfn G 142, rfn G 143, rfn G 144, rfn G 145, .null, .int 0, .null, .null, .null, .null, .int 0, .null, .null, .null, .null] : List Value).set 25 (rfn G 146) = [rfn G 130, rfn G 131, rfn G 132, .int 0, rfn G 133, .int 0, rfn G 134, rfn G 135, .int 0, rfn G 136, .int 0, .int 0, .int 0, .int 0, .int 0, .int 0, rfn G 137, rfn G 138, rfn G 139, rfn G 140, rfn G 141, rfn G 142, rfn G 143, rfn G 144, rfn G 145, rfn G 146, .int 0, .null, .null, .null, .null, .int 0, .null, .null, .null, .null] from rfl]
  refine kw_aload_0 C dX9_init_274 rfl ?_
  refine kw_bipush C dX9_init_275 k2_12 ?_
  refine kw_newa C (147) (by omega) 0 (atype := .int) (N := 12) (z := .inl (fun _ => 0)) rfl ka_int (fun _ => rfl) rfl (by omega) (Nat.le_of_ble_eq_true rfl) (by omega) (by omega) dX9_init_277 ?_
  refine kw_eq ((kov_ne (by omega)).trans ((hB _ (by omega)).trans (by rw [cell_int sh_147, kq_ge (by decide)] <;> rfl))) ?_
  refine kw_putF C hI 9 27 rfl (gtb_u inX9) tyX9 tyX9_ok nmX9 (fs := [rfn G 130, rfn G 131, rfn G 132, .int 0, rfn G 133, .int 0, rfn G 134, rfn G 135, .int 0, rfn G 136, .int 0, .int 0, .int 0, .int 0, .int 0, .int 0, rfn G 137, rfn G 138, rfn G 139, rfn G 140, rfn G 141, rfn G 142, rfn G 143, rfn G 144, rfn G 145, rfn G 146, .int 0, .null, .null, .null, .null, .int 0, .null, .null, .null, .null]) (by exact kov_eq) (by omega) (by decide) rfl rfl rfl rfl (Nat.le_of_ble_eq_true rfl) fl_X9_65 dX9_init_279 ?_
  rw [kov_kov, show ([rfn G 130, rfn G 131, rfn G 132, .int 0, rfn G 133, .int 0, rfn G 134, rfn G 135, .int 0, rfn G 136, .int 0, .int 0, .int 0, .int 0, .int 0, .int 0, rfn G 137, rfn G 138, rfn G 139, rfn G 140, rfn G 141, rfn G 142, rfn G 143, rfn G 144, rfn G 145, rfn G 146, .int 0, .null, .null, .null, .null, .int 0, .null, .null, .null, .null] : List Value).set 27 (rfn G 147) = [rfn G 130, rfn G 131, rfn G 132, .int 0, rfn G 133, .int 0, rfn G 134, rfn G 135, .int 0, rfn G 136, .int 0, .int 0, .int 0, .int 0, .int 0, .int 0, rfn G 137, rfn G 138, rfn G 139, rfn G 140, rfn G 141, rfn G 142, rfn G 143, rfn G 144, rfn G 145, rfn G 146, .int 0, rfn G 147, .null, .null, .null, .int 0, .null, .null, .null, .null] from rfl]
  refine kw_aload_0 C dX9_init_282 rfl ?_
  refine kw_bipush C dX9_init_283 k2_7 ?_
  refine kw_newa C (148) (by omega) 0 (atype := .int) (N := 7) (z := .inl (fun _ => 0)) rfl ka_int (fun _ => rfl) rfl (by omega) (Nat.le_of_ble_eq_true rfl) (by omega) (by omega) dX9_init_285 ?_
  refine kw_dup C dX9_init_287 rfl ?_
  refine kw_iconst C dX9_init_288 k1_0 ?_
  refine kw_iconst C dX9_init_289 k1_m1 ?_
  refine kw_iast C (k := 148) (i := 0) (N := 7) rfl kov_eq (by omega) (by decide) (by decide) dX9_init_290 ?_
  rw [kov_kov]
  refine kw_dup C dX9_init_291 rfl ?_
  refine kw_iconst C dX9_init_292 k1_1 ?_
  refine kw_iconst C dX9_init_293 k1_0 ?_
  refine kw_iast C (k := 148) (i := 1) (N := 7) rfl kov_eq (by omega) (by decide) (by decide) dX9_init_294 ?_
  rw [kov_kov]
  refine kw_dup C dX9_init_295 rfl ?_
  refine kw_iconst C dX9_init_296 k1_2 ?_
  refine kw_iconst C dX9_init_297 k1_0 ?_
  refine kw_iast C (k := 148) (i := 2) (N := 7) rfl kov_eq (by omega) (by decide) (by decide) dX9_init_298 ?_
  rw [kov_kov]
  refine kw_dup C dX9_init_299 rfl ?_
  refine kw_iconst C dX9_init_300 k1_3 ?_
  refine kw_iconst C dX9_init_301 k1_0 ?_
  refine kw_iast C (k := 148) (i := 3) (N := 7) rfl kov_eq (by omega) (by decide) (by decide) dX9_init_302 ?_
  rw [kov_kov]
  refine kw_dup C dX9_init_303 rfl ?_
  refine kw_iconst C dX9_init_304 k1_4 ?_
  refine kw_iconst C dX9_init_305 k1_1 ?_
  refine kw_iast C (k := 148) (i := 4) (N := 7) rfl kov_eq (by omega) (by decide) (by decide) dX9_init_306 ?_
  rw [kov_kov]
  refine kw_dup C dX9_init_307 rfl ?_
  refine kw_iconst C dX9_init_308 k1_5 ?_
  refine kw_iconst C dX9_init_309 k1_2 ?_
  refine kw_iast C (k := 148) (i := 5) (N := 7) rfl kov_eq (by omega) (by decide) (by decide) dX9_init_310 ?_
  rw [kov_kov]
  refine kw_dup C dX9_init_311 rfl ?_
  refine kw_bipush C dX9_init_312 k2_6 ?_
  refine kw_iconst C dX9_init_314 k1_3 ?_
  refine kw_iast C (k := 148) (i := 6) (N := 7) rfl kov_eq (by omega) (by decide) (by decide) dX9_init_315 ?_
  rw [kov_kov]
  refine kw_eq ((kov_ne (by omega)).trans ((hB _ (by omega)).trans (by rw [cell_int sh_148, kq_ge (by decide)] <;> rfl))) ?_
  refine kw_putF C hI 9 28 rfl (gtb_u inX9) tyX9 tyX9_ok nmX9 (fs := [rfn G 130, rfn G 131, rfn G 132, .int 0, rfn G 133, .int 0, rfn G 134, rfn G 135, .int 0, rfn G 136, .int 0, .int 0, .int 0, .int 0, .int 0, .int 0, rfn G 137, rfn G 138, rfn G 139, rfn G 140, rfn G 141, rfn G 142, rfn G 143, rfn G 144, rfn G 145, rfn G 146, .int 0, rfn G 147, .null, .null, .null, .int 0, .null, .null, .null, .null]) (by exact kov_eq) (by omega) (by decide) rfl rfl rfl rfl (Nat.le_of_ble_eq_true rfl) fl_X9_68 dX9_init_316 ?_
  rw [kov_kov, show ([rfn G 130, rfn G 131, rfn G 132, .int 0, rfn G 133, .int 0, rfn G 134, rfn G 135, .int 0, rfn G 136, .int 0, .int 0, .int 0, .int 0, .int 0, .int 0, rfn G 137, rfn G 138, rfn G 139, rfn G 140, rfn G 141, rfn G 142, rfn G 143, rfn G 144, rfn G 145, rfn G 146, .int 0, rfn G 147, .null, .null, .null, .int 0, .null, .null, .null, .null] : List Value).set 28 (rfn G 148) = [rfn G 130, rfn G 131, rfn G 132, .int 0, rfn G 133, .int 0, rfn G 134, rfn G 135, .int 0, rfn G 136, .int 0, .int 0, .int 0, .int 0, .int 0, .int 0, rfn G 137, rfn G 138, rfn G 139, rfn G 140, rfn G 141, rfn G 142, rfn G 143, rfn G 144, rfn G 145, rfn G 146, .int 0, rfn G 147, rfn G 148, .null, .null, .int 0, .null, .null, .null, .null] from rfl]
  refine kw_aload_0 C dX9_init_319 rfl ?_
  refine kw_bipush C dX9_init_320 k2_21 ?_
  refine kw_newa C (149) (by omega) 0 (atype := .int) (N := 21) (z := .inl (fun _ => 0)) rfl ka_int (fun _ => rfl) rfl (by omega) (Nat.le_of_ble_eq_true rfl) (by omega) (by omega) dX9_init_322 ?_
  refine kw_dup C dX9_init_324 rfl ?_
  refine kw_iconst C dX9_init_325 k1_0 ?_
  refine kw_bipush C dX9_init_326 k2_10 ?_
  refine kw_iast C (k := 149) (i := 0) (N := 21) rfl kov_eq (by omega) (by decide) (by decide) dX9_init_328 ?_
  rw [kov_kov]
  refine kw_dup C dX9_init_329 rfl ?_
  refine kw_iconst C dX9_init_330 k1_1 ?_
  refine kw_bipush C dX9_init_331 k2_11 ?_
  refine kw_iast C (k := 149) (i := 1) (N := 21) rfl kov_eq (by omega) (by decide) (by decide) dX9_init_333 ?_
  rw [kov_kov]
  refine kw_dup C dX9_init_334 rfl ?_
  refine kw_iconst C dX9_init_335 k1_2 ?_
  refine kw_bipush C dX9_init_336 k2_12 ?_
  refine kw_iast C (k := 149) (i := 2) (N := 21) rfl kov_eq (by omega) (by decide) (by decide) dX9_init_338 ?_
  rw [kov_kov]
  refine kw_dup C dX9_init_339 rfl ?_
  refine kw_iconst C dX9_init_340 k1_3 ?_
  refine kw_iconst C dX9_init_341 k1_0 ?_
  refine kw_iast C (k := 149) (i := 3) (N := 21) rfl kov_eq (by omega) (by decide) (by decide) dX9_init_342 ?_
  rw [kov_kov]
  refine kw_dup C dX9_init_343 rfl ?_
  refine kw_iconst C dX9_init_344 k1_4 ?_
  refine kw_bipush C dX9_init_345 k2_20 ?_
  refine kw_iast C (k := 149) (i := 4) (N := 21) rfl kov_eq (by omega) (by decide) (by decide) dX9_init_347 ?_
  rw [kov_kov]
  refine kw_dup C dX9_init_348 rfl ?_
  refine kw_iconst C dX9_init_349 k1_5 ?_
  refine kw_iconst C dX9_init_350 k1_0 ?_
  refine kw_iast C (k := 149) (i := 5) (N := 21) rfl kov_eq (by omega) (by decide) (by decide) dX9_init_351 ?_
  rw [kov_kov]
  refine kw_dup C dX9_init_352 rfl ?_
  refine kw_bipush C dX9_init_353 k2_6 ?_
  refine kw_bipush C dX9_init_355 k2_30 ?_
  refine kw_iast C (k := 149) (i := 6) (N := 21) rfl kov_eq (by omega) (by decide) (by decide) dX9_init_357 ?_
  rw [kov_kov]
  refine kw_dup C dX9_init_358 rfl ?_
  refine kw_bipush C dX9_init_359 k2_7 ?_
  refine kw_iconst C dX9_init_361 k1_0 ?_
  refine kw_iast C (k := 149) (i := 7) (N := 21) rfl kov_eq (by omega) (by decide) (by decide) dX9_init_362 ?_
  rw [kov_kov]
  refine kw_dup C dX9_init_363 rfl ?_
  refine kw_bipush C dX9_init_364 k2_8 ?_
  refine kw_iconst C dX9_init_366 k1_0 ?_
  refine kw_iast C (k := 149) (i := 8) (N := 21) rfl kov_eq (by omega) (by decide) (by decide) dX9_init_367 ?_
  rw [kov_kov]
  refine kw_dup C dX9_init_368 rfl ?_
  refine kw_bipush C dX9_init_369 k2_9 ?_
  refine kw_iconst C dX9_init_371 k1_0 ?_
  refine kw_iast C (k := 149) (i := 9) (N := 21) rfl kov_eq (by omega) (by decide) (by decide) dX9_init_372 ?_
  rw [kov_kov]
  refine kw_dup C dX9_init_373 rfl ?_
  refine kw_bipush C dX9_init_374 k2_10 ?_
  refine kw_iconst C dX9_init_376 k1_0 ?_
  refine kw_iast C (k := 149) (i := 10) (N := 21) rfl kov_eq (by omega) (by decide) (by decide) dX9_init_377 ?_
  rw [kov_kov]
  refine kw_dup C dX9_init_378 rfl ?_
  refine kw_bipush C dX9_init_379 k2_11 ?_
  refine kw_bipush C dX9_init_381 k2_40 ?_
  refine kw_iast C (k := 149) (i := 11) (N := 21) rfl kov_eq (by omega) (by decide) (by decide) dX9_init_383 ?_
  rw [kov_kov]
  refine kw_dup C dX9_init_384 rfl ?_
  refine kw_bipush C dX9_init_385 k2_12 ?_
  refine kw_bipush C dX9_init_387 k2_50 ?_
  refine kw_iast C (k := 149) (i := 12) (N := 21) rfl kov_eq (by omega) (by decide) (by decide) dX9_init_389 ?_
  rw [kov_kov]
  refine kw_dup C dX9_init_390 rfl ?_
  refine kw_bipush C dX9_init_391 k2_13 ?_
  refine kw_bipush C dX9_init_393 k2_51 ?_
  refine kw_iast C (k := 149) (i := 13) (N := 21) rfl kov_eq (by omega) (by decide) (by decide) dX9_init_395 ?_
  rw [kov_kov]
  refine kw_dup C dX9_init_396 rfl ?_
  refine kw_bipush C dX9_init_397 k2_14 ?_
  refine kw_iconst C dX9_init_399 k1_0 ?_
  refine kw_iast C (k := 149) (i := 14) (N := 21) rfl kov_eq (by omega) (by decide) (by decide) dX9_init_400 ?_
  rw [kov_kov]
  refine kw_dup C dX9_init_401 rfl ?_
  refine kw_bipush C dX9_init_402 k2_15 ?_
  refine kw_iconst C dX9_init_404 k1_0 ?_
  refine kw_iast C (k := 149) (i := 15) (N := 21) rfl kov_eq (by omega) (by decide) (by decide) dX9_init_405 ?_
  rw [kov_kov]
  refine kw_dup C dX9_init_406 rfl ?_
  refine kw_bipush C dX9_init_407 k2_16 ?_
  refine kw_iconst C dX9_init_409 k1_0 ?_
  refine kw_iast C (k := 149) (i := 16) (N := 21) rfl kov_eq (by omega) (by decide) (by decide) dX9_init_410 ?_
  rw [kov_kov]
  refine kw_dup C dX9_init_411 rfl ?_
  refine kw_bipush C dX9_init_412 k2_17 ?_
  refine kw_bipush C dX9_init_414 k2_60 ?_
  refine kw_iast C (k := 149) (i := 17) (N := 21) rfl kov_eq (by omega) (by decide) (by decide) dX9_init_416 ?_
  rw [kov_kov]
  refine kw_dup C dX9_init_417 rfl ?_
  refine kw_bipush C dX9_init_418 k2_18 ?_
  refine kw_bipush C dX9_init_420 k2_71 ?_
  refine kw_iast C (k := 149) (i := 18) (N := 21) rfl kov_eq (by omega) (by decide) (by decide) dX9_init_422 ?_
  rw [kov_kov]
  refine kw_dup C dX9_init_423 rfl ?_
  refine kw_bipush C dX9_init_424 k2_19 ?_
  refine kw_bipush C dX9_init_426 k2_70 ?_
  refine kw_iast C (k := 149) (i := 19) (N := 21) rfl kov_eq (by omega) (by decide) (by decide) dX9_init_428 ?_
  rw [kov_kov]
  refine kw_dup C dX9_init_429 rfl ?_
  refine kw_bipush C dX9_init_430 k2_20 ?_
  refine kw_iconst C dX9_init_432 k1_0 ?_
  refine kw_iast C (k := 149) (i := 20) (N := 21) rfl kov_eq (by omega) (by decide) (by decide) dX9_init_433 ?_
  rw [kov_kov]
  refine kw_eq ((kov_ne (by omega)).trans ((hB _ (by omega)).trans (by rw [cell_int sh_149, kq_ge (by decide)] <;> rfl))) ?_
  refine kw_putF C hI 9 29 rfl (gtb_u inX9) tyX9 tyX9_ok nmX9 (fs := [rfn G 130, rfn G 131, rfn G 132, .int 0, rfn G 133, .int 0, rfn G 134, rfn G 135, .int 0, rfn G 136, .int 0, .int 0, .int 0, .int 0, .int 0, .int 0, rfn G 137, rfn G 138, rfn G 139, rfn G 140, rfn G 141, rfn G 142, rfn G 143, rfn G 144, rfn G 145, rfn G 146, .int 0, rfn G 147, rfn G 148, .null, .null, .int 0, .null, .null, .null, .null]) (by exact kov_eq) (by omega) (by decide) rfl rfl rfl rfl (Nat.le_of_ble_eq_true rfl) fl_X9_71 dX9_init_434 ?_
  rw [kov_kov, show ([rfn G 130, rfn G 131, rfn G 132, .int 0, rfn G 133, .int 0, rfn G 134, rfn G 135, .int 0, rfn G 136, .int 0, .int 0, .int 0, .int 0, .int 0, .int 0, rfn G 137, rfn G 138, rfn G 139, rfn G 140, rfn G 141, rfn G 142, rfn G 143, rfn G 144, rfn G 145, rfn G 146, .int 0, rfn G 147, rfn G 148, .null, .null, .int 0, .null, .null, .null, .null] : List Value).set 29 (rfn G 149) = [rfn G 130, rfn G 131, rfn G 132, .int 0, rfn G 133, .int 0, rfn G 134, rfn G 135, .int 0, rfn G 136, .int 0, .int 0, .int 0, .int 0, .int 0, .int 0, rfn G 137, rfn G 138, rfn G 139, rfn G 140, rfn G 141, rfn G 142, rfn G 143, rfn G 144, rfn G 145, rfn G 146, .int 0, rfn G 147, rfn G 148, rfn G 149, .null, .int 0, .null, .null, .null, .null] from rfl]
  refine kw_aload_0 C dX9_init_437 rfl ?_
  refine kw_bipush C dX9_init_438 k2_20 ?_
  refine kw_newa C (150) (by omega) 0 (atype := .int) (N := 20) (z := .inl (fun _ => 0)) rfl ka_int (fun _ => rfl) rfl (by omega) (Nat.le_of_ble_eq_true rfl) (by omega) (by omega) dX9_init_440 ?_
  refine kw_eq ((kov_ne (by omega)).trans ((hB _ (by omega)).trans (by rw [cell_int sh_150, kq_ge (by decide)] <;> rfl))) ?_
  refine kw_putF C hI 9 30 rfl (gtb_u inX9) tyX9 tyX9_ok nmX9 (fs := [rfn G 130, rfn G 131, rfn G 132, .int 0, rfn G 133, .int 0, rfn G 134, rfn G 135, .int 0, rfn G 136, .int 0, .int 0, .int 0, .int 0, .int 0, .int 0, rfn G 137, rfn G 138, rfn G 139, rfn G 140, rfn G 141, rfn G 142, rfn G 143, rfn G 144, rfn G 145, rfn G 146, .int 0, rfn G 147, rfn G 148, rfn G 149, .null, .int 0, .null, .null, .null, .null]) (by exact kov_eq) (by omega) (by decide) rfl rfl rfl rfl (Nat.le_of_ble_eq_true rfl) fl_X9_74 dX9_init_442 ?_
  rw [kov_kov, show ([rfn G 130, rfn G 131, rfn G 132, .int 0, rfn G 133, .int 0, rfn G 134, rfn G 135, .int 0, rfn G 136, .int 0, .int 0, .int 0, .int 0, .int 0, .int 0, rfn G 137, rfn G 138, rfn G 139, rfn G 140, rfn G 141, rfn G 142, rfn G 143, rfn G 144, rfn G 145, rfn G 146, .int 0, rfn G 147, rfn G 148, rfn G 149, .null, .int 0, .null, .null, .null, .null] : List Value).set 30 (rfn G 150) = [rfn G 130, rfn G 131, rfn G 132, .int 0, rfn G 133, .int 0, rfn G 134, rfn G 135, .int 0, rfn G 136, .int 0, .int 0, .int 0, .int 0, .int 0, .int 0, rfn G 137, rfn G 138, rfn G 139, rfn G 140, rfn G 141, rfn G 142, rfn G 143, rfn G 144, rfn G 145, rfn G 146, .int 0, rfn G 147, rfn G 148, rfn G 149, rfn G 150, .int 0, .null, .null, .null, .null] from rfl]
  refine kw_aload_0 C dX9_init_445 rfl ?_
  refine kw_bipush C dX9_init_446 k2_6 ?_
  refine kw_newa C (151) (by omega) 0 (atype := .int) (N := 6) (z := .inl (fun _ => 0)) rfl ka_int (fun _ => rfl) rfl (by omega) (Nat.le_of_ble_eq_true rfl) (by omega) (by omega) dX9_init_448 ?_
  refine kw_dup C dX9_init_450 rfl ?_
  refine kw_iconst C dX9_init_451 k1_0 ?_
  refine kw_iconst C dX9_init_452 k1_m1 ?_
  refine kw_iast C (k := 151) (i := 0) (N := 6) rfl kov_eq (by omega) (by decide) (by decide) dX9_init_453 ?_
  rw [kov_kov]
  refine kw_dup C dX9_init_454 rfl ?_
  refine kw_iconst C dX9_init_455 k1_1 ?_
  refine kw_iconst C dX9_init_456 k1_m1 ?_
  refine kw_iast C (k := 151) (i := 1) (N := 6) rfl kov_eq (by omega) (by decide) (by decide) dX9_init_457 ?_
  rw [kov_kov]
  refine kw_dup C dX9_init_458 rfl ?_
  refine kw_iconst C dX9_init_459 k1_2 ?_
  refine kw_iconst C dX9_init_460 k1_m1 ?_
  refine kw_iast C (k := 151) (i := 2) (N := 6) rfl kov_eq (by omega) (by decide) (by decide) dX9_init_461 ?_
  rw [kov_kov]
  refine kw_dup C dX9_init_462 rfl ?_
  refine kw_iconst C dX9_init_463 k1_3 ?_
  refine kw_iconst C dX9_init_464 k1_m1 ?_
  refine kw_iast C (k := 151) (i := 3) (N := 6) rfl kov_eq (by omega) (by decide) (by decide) dX9_init_465 ?_
  rw [kov_kov]
  refine kw_dup C dX9_init_466 rfl ?_
  refine kw_iconst C dX9_init_467 k1_4 ?_
  refine kw_iconst C dX9_init_468 k1_m1 ?_
  refine kw_iast C (k := 151) (i := 4) (N := 6) rfl kov_eq (by omega) (by decide) (by decide) dX9_init_469 ?_
  rw [kov_kov]
  refine kw_dup C dX9_init_470 rfl ?_
  refine kw_iconst C dX9_init_471 k1_5 ?_
  refine kw_iconst C dX9_init_472 k1_m1 ?_
  refine kw_iast C (k := 151) (i := 5) (N := 6) rfl kov_eq (by omega) (by decide) (by decide) dX9_init_473 ?_
  rw [kov_kov]
  refine kw_eq ((kov_ne (by omega)).trans ((hB _ (by omega)).trans (by rw [cell_int sh_151, kq_ge (by decide)] <;> rfl))) ?_
  refine kw_putF C hI 9 32 rfl (gtb_u inX9) tyX9 tyX9_ok nmX9 (fs := [rfn G 130, rfn G 131, rfn G 132, .int 0, rfn G 133, .int 0, rfn G 134, rfn G 135, .int 0, rfn G 136, .int 0, .int 0, .int 0, .int 0, .int 0, .int 0, rfn G 137, rfn G 138, rfn G 139, rfn G 140, rfn G 141, rfn G 142, rfn G 143, rfn G 144, rfn G 145, rfn G 146, .int 0, rfn G 147, rfn G 148, rfn G 149, rfn G 150, .int 0, .null, .null, .null, .null]) (by exact kov_eq) (by omega) (by decide) rfl rfl rfl rfl (Nat.le_of_ble_eq_true rfl) fl_X9_77 dX9_init_474 ?_
  rw [kov_kov, show ([rfn G 130, rfn G 131, rfn G 132, .int 0, rfn G 133, .int 0, rfn G 134, rfn G 135, .int 0, rfn G 136, .int 0, .int 0, .int 0, .int 0, .int 0, .int 0, rfn G 137, rfn G 138, rfn G 139, rfn G 140, rfn G 141, rfn G 142, rfn G 143, rfn G 144, rfn G 145, rfn G 146, .int 0, rfn G 147, rfn G 148, rfn G 149, rfn G 150, .int 0, .null, .null, .null, .null] : List Value).set 32 (rfn G 151) = [rfn G 130, rfn G 131, rfn G 132, .int 0, rfn G 133, .int 0, rfn G 134, rfn G 135, .int 0, rfn G 136, .int 0, .int 0, .int 0, .int 0, .int 0, .int 0, rfn G 137, rfn G 138, rfn G 139, rfn G 140, rfn G 141, rfn G 142, rfn G 143, rfn G 144, rfn G 145, rfn G 146, .int 0, rfn G 147, rfn G 148, rfn G 149, rfn G 150, .int 0, rfn G 151, .null, .null, .null] from rfl]
  refine kw_aload_0 C dX9_init_477 rfl ?_
  refine kw_bipush C dX9_init_478 k2_6 ?_
  refine kw_newa C (152) (by omega) 0 (atype := .int) (N := 6) (z := .inl (fun _ => 0)) rfl ka_int (fun _ => rfl) rfl (by omega) (Nat.le_of_ble_eq_true rfl) (by omega) (by omega) dX9_init_480 ?_
  refine kw_eq ((kov_ne (by omega)).trans ((hB _ (by omega)).trans (by rw [cell_int sh_152, kq_ge (by decide)] <;> rfl))) ?_
  refine kw_putF C hI 9 33 rfl (gtb_u inX9) tyX9 tyX9_ok nmX9 (fs := [rfn G 130, rfn G 131, rfn G 132, .int 0, rfn G 133, .int 0, rfn G 134, rfn G 135, .int 0, rfn G 136, .int 0, .int 0, .int 0, .int 0, .int 0, .int 0, rfn G 137, rfn G 138, rfn G 139, rfn G 140, rfn G 141, rfn G 142, rfn G 143, rfn G 144, rfn G 145, rfn G 146, .int 0, rfn G 147, rfn G 148, rfn G 149, rfn G 150, .int 0, rfn G 151, .null, .null, .null]) (by exact kov_eq) (by omega) (by decide) rfl rfl rfl rfl (Nat.le_of_ble_eq_true rfl) fl_X9_80 dX9_init_482 ?_
  rw [kov_kov, show ([rfn G 130, rfn G 131, rfn G 132, .int 0, rfn G 133, .int 0, rfn G 134, rfn G 135, .int 0, rfn G 136, .int 0, .int 0, .int 0, .int 0, .int 0, .int 0, rfn G 137, rfn G 138, rfn G 139, rfn G 140, rfn G 141, rfn G 142, rfn G 143, rfn G 144, rfn G 145, rfn G 146, .int 0, rfn G 147, rfn G 148, rfn G 149, rfn G 150, .int 0, rfn G 151, .null, .null, .null] : List Value).set 33 (rfn G 152) = [rfn G 130, rfn G 131, rfn G 132, .int 0, rfn G 133, .int 0, rfn G 134, rfn G 135, .int 0, rfn G 136, .int 0, .int 0, .int 0, .int 0, .int 0, .int 0, rfn G 137, rfn G 138, rfn G 139, rfn G 140, rfn G 141, rfn G 142, rfn G 143, rfn G 144, rfn G 145, rfn G 146, .int 0, rfn G 147, rfn G 148, rfn G 149, rfn G 150, .int 0, rfn G 151, rfn G 152, .null, .null] from rfl]
  refine kw_aload_0 C dX9_init_485 rfl ?_
  refine kw_sipush C dX9_init_486 k3_360 ?_
  refine kw_newa C (153) (by omega) 3 (atype := .long) (N := 360) (z := .inr (.inl (fun _ => 0))) rfl ka_long (fun _ => rfl) rfl (by omega) (Nat.le_of_ble_eq_true rfl) (by omega) (by omega) dX9_init_489 ?_
  rw [kov_self (((kov_ne (by omega)).trans (hB _ (by omega))).trans (kz_lon sh_153))]
  refine kw_putF C hI 9 34 rfl (gtb_u inX9) tyX9 tyX9_ok nmX9 (fs := [rfn G 130, rfn G 131, rfn G 132, .int 0, rfn G 133, .int 0, rfn G 134, rfn G 135, .int 0, rfn G 136, .int 0, .int 0, .int 0, .int 0, .int 0, .int 0, rfn G 137, rfn G 138, rfn G 139, rfn G 140, rfn G 141, rfn G 142, rfn G 143, rfn G 144, rfn G 145, rfn G 146, .int 0, rfn G 147, rfn G 148, rfn G 149, rfn G 150, .int 0, rfn G 151, rfn G 152, .null, .null]) (by exact kov_eq) (by omega) (by decide) rfl rfl rfl rfl (Nat.le_of_ble_eq_true rfl) fl_X9_83 dX9_init_491 ?_
  rw [kov_kov, show ([rfn G 130, rfn G 131, rfn G 132, .int 0, rfn G 133, .int 0, rfn G 134, rfn G 135, .int 0, rfn G 136, .int 0, .int 0, .int 0, .int 0, .int 0, .int 0, rfn G 137, rfn G 138, rfn G 139, rfn G 140, rfn G 141, rfn G 142, rfn G 143, rfn G 144, rfn G 145, rfn G 146, .int 0, rfn G 147, rfn G 148, rfn G 149, rfn G 150, .int 0, rfn G 151, rfn G 152, .null, .null] : List Value).set 34 (rfn G 153) = [rfn G 130, rfn G 131, rfn G 132, .int 0, rfn G 133, .int 0, rfn G 134, rfn G 135, .int 0, rfn G 136, .int 0, .int 0, .int 0, .int 0, .int 0, .int 0, rfn G 137, rfn G 138, rfn G 139, rfn G 140, rfn G 141, rfn G 142, rfn G 143, rfn G 144, rfn G 145, rfn G 146, .int 0, rfn G 147, rfn G 148, rfn G 149, rfn G 150, .int 0, rfn G 151, rfn G 152, rfn G 153, .null] from rfl]
  refine kw_aload_0 C dX9_init_494 rfl ?_
  refine kw_bipush C dX9_init_495 k2_60 ?_
  refine kw_newa C (154) (by omega) 3 (atype := .long) (N := 60) (z := .inr (.inl (fun _ => 0))) rfl ka_long (fun _ => rfl) rfl (by omega) (Nat.le_of_ble_eq_true rfl) (by omega) (by omega) dX9_init_497 ?_
  rw [kov_self (((kov_ne (by omega)).trans (hB _ (by omega))).trans (kz_lon sh_154))]
  refine kw_putF C hI 9 35 rfl (gtb_u inX9) tyX9 tyX9_ok nmX9 (fs := [rfn G 130, rfn G 131, rfn G 132, .int 0, rfn G 133, .int 0, rfn G 134, rfn G 135, .int 0, rfn G 136, .int 0, .int 0, .int 0, .int 0, .int 0, .int 0, rfn G 137, rfn G 138, rfn G 139, rfn G 140, rfn G 141, rfn G 142, rfn G 143, rfn G 144, rfn G 145, rfn G 146, .int 0, rfn G 147, rfn G 148, rfn G 149, rfn G 150, .int 0, rfn G 151, rfn G 152, rfn G 153, .null]) (by exact kov_eq) (by omega) (by decide) rfl rfl rfl rfl (Nat.le_of_ble_eq_true rfl) fl_X9_87 dX9_init_499 ?_
  rw [kov_kov, show ([rfn G 130, rfn G 131, rfn G 132, .int 0, rfn G 133, .int 0, rfn G 134, rfn G 135, .int 0, rfn G 136, .int 0, .int 0, .int 0, .int 0, .int 0, .int 0, rfn G 137, rfn G 138, rfn G 139, rfn G 140, rfn G 141, rfn G 142, rfn G 143, rfn G 144, rfn G 145, rfn G 146, .int 0, rfn G 147, rfn G 148, rfn G 149, rfn G 150, .int 0, rfn G 151, rfn G 152, rfn G 153, .null] : List Value).set 35 (rfn G 154) = [rfn G 130, rfn G 131, rfn G 132, .int 0, rfn G 133, .int 0, rfn G 134, rfn G 135, .int 0, rfn G 136, .int 0, .int 0, .int 0, .int 0, .int 0, .int 0, rfn G 137, rfn G 138, rfn G 139, rfn G 140, rfn G 141, rfn G 142, rfn G 143, rfn G 144, rfn G 145, rfn G 146, .int 0, rfn G 147, rfn G 148, rfn G 149, rfn G 150, .int 0, rfn G 151, rfn G 152, rfn G 153, rfn G 154] from rfl]
  refine kw_ret C hR (by omega) (by omega) (kov_self ((hB _ (Nat.le_refl _)).trans ?_)) dX9_init_502
  rw [cell_obj sh_129]
  unfold flds
  simp only [gI, kq_ge (show 129 ≤ 129 from Nat.le_refl _)]
  rfl
