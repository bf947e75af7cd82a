set_option maxRecDepth 100000 in
set_option maxHeartbeats 4000000 in
theorem kX2_init {G : GT} {k : Nat} (hk : k < 127) (h : shE k) : KS G 1 yX2_init cX2_init 1 [] (k) 2 kd2 1 (4) := by
  refine KS.intro RX2 (by decide) rfl rfl (Nat.le_of_ble_eq_true rfl) [some (rfn G (k))] rfl ?_
  intro X d B hd hB C hI hR
  refine kw_aload_0 C dX2_init_0 rfl ?_
  refine kw_objInit C rfl ko_X2 ko_i ko_c dX2_init_1 (by omega) ?_
  refine kw_aload_0 C dX2_init_4 rfl ?_
  refine kw_bipush C dX2_init_5 k2_m5 ?_
  refine kw_put C 2 4 rfl (gtb_u inX2) tyX2 tyX2_ok nmX2 (fs := kd2) kov_eq (by omega) (by decide) rfl rfl rfl (Nat.le_of_ble_eq_true rfl) fl_X2_9 dX2_init_7 ?_
  rw [kov_kov]
  refine kw_aload_0 C dX2_init_10 rfl ?_
  refine kw_iconst C dX2_init_11 k1_4 ?_
  refine kw_newa C (k + 1) (by omega) 0 (atype := .int) (N := 4) (z := .inl (fun _ => 0)) rfl ka_int (fun _ => rfl) rfl (by omega) (Nat.le_of_ble_eq_true rfl) (by omega) (by omega) dX2_init_12 ?_
  rw [kov_self ((kov_ne (by omega)).trans ((hB _ (by omega)).trans (kz_int (by omega) h.2)))]
  refine kw_putF C hI 2 6 rfl (gtb_u inX2) tyX2 tyX2_ok nmX2 (fs := (kd2.set 4 (.int (-5)))) kov_eq (by omega) (by decide) rfl rfl rfl rfl (Nat.le_of_ble_eq_true rfl) fl_X2_15 dX2_init_14 ?_
  rw [kov_kov]
  refine kw_ret C hR (by omega) (by omega) (kov_self ((hB _ (Nat.le_refl _)).trans ?_)) dX2_init_17
  rw [cell_obj h.1]
  unfold flds
  simp only [gI, kq_pe (show k < 129 by omega) h.1]
  rfl

set_option maxRecDepth 100000 in
set_option maxHeartbeats 4000000 in
theorem kX3_init {G : GT} {k m : Nat} (hk : k < 120) (hm : m < 2000) (h : shR k m) : KS G 1 yX3_init cX3_init 2 [.int (nI m)] (k) 3 kd3 3 (3 * m) := by
  refine KS.intro RX3 (by decide) rfl rfl (Nat.le_of_ble_eq_true rfl) [some (rfn G (k)), some (.int (nI m))] rfl ?_
  intro X d B hd hB C hI hR
  refine kw_aload_0 C dX3_init_0 rfl ?_
  refine kw_objInit C rfl ko_X3 ko_i ko_c dX3_init_1 (by omega) ?_
  refine kw_aload_0 C dX3_init_4 rfl ?_
  refine kw_iload_1 C dX3_init_5 ?_
  refine kw_newa C (k + 1) (by omega) 0 (atype := .int) (N := m) (z := .inl (fun _ => 0)) rfl ka_int (fun _ => rfl) rfl (by omega) (by show m * 4 ≤ _; omega) (by omega) (by omega) dX3_init_6 ?_
  rw [kov_self ((kov_ne (by omega)).trans ((hB _ (by omega)).trans (kz_int (by omega) h.2.1)))]
  refine kw_putF C hI 3 0 rfl (gtb_u inX3) tyX3 tyX3_ok nmX3 (fs := kd3) kov_eq (by omega) (by decide) rfl rfl rfl rfl (Nat.le_of_ble_eq_true rfl) fl_X3_9 dX3_init_8 ?_
  rw [kov_kov]
  refine kw_aload_0 C dX3_init_11 rfl ?_
  refine kw_iload_1 C dX3_init_12 ?_
  refine kw_newa C (k + 2) (by omega) 0 (atype := .int) (N := m) (z := .inl (fun _ => 0)) rfl ka_int (fun _ => rfl) rfl (by omega) (by show m * 4 ≤ _; omega) (by omega) (by omega) dX3_init_13 ?_
  rw [kov_self ((kov_ne (by omega)).trans ((hB _ (by omega)).trans (kz_int (by omega) h.2.2.1)))]
  refine kw_putF C hI 3 1 rfl (gtb_u inX3) tyX3 tyX3_ok nmX3 (fs := (kd3.set 0 (rfn G (k + 1)))) kov_eq (by omega) (by decide) rfl rfl rfl rfl (Nat.le_of_ble_eq_true rfl) fl_X3_15 dX3_init_15 ?_
  rw [kov_kov]
  refine kw_aload_0 C dX3_init_18 rfl ?_
  refine kw_iload_1 C dX3_init_19 ?_
  refine kw_newa C (k + 3) (by omega) 0 (atype := .int) (N := m) (z := .inl (fun _ => 0)) rfl ka_int (fun _ => rfl) rfl (by omega) (by show m * 4 ≤ _; omega) (by omega) (by omega) dX3_init_20 ?_
  rw [kov_self ((kov_ne (by omega)).trans ((hB _ (by omega)).trans (kz_int (by omega) h.2.2.2)))]
  refine kw_putF C hI 3 2 rfl (gtb_u inX3) tyX3 tyX3_ok nmX3 (fs := ((kd3.set 0 (rfn G (k + 1))).set 1 (rfn G (k + 2)))) kov_eq (by omega) (by decide) rfl rfl rfl rfl (Nat.le_of_ble_eq_true rfl) fl_X3_18 dX3_init_22 ?_
  rw [kov_kov]
  refine kw_ret C hR (by omega) (by omega) (kov_self ((hB _ (Nat.le_refl _)).trans ?_)) dX3_init_25
  rw [cell_obj h.1]
  unfold flds
  simp only [gI, kq_ob (show k < 129 by omega) h.1 (by decide) (by decide)]
  rfl

set_option maxRecDepth 100000 in
set_option maxHeartbeats 4000000 in
theorem kX1_init {G : GT} {k : Nat} (hk : k < 120) (h : shC k) : KS G 1 yX1_init cX1_init 1 [] (k) 1 kd1 2 (106) := by
  refine KS.intro RX1 (by decide) rfl rfl (Nat.le_of_ble_eq_true rfl) [some (rfn G (k))] rfl ?_
  intro X d B hd hB C hI hR
  refine kw_aload_0 C dX1_init_0 rfl ?_
  refine kw_objInit C rfl ko_X1 ko_i ko_c dX1_init_1 (by omega) ?_
  refine kw_aload_0 C dX1_init_4 rfl ?_
  refine kw_bipush C dX1_init_5 k2_100 ?_
  refine kw_newa C (k + 1) (by omega) 0 (atype := .int) (N := 100) (z := .inl (fun _ => 0)) rfl ka_int (fun _ => rfl) rfl (by omega) (Nat.le_of_ble_eq_true rfl) (by omega) (by omega) dX1_init_7 ?_
  rw [kov_self ((kov_ne (by omega)).trans ((hB _ (by omega)).trans (kz_int (by omega) h.2.1)))]
  refine kw_putF C hI 1 1 rfl (gtb_u inX1) tyX1 tyX1_ok nmX1 (fs := kd1) kov_eq (by omega) (by decide) rfl rfl rfl rfl (Nat.le_of_ble_eq_true rfl) fl_X1_9 dX1_init_9 ?_
  rw [kov_kov]
  refine kw_aload_0 C dX1_init_12 rfl ?_
  refine kw_bipush C dX1_init_13 k2_6 ?_
  refine kw_newa C (k + 2) (by omega) 0 (atype := .int) (N := 6) (z := .inl (fun _ => 0)) rfl ka_int (fun _ => rfl) rfl (by omega) (Nat.le_of_ble_eq_true rfl) (by omega) (by omega) dX1_init_15 ?_
  rw [kov_self ((kov_ne (by omega)).trans ((hB _ (by omega)).trans (kz_int (by omega) h.2.2)))]
  refine kw_putF C hI 1 3 rfl (gtb_u inX1) tyX1 tyX1_ok nmX1 (fs := (kd1.set 1 (rfn G (k + 1)))) kov_eq (by omega) (by decide) rfl rfl rfl rfl (Nat.le_of_ble_eq_true rfl) fl_X1_15 dX1_init_17 ?_
  rw [kov_kov]
  refine kw_ret C hR (by omega) (by omega) (kov_self ((hB _ (Nat.le_refl _)).trans ?_)) dX1_init_20
  rw [cell_obj h.1]
  unfold flds
  simp only [gI, kq_ob (show k < 129 by omega) h.1 (by decide) (by decide)]
  rfl

set_option maxRecDepth 100000 in
set_option maxHeartbeats 4000000 in
theorem kX4_init {G : GT} {k : Nat} (hk : k < 128) (h : shU k) : KS G 1 yX4_init cX4_init 1 [] (k) 4 kd4 1 (60) := by
  refine KS.intro RX4 (by decide) rfl rfl (Nat.le_of_ble_eq_true rfl) [some (rfn G (k))] rfl ?_
  intro X d B hd hB C hI hR
  refine kw_aload_0 C dX4_init_0 rfl ?_
  refine kw_objInit C rfl ko_X4 ko_i ko_c dX4_init_1 (by omega) ?_
  refine kw_aload_0 C dX4_init_4 rfl ?_
  refine kw_iconst C dX4_init_5 k1_m1 ?_
  refine kw_put C 4 0 rfl (gtb_u inX4) tyX4 tyX4_ok nmX4 (fs := kd4) kov_eq (by omega) (by decide) rfl rfl rfl (Nat.le_of_ble_eq_true rfl) fl_X4_9 dX4_init_6 ?_
  rw [kov_kov]
  refine kw_aload_0 C dX4_init_9 rfl ?_
  refine kw_bipush C dX4_init_10 k2_60 ?_
  refine kw_newa C (k + 1) (by omega) 3 (atype := .long) (N := 60) (z := .inr (.inl (fun _ => 0))) rfl ka_long (fun _ => rfl) rfl (by omega) (Nat.le_of_ble_eq_true rfl) (by omega) (by omega) dX4_init_12 ?_
  rw [kov_self ((kov_ne (by omega)).trans ((hB _ (by omega)).trans (kz_lon h.2)))]
  refine kw_putF C hI 4 1 rfl (gtb_u inX4) tyX4 tyX4_ok nmX4 (fs := (kd4.set 0 (.int (-1)))) kov_eq (by omega) (by decide) rfl rfl rfl rfl (Nat.le_of_ble_eq_true rfl) fl_X4_15 dX4_init_14 ?_
  rw [kov_kov]
  refine kw_ret C hR (by omega) (by omega) (kov_self ((hB _ (Nat.le_refl _)).trans ?_)) dX4_init_17
  rw [cell_obj h.1]
  unfold flds
  simp only [gI, kq_ta (show k < 129 by omega) h.1]
  rfl

set_option maxRecDepth 100000 in
set_option maxHeartbeats 4000000 in
theorem kX5_init {G : GT}  : KS G 1 yX5_init cX5_init 1 [] (93) 5 kd5 1 (100) := by
  refine KS.intro RX5 (by decide) rfl rfl (Nat.le_of_ble_eq_true rfl) [some (rfn G (93))] rfl ?_
  intro X d B hd hB C hI hR
  refine kw_aload_0 C dX5_init_0 rfl ?_
  refine kw_objInit C rfl ko_X5 ko_i ko_c dX5_init_1 (by omega) ?_
  refine kw_aload_0 C dX5_init_4 rfl ?_
  refine kw_bipush C dX5_init_5 k2_100 ?_
  refine kw_newa C (93 + 1) (by omega) 0 (atype := .int) (N := 100) (z := .inl (fun _ => 0)) rfl ka_int (fun _ => rfl) rfl (by omega) (Nat.le_of_ble_eq_true rfl) (by omega) (by omega) dX5_init_7 ?_
  rw [kov_self ((kov_ne (by omega)).trans ((hB _ (by omega)).trans (kz_int (by omega) sh_94)))]
  refine kw_putF C hI 5 0 rfl (gtb_u inX5) tyX5 tyX5_ok nmX5 (fs := kd5) kov_eq (by omega) (by decide) rfl rfl rfl rfl (Nat.le_of_ble_eq_true rfl) fl_X5_9 dX5_init_9 ?_
  rw [kov_kov]
  refine kw_ret C hR (by omega) (by omega) (kov_self ((hB _ (Nat.le_refl _)).trans ?_)) dX5_init_12
  rw [cell_obj sh_93]
  unfold flds
  simp only [gI, kq_ob (show 93 < 129 by omega) sh_93 (by decide) (by decide)]
  rfl

set_option maxRecDepth 100000 in
set_option maxHeartbeats 4000000 in
theorem kX0_init {G : GT}  : KS G 1 yX0_init cX0_init 1 [] (97) 0 kd0 1 (20) := by
  refine KS.intro RX0 (by decide) rfl rfl (Nat.le_of_ble_eq_true rfl) [some (rfn G (97))] rfl ?_
  intro X d B hd hB C hI hR
  refine kw_aload_0 C dX0_init_0 rfl ?_
  refine kw_objInit C rfl ko_X0 ko_i ko_c dX0_init_1 (by omega) ?_
  refine kw_aload_0 C dX0_init_4 rfl ?_
  refine kw_bipush C dX0_init_5 k2_20 ?_
  refine kw_newa C (97 + 1) (by omega) 0 (atype := .int) (N := 20) (z := .inl (fun _ => 0)) rfl ka_int (fun _ => rfl) rfl (by omega) (Nat.le_of_ble_eq_true rfl) (by omega) (by omega) dX0_init_7 ?_
  rw [kov_self ((kov_ne (by omega)).trans ((hB _ (by omega)).trans (kz_int (by omega) sh_98)))]
  refine kw_putF C hI 0 0 rfl (gtb_u inX0) tyX0 tyX0_ok nmX0 (fs := kd0) kov_eq (by omega) (by decide) rfl rfl rfl rfl (Nat.le_of_ble_eq_true rfl) fl_X0_9 dX0_init_9 ?_
  rw [kov_kov]
  refine kw_ret C hR (by omega) (by omega) (kov_self ((hB _ (Nat.le_refl _)).trans ?_)) dX0_init_12
  rw [cell_obj sh_97]
  unfold flds
  simp only [gI, kq_ob (show 97 < 129 by omega) sh_97 (by decide) (by decide)]
  rfl

set_option maxRecDepth 100000 in
set_option maxHeartbeats 4000000 in
theorem kX6_init {G : GT}  : KS G 1 yX6_init cX6_init 1 [] (88) 6 kd6 4 (4680) := by
  refine KS.intro RX6 (by decide) rfl rfl (Nat.le_of_ble_eq_true rfl) [some (rfn G (88))] rfl ?_
  intro X d B hd hB C hI hR
  refine kw_aload_0 C dX6_init_0 rfl ?_
  refine kw_objInit C rfl ko_X6 ko_i ko_c dX6_init_1 (by omega) ?_
  refine kw_aload_0 C dX6_init_4 rfl ?_
  refine kw_sipush C dX6_init_5 k3_1536 ?_
  refine kw_newa C (88 + 1) (by omega) 0 (atype := .int) (N := 1536) (z := .inl (fun _ => 0)) rfl ka_int (fun _ => rfl) rfl (by omega) (Nat.le_of_ble_eq_true rfl) (by omega) (by omega) dX6_init_8 ?_
  rw [kov_self ((kov_ne (by omega)).trans ((hB _ (by omega)).trans (kz_int (by omega) sh_89)))]
  refine kw_putF C hI 6 0 rfl (gtb_u inX6) tyX6 tyX6_ok nmX6 (fs := kd6) kov_eq (by omega) (by decide) rfl rfl rfl rfl (Nat.le_of_ble_eq_true rfl) fl_X6_9 dX6_init_10 ?_
  rw [kov_kov]
  refine kw_aload_0 C dX6_init_13 rfl ?_
  refine kw_sipush C dX6_init_14 k3_1536 ?_
  refine kw_newa C (88 + 2) (by omega) 0 (atype := .int) (N := 1536) (z := .inl (fun _ => 0)) rfl ka_int (fun _ => rfl) rfl (by omega) (Nat.le_of_ble_eq_true rfl) (by omega) (by omega) dX6_init_17 ?_
  rw [kov_self ((kov_ne (by omega)).trans ((hB _ (by omega)).trans (kz_int (by omega) sh_90)))]
  refine kw_putF C hI 6 1 rfl (gtb_u inX6) tyX6 tyX6_ok nmX6 (fs := (kd6.set 0 (rfn G (88 + 1)))) kov_eq (by omega) (by decide) rfl rfl rfl rfl (Nat.le_of_ble_eq_true rfl) fl_X6_15 dX6_init_19 ?_
  rw [kov_kov]
  refine kw_aload_0 C dX6_init_22 rfl ?_
  refine kw_sipush C dX6_init_23 k3_1536 ?_
  refine kw_newa C (88 + 3) (by omega) 1 (atype := .boolean) (N := 1536) (z := .inl (fun _ => 0)) rfl ka_boolean (fun _ => rfl) rfl (by omega) (Nat.le_of_ble_eq_true rfl) (by omega) (by omega) dX6_init_26 ?_
  rw [kov_self ((kov_ne (by omega)).trans ((hB _ (by omega)).trans (kz_boo (by omega) sh_91)))]
  refine kw_putF C hI 6 2 rfl (gtb_u inX6) tyX6 tyX6_ok nmX6 (fs := ((kd6.set 0 (rfn G (88 + 1))).set 1 (rfn G (88 + 2)))) kov_eq (by omega) (by decide) rfl rfl rfl rfl (Nat.le_of_ble_eq_true rfl) fl_X6_18 dX6_init_28 ?_
  rw [kov_kov]
  refine kw_aload_0 C dX6_init_31 rfl ?_
  refine kw_bipush C dX6_init_32 k2_72 ?_
  refine kw_newa C (88 + 4) (by omega) 0 (atype := .int) (N := 72) (z := .inl (fun _ => 0)) rfl ka_int (fun _ => rfl) rfl (by omega) (Nat.le_of_ble_eq_true rfl) (by omega) (by omega) dX6_init_34 ?_
  rw [kov_self ((kov_ne (by omega)).trans ((hB _ (by omega)).trans (kz_int (by omega) sh_92)))]
  refine kw_putF C hI 6 3 rfl (gtb_u inX6) tyX6 tyX6_ok nmX6 (fs := (((kd6.set 0 (rfn G (88 + 1))).set 1 (rfn G (88 + 2))).set 2 (rfn G (88 + 3)))) kov_eq (by omega) (by decide) rfl rfl rfl rfl (Nat.le_of_ble_eq_true rfl) fl_X6_22 dX6_init_36 ?_
  rw [kov_kov]
  refine kw_ret C hR (by omega) (by omega) (kov_self ((hB _ (Nat.le_refl _)).trans ?_)) dX6_init_39
  rw [cell_obj sh_88]
  unfold flds
  simp only [gI, kq_ob (show 88 < 129 by omega) sh_88 (by decide) (by decide)]
  rfl
