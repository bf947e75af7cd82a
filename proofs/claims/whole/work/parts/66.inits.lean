set_option maxRecDepth 100000 in
set_option maxHeartbeats 4000000 in
theorem kX2_init {G : GT} {k : Nat} (hk : k < 127) (h : shE k) : KS G 1 yX2_init cX2_init 1 [] (k) 2 kd2 1 (4) := by
  refine KS.intro RX2 (by decide) rfl rfl (Nat.le_of_ble_eq_true rfl) [some (rfn G (k))] rfl ?_
  intro X d B hd hB C hI hR
  refine kw_aload_0 C dX2_init_0 rfl ?_
  refine kw_objInit C rfl ko_X2 ko_i ko_c dX2_init_1 (by omega) ?_
  refine kw_aload_0 C dX2_init_4 rfl ?_
  refine kw_bipush C dX2_init_5 k2_m5 ?_
  refine kw_put C 2 4 rfl (gtb_u inX2) tyX2 tyX2_ok nmX2 (fs := kd2) kov_eq (by omega) (by decide) rfl rfl rfl (by decide) fl_X2_9 dX2_init_7 ?_
  rw [kov_kov]
  refine kw_aload_0 C dX2_init_10 rfl ?_
  refine kw_iconst C dX2_init_11 k1_4 ?_
  refine kw_newa C (k + 1) (by omega) 0 (atype := .int) (N := 4) (z := .inl (fun _ => 0)) rfl ka_int (fun _ => rfl) rfl (by omega) (Nat.le_of_ble_eq_true rfl) (by omega) (by omega) dX2_init_12 ?_
  rw [kov_self ((kov_ne (by omega)).trans ((hB _ (by omega)).trans (kz_int (by omega) h.2)))]
  refine kw_putF C hI 2 6 rfl (gtb_u inX2) tyX2 tyX2_ok nmX2 (fs := (kd2.set 4 (.int (-5)))) kov_eq (by omega) (by decide) rfl rfl rfl rfl (by decide) fl_X2_15 dX2_init_14 ?_
  rw [kov_kov]
  refine kw_ret C hR (by omega) (by omega) (kov_self ((hB _ (Nat.le_refl _)).trans ?_)) dX2_init_17
  rw [cell_obj h.1]
  unfold flds
  simp only [gI, kq_pe (show k < 129 by omega) h.1]
  rfl
