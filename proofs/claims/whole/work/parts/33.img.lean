theorem RR.img {q q2 : S_} {g : GS} (h : RR q g) (hf : Fr (fun k j => k = 132 ∨ (k = 129 ∧ j = 3)) q q2) (h3 : gI q2 129 3 = nI 1) (hj : ∀ j, j < 146 → gI q2 132 j = cd j (gM g j)) : RR q2 (gM g, true, gM g, gC g, gN g, gT g, gS g, gE g, gX g, gR g, gV g) := by
  obtain ⟨a1, a2, a3, a4, a5, a6, a7, a8, a9, a10, a11, a12⟩ := h
  refine ⟨hf.rel (fun j z => by omega) a1, a2.w hf (fun k j e z => by omega), (hf.2 _ _ (by omega)).trans a3, h3.trans (bP_t rfl).symm, fun _ => hj, (hf.2 _ _ (by omega)).trans a6, fun j hj => (hf.2 _ _ (by omega)).trans (a7 j hj), fun t ht => ?_, fun j hj => (hf.2 _ _ (by omega)).trans (a9 j hj), fun j hj => (hf.2 _ _ (by omega)).trans (a10 j hj), (hf.2 _ _ (by omega)).trans a11, fun j hj h2 => (hf.2 _ _ (by omega)).trans (a12 j hj h2)⟩
  obtain ⟨b1, b2, b3⟩ := a8 t ht
  refine ⟨(hf.2 _ _ (by omega)).trans b1, (hf.2 _ _ (by omega)).trans b2, fun j hj => ?_⟩
  rw [← b3 j hj]
  show q2.2 _ _ = q.2 _ _
  rw [hf.1]
def f_image (g : GS) : Int32 × GS := (nI (gM g 92), (gM g, true, gM g, gC g, gN g, gT g, gS g, gE g, gX g, gR g, gV g))
def f_undo (g : GS) : Int32 × GS := if gK g = true then (nI (gJ g 92), (gJ g, g.2)) else (-3, g)

set_option maxRecDepth 100000 in
set_option maxHeartbeats 4000000 in
theorem s_X9_image {G : GT} {q : S_} {g : GS}  (hg : GOK g) (hRR : RR q g) : Spec G 2 yX9_image cX9_image 1 (some .int) [rfn G 129] q (PI (PG (f_image g) q)) := by
  refine Spec.intro RX9 (by decide) rfl (Nat.le_of_ble_eq_true rfl) [some (rfn G 129)] rfl ?_
  intro X d hd C hR
  obtain ⟨hW, hCy, h95, hN6, h94, hK, hT1, hT2, hTp, hR1, hSy, hSyJ⟩ := id hg
  obtain ⟨hM, hE, hNr, hKp, hIm, hTl, hTx, hTs, hAb, hBd, hRn, hTr⟩ := id hRR
  have hc := hW.c
  have hG : Goo (gM g) (gC g) := fun k hk => hCy k (by omega)
  refine aw_aload_0 C dX9_image_0 rfl ?_
  refine aw_iconst C dX9_image_1 k1_1 ?_
  refine aw_p9_3 C dX9_image_2 rfl rfl fl_X9_90 ?_
  refine aw_aload_0 C dX9_image_5 rfl ?_
  refine aw_g9_0 C dX9_image_6 fl_X9_9 ?_
  refine aw_aload_0 C dX9_image_9 rfl ?_
  refine aw_g9_2 C dX9_image_10 fl_X9_18 ?_
  refine aw_cS2VE C (s_X9_move 130 132 sh_130 sh_132 (by decide)) mf_X9_move ms_X9_move ml_X9_94 dX9_image_13 (by omega) (Nat.le_of_ble_eq_true rfl) ?_
  have hf : Fr (fun k j => k = 132 ∨ (k = 129 ∧ j = 3)) q (cpI (sI q 129 3 (nI 1)) 130 132 146) := ⟨rfl, fun k j hn => by rw [gI_cpI, if_neg (fun z => hn (Or.inl z.1)), gI_sI, if_neg (fun z => hn (Or.inr z))]⟩
  have hR2 := RR.img hRR hf (by rw [gI_cpI, if_neg (by omega), gI_sI, if_pos ⟨rfl, rfl⟩]) (fun j hj => by rw [gI_cpI, if_pos ⟨rfl, hj⟩, gI_sI, if_neg (by omega)]; exact hM j hj)
  refine aw_aload_0 C dX9_image_16 rfl ?_
  refine aw_g9_0 C dX9_image_17 fl_X9_9 ?_
  refine aw_bipush C dX9_image_20 k2_92 ?_
  refine aw_iald C _ (hR2.1.n (by omega) (by decide)) dX9_image_22 sh_130 rfl (by decide) ?_
  refine aw_iretI C hR dX9_image_23 ?_
  exact ⟨rfl, hR2, hf.m (fun k j z => by omega)⟩

set_option maxRecDepth 100000 in
set_option maxHeartbeats 4000000 in
theorem s_X9_undo {G : GT} {q : S_} {g : GS}  (hg : GOK g) (hRR : RR q g) : Spec G 2 yX9_undo cX9_undo 1 (some .int) [rfn G 129] q (PI (PG (f_undo g) q)) := by
  refine Spec.intro RX9 (by decide) rfl (Nat.le_of_ble_eq_true rfl) [some (rfn G 129)] rfl ?_
  intro X d hd C hR
  obtain ⟨hW, hCy, h95, hN6, h94, hK, hT1, hT2, hTp, hR1, hSy, hSyJ⟩ := id hg
  obtain ⟨hM, hE, hNr, hKp, hIm, hTl, hTx, hTs, hAb, hBd, hRn, hTr⟩ := id hRR
  have hc := hW.c
  have hG : Goo (gM g) (gC g) := fun k hk => hCy k (by omega)
  refine aw_aload_0 C dX9_undo_0 rfl ?_
  refine aw_g9_3 C hKp dX9_undo_1 fl_X9_90 ?_
  refine aw_if_ne_b C dX9_undo_4 (tgt := 10) (by decide)  (fun c_4 => ?_) (fun c_4 => ?_)
  · skip
    refine aw_aload_0 C dX9_undo_10 rfl ?_
    refine aw_g9_2 C dX9_undo_11 fl_X9_18 ?_
    refine aw_aload_0 C dX9_undo_14 rfl ?_
    refine aw_g9_0 C dX9_undo_15 fl_X9_9 ?_
    refine aw_cS2VE C (s_X9_move 132 130 sh_132 sh_130 (by decide)) mf_X9_move ms_X9_move ml_X9_94 dX9_undo_18 (by omega) (Nat.le_of_ble_eq_true rfl) ?_
    have hf : Fr (fun k _ => k = 130) q (cpI q 132 130 146) := ⟨rfl, fun k j hn => by rw [gI_cpI, if_neg (fun z => hn z.1)]⟩
    have hM2 : RelR (cpI q 132 130 146) (gJ g) := fun j hj => by rw [gI_cpI, if_pos ⟨rfl, hj⟩]; exact hIm c_4 j hj
    refine aw_aload_0 C dX9_undo_21 rfl ?_
    refine aw_g9_0 C dX9_undo_22 fl_X9_9 ?_
    refine aw_bipush C dX9_undo_25 k2_92 ?_
    refine aw_iald C _ (hM2.n (by omega) (by decide)) dX9_undo_27 sh_130 rfl (by decide) ?_
    refine aw_iretI C hR dX9_undo_28 ?_
    exact PG.m hRR rfl (by unfold f_undo; rw [if_pos c_4]) hf hM2
  · skip
    refine aw_bipush C dX9_undo_7 k2_m3 ?_
    refine aw_iretI C hR dX9_undo_9 ?_
    exact PG.here hRR rfl (by unfold f_undo; rw [if_neg c_4])
