theorem isInM {x : Int32} {m : Nat} (hm : m < 2 ^ 31 - 1) : (-1 ≤ x ∧ x ≤ nI m) ↔ (x = -1 ∨ inN x (m + 1)) := by
  have h1 : (-1 : Int32).toInt = -1 := by decide +kernel
  have h5 := nI_toInt (n := m) (by omega)
  rw [← inN_le (x := x) (m := m) hm]
  simp only [Int32.le_iff_toInt_le]
  rw [h5, h1, ← Int32.toInt_inj, h1, show (nI 0).toInt = 0 from by decide +kernel]
  omega
theorem sub_nI {x : Int32} {a b : Nat} (h : x - nI a = nI b) : x = nI (b + a) := by
  have e := Int32.sub_add_cancel x (nI a)
  rw [h, nI_add] at e
  exact e.symm
theorem l5_le {L k : Nat} (hL : L ≤ 12 ∨ L = 99) (hk : k < 12) : l5 L ≤ nI k ↔ ¬ (L ≠ 99 ∧ k < L) := by
  unfold l5
  split
  · next h => exact ⟨fun _ z => z.1 h, fun _ => by
      rw [Int32.le_iff_toInt_le, nI_toInt (by omega), show (-5 : Int32).toInt = -5 from by decide +kernel]
      omega⟩
  · next h =>
    rw [Int32.le_iff_toInt_le, nI_toInt (by omega), nI_toInt (by omega)]
    omega
theorem RR.text {q q2 : S_} {g : GS} {T2 : List Nat} (h : RR q g) (hf : Fr (fun k j => k = 133 ∨ (k = 129 ∧ j = 5)) q q2) (hl : gI q2 129 5 = nI T2.length) (hx : ∀ j, j < T2.length → gI q2 133 j = nI (chO T2 j)) : RR q2 (gM g, gK g, gJ g, gC g, gN g, T2, gS g, gE g, gX g, gR g, gV g) := by
  obtain ⟨a1, a2, a3, a4, a5, a6, a7, a8, a9, a10, a11, a12⟩ := h
  refine ⟨hf.rel (fun j z => by omega) a1, a2.w hf (fun k j e z => by omega), (hf.2 _ _ (by omega)).trans a3, (hf.2 _ _ (by omega)).trans a4, fun hk j hj => (hf.2 _ _ (by omega)).trans (a5 hk j hj), hl, hx, fun t ht => ?_, fun j hj => (hf.2 _ _ (by omega)).trans (a9 j hj), fun j hj => (hf.2 _ _ (by omega)).trans (a10 j hj), (hf.2 _ _ (by omega)).trans a11, fun j hj h2 => (hf.2 _ _ (by omega)).trans (a12 j hj h2)⟩
  obtain ⟨b1, b2, b3⟩ := a8 t ht
  refine ⟨(hf.2 _ _ (by omega)).trans b1, (hf.2 _ _ (by omega)).trans b2, fun j hj => ?_⟩
  rw [← b3 j hj]
  show q2.2 _ _ = q.2 _ _
  rw [hf.1]
theorem aw_mmin {X : CT} {G : GT} {q : S_} {cc : ByteArray} {own : String} {nL d pc : Nat} {lv : List (Option Value)} {st : List Value} (C : Cx X G cc own nL d) {ix x y : Nat} (hl : Cond.methodLink own ix yJ9_min_7cf53 ∈ gtb) (hd : decode cc pc = .ok (.invokestatic ix, 3)) (h1 : 1 ≤ d) (hcat : (st.map fun v => v.category).sum ≤ 8) (hx : x < 2 ^ 31) (hy : y < 2 ^ 31) (k : AW X G q (pc + 3) lv (.int (nI (min x y)) :: st)) : AW X G q pc lv (.int (nI y) :: .int (nI x) :: st) := by
  have e : (if nI y < nI x then nI y else nI x) = nI (min x y) := by
    have hlt : nI y < nI x ↔ y < x := by
      rw [Int32.lt_iff_toInt_lt, nI_toInt hx, nI_toInt hy]
      omega
    by_cases h : y < x
    · rw [if_pos (hlt.mpr h), Nat.min_eq_right (by omega)]
    · rw [if_neg (fun z => h (hlt.mp z)), Nat.min_eq_left (by omega)]
  rw [← e] at k
  obtain ⟨p, l, e, R, s, m, args, below, meth, c, ce, sl, Q⟩ := X
  obtain ⟨hx, hb, hml, hown, hts, hK, hW, h64a, h64b, hce, hsl⟩ := C
  intro H locs ls hP hS hlv
  exact va_mmin hx hb (hlv.1.symm) hown (hts _ hl) (hts _ ms_J9_min_7cf53) (hts _ mf_J9_min_7cf53.2.1) (hts _ mf_J9_min_7cf53.1) (by omega) (by omega) hce hsl hd (k H locs ls hP hS hlv)
def f_feed (g : GS) (c : Int32) : Int32 × GS := if ¬ inN c 128 then (-2, g) else if (gT g).length = 100 then (-4, g) else (nI ((gT g).length + 1), (gM g, gK g, gJ g, gC g, gN g, gT g ++ [u32 c], gS g, gE g, gX g, gR g, gV g))
theorem chO_app {l : List Nat} {c j : Nat} : chO (l ++ [c]) j = if j < l.length then chO l j else if j = l.length then c else 1000 := by
  unfold chO
  rw [List.getD_eq_getElem?_getD, List.getD_eq_getElem?_getD, List.getElem?_append]
  split
  · rfl
  · next h =>
    split
    · next e => rw [e, Nat.sub_self]; rfl
    · next e =>
      obtain ⟨n, hn⟩ : ∃ n, j - l.length = n + 1 := ⟨j - l.length - 1, by omega⟩
      rw [hn]
      rfl
def f_see (g : GS) (p n x : Int32) : Int32 × GS := if p = -1 then (nI 0, (mu (gM g) 96 0, g.2)) else if ¬ (inN p (gM g 92) ∧ inN x 6) then (-1, g) else if ¬ inN n 9 then (-2, g) else if gM g 96 = 5 then (-4, g) else
  (nI (gM g 96 + 1), (mu (mu (mu (mu (gM g) (97 + 3 * gM g 96) (u32 p)) (97 + 3 * gM g 96 + 1) (u32 n)) (97 + 3 * gM g 96 + 2) (u32 x)) 96 (gM g 96 + 1), g.2))
def f_on (g : GS) (n w : Int32) : Int32 × GS := (if w ≠ 0 ∧ ¬ inN (w - nI 10) (gM g 92) ∧ ¬ inN (w - nI 20) (gM g 92) ∧ ¬ inN (w - nI 30) (gM g 92) then -1 else if ¬ inN n 13 then -2 else
  if w = 0 then nI (donesM (hoursM (gM g) (gC g) (u32 n)) (gM g 92)) else if inN (w - nI 10) (gM g 92) then nI (hoursM (gM g) (gC g) (u32 n) (32 + 10 * u32 (w - nI 10) + 2)) else if inN (w - nI 20) (gM g 92) then nI (hoursM (gM g) (gC g) (u32 n) (32 + 10 * u32 (w - nI 20) + 3)) else nI (hoursM (gM g) (gC g) (u32 n) (32 + 10 * u32 (w - nI 30) + 5)), g)
def f_way (g : GS) (p x k : Int32) : Int32 × GS := (if ¬ (inN p (gM g 92) ∧ inN x 6 ∧ (k = -1 ∨ inN k 12)) then -1 else if k = -1 then l5 (longM (gM g) (gC g) (u32 p) (u32 x)) else if longM (gM g) (gC g) (u32 p) (u32 x) ≠ 99 ∧ u32 k < longM (gM g) (gC g) (u32 p) (u32 x) then nI (stepM (gM g) (gC g) (u32 p) (u32 x) (u32 k)) else -5, g)
def f_trace (g : GS) (x : Int32) : Int32 × GS := (if inN x (min 20 (gR g)) then gV g (u32 x) else -1, g)

set_option maxRecDepth 100000 in
set_option maxHeartbeats 4000000 in
theorem s_X9_trace {G : GT} {q : S_} {g : GS} (x : Int32) (hg : GOK g) (hRR : RR q g) : Spec G 2 yX9_trace cX9_trace 2 (some .int) [rfn G 129, .int x] q (PI (PG (f_trace g x) q)) := by
  refine Spec.intro RX9 (by decide) rfl (Nat.le_of_ble_eq_true rfl) [some (rfn G 129), some (.int x)] rfl ?_
  intro X d hd C hR
  obtain ⟨hW, hCy, h95, hN6, h94, hK, hT1, hT2, hTp, hR1, hSy, hSyJ⟩ := id hg
  obtain ⟨hM, hE, hNr, hKp, hIm, hTl, hTx, hTs, hAb, hBd, hRn, hTr⟩ := id hRR
  have hc := hW.c
  have hG : Goo (gM g) (gC g) := fun k hk => hCy k (by omega)
  refine aw_iload_1 C dX9_trace_0 ?_
  refine aw_iconst C dX9_trace_1 k1_0 ?_
  refine aw_bipush C dX9_trace_2 k2_20 ?_
  refine aw_aload_0 C dX9_trace_4 rfl ?_
  refine aw_g9_31 C hRn dX9_trace_5 fl_X9_281 ?_
  refine aw_mmin C ml_X9_260 dX9_trace_8 (Nat.le_trans (by decide) hd) (Nat.le_of_ble_eq_true rfl) (by omega) (by omega) ?_
  refine aw_iconst C dX9_trace_11 k1_1 ?_
  refine aw_isub C dX9_trace_12  ?_
  refine aw_cS3IE C (s_X9_isIn _ _ _) mf_X9_isIn ms_X9_isIn ml_X9_98 dX9_trace_13 (by omega) (Nat.le_of_ble_eq_true rfl) ?_
  refine aw_if_eq_b C dX9_trace_16 (tgt := 28) (by decide)  (fun c_16 => ?_) (fun c_16 => ?_)
  · skip
    refine aw_iconst C dX9_trace_28 k1_m1 ?_
    refine aw_iretI C hR dX9_trace_29 ?_
    exact PG.here hRR rfl (by unfold f_trace; rw [if_neg (fun z => c_16 ((inN_pred (by omega)).mpr z))])
  · have c16 := (inN_pred (by omega)).mp c_16
    obtain ⟨x, hx1, hx2, rfl⟩ := inN_of c16
    have hux : u32 (nI x) = x := nI_clamp hx2
    refine aw_aload_0 C dX9_trace_19 rfl ?_
    refine aw_g9_30 C dX9_trace_20 fl_X9_74 ?_
    refine aw_iload_1 C dX9_trace_23 ?_
    refine aw_iald C _ rfl dX9_trace_24 sh_150 rfl (by omega) ?_
    refine aw_goto C dX9_trace_25 (tgt := 29) (by decide) ?_
    refine aw_iretI C hR dX9_trace_29 ?_
    exact PG.here hRR (hTr x (by omega) (by omega)) (by unfold f_trace; rw [if_pos c16, hux])

set_option maxRecDepth 100000 in
set_option maxHeartbeats 4000000 in
theorem s_X9_feed {G : GT} {q : S_} {g : GS} (c : Int32) (hg : GOK g) (hRR : RR q g) : Spec G 2 yX9_feed cX9_feed 2 (some .int) [rfn G 129, .int c] q (PI (PG (f_feed g c) q)) := by
  refine Spec.intro RX9 (by decide) rfl (Nat.le_of_ble_eq_true rfl) [some (rfn G 129), some (.int c)] rfl ?_
  intro X d hd C hR
  obtain ⟨hW, hCy, h95, hN6, h94, hK, hT1, hT2, hTp, hR1, hSy, hSyJ⟩ := id hg
  obtain ⟨hM, hE, hNr, hKp, hIm, hTl, hTx, hTs, hAb, hBd, hRn, hTr⟩ := id hRR
  have hc := hW.c
  have hG : Goo (gM g) (gC g) := fun k hk => hCy k (by omega)
  refine aw_iload_1 C dX9_feed_0 ?_
  refine aw_iconst C dX9_feed_1 k1_0 ?_
  refine aw_bipush C dX9_feed_2 k2_127 ?_
  refine aw_cS3IE C (s_X9_isIn _ _ _) mf_X9_isIn ms_X9_isIn ml_X9_98 dX9_feed_4 (by omega) (Nat.le_of_ble_eq_true rfl) ?_
  refine aw_if_ne_b C dX9_feed_7 (tgt := 13) (by decide)  (fun c_7 => ?_) (fun c_7 => ?_)
  · have c7 := (inN_le (by omega)).mp c_7
    obtain ⟨c, hc1, hc2, rfl⟩ := inN_of c7
    have huc : u32 (nI c) = c := nI_clamp hc2
    refine aw_aload_0 C dX9_feed_13 rfl ?_
    refine aw_g9_5 C hTl dX9_feed_14 fl_X9_150 ?_
    refine aw_bipush C dX9_feed_17 k2_100 ?_
    refine aw_icmp_ne_n C dX9_feed_19 (tgt := 25) (by decide) (by omega) (by omega) (fun c_19 => ?_) (fun c_19 => ?_)
    · skip
      refine aw_aload_0 C dX9_feed_25 rfl ?_
      refine aw_g9_4 C dX9_feed_26 fl_X9_21 ?_
      refine aw_aload_0 C dX9_feed_29 rfl ?_
      refine aw_g9_5 C hTl dX9_feed_30 fl_X9_150 ?_
      refine aw_iload_1 C dX9_feed_33 ?_
      refine aw_iast C _ dX9_feed_34 sh_133 rfl (by omega) ?_
      refine aw_aload_0 C dX9_feed_35 rfl ?_
      refine aw_dup C dX9_feed_36 rfl ?_
      refine aw_g9_5 C (show gI (sI q 133 (gT g).length (nI c)) 129 5 = nI (gT g).length by rw [gI_sI, if_neg (by omega)]; exact hTl) dX9_feed_37 fl_X9_150 ?_
      refine aw_iconst C dX9_feed_40 k1_1 ?_
      refine aw_iadd_n C dX9_feed_41  ?_
      refine aw_p9_5 C dX9_feed_42 fl_X9_150 ?_
      refine aw_aload_0 C dX9_feed_45 rfl ?_
      refine aw_g9_5 C (show gI (sI (sI q 133 (gT g).length (nI c)) 129 5 (nI ((gT g).length + 1))) 129 5 = nI ((gT g).length + 1) by rw [gI_sI, if_pos ⟨rfl, rfl⟩]) dX9_feed_46 fl_X9_150 ?_
      refine aw_iretI C hR dX9_feed_49 ?_
      have hf : Fr (fun k j => k = 133 ∨ (k = 129 ∧ j = 5)) q (sI (sI q 133 (gT g).length (nI c)) 129 5 (nI ((gT g).length + 1))) := (Fr.set (Or.inl rfl)).put (Or.inr ⟨rfl, rfl⟩)
      have hR2 := RR.text (T2 := gT g ++ [c]) hRR hf (by rw [gI_sI, if_pos ⟨rfl, rfl⟩, List.length_append]; rfl) (fun j hj => by
        rw [List.length_append] at hj
        have hj2 : j < (gT g).length + 1 := hj
        rw [gI_sI, if_neg (by omega), gI_sI, chO_app]
        by_cases e : j = (gT g).length
        · rw [if_pos ⟨rfl, e⟩, if_neg (by omega), if_pos e]
        · rw [if_neg (fun z => e z.2), if_pos (by omega)]
          exact hTx j (by omega))
      exact ⟨by unfold f_feed; rw [if_neg (fun z => z c7), if_neg c_19], by unfold f_feed; rw [if_neg (fun z => z c7), if_neg c_19, huc]; exact hR2, hf.m (fun k j z => by omega)⟩
    · skip
      refine aw_bipush C dX9_feed_22 k2_m4 ?_
      refine aw_iretI C hR dX9_feed_24 ?_
      exact PG.here hRR rfl (by unfold f_feed; rw [if_neg (fun z => z c7), if_pos c_19])
  · skip
    refine aw_bipush C dX9_feed_10 k2_m2 ?_
    refine aw_iretI C hR dX9_feed_12 ?_
    exact PG.here hRR rfl (by unfold f_feed; rw [if_pos (fun z => c_7 ((inN_le (by omega)).mpr z))])

set_option maxRecDepth 100000 in
set_option maxHeartbeats 4000000 in
theorem s_X9_see {G : GT} {q : S_} {g : GS} (p : Int32) (n : Int32) (x : Int32) (hg : GOK g) (hRR : RR q g) : Spec G 3 yX9_see cX9_see 5 (some .int) [rfn G 129, .int p, .int n, .int x] q (PI (PG (f_see g p n x) q)) := by
  refine Spec.intro RX9 (by decide) rfl (Nat.le_of_ble_eq_true rfl) [some (rfn G 129), some (.int p), some (.int n), some (.int x), none] rfl ?_
  intro X d hd C hR
  obtain ⟨hW, hCy, h95, hN6, h94, hK, hT1, hT2, hTp, hR1, hSy, hSyJ⟩ := id hg
  obtain ⟨hM, hE, hNr, hKp, hIm, hTl, hTx, hTs, hAb, hBd, hRn, hTr⟩ := id hRR
  have hc := hW.c
  have hG : Goo (gM g) (gC g) := fun k hk => hCy k (by omega)
  refine aw_iload_1 C dX9_see_0 ?_
  refine aw_iconst C dX9_see_1 k1_m1 ?_
  refine aw_icmp_ne C dX9_see_2 (tgt := 15) (by decide)  (fun c_2 => ?_) (fun c_2 => ?_)
  · skip
    refine aw_aload_0 C dX9_see_15 rfl ?_
    refine aw_iload_1 C dX9_see_16 ?_
    refine aw_cV1IE C (s_X9_isOne _ (hM.n (by omega) (by decide)) (by omega)) mf_X9_isOne mv_X9_isOne (sh_129) rfl ml_X9_114 dX9_see_17 (by omega) (Nat.le_of_ble_eq_true rfl) ?_
    refine aw_if_eq_b C dX9_see_20 (tgt := 30) (by decide)  (fun c_20 => ?_) (fun c_20 => ?_)
    · skip
      refine aw_iconst C dX9_see_30 k1_m1 ?_
      refine aw_iretI C hR dX9_see_31 ?_
      exact PG.here hRR rfl (by unfold f_see; rw [if_neg c_2, if_pos (fun z => c_20 z.1)])
    · skip
      refine aw_iload_3 C dX9_see_23 ?_
      refine aw_cS1IE C (s_X9_isQuarter _) mf_X9_isQuarter ms_X9_isQuarter ml_X9_106 dX9_see_24 (by omega) (Nat.le_of_ble_eq_true rfl) ?_
      refine aw_if_ne_b C dX9_see_27 (tgt := 32) (by decide)  (fun c_27 => ?_) (fun c_27 => ?_)
      · obtain ⟨p, hp1, hp2, rfl⟩ := inN_of c_20
        have hu : u32 (nI p) = p := nI_clamp hp2
        have hp := hW.p hp1
        obtain ⟨x, hx1, hx2, rfl⟩ := inN_of c_27
        have hux : u32 (nI x) = x := nI_clamp hx2
        refine aw_iload_2 C dX9_see_32 ?_
        refine aw_iconst C dX9_see_33 k1_0 ?_
        refine aw_bipush C dX9_see_34 k2_8 ?_
        refine aw_cS3IE C (s_X9_isIn _ _ _) mf_X9_isIn ms_X9_isIn ml_X9_98 dX9_see_36 (by omega) (Nat.le_of_ble_eq_true rfl) ?_
        refine aw_if_ne_b C dX9_see_39 (tgt := 45) (by decide)  (fun c_39 => ?_) (fun c_39 => ?_)
        · have c39 := (inN_le (by omega)).mp c_39
          obtain ⟨n, hn1, hn2, rfl⟩ := inN_of c39
          have hun : u32 (nI n) = n := nI_clamp hn2
          have hM1 := hM.set (j := 97 + 3 * gM g 96) (v := p) (cd_n (by unfold isOpt; omega)).symm
          have hM2 := hM1.set (j := 97 + 3 * gM g 96 + 1) (v := n) (cd_n (by unfold isOpt; omega)).symm
          have hM3 := hM2.set (j := 97 + 3 * gM g 96 + 2) (v := x) (cd_n (by unfold isOpt; omega)).symm
          have hM4 := hM3.set (j := 96) (v := gM g 96 + 1) (cd_n (by decide)).symm
          refine aw_aload_0 C dX9_see_45 rfl ?_
          refine aw_g9_0 C dX9_see_46 fl_X9_9 ?_
          refine aw_bipush C dX9_see_49 k2_96 ?_
          refine aw_iald C _ (hM.n (by omega) (by decide)) dX9_see_51 sh_130 rfl (by decide) ?_
          refine aw_iconst C dX9_see_52 k1_5 ?_
          refine aw_icmp_ne_n C dX9_see_53 (tgt := 59) (by decide) (by omega) (by omega) (fun c_53 => ?_) (fun c_53 => ?_)
          · skip
            refine aw_bipush C dX9_see_59 k2_97 ?_
            refine aw_iconst C dX9_see_61 k1_3 ?_
            refine aw_aload_0 C dX9_see_62 rfl ?_
            refine aw_g9_0 C dX9_see_63 fl_X9_9 ?_
            refine aw_bipush C dX9_see_66 k2_96 ?_
            refine aw_iald C _ (hM.n (by omega) (by decide)) dX9_see_68 sh_130 rfl (by decide) ?_
            refine aw_imul_n C dX9_see_69  ?_
            refine aw_iadd_n C dX9_see_70  ?_
            refine aw_istore_4 C dX9_see_71 (by decide) (fun w h => by cases h <;> rfl) ?_
            refine aw_aload_0 C dX9_see_73 rfl ?_
            refine aw_g9_0 C dX9_see_74 fl_X9_9 ?_
            refine aw_iload_4 C dX9_see_77 ?_
            refine aw_iload_1 C dX9_see_79 ?_
            refine aw_iast C _ dX9_see_80 sh_130 rfl (by omega) ?_
            refine aw_aload_0 C dX9_see_81 rfl ?_
            refine aw_g9_0 C dX9_see_82 fl_X9_9 ?_
            refine aw_iload_4 C dX9_see_85 ?_
            refine aw_iconst C dX9_see_87 k1_1 ?_
            refine aw_iadd_n C dX9_see_88  ?_
            refine aw_iload_2 C dX9_see_89 ?_
            refine aw_iast C _ dX9_see_90 sh_130 rfl (by omega) ?_
            refine aw_aload_0 C dX9_see_91 rfl ?_
            refine aw_g9_0 C dX9_see_92 fl_X9_9 ?_
            refine aw_iload_4 C dX9_see_95 ?_
            refine aw_iconst C dX9_see_97 k1_2 ?_
            refine aw_iadd_n C dX9_see_98  ?_
            refine aw_iload_3 C dX9_see_99 ?_
            refine aw_iast C _ dX9_see_100 sh_130 rfl (by omega) ?_
            refine aw_aload_0 C dX9_see_101 rfl ?_
            refine aw_g9_0 C dX9_see_102 fl_X9_9 ?_
            refine aw_bipush C dX9_see_105 k2_96 ?_
            refine aw_dup2 C dX9_see_107 rfl rfl ?_
            refine aw_iald C _ ((hM3.n (by omega) (by decide)).trans (by rw [mu_ne (by omega), mu_ne (by omega), mu_ne (by omega)])) dX9_see_108 sh_130 rfl (by decide) ?_
            refine aw_iconst C dX9_see_109 k1_1 ?_
            refine aw_iadd_n C dX9_see_110  ?_
            refine aw_iast C _ dX9_see_111 sh_130 rfl (by decide) ?_
            refine aw_aload_0 C dX9_see_112 rfl ?_
            refine aw_g9_0 C dX9_see_113 fl_X9_9 ?_
            refine aw_bipush C dX9_see_116 k2_96 ?_
            refine aw_iald C _ ((hM4.n (by omega) (by decide)).trans (by rw [mu_eq])) dX9_see_118 sh_130 rfl (by decide) ?_
            refine aw_iretI C hR dX9_see_119 ?_
            exact PG.m hRR rfl (by unfold f_see; rw [if_neg c_2, if_neg (fun z => z ⟨c_20, c_27⟩), if_neg (fun z => z c39), if_neg c_53, hu, hux, hun]) (by repeat first | refine Fr.put ?_ rfl | exact Fr.rf) hM4
          · skip
            refine aw_bipush C dX9_see_56 k2_m4 ?_
            refine aw_iretI C hR dX9_see_58 ?_
            exact PG.here hRR rfl (by unfold f_see; rw [if_neg c_2, if_neg (fun z => z ⟨c_20, c_27⟩), if_neg (fun z => z c39), if_pos c_53])
        · skip
          refine aw_bipush C dX9_see_42 k2_m2 ?_
          refine aw_iretI C hR dX9_see_44 ?_
          exact PG.here hRR rfl (by unfold f_see; rw [if_neg c_2, if_neg (fun z => z ⟨c_20, c_27⟩), if_pos (fun z => c_39 ((inN_le (by omega)).mpr z))])
      · skip
        refine aw_iconst C dX9_see_30 k1_m1 ?_
        refine aw_iretI C hR dX9_see_31 ?_
        exact PG.here hRR rfl (by unfold f_see; rw [if_neg c_2, if_pos (fun z => c_27 z.2)])
  · skip
    refine aw_aload_0 C dX9_see_5 rfl ?_
    refine aw_g9_0 C dX9_see_6 fl_X9_9 ?_
    refine aw_bipush C dX9_see_9 k2_96 ?_
    refine aw_iconst C dX9_see_11 k1_0 ?_
    refine aw_iast C _ dX9_see_12 sh_130 rfl (by decide) ?_
    refine aw_iconst C dX9_see_13 k1_0 ?_
    refine aw_iretI C hR dX9_see_14 ?_
    exact PG.m hRR rfl (by unfold f_see; rw [if_pos c_2]) (by repeat first | refine Fr.put ?_ rfl | exact Fr.rf) (hM.set (cd_n (by decide)).symm)

set_option maxRecDepth 100000 in
set_option maxHeartbeats 4000000 in
theorem s_X9_way {G : GT} {q : S_} {g : GS} (p : Int32) (x : Int32) (k : Int32) (hg : GOK g) (hRR : RR q g) : Spec G 26 yX9_way cX9_way 5 (some .int) [rfn G 129, .int p, .int x, .int k] q (PI (PG (f_way g p x k) q)) := by
  refine Spec.intro RX9 (by decide) rfl (Nat.le_of_ble_eq_true rfl) [some (rfn G 129), some (.int p), some (.int x), some (.int k), none] rfl ?_
  intro X d hd C hR
  obtain ⟨hW, hCy, h95, hN6, h94, hK, hT1, hT2, hTp, hR1, hSy, hSyJ⟩ := id hg
  obtain ⟨hM, hE, hNr, hKp, hIm, hTl, hTx, hTs, hAb, hBd, hRn, hTr⟩ := id hRR
  have hc := hW.c
  have hG : Goo (gM g) (gC g) := fun k hk => hCy k (by omega)
  refine aw_aload_0 C dX9_way_0 rfl ?_
  refine aw_iload_1 C dX9_way_1 ?_
  refine aw_cV1IE C (s_X9_isOne _ (hM.n (by omega) (by decide)) (by omega)) mf_X9_isOne mv_X9_isOne (sh_129) rfl ml_X9_114 dX9_way_2 (by omega) (Nat.le_of_ble_eq_true rfl) ?_
  refine aw_if_eq_b C dX9_way_5 (tgt := 25) (by decide)  (fun c_5 => ?_) (fun c_5 => ?_)
  · skip
    refine aw_iconst C dX9_way_25 k1_m1 ?_
    refine aw_iretI C hR dX9_way_26 ?_
    exact PG.here hRR rfl (by unfold f_way; rw [if_pos (fun z => c_5 z.1)])
  · skip
    refine aw_iload_2 C dX9_way_8 ?_
    refine aw_cS1IE C (s_X9_isQuarter _) mf_X9_isQuarter ms_X9_isQuarter ml_X9_106 dX9_way_9 (by omega) (Nat.le_of_ble_eq_true rfl) ?_
    refine aw_if_eq_b C dX9_way_12 (tgt := 25) (by decide)  (fun c_12 => ?_) (fun c_12 => ?_)
    · skip
      refine aw_iconst C dX9_way_25 k1_m1 ?_
      refine aw_iretI C hR dX9_way_26 ?_
      exact PG.here hRR rfl (by unfold f_way; rw [if_pos (fun z => c_12 z.2.1)])
    · skip
      refine aw_iload_3 C dX9_way_15 ?_
      refine aw_iconst C dX9_way_16 k1_m1 ?_
      refine aw_bipush C dX9_way_17 k2_11 ?_
      refine aw_cS3IE C (s_X9_isIn _ _ _) mf_X9_isIn ms_X9_isIn ml_X9_98 dX9_way_19 (by omega) (Nat.le_of_ble_eq_true rfl) ?_
      refine aw_if_ne_b C dX9_way_22 (tgt := 27) (by decide)  (fun c_22 => ?_) (fun c_22 => ?_)
      · obtain ⟨p, hp1, hp2, rfl⟩ := inN_of c_5
        have hu : u32 (nI p) = p := nI_clamp hp2
        have hp := hW.p hp1
        obtain ⟨x, hx1, hx2, rfl⟩ := inN_of c_12
        have hux : u32 (nI x) = x := nI_clamp hx2
        have c22 := (isInM (by omega)).mp c_22
        refine aw_aload_0 C dX9_way_27 rfl ?_
        refine aw_iload_1 C dX9_way_28 ?_
        refine aw_iload_2 C dX9_way_29 ?_
        refine aw_cV2I C (s_X9_longTo p x hM hW hE hG hp1 hx1) mf_X9_longTo mv_X9_longTo (sh_129) rfl ml_X9_239 dX9_way_30 (by omega) (Nat.le_of_ble_eq_true rfl) (fun r_30 q_30 h_30 => ?_)
        obtain ⟨rfl, hst, hM2, hE2, hF2⟩ := h_30
        have hl9 := longM_le (cts := gC g) (t := x) hW hp1
        refine aw_istore_4 C dX9_way_33 (by decide) (fun w h => by cases h <;> rfl) ?_
        refine aw_iload_3 C dX9_way_35 ?_
        refine aw_iconst C dX9_way_36 k1_m1 ?_
        refine aw_icmp_ne C dX9_way_37 (tgt := 45) (by decide)  (fun c_37 => ?_) (fun c_37 => ?_)
        · have c37 := c22.resolve_left c_37
          obtain ⟨k, hk1, hk2, rfl⟩ := inN_of c37
          have huk : u32 (nI k) = k := nI_clamp hk2
          refine aw_iload_3 C dX9_way_45 ?_
          refine aw_iload_4 C dX9_way_46 ?_
          refine aw_icmp_ge C dX9_way_48 (tgt := 60) (by decide)  (fun c_48 => ?_) (fun c_48 => ?_)
          · have c48 := (l5_le hl9 hk1).mp c_48
            refine aw_bipush C dX9_way_60 k2_m5 ?_
            refine aw_iretI C hR dX9_way_62 ?_
            exact PG.same hRR rfl (by unfold f_way; rw [if_neg (fun z => z ⟨c_5, c_12, c22⟩), if_neg c_37, hu, hux, huk, if_neg c48]) (hF2.mono SY_Z) hM2 hE2
          · have c48 := Decidable.not_not.mp (fun z => c_48 ((l5_le hl9 hk1).mpr z))
            refine aw_aload_0 C dX9_way_51 rfl ?_
            refine aw_g9_27 C dX9_way_52 fl_X9_65 ?_
            refine aw_iload_3 C dX9_way_55 ?_
            refine aw_iald C _ (hst c48.1 k c48.2) dX9_way_56 sh_147 rfl (by omega) ?_
            refine aw_goto C dX9_way_57 (tgt := 62) (by decide) ?_
            refine aw_iretI C hR dX9_way_62 ?_
            exact PG.same hRR rfl (by unfold f_way; rw [if_neg (fun z => z ⟨c_5, c_12, c22⟩), if_neg c_37, hu, hux, huk, if_pos c48]) (hF2.mono SY_Z) hM2 hE2
        · skip
          refine aw_iload_4 C dX9_way_40 ?_
          refine aw_goto C dX9_way_42 (tgt := 62) (by decide) ?_
          refine aw_iretI C hR dX9_way_62 ?_
          exact PG.same hRR rfl (by unfold f_way; rw [if_neg (fun z => z ⟨c_5, c_12, c22⟩), if_pos c_37, hu, hux]) (hF2.mono SY_Z) hM2 hE2
      · skip
        refine aw_iconst C dX9_way_25 k1_m1 ?_
        refine aw_iretI C hR dX9_way_26 ?_
        exact PG.here hRR rfl (by unfold f_way; rw [if_pos (fun z => c_22 ((isInM (by omega)).mpr z.2.2))])

set_option maxRecDepth 100000 in
set_option maxHeartbeats 4000000 in
theorem s_X9_on {G : GT} {q : S_} {g : GS} (n : Int32) (w : Int32) (hg : GOK g) (hRR : RR q g) : Spec G 28 yX9_on cX9_on 4 (some .int) [rfn G 129, .int n, .int w] q (PI (PG (f_on g n w) q)) := by
  refine Spec.intro RX9 (by decide) rfl (Nat.le_of_ble_eq_true rfl) [some (rfn G 129), some (.int n), some (.int w), none] rfl ?_
  intro X d hd C hR
  obtain ⟨hW, hCy, h95, hN6, h94, hK, hT1, hT2, hTp, hR1, hSy, hSyJ⟩ := id hg
  obtain ⟨hM, hE, hNr, hKp, hIm, hTl, hTx, hTs, hAb, hBd, hRn, hTr⟩ := id hRR
  have hc := hW.c
  have hG : Goo (gM g) (gC g) := fun k hk => hCy k (by omega)
  refine aw_iload_2 C dX9_on_0 ?_
  refine aw_if_eq C dX9_on_1 (tgt := 39) (by decide)  (fun c_1 => ?_) (fun c_1 => ?_)
  · skip
    refine aw_iload_1 C dX9_on_39 ?_
    refine aw_iconst C dX9_on_40 k1_0 ?_
    refine aw_bipush C dX9_on_41 k2_12 ?_
    refine aw_cS3IE C (s_X9_isIn _ _ _) mf_X9_isIn ms_X9_isIn ml_X9_98 dX9_on_43 (by omega) (Nat.le_of_ble_eq_true rfl) ?_
    refine aw_if_ne_b C dX9_on_46 (tgt := 52) (by decide)  (fun c_46 => ?_) (fun c_46 => ?_)
    · have c46 := (inN_le (by omega)).mp c_46
      obtain ⟨n, hn1, hn2, rfl⟩ := inN_of c46
      have hun : u32 (nI n) = n := nI_clamp hn2
      refine aw_aload_0 C dX9_on_52 rfl ?_
      refine aw_g9_0 C dX9_on_53 fl_X9_9 ?_
      refine aw_aload_0 C dX9_on_56 rfl ?_
      refine aw_g9_1 C dX9_on_57 fl_X9_15 ?_
      refine aw_cS2VE C (s_X9_move 130 131 sh_130 sh_131 (by decide)) mf_X9_move ms_X9_move ml_X9_94 dX9_on_60 (by omega) (Nat.le_of_ble_eq_true rfl) ?_
      have hMc : RelR (cpI q 130 131 146) (gM g) := fun j hj => by rw [gI_cpI, if_neg (by omega)]; exact hM j hj
      have hEc : RE (cpI q 130 131 146) (gC g) := hE.w (⟨rfl, fun k j hn => by rw [gI_cpI, if_neg (fun z => hn z.1)]⟩ : Fr (fun k j => k = 131) q (cpI q 130 131 146)) (fun k j e z => by omega)
      refine aw_aload_0 C dX9_on_63 rfl ?_
      refine aw_iload_1 C dX9_on_64 ?_
      refine aw_cV1V C (s_X9_hours n hMc hW hEc hG (by omega)) mf_X9_hours mv_X9_hours (sh_129) rfl ml_X9_254 dX9_on_65 (by omega) (Nat.le_of_ble_eq_true rfl) (fun q_65 h_65 => ?_)
      obtain ⟨hM1, hE1, hF1⟩ := h_65
      have ho := hoursM_ok (cts := gC g) hW n (by omega)
      have h92 := ho.2.2 92 (by omega)
      refine aw_iload_2 C dX9_on_68 ?_
      refine aw_if_ne C dX9_on_69 (tgt := 79) (by decide)  (fun c_69 => absurd c_69 (fun z => z c_1)) (fun c_69 => ?_)
      refine aw_aload_0 C dX9_on_72 rfl ?_
      refine aw_cV0IE C (s_X9_dones hM1 ho.1) mf_X9_dones mv_X9_dones (sh_129) rfl ml_X9_248 dX9_on_73 (by omega) (Nat.le_of_ble_eq_true rfl) ?_
      rw [h92]
      refine aw_goto C dX9_on_76 (tgt := 124) (by decide) ?_
      refine aw_istore_3 C dX9_on_124 (by decide) (fun w h => by cases h <;> rfl) ?_
      refine aw_aload_0 C dX9_on_125 rfl ?_
      refine aw_g9_1 C dX9_on_126 fl_X9_15 ?_
      refine aw_aload_0 C dX9_on_129 rfl ?_
      refine aw_g9_0 C dX9_on_130 fl_X9_9 ?_
      have hEq : RE q_65 (gC g) := hE1
      obtain ⟨hMb, hFb⟩ := back_now hM hF1
      have hEb : RE (cpI q_65 131 130 146) (gC g) := hEq.w (⟨rfl, fun k j hn => by rw [gI_cpI, if_neg (fun z => hn z.1)]⟩ : Fr (fun k j => k = 130) q_65 (cpI q_65 131 130 146)) (fun k j e z => by omega)
      refine aw_cS2VE C (s_X9_move 131 130 sh_131 sh_130 (by decide)) mf_X9_move ms_X9_move ml_X9_94 dX9_on_133 (by omega) (Nat.le_of_ble_eq_true rfl) ?_
      refine aw_iload_3 C dX9_on_136 ?_
      refine aw_iretI C hR dX9_on_137 ?_
      exact PG.same hRR rfl (by unfold f_on; rw [if_neg (fun z => z.1 c_1), if_neg (fun z => z c46), if_pos c_1, hun]) (hFb.mono (fun k j z => z.elim (SY_Z k j) (fun y => by unfold SZk; omega))) hMb hEb
    · skip
      refine aw_bipush C dX9_on_49 k2_m2 ?_
      refine aw_iretI C hR dX9_on_51 ?_
      exact PG.here hRR rfl (by unfold f_on; rw [if_neg (fun z => z.1 c_1), if_pos (fun z => c_46 ((inN_le (by omega)).mpr z))])
  · skip
    refine aw_aload_0 C dX9_on_4 rfl ?_
    refine aw_iload_2 C dX9_on_5 ?_
    refine aw_bipush C dX9_on_6 k2_10 ?_
    refine aw_isub C dX9_on_8  ?_
    refine aw_cV1IE C (s_X9_isOne _ (hM.n (by omega) (by decide)) (by omega)) mf_X9_isOne mv_X9_isOne (sh_129) rfl ml_X9_114 dX9_on_9 (by omega) (Nat.le_of_ble_eq_true rfl) ?_
    refine aw_if_ne_b C dX9_on_12 (tgt := 39) (by decide)  (fun c_12 => ?_) (fun c_12 => ?_)
    · obtain ⟨i, hi1, hi2, hi3⟩ := inN_of c_12
      have hw := sub_nI hi3
      have hui : u32 (w - nI 10) = i := by rw [hi3]; exact nI_clamp hi2
      subst hw
      have hp := hW.p hi1
      refine aw_iload_1 C dX9_on_39 ?_
      refine aw_iconst C dX9_on_40 k1_0 ?_
      refine aw_bipush C dX9_on_41 k2_12 ?_
      refine aw_cS3IE C (s_X9_isIn _ _ _) mf_X9_isIn ms_X9_isIn ml_X9_98 dX9_on_43 (by omega) (Nat.le_of_ble_eq_true rfl) ?_
      refine aw_if_ne_b C dX9_on_46 (tgt := 52) (by decide)  (fun c_46 => ?_) (fun c_46 => ?_)
      · have c46 := (inN_le (by omega)).mp c_46
        obtain ⟨n, hn1, hn2, rfl⟩ := inN_of c46
        have hun : u32 (nI n) = n := nI_clamp hn2
        refine aw_aload_0 C dX9_on_52 rfl ?_
        refine aw_g9_0 C dX9_on_53 fl_X9_9 ?_
        refine aw_aload_0 C dX9_on_56 rfl ?_
        refine aw_g9_1 C dX9_on_57 fl_X9_15 ?_
        refine aw_cS2VE C (s_X9_move 130 131 sh_130 sh_131 (by decide)) mf_X9_move ms_X9_move ml_X9_94 dX9_on_60 (by omega) (Nat.le_of_ble_eq_true rfl) ?_
        have hMc : RelR (cpI q 130 131 146) (gM g) := fun j hj => by rw [gI_cpI, if_neg (by omega)]; exact hM j hj
        have hEc : RE (cpI q 130 131 146) (gC g) := hE.w (⟨rfl, fun k j hn => by rw [gI_cpI, if_neg (fun z => hn z.1)]⟩ : Fr (fun k j => k = 131) q (cpI q 130 131 146)) (fun k j e z => by omega)
        refine aw_aload_0 C dX9_on_63 rfl ?_
        refine aw_iload_1 C dX9_on_64 ?_
        refine aw_cV1V C (s_X9_hours n hMc hW hEc hG (by omega)) mf_X9_hours mv_X9_hours (sh_129) rfl ml_X9_254 dX9_on_65 (by omega) (Nat.le_of_ble_eq_true rfl) (fun q_65 h_65 => ?_)
        obtain ⟨hM1, hE1, hF1⟩ := h_65
        have ho := hoursM_ok (cts := gC g) hW n (by omega)
        have h92 := ho.2.2 92 (by omega)
        refine aw_iload_2 C dX9_on_68 ?_
        refine aw_if_ne C dX9_on_69 (tgt := 79) (by decide)  (fun c_69 => ?_) (fun c_69 => absurd c_69 c_1)
        refine aw_iload_2 C dX9_on_79 ?_
        refine aw_bipush C dX9_on_80 k2_20 ?_
        refine aw_icmp_ge_n C dX9_on_82 (tgt := 97) (by decide) (by omega) (by omega) (fun c_82 => absurd c_82 (by omega)) (fun c_82 => ?_)
        refine aw_aload_0 C dX9_on_85 rfl ?_
        refine aw_iload_2 C dX9_on_86 ?_
        refine aw_bipush C dX9_on_87 k2_10 ?_
        refine aw_isub_n C dX9_on_89 (by omega) ?_
        refine aw_iconst C dX9_on_90 k1_2 ?_
        rw [show i + 10 - 10 = i from by omega]
        refine aw_cV2IE C (s_X9_oneN hM1 i 2 rfl (by omega) (by unfold isOpt; omega)) mf_X9_one mv_X9_one (sh_129) rfl ml_X9_102 dX9_on_91 (by omega) (Nat.le_of_ble_eq_true rfl) ?_
        refine aw_goto C dX9_on_94 (tgt := 124) (by decide) ?_
        refine aw_istore_3 C dX9_on_124 (by decide) (fun w h => by cases h <;> rfl) ?_
        refine aw_aload_0 C dX9_on_125 rfl ?_
        refine aw_g9_1 C dX9_on_126 fl_X9_15 ?_
        refine aw_aload_0 C dX9_on_129 rfl ?_
        refine aw_g9_0 C dX9_on_130 fl_X9_9 ?_
        have hEq : RE q_65 (gC g) := hE1
        obtain ⟨hMb, hFb⟩ := back_now hM hF1
        have hEb : RE (cpI q_65 131 130 146) (gC g) := hEq.w (⟨rfl, fun k j hn => by rw [gI_cpI, if_neg (fun z => hn z.1)]⟩ : Fr (fun k j => k = 130) q_65 (cpI q_65 131 130 146)) (fun k j e z => by omega)
        refine aw_cS2VE C (s_X9_move 131 130 sh_131 sh_130 (by decide)) mf_X9_move ms_X9_move ml_X9_94 dX9_on_133 (by omega) (Nat.le_of_ble_eq_true rfl) ?_
        refine aw_iload_3 C dX9_on_136 ?_
        refine aw_iretI C hR dX9_on_137 ?_
        exact PG.same hRR rfl (by unfold f_on; rw [if_neg (fun z => z.2.1 c_12), if_neg (fun z => z c46), if_neg c_1, if_pos c_12, hun, hui]) (hFb.mono (fun k j z => z.elim (SY_Z k j) (fun y => by unfold SZk; omega))) hMb hEb
      · skip
        refine aw_bipush C dX9_on_49 k2_m2 ?_
        refine aw_iretI C hR dX9_on_51 ?_
        exact PG.here hRR rfl (by unfold f_on; rw [if_neg (fun z => z.2.1 c_12), if_pos (fun z => c_46 ((inN_le (by omega)).mpr z))])
    · skip
      refine aw_aload_0 C dX9_on_15 rfl ?_
      refine aw_iload_2 C dX9_on_16 ?_
      refine aw_bipush C dX9_on_17 k2_20 ?_
      refine aw_isub C dX9_on_19  ?_
      refine aw_cV1IE C (s_X9_isOne _ (hM.n (by omega) (by decide)) (by omega)) mf_X9_isOne mv_X9_isOne (sh_129) rfl ml_X9_114 dX9_on_20 (by omega) (Nat.le_of_ble_eq_true rfl) ?_
      refine aw_if_ne_b C dX9_on_23 (tgt := 39) (by decide)  (fun c_23 => ?_) (fun c_23 => ?_)
      · obtain ⟨i, hi1, hi2, hi3⟩ := inN_of c_23
        have hw := sub_nI hi3
        have hui : u32 (w - nI 20) = i := by rw [hi3]; exact nI_clamp hi2
        subst hw
        have hp := hW.p hi1
        refine aw_iload_1 C dX9_on_39 ?_
        refine aw_iconst C dX9_on_40 k1_0 ?_
        refine aw_bipush C dX9_on_41 k2_12 ?_
        refine aw_cS3IE C (s_X9_isIn _ _ _) mf_X9_isIn ms_X9_isIn ml_X9_98 dX9_on_43 (by omega) (Nat.le_of_ble_eq_true rfl) ?_
        refine aw_if_ne_b C dX9_on_46 (tgt := 52) (by decide)  (fun c_46 => ?_) (fun c_46 => ?_)
        · have c46 := (inN_le (by omega)).mp c_46
          obtain ⟨n, hn1, hn2, rfl⟩ := inN_of c46
          have hun : u32 (nI n) = n := nI_clamp hn2
          refine aw_aload_0 C dX9_on_52 rfl ?_
          refine aw_g9_0 C dX9_on_53 fl_X9_9 ?_
          refine aw_aload_0 C dX9_on_56 rfl ?_
          refine aw_g9_1 C dX9_on_57 fl_X9_15 ?_
          refine aw_cS2VE C (s_X9_move 130 131 sh_130 sh_131 (by decide)) mf_X9_move ms_X9_move ml_X9_94 dX9_on_60 (by omega) (Nat.le_of_ble_eq_true rfl) ?_
          have hMc : RelR (cpI q 130 131 146) (gM g) := fun j hj => by rw [gI_cpI, if_neg (by omega)]; exact hM j hj
          have hEc : RE (cpI q 130 131 146) (gC g) := hE.w (⟨rfl, fun k j hn => by rw [gI_cpI, if_neg (fun z => hn z.1)]⟩ : Fr (fun k j => k = 131) q (cpI q 130 131 146)) (fun k j e z => by omega)
          refine aw_aload_0 C dX9_on_63 rfl ?_
          refine aw_iload_1 C dX9_on_64 ?_
          refine aw_cV1V C (s_X9_hours n hMc hW hEc hG (by omega)) mf_X9_hours mv_X9_hours (sh_129) rfl ml_X9_254 dX9_on_65 (by omega) (Nat.le_of_ble_eq_true rfl) (fun q_65 h_65 => ?_)
          obtain ⟨hM1, hE1, hF1⟩ := h_65
          have ho := hoursM_ok (cts := gC g) hW n (by omega)
          have h92 := ho.2.2 92 (by omega)
          refine aw_iload_2 C dX9_on_68 ?_
          refine aw_if_ne C dX9_on_69 (tgt := 79) (by decide)  (fun c_69 => ?_) (fun c_69 => absurd c_69 c_1)
          refine aw_iload_2 C dX9_on_79 ?_
          refine aw_bipush C dX9_on_80 k2_20 ?_
          refine aw_icmp_ge_n C dX9_on_82 (tgt := 97) (by decide) (by omega) (by omega) (fun c_82 => ?_) (fun c_82 => absurd c_82 (fun z => z (by omega)))
          refine aw_iload_2 C dX9_on_97 ?_
          refine aw_bipush C dX9_on_98 k2_30 ?_
          refine aw_icmp_ge_n C dX9_on_100 (tgt := 115) (by decide) (by omega) (by omega) (fun c_100 => absurd c_100 (by omega)) (fun c_100 => ?_)
          refine aw_aload_0 C dX9_on_103 rfl ?_
          refine aw_iload_2 C dX9_on_104 ?_
          refine aw_bipush C dX9_on_105 k2_20 ?_
          refine aw_isub_n C dX9_on_107 (by omega) ?_
          refine aw_iconst C dX9_on_108 k1_3 ?_
          rw [show i + 20 - 20 = i from by omega]
          refine aw_cV2IE C (s_X9_oneN hM1 i 3 rfl (by omega) (by unfold isOpt; omega)) mf_X9_one mv_X9_one (sh_129) rfl ml_X9_102 dX9_on_109 (by omega) (Nat.le_of_ble_eq_true rfl) ?_
          refine aw_goto C dX9_on_112 (tgt := 124) (by decide) ?_
          refine aw_istore_3 C dX9_on_124 (by decide) (fun w h => by cases h <;> rfl) ?_
          refine aw_aload_0 C dX9_on_125 rfl ?_
          refine aw_g9_1 C dX9_on_126 fl_X9_15 ?_
          refine aw_aload_0 C dX9_on_129 rfl ?_
          refine aw_g9_0 C dX9_on_130 fl_X9_9 ?_
          have hEq : RE q_65 (gC g) := hE1
          obtain ⟨hMb, hFb⟩ := back_now hM hF1
          have hEb : RE (cpI q_65 131 130 146) (gC g) := hEq.w (⟨rfl, fun k j hn => by rw [gI_cpI, if_neg (fun z => hn z.1)]⟩ : Fr (fun k j => k = 130) q_65 (cpI q_65 131 130 146)) (fun k j e z => by omega)
          refine aw_cS2VE C (s_X9_move 131 130 sh_131 sh_130 (by decide)) mf_X9_move ms_X9_move ml_X9_94 dX9_on_133 (by omega) (Nat.le_of_ble_eq_true rfl) ?_
          refine aw_iload_3 C dX9_on_136 ?_
          refine aw_iretI C hR dX9_on_137 ?_
          exact PG.same hRR rfl (by unfold f_on; rw [if_neg (fun z => z.2.2.1 c_23), if_neg (fun z => z c46), if_neg c_1, if_neg c_12, if_pos c_23, hun, hui]) (hFb.mono (fun k j z => z.elim (SY_Z k j) (fun y => by unfold SZk; omega))) hMb hEb
        · skip
          refine aw_bipush C dX9_on_49 k2_m2 ?_
          refine aw_iretI C hR dX9_on_51 ?_
          exact PG.here hRR rfl (by unfold f_on; rw [if_neg (fun z => z.2.2.1 c_23), if_pos (fun z => c_46 ((inN_le (by omega)).mpr z))])
      · skip
        refine aw_aload_0 C dX9_on_26 rfl ?_
        refine aw_iload_2 C dX9_on_27 ?_
        refine aw_bipush C dX9_on_28 k2_30 ?_
        refine aw_isub C dX9_on_30  ?_
        refine aw_cV1IE C (s_X9_isOne _ (hM.n (by omega) (by decide)) (by omega)) mf_X9_isOne mv_X9_isOne (sh_129) rfl ml_X9_114 dX9_on_31 (by omega) (Nat.le_of_ble_eq_true rfl) ?_
        refine aw_if_ne_b C dX9_on_34 (tgt := 39) (by decide)  (fun c_34 => ?_) (fun c_34 => ?_)
        · obtain ⟨i, hi1, hi2, hi3⟩ := inN_of c_34
          have hw := sub_nI hi3
          have hui : u32 (w - nI 30) = i := by rw [hi3]; exact nI_clamp hi2
          subst hw
          have hp := hW.p hi1
          refine aw_iload_1 C dX9_on_39 ?_
          refine aw_iconst C dX9_on_40 k1_0 ?_
          refine aw_bipush C dX9_on_41 k2_12 ?_
          refine aw_cS3IE C (s_X9_isIn _ _ _) mf_X9_isIn ms_X9_isIn ml_X9_98 dX9_on_43 (by omega) (Nat.le_of_ble_eq_true rfl) ?_
          refine aw_if_ne_b C dX9_on_46 (tgt := 52) (by decide)  (fun c_46 => ?_) (fun c_46 => ?_)
          · have c46 := (inN_le (by omega)).mp c_46
            obtain ⟨n, hn1, hn2, rfl⟩ := inN_of c46
            have hun : u32 (nI n) = n := nI_clamp hn2
            refine aw_aload_0 C dX9_on_52 rfl ?_
            refine aw_g9_0 C dX9_on_53 fl_X9_9 ?_
            refine aw_aload_0 C dX9_on_56 rfl ?_
            refine aw_g9_1 C dX9_on_57 fl_X9_15 ?_
            refine aw_cS2VE C (s_X9_move 130 131 sh_130 sh_131 (by decide)) mf_X9_move ms_X9_move ml_X9_94 dX9_on_60 (by omega) (Nat.le_of_ble_eq_true rfl) ?_
            have hMc : RelR (cpI q 130 131 146) (gM g) := fun j hj => by rw [gI_cpI, if_neg (by omega)]; exact hM j hj
            have hEc : RE (cpI q 130 131 146) (gC g) := hE.w (⟨rfl, fun k j hn => by rw [gI_cpI, if_neg (fun z => hn z.1)]⟩ : Fr (fun k j => k = 131) q (cpI q 130 131 146)) (fun k j e z => by omega)
            refine aw_aload_0 C dX9_on_63 rfl ?_
            refine aw_iload_1 C dX9_on_64 ?_
            refine aw_cV1V C (s_X9_hours n hMc hW hEc hG (by omega)) mf_X9_hours mv_X9_hours (sh_129) rfl ml_X9_254 dX9_on_65 (by omega) (Nat.le_of_ble_eq_true rfl) (fun q_65 h_65 => ?_)
            obtain ⟨hM1, hE1, hF1⟩ := h_65
            have ho := hoursM_ok (cts := gC g) hW n (by omega)
            have h92 := ho.2.2 92 (by omega)
            refine aw_iload_2 C dX9_on_68 ?_
            refine aw_if_ne C dX9_on_69 (tgt := 79) (by decide)  (fun c_69 => ?_) (fun c_69 => absurd c_69 c_1)
            refine aw_iload_2 C dX9_on_79 ?_
            refine aw_bipush C dX9_on_80 k2_20 ?_
            refine aw_icmp_ge_n C dX9_on_82 (tgt := 97) (by decide) (by omega) (by omega) (fun c_82 => ?_) (fun c_82 => absurd c_82 (fun z => z (by omega)))
            refine aw_iload_2 C dX9_on_97 ?_
            refine aw_bipush C dX9_on_98 k2_30 ?_
            refine aw_icmp_ge_n C dX9_on_100 (tgt := 115) (by decide) (by omega) (by omega) (fun c_100 => ?_) (fun c_100 => absurd c_100 (fun z => z (by omega)))
            refine aw_aload_0 C dX9_on_115 rfl ?_
            refine aw_iload_2 C dX9_on_116 ?_
            refine aw_bipush C dX9_on_117 k2_30 ?_
            refine aw_isub_n C dX9_on_119 (by omega) ?_
            refine aw_iconst C dX9_on_120 k1_5 ?_
            rw [show i + 30 - 30 = i from by omega]
            refine aw_cV2IE C (s_X9_oneN hM1 i 5 rfl (by omega) (by unfold isOpt; omega)) mf_X9_one mv_X9_one (sh_129) rfl ml_X9_102 dX9_on_121 (by omega) (Nat.le_of_ble_eq_true rfl) ?_
            refine aw_istore_3 C dX9_on_124 (by decide) (fun w h => by cases h <;> rfl) ?_
            refine aw_aload_0 C dX9_on_125 rfl ?_
            refine aw_g9_1 C dX9_on_126 fl_X9_15 ?_
            refine aw_aload_0 C dX9_on_129 rfl ?_
            refine aw_g9_0 C dX9_on_130 fl_X9_9 ?_
            have hEq : RE q_65 (gC g) := hE1
            obtain ⟨hMb, hFb⟩ := back_now hM hF1
            have hEb : RE (cpI q_65 131 130 146) (gC g) := hEq.w (⟨rfl, fun k j hn => by rw [gI_cpI, if_neg (fun z => hn z.1)]⟩ : Fr (fun k j => k = 130) q_65 (cpI q_65 131 130 146)) (fun k j e z => by omega)
            refine aw_cS2VE C (s_X9_move 131 130 sh_131 sh_130 (by decide)) mf_X9_move ms_X9_move ml_X9_94 dX9_on_133 (by omega) (Nat.le_of_ble_eq_true rfl) ?_
            refine aw_iload_3 C dX9_on_136 ?_
            refine aw_iretI C hR dX9_on_137 ?_
            exact PG.same hRR rfl (by unfold f_on; rw [if_neg (fun z => z.2.2.2 c_34), if_neg (fun z => z c46), if_neg c_1, if_neg c_12, if_neg c_23, hun, hui]) (hFb.mono (fun k j z => z.elim (SY_Z k j) (fun y => by unfold SZk; omega))) hMb hEb
          · skip
            refine aw_bipush C dX9_on_49 k2_m2 ?_
            refine aw_iretI C hR dX9_on_51 ?_
            exact PG.here hRR rfl (by unfold f_on; rw [if_neg (fun z => z.2.2.2 c_34), if_pos (fun z => c_46 ((inN_le (by omega)).mpr z))])
        · skip
          refine aw_iconst C dX9_on_37 k1_m1 ?_
          refine aw_iretI C hR dX9_on_38 ?_
          exact PG.here hRR rfl (by unfold f_on; rw [if_pos ⟨c_1, c_12, c_23, c_34⟩])
