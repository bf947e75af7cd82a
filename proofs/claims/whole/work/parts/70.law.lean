/-! THE LAW: what a call on one side leaves of the other, the first state, the script -/
theorem RR.fr {q q2 : S_} {g : GS} (h : RR q g) (hF : FrR q q2) : RR q2 g := by
  obtain ⟨a1, ⟨l1, ⟨b1, b2⟩, c1, ⟨wi, w1, w2⟩⟩, a3, a4, a5, a6, a7, a8, a9, a10, a11, a12⟩ := h
  obtain ⟨e, eL⟩ := hF
  refine ⟨fun j hj => (e _ _ (by omega)).trans (a1 j hj), ⟨fun j hj => (e _ _ (by omega)).trans (l1 j hj), ⟨fun j hj => (e _ _ (by omega)).trans (b1 j hj), fun j hj => (e _ _ (by omega)).trans (b2 j hj)⟩, fun k hk => ⟨(e _ _ (by omega)).trans (c1 k hk).1, (c1 k hk).2.1, fun j hj => ⟨(e _ _ (by omega)).trans ((c1 k hk).2.2 j hj).1, ((c1 k hk).2.2 j hj).2⟩⟩, ⟨wi, w1, (e _ _ (by omega)).trans w2⟩⟩, (e _ _ (by omega)).trans a3, (e _ _ (by omega)).trans a4, fun hk j hj => (e _ _ (by omega)).trans (a5 hk j hj), (e _ _ (by omega)).trans a6, fun j hj => (e _ _ (by omega)).trans (a7 j hj), fun t ht => ?_, fun j hj => (e _ _ (by omega)).trans (a9 j hj), fun j hj => (e _ _ (by omega)).trans (a10 j hj), (e _ _ (by omega)).trans a11, fun j hj h2 => (e _ _ (by omega)).trans (a12 j hj h2)⟩
  obtain ⟨d1, d2, d3⟩ := a8 t ht
  exact ⟨(e _ _ (by omega)).trans d1, (e _ _ (by omega)).trans d2, fun j hj => (eL _ _ (by omega)).trans (d3 j hj)⟩
theorem CC.fm {q q2 : S_} {g : GS} (h : CC q g) (hg : GOK g) (hF : FrM q q2) : CC q2 g := by
  obtain ⟨a1, a2, a3, a4, a5, ⟨L, a6⟩, a7, a8, a9⟩ := h
  obtain ⟨e, eL⟩ := hF
  refine ⟨a1.t hg.1 (fun k j z1 z2 => e k j (by omega)), fun hk => (a2 hk).t (hg.2.2.2.2.2.1 hk).1 (fun k j z1 z2 => e k j (by omega)), a3.t hg.2.2.2.1 (fun k j z1 z2 z3 => e k j (by omega)), (e _ _ (by omega)).trans a4, (e _ _ (by omega)).trans a5, ⟨L, a6.t (fun k j z => e k j (by unfold SWm at z; omega))⟩, ⟨(e _ _ (by omega)).trans a7.1, fun j hj => (e _ _ (by omega)).trans (a7.2 j hj)⟩, fun t ht => ?_, ⟨(e _ _ (by omega)).trans a9.1, fun j hj h2 => (e _ _ (by omega)).trans (a9.2 j hj h2)⟩⟩
  obtain ⟨b1, b2, b3⟩ := a8 t ht
  exact ⟨(e _ _ (by omega)).trans b1, (e _ _ (by omega)).trans b2, fun j hj => (eL _ _ (by omega)).trans (b3 j hj)⟩
def gs0 : GS := (fun _ => 0, false, fun _ => 0, fun _ => [], 0, [], fun _ => 9, fun _ => 0, fun _ _ => 0, 0, fun _ => 0)
theorem gs0_WF : WF (fun _ => 0) := ⟨by decide, fun b hb => absurd hb (Nat.not_lt_zero _), fun b hb => absurd hb (Nat.not_lt_zero _), fun b hb => absurd hb (Nat.not_lt_zero _), fun b hb => absurd hb (Nat.not_lt_zero _), fun b hb => absurd hb (Nat.not_lt_zero _), fun i hi => (by decide : (0 : Nat) < 256)⟩
theorem gs0_OK : GOK2 gs0 := ⟨⟨gs0_WF, fun k hk => absurd hk (Nat.not_lt_zero _), Nat.le_refl 0, by decide, by decide, fun h => (by cases h), by decide, fun j hj => absurd hj (Nat.not_lt_zero _), fun t ht => ⟨Or.inl rfl, Nat.zero_le 60, fun _ => rfl⟩, by decide, fun b hb => absurd hb (Nat.not_lt_zero _), fun h => (by cases h)⟩, fun h => (by cases h), fun h => (by cases h)⟩
theorem kg0 {k : Nat} (j : Nat) (h : kq0.1 k = fun _ => 0) : gI kq0 k j = nI 0 := (kg h).trans nI_0.symm
theorem kgR {k : Nat} (j : Nat) (h : 129 ≤ k) (h2 : kqR k = fun _ => 0) : gI kq0 k j = nI 0 := kg0 j ((kq_ge h).trans h2)
theorem gs0_RR : RR kq0 gs0 := by
  have v : ∀ k j, 129 ≤ k → gI kq0 k j = kqR k j := fun k j h => congrFun (kq_ge h) j
  have k1 : ∀ j, j < 6 → kqR 138 j = nI (letN j) := by decide +kernel
  have k2 : ∀ j, j < 3 → kqR 139 j = nI (bgN j) := by decide +kernel
  have k3 : ∀ j, j < 15 → kqR 140 j = nI (wdN j) := by decide +kernel
  have k4 : ∀ j, j < 7 → kqR 148 j = abv j := by decide +kernel
  have k5 : ∀ j, j < 21 → kqR 149 j = bds j := by decide +kernel
  have k6 : ∀ j, j < 6 → kqR 151 j = cs9 9 := by decide +kernel
  refine ⟨fun j hj => ?_, ⟨fun j hj => (v _ _ (by decide)).trans (k1 j hj), ⟨fun j hj => (v _ _ (by decide)).trans (k2 j hj), fun j hj => (v _ _ (by decide)).trans (k3 j hj)⟩, fun k hk => ⟨kgR _ (by decide) rfl, Nat.zero_le _, fun j hj => absurd hj (Nat.not_lt_zero _)⟩, ⟨0, Nat.zero_le _, kgR _ (by decide) rfl⟩⟩, kgR _ (by decide) rfl, ?_, fun h => (by cases h), kgR _ (by decide) rfl, fun j hj => absurd hj (Nat.not_lt_zero _), fun t ht => ⟨(v _ _ (by decide)).trans (k6 t ht), kgR _ (by decide) rfl, fun j hj => rfl⟩, fun j hj => (v _ _ (by decide)).trans (k4 j hj), fun j hj => (v _ _ (by decide)).trans (k5 j hj), kgR _ (by decide) rfl, fun j hj => absurd hj (Nat.not_lt_zero _)⟩
  · rw [kgR (k := 130) j (by decide) rfl]
    unfold cd
    rw [if_neg (fun z => absurd (show (0 : Nat) = 99 from z.2) (by decide))]
    rfl
  · rw [kgR (k := 129) 3 (by decide) rfl, bP_f (by decide)]
theorem gs0_row {w : Nat} (a b c : Nat → Nat) {k : Nat} (h : k < 129) (hs : shp k = (0, 3)) : RowR kq0 k 0 a b c := ⟨kg0 _ (kq_ob h hs (by decide) (by decide)), fun r hr => absurd hr (Nat.not_lt_zero _)⟩
theorem gs0_W : RelW kq0 1 (fun _ => 0) := by
  have z : ∀ j, gI kq0 1 j = nI 0 := fun j => kg0 j (kq_ob (by decide) (by decide +kernel : shp 1 = (0, 7)) (by decide) (by decide))
  exact ⟨⟨z _, fun b hb => absurd hb (Nat.not_lt_zero _)⟩, z _, ⟨z _, fun b hb => absurd hb (Nat.not_lt_zero _)⟩, z _, (z _).trans nI_0, gs0_row (w := 0) _ _ _ (by decide) (by decide +kernel), gs0_row (w := 0) _ _ _ (by decide) (by decide +kernel), gs0_row (w := 0) _ _ _ (by decide) (by decide +kernel)⟩
theorem gs0_CC : CC kq0 gs0 := by
  have o : ∀ k ci j, k < 129 → shp k = (0, ci) → ci ≠ 2 → ci ≠ 4 → gI kq0 k j = nI 0 := fun k ci j h1 h2 h3 h4 => kg0 j (kq_ob h1 h2 h3 h4)
  refine ⟨gs0_W, fun h => (by cases h), fun j hj => absurd hj (Nat.not_lt_zero _), o 0 8 _ (by decide) sh_0 (by decide) (by decide), ?_, ⟨[], o 88 6 _ (by decide) sh_88 (by decide) (by decide), fun k hk => absurd hk (Nat.not_lt_zero _), fun s hs => ?_, Nat.zero_le _, fun k hk => absurd hk (Nat.not_lt_zero _)⟩, ⟨o 93 5 _ (by decide) sh_93 (by decide) (by decide), fun j hj => absurd hj (Nat.not_lt_zero _)⟩, fun t ht => ?_, ⟨o 97 0 _ (by decide) sh_97 (by decide) (by decide), fun j hj => absurd hj (Nat.not_lt_zero _)⟩⟩
  · rw [o 0 8 _ (by decide) sh_0 (by decide) (by decide), bP_f (by decide)]
  · rw [kg0 s (kq_ar (by decide) sh_91 (by decide)), bP_f (by simp [sts])]
  · have hs := (shTa ht).1
    have e := kq_ta (show 117 + 2 * t < 129 by omega) hs
    exact ⟨(kg e).trans rfl, (kg e).trans nI_0.symm, fun j hj => rfl⟩
theorem and63 (x : Int32) : ∃ j, j < 64 ∧ x &&& nI 63 = nI j := by
  refine ⟨(x.toBitVec &&& 63#32).toNat, ?_, ?_⟩
  · rw [BitVec.toNat_and]
    exact Nat.lt_of_le_of_lt Nat.and_le_right (by decide)
  · apply Int32.toBitVec_inj.mp
    rw [Int32.toBitVec_and]
    show x.toBitVec &&& 63#32 = BitVec.ofNat 32 (x.toBitVec &&& 63#32).toNat
    simp
theorem lcmp_self (v : Int64) : lg_cmp v v = 0 := by
  unfold lg_cmp
  rw [if_neg (by rw [gt_iff_lt]; exact Int64.lt_irrefl), if_pos rfl]
theorem law_le {L i : Nat} (hL : L ≤ 3072) (hi : i ≤ 4000) (h : ¬ nI L - nI 6 < nI i) : i + 6 ≤ L := by
  rw [Int32.not_lt] at h
  have h1 := Int32.le_iff_toInt_le.mp h
  rw [nI_toInt (show i < 2 ^ 31 by omega), Int32.toInt_sub, nI_toInt (show L < 2 ^ 31 by omega), nI_toInt (show 6 < 2 ^ 31 by omega), Int.bmod_eq_of_le (by omega) (by omega)] at h1
  omega
def LX (X : CT) (G : GT) (b L : Nat) (xs : Nat → Int32) : Prop := match X with
  | (_, _, _, _, s, _, _, _, _, _, _, _, _) => va_X b L xs s s.heap ∧ b < s.heap.size ∧ ¬ G.2.2.1 ≤ b ∧ L ≤ 3072
section LROWS
variable {X : CT} {G : GT} {q : S_} {cc : ByteArray} {own : String} {nL d pc b L : Nat} {xs : Nat → Int32} {lv : List (Option Value)} {st : List Value}
theorem aw_lsld (C : Cx X G cc own nL d) (hL : LX X G b L xs) {i : Nat} {y : Int32} (hy : y = nI i) (hi : i < L) (hd : decode cc pc = .ok (.iaload, 1)) (kk : AW X G q (pc + 1) lv (.int (xs i) :: st)) : AW X G q pc lv (.int y :: .ref b :: st) := by
  subst hy
  obtain ⟨p, l, e, R, s, m, args, below, meth, c, ce, sl, Q⟩ := X
  obtain ⟨hx, hb, hml, hown, hts, hK, hW, -, -, -, -⟩ := C
  obtain ⟨h1, h2, h3, h4⟩ := hL
  intro H locs ls hP hS hlv
  refine va_sld hx hb h1 h2 h3 hS (vp_in_nI hi (by omega)) hd ?_
  rw [nI_clamp (by omega)]
  exact kk H locs ls hP hS hlv
theorem aw_lslen (C : Cx X G cc own nL d) (hL : LX X G b L xs) (hd : decode cc pc = .ok (.arraylength, 1)) (kk : AW X G q (pc + 1) lv (.int (nI L) :: st)) : AW X G q pc lv (.ref b :: st) := by
  obtain ⟨p, l, e, R, s, m, args, below, meth, c, ce, sl, Q⟩ := X
  obtain ⟨hx, hb, hml, hown, hts, hK, hW, -, -, -, -⟩ := C
  obtain ⟨h1, h2, h3, h4⟩ := hL
  intro H locs ls hP hS hlv
  exact va_slen hx hb h1 h2 h3 hS hd (kk H locs ls hP hS hlv)
end LROWS
theorem ok_same {g g2 : GS} (h : GOK2 g) (e : g2 = g) : GOK2 g2 := by
  rw [e]
  exact h
