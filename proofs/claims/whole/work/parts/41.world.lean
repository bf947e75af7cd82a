/-! THE CLASS: a world's numbers -/
def PerR (q : S_) (e : Nat) (M : Nat → Nat) (i : Nat) : Prop := gI q e 0 = nI (M (32 + 10 * i + 0)) ∧ gI q e 1 = nI (M (32 + 10 * i + 1)) ∧ gI q e 2 = nI (M (32 + 10 * i + 2)) ∧ gI q e 3 = nI (M (32 + 10 * i + 3)) ∧ gI q e 4 = l5 (M (32 + 10 * i + 4)) ∧ gI q e 5 = nI (M (32 + 10 * i + 5)) ∧ ∀ r, r < 4 → gI q (e + 1) r = nI (M (32 + 10 * i + (6 + r)))
def RowR (q : S_) (k n : Nat) (a b c : Nat → Nat) : Prop := gI q k 3 = nI n ∧ ∀ r, r < n → gI q (k + 1) r = nI (a r) ∧ gI q (k + 2) r = nI (b r) ∧ gI q (k + 3) r = nI (c r)
def lostM (M : Nat → Nat) : Nat := bsum (f_toldS M) (M 93)
def cyA (x : Nat) : Int32 := if x = 0 then 0 else nI (99 + 3 * (x - 1))
def wB (q : S_) (w : Nat) (M : Nat → Nat) : Prop := gI q w 0 = nI (M 93) ∧ ∀ b, b < M 93 → gI q (w + 1) b = nI (M (4 * b + 0)) ∧ gI q (w + 2) b = nI (M (4 * b + 1)) ∧ gI q (w + 3) b = l5 (M (4 * b + 2))
def wL (q : S_) (w : Nat) (M : Nat → Nat) : Prop := gI q w 4 = nI (lostM M)
def wP (q : S_) (w : Nat) (M : Nat → Nat) : Prop := gI q w 5 = nI (M 92) ∧ ∀ i, i < M 92 → PerR q (w + 4 + 13 + 2 * i) M i
def wH (q : S_) (w : Nat) (M : Nat → Nat) : Prop := gI q w 7 = nI (M 94)
def wC (q : S_) (w : Nat) (M : Nat → Nat) : Prop := gI q w 8 = cyA (M 95)
def wS (q : S_) (w : Nat) (M : Nat → Nat) : Prop := RowR q (w + 5) (M 96) (fun r => M (97 + 3 * r)) (fun r => M (97 + 3 * r + 2)) (fun r => M (97 + 3 * r + 1))
def wN (q : S_) (w : Nat) (M : Nat → Nat) : Prop := RowR q (w + 9) (M 112) (fun r => M (114 + 2 * r)) (fun r => M (113 + 2 * r)) (fun _ => 0)
def wK (q : S_) (w : Nat) (M : Nat → Nat) : Prop := RowR q (w + 13) (M 129) (fun r => M (130 + 2 * r)) (fun r => M (131 + 2 * r)) (fun _ => 0)
def RelW (q : S_) (w : Nat) (M : Nat → Nat) : Prop := wB q w M ∧ wL q w M ∧ wP q w M ∧ wH q w M ∧ wC q w M ∧ wS q w M ∧ wN q w M ∧ wK q w M
theorem PerR.t {q q2 : S_} {e i : Nat} {M M2 : Nat → Nat} (h : PerR q e M i) (hq : ∀ k j, k = e ∨ k = e + 1 → gI q2 k j = gI q k j) (hM : ∀ j, 32 + 10 * i ≤ j → j < 42 + 10 * i → M2 j = M j) : PerR q2 e M2 i := by
  obtain ⟨a0, a1, a2, a3, a4, a5, a6⟩ := h
  unfold PerR
  rw [hM (32 + 10 * i + 0) (by omega) (by omega), hM (32 + 10 * i + 1) (by omega) (by omega), hM (32 + 10 * i + 2) (by omega) (by omega), hM (32 + 10 * i + 3) (by omega) (by omega), hM (32 + 10 * i + 4) (by omega) (by omega), hM (32 + 10 * i + 5) (by omega) (by omega)]
  have e0 := fun j => hq e j (Or.inl rfl)
  refine ⟨(e0 0).trans a0, (e0 1).trans a1, (e0 2).trans a2, (e0 3).trans a3, (e0 4).trans a4, (e0 5).trans a5, fun r hr => ?_⟩
  rw [hM _ (by omega) (by omega), hq _ _ (Or.inr rfl)]
  exact a6 r hr
theorem RowR.t {q q2 : S_} {k n n2 : Nat} {a b c a2 b2 c2 : Nat → Nat} (h : RowR q k n a b c) (hq : ∀ x j, x = k ∧ j = 3 ∨ k < x ∧ x ≤ k + 3 → gI q2 x j = gI q x j) (hn : n2 = n) (he : ∀ r, r < n → a2 r = a r ∧ b2 r = b r ∧ c2 r = c r) : RowR q2 k n2 a2 b2 c2 := by
  subst hn
  refine ⟨(hq _ _ (by omega)).trans h.1, fun r hr => ?_⟩
  obtain ⟨x, y, z⟩ := h.2 r hr
  obtain ⟨e1, e2, e3⟩ := he r hr
  rw [hq (k + 1) r (by omega), hq (k + 2) r (by omega), hq (k + 3) r (by omega), e1, e2, e3]
  exact ⟨x, y, z⟩
theorem wB.t {q q2 : S_} {w : Nat} {M M2 : Nat → Nat} (h : wB q w M) (hq : ∀ k j, k = w ∧ j = 0 ∨ w < k ∧ k ≤ w + 3 → gI q2 k j = gI q k j) (h93 : M2 93 = M 93) (hM : ∀ j, j < 4 * M 93 → j % 4 ≠ 3 → M2 j = M j) : wB q2 w M2 := by
  refine ⟨by rw [hq _ _ (by omega), h93]; exact h.1, fun b hb => ?_⟩
  rw [h93] at hb
  rw [hq _ _ (by omega), hq _ _ (by omega), hq _ _ (by omega), hM _ (by omega) (by omega), hM _ (by omega) (by omega), hM _ (by omega) (by omega)]
  exact h.2 b hb
theorem lostM_congr {M M2 : Nat → Nat} (h93 : M2 93 = M 93) (hM : ∀ b, b < M 93 → M2 (4 * b + 3) = M (4 * b + 3)) : lostM M2 = lostM M := by
  unfold lostM
  rw [h93]
  refine bsum_congr _ (fun b hb => ?_)
  unfold f_toldS
  rw [hM b hb]
theorem wL.t {q q2 : S_} {w : Nat} {M M2 : Nat → Nat} (h : wL q w M) (hq : gI q2 w 4 = gI q w 4) (h93 : M2 93 = M 93) (hM : ∀ b, b < M 93 → M2 (4 * b + 3) = M (4 * b + 3)) : wL q2 w M2 := by
  unfold wL
  rw [hq, lostM_congr h93 hM]
  exact h
theorem wP.t {q q2 : S_} {w : Nat} {M M2 : Nat → Nat} (h : wP q w M) (h6 : M 92 ≤ 6) (hq : ∀ k j, k = w ∧ j = 5 ∨ w + 17 ≤ k ∧ k < w + 29 → gI q2 k j = gI q k j) (hM : ∀ j, 32 ≤ j → j ≤ 92 → M2 j = M j) : wP q2 w M2 := by
  refine ⟨by rw [hq _ _ (by omega), hM 92 (by omega) (by omega)]; exact h.1, fun i hi => ?_⟩
  rw [hM 92 (by omega) (by omega)] at hi
  exact (h.2 i hi).t (fun k j z => hq k j (by omega)) (fun j h1 h2 => hM j (by omega) (by omega))
theorem wH.t {q q2 : S_} {w : Nat} {M M2 : Nat → Nat} (h : wH q w M) (hq : gI q2 w 7 = gI q w 7) (hM : M2 94 = M 94) : wH q2 w M2 := by
  unfold wH
  rw [hq, hM]
  exact h
theorem wC.t {q q2 : S_} {w : Nat} {M M2 : Nat → Nat} (h : wC q w M) (hq : gI q2 w 8 = gI q w 8) (hM : M2 95 = M 95) : wC q2 w M2 := by
  unfold wC
  rw [hq, hM]
  exact h
theorem wS.t {q q2 : S_} {w : Nat} {M M2 : Nat → Nat} (h : wS q w M) (h5 : M 96 ≤ 5) (hq : ∀ k j, w + 5 ≤ k → k ≤ w + 8 → gI q2 k j = gI q k j) (hM : ∀ j, 96 ≤ j → j < 112 → M2 j = M j) : wS q2 w M2 := RowR.t h (fun x j z => hq x j (by omega) (by omega)) (hM _ (by omega) (by omega)) (fun r hr => ⟨hM _ (by omega) (by omega), hM _ (by omega) (by omega), hM _ (by omega) (by omega)⟩)
theorem wN.t {q q2 : S_} {w : Nat} {M M2 : Nat → Nat} (h : wN q w M) (h5 : M 112 ≤ 8) (hq : ∀ k j, w + 9 ≤ k → k ≤ w + 12 → gI q2 k j = gI q k j) (hM : ∀ j, 112 ≤ j → j < 129 → M2 j = M j) : wN q2 w M2 := RowR.t h (fun x j z => hq x j (by omega) (by omega)) (hM _ (by omega) (by omega)) (fun r hr => ⟨hM _ (by omega) (by omega), hM _ (by omega) (by omega), rfl⟩)
theorem wK.t {q q2 : S_} {w : Nat} {M M2 : Nat → Nat} (h : wK q w M) (h5 : M 129 ≤ 8) (hq : ∀ k j, w + 13 ≤ k → k ≤ w + 16 → gI q2 k j = gI q k j) (hM : ∀ j, 129 ≤ j → j < 146 → M2 j = M j) : wK q2 w M2 := RowR.t h (fun x j z => hq x j (by omega) (by omega)) (hM _ (by omega) (by omega)) (fun r hr => ⟨hM _ (by omega) (by omega), hM _ (by omega) (by omega), rfl⟩)
/-- a world whose cells stay -/
theorem RelW.t {q q2 : S_} {w : Nat} {M : Nat → Nat} (h : RelW q w M) (hW : WF M) (hq : ∀ k j, w ≤ k → k < w + 29 → gI q2 k j = gI q k j) : RelW q2 w M := by
  have hc := hW.c
  obtain ⟨a1, a2, a3, a4, a5, a6, a7, a8⟩ := h
  exact ⟨a1.t (fun k j z => hq k j (by omega) (by omega)) rfl (fun _ _ _ => rfl), a2.t (hq _ _ (by omega) (by omega)) rfl (fun _ _ => rfl), a3.t (by omega) (fun k j z => hq k j (by omega) (by omega)) (fun _ _ _ => rfl), a4.t (hq _ _ (by omega) (by omega)) rfl, a5.t (hq _ _ (by omega) (by omega)) rfl,
    a6.t (by omega) (fun k j z y => hq k j (by omega) (by omega)) (fun _ _ _ => rfl), a7.t (by omega) (fun k j z y => hq k j (by omega) (by omega)) (fun _ _ _ => rfl), a8.t (by omega) (fun k j z y => hq k j (by omega) (by omega)) (fun _ _ _ => rfl)⟩
/-- one of a world is another -/
theorem RelW.p {q q2 : S_} {w i : Nat} {M M2 : Nat → Nat} (h : RelW q w M) (hW : WF M) (hi : i < M 92) (hq : ∀ k j, w ≤ k → k < w + 29 → k ≠ w + 4 + 13 + 2 * i → k ≠ w + 4 + 13 + 2 * i + 1 → gI q2 k j = gI q k j) (hM : ∀ j, ¬ (32 + 10 * i ≤ j ∧ j < 42 + 10 * i) → M2 j = M j) (hp : PerR q2 (w + 4 + 13 + 2 * i) M2 i) : RelW q2 w M2 := by
  have hc := hW.c
  obtain ⟨a1, a2, a3, a4, a5, a6, a7, a8⟩ := h
  refine ⟨a1.t (fun k j z => hq k j (by omega) (by omega) (by omega) (by omega)) (hM _ (by omega)) (fun j h1 h2 => hM j (by omega)), a2.t (hq _ _ (by omega) (by omega) (by omega) (by omega)) (hM _ (by omega)) (fun j h1 => hM _ (by omega)), ⟨by rw [hq _ _ (by omega) (by omega) (by omega) (by omega), hM 92 (by omega)]; exact a3.1, fun x hx => ?_⟩, a4.t (hq _ _ (by omega) (by omega) (by omega) (by omega)) (hM _ (by omega)), a5.t (hq _ _ (by omega) (by omega) (by omega) (by omega)) (hM _ (by omega)),
    a6.t (by omega) (fun k j z y => hq k j (by omega) (by omega) (by omega) (by omega)) (fun j _ _ => hM j (by omega)), a7.t (by omega) (fun k j z y => hq k j (by omega) (by omega) (by omega) (by omega)) (fun j _ _ => hM j (by omega)), a8.t (by omega) (fun k j z y => hq k j (by omega) (by omega) (by omega) (by omega)) (fun j _ _ => hM j (by omega))⟩
  rw [hM 92 (by omega)] at hx
  by_cases e : x = i
  · rw [e]
    exact hp
  · exact (a3.2 x hx).t (fun k j z => hq k j (by omega) (by omega) (by omega) (by omega)) (fun j h1 h2 => hM j (by omega))
def fv (f v : Nat) : Int32 := if f = 4 then l5 v else nI v
theorem PerR.set {q : S_} {e i f v : Nat} {M : Nat → Nat} (h : PerR q e M i) (hf : f < 6) : PerR (sI q e f (fv f v)) e (mu M (32 + 10 * i + f) v) i := by
  obtain ⟨a0, a1, a2, a3, a4, a5, a6⟩ := h
  have k : ∀ g, g < 6 → gI q e g = fv g (M (32 + 10 * i + g)) → gI (sI q e f (fv f v)) e g = fv g (mu M (32 + 10 * i + f) v (32 + 10 * i + g)) := fun g hg hh => by
    rw [gI_sI]
    by_cases z : g = f
    · rw [if_pos ⟨rfl, z⟩, z, mu_eq]
    · rw [if_neg (fun y => z y.2), mu_ne (by omega)]
      exact hh
  refine ⟨k 0 (by omega) a0, k 1 (by omega) a1, k 2 (by omega) a2, k 3 (by omega) a3, k 4 (by omega) a4, k 5 (by omega) a5, fun r hr => ?_⟩
  rw [gI_sI, if_neg (by omega), mu_ne (by omega)]
  exact a6 r hr
theorem RelW.per {q : S_} {w i f v : Nat} {M : Nat → Nat} (h : RelW q w M) (hW : WF M) (hi : i < M 92) (hf : f < 6) : RelW (sI q (w + 4 + 13 + 2 * i) f (fv f v)) w (mu M (32 + 10 * i + f) v) :=
  h.p hW hi (fun k j _ _ h1 _ => by rw [gI_sI, if_neg (fun z => h1 z.1)]) (fun j hj => mu_ne (by omega)) ((h.2.2.1.2 i hi).set hf)
theorem RelW.row {q : S_} {w i r v : Nat} {M : Nat → Nat} (h : RelW q w M) (hW : WF M) (hi : i < M 92) (hr : r < 4) : RelW (sI q (w + 4 + 13 + 2 * i + 1) r (nI v)) w (mu M (32 + 10 * i + (6 + r)) v) := by
  refine h.p hW hi (fun k j _ _ _ h1 => by rw [gI_sI, if_neg (fun z => h1 z.1)]) (fun j hj => mu_ne (by omega)) ?_
  obtain ⟨a0, a1, a2, a3, a4, a5, a6⟩ := h.2.2.1.2 i hi
  unfold PerR
  rw [mu_ne (by omega), mu_ne (by omega), mu_ne (by omega), mu_ne (by omega), mu_ne (by omega), mu_ne (by omega)]
  have e0 : ∀ j, gI (sI q (w + 4 + 13 + 2 * i + 1) r (nI v)) (w + 4 + 13 + 2 * i) j = gI q (w + 4 + 13 + 2 * i) j := fun j => by rw [gI_sI, if_neg (by omega)]
  refine ⟨(e0 0).trans a0, (e0 1).trans a1, (e0 2).trans a2, (e0 3).trans a3, (e0 4).trans a4, (e0 5).trans a5, fun x hx => ?_⟩
  rw [gI_sI]
  by_cases e : x = r
  · rw [if_pos ⟨rfl, e⟩, e, mu_eq]
  · rw [if_neg (fun y => e y.2), mu_ne (by omega)]
    exact a6 x hx
theorem RelW.hour {q : S_} {w v : Nat} {M : Nat → Nat} (h : RelW q w M) (hW : WF M) : RelW (sI q w 7 (nI v)) w (mu M 94 v) := by
  have hc := hW.c
  have hq : ∀ k j, ¬ (k = w ∧ j = 7) → gI (sI q w 7 (nI v)) k j = gI q k j := fun k j z => by rw [gI_sI, if_neg z]
  have hM : ∀ j, j ≠ 94 → mu M 94 v j = M j := fun j z => mu_ne z
  obtain ⟨a1, a2, a3, a4, a5, a6, a7, a8⟩ := h
  refine ⟨a1.t (fun k j z => hq k j (by omega)) (hM _ (by omega)) (fun j h1 h2 => hM j (by omega)), a2.t (hq _ _ (by omega)) (hM _ (by omega)) (fun j h1 => hM _ (by omega)), a3.t (by omega) (fun k j z => hq k j (by omega)) (fun j _ _ => hM j (by omega)), ?_, a5.t (hq _ _ (by omega)) (hM _ (by omega)),
    a6.t (by omega) (fun k j z y => hq k j (by omega)) (fun j _ _ => hM j (by omega)), a7.t (by omega) (fun k j z y => hq k j (by omega)) (fun j _ _ => hM j (by omega)), a8.t (by omega) (fun k j z y => hq k j (by omega)) (fun j _ _ => hM j (by omega))⟩
  unfold wH
  rw [gI_sI, if_pos ⟨rfl, rfl⟩, mu_eq]
theorem RelW.city {q : S_} {w v : Nat} {M : Nat → Nat} {x : Int32} (h : RelW q w M) (hW : WF M) (hx : x = cyA v) : RelW (sI q w 8 x) w (mu M 95 v) := by
  have hc := hW.c
  have hq : ∀ k j, ¬ (k = w ∧ j = 8) → gI (sI q w 8 x) k j = gI q k j := fun k j z => by rw [gI_sI, if_neg z]
  have hM : ∀ j, j ≠ 95 → mu M 95 v j = M j := fun j z => mu_ne z
  obtain ⟨a1, a2, a3, a4, a5, a6, a7, a8⟩ := h
  refine ⟨a1.t (fun k j z => hq k j (by omega)) (hM _ (by omega)) (fun j h1 h2 => hM j (by omega)), a2.t (hq _ _ (by omega)) (hM _ (by omega)) (fun j h1 => hM _ (by omega)), a3.t (by omega) (fun k j z => hq k j (by omega)) (fun j _ _ => hM j (by omega)), a4.t (hq _ _ (by omega)) (hM _ (by omega)), ?_,
    a6.t (by omega) (fun k j z y => hq k j (by omega)) (fun j _ _ => hM j (by omega)), a7.t (by omega) (fun k j z y => hq k j (by omega)) (fun j _ _ => hM j (by omega)), a8.t (by omega) (fun k j z y => hq k j (by omega)) (fun j _ _ => hM j (by omega))⟩
  unfold wC
  rw [gI_sI, if_pos ⟨rfl, rfl⟩, mu_eq, hx]
/-- which bridges are lost, changed -/
theorem RelW.lost {q : S_} {w : Nat} {M M2 : Nat → Nat} {x : Int32} (h : RelW q w M) (hW : WF M) (hM : ∀ j, ¬ (j < 32 ∧ j % 4 = 3) → M2 j = M j) (hx : x = nI (lostM M2)) : RelW (sI q w 4 x) w M2 := by
  have hc := hW.c
  have hq : ∀ k j, ¬ (k = w ∧ j = 4) → gI (sI q w 4 x) k j = gI q k j := fun k j z => by rw [gI_sI, if_neg z]
  obtain ⟨a1, a2, a3, a4, a5, a6, a7, a8⟩ := h
  refine ⟨a1.t (fun k j z => hq k j (by omega)) (hM _ (by omega)) (fun j h1 h2 => hM j (by omega)), ?_, a3.t (by omega) (fun k j z => hq k j (by omega)) (fun j _ _ => hM j (by omega)), a4.t (hq _ _ (by omega)) (hM _ (by omega)), a5.t (hq _ _ (by omega)) (hM _ (by omega)),
    a6.t (by omega) (fun k j z y => hq k j (by omega)) (fun j _ _ => hM j (by omega)), a7.t (by omega) (fun k j z y => hq k j (by omega)) (fun j _ _ => hM j (by omega)), a8.t (by omega) (fun k j z y => hq k j (by omega)) (fun j _ _ => hM j (by omega))⟩
  unfold wL
  rw [gI_sI, if_pos ⟨rfl, rfl⟩, hx]
theorem lostM_lt (M : Nat → Nat) : lostM M < 2 ^ M 93 := bsum_lt _ _
theorem lostM_on {M : Nat → Nat} {b : Nat} (hb : b < M 93) (h8 : M 93 ≤ 8) : lostM (mu M (4 * b + 3) 1) = lostM M ||| 2 ^ b := by
  unfold lostM
  rw [mu_ne (by omega)]
  apply Nat.eq_of_testBit_eq
  intro j
  rw [Nat.testBit_or, bsum_bit, bsum_bit, Nat.testBit_two_pow]
  unfold f_toldS
  by_cases e : j = b
  · subst e
    rw [mu_eq]
    simp [hb]
  · rw [mu_ne (by omega)]
    have : ¬ b = j := fun z => e z.symm
    simp [this]
theorem lostM_off {M : Nat → Nat} {b : Nat} (hb : b < M 93) (h8 : M 93 ≤ 8) : lostM (mu M (4 * b + 3) 0) = lostM M &&& (255 ^^^ 2 ^ b) := by
  unfold lostM
  rw [mu_ne (by omega)]
  apply Nat.eq_of_testBit_eq
  intro j
  rw [Nat.testBit_and, bsum_bit, bsum_bit, Nat.testBit_xor, Nat.testBit_two_pow, show (255 : Nat) = 2 ^ 8 - 1 from rfl, Nat.testBit_two_pow_sub_one]
  unfold f_toldS
  by_cases e : j = b
  · subst e
    rw [mu_eq]
    simp
    omega
  · rw [mu_ne (by omega)]
    have h2 : ¬ b = j := fun z => e z.symm
    by_cases h3 : j < M 93
    · have h4 : j < 8 := by omega
      simp [h2, h4]
    · simp [h2, h3]
theorem and_off : ∀ h, h < 256 → ∀ b, b < 8 → nI h &&& (nI (2 ^ b) ^^^ (-1)) = nI (h &&& (255 ^^^ 2 ^ b)) := by decide +kernel

theorem arc_n : Cond.native arraycopyName ∈ gtb := gtb_in (List.mem_of_getElem? (i := 446) (by decide +kernel)) rfl
theorem arc_s : Cond.static arraycopyName ∈ gtb := gtb_in (List.mem_of_getElem? (i := 445) (by decide +kernel)) rfl
theorem arc_i : Cond.initialized "java/lang/System" ∈ gtb := gtb_in (List.mem_of_getElem? (i := 75) (by decide +kernel)) rfl
theorem arc_X7 : Cond.methodLink RX7 47 arraycopyName ∈ gtb := gtb_in (List.mem_of_getElem? (i := 444) (by decide +kernel)) rfl
theorem arc_X2 : Cond.methodLink RX2 40 arraycopyName ∈ gtb := gtb_in (List.mem_of_getElem? (i := 451) (by decide +kernel)) rfl
theorem arc_X3 : Cond.methodLink RX3 31 arraycopyName ∈ gtb := gtb_in (List.mem_of_getElem? (i := 459) (by decide +kernel)) rfl
theorem arc_X8 : Cond.methodLink RX8 280 arraycopyName ∈ gtb := gtb_in (List.mem_of_getElem? (i := 893) (by decide +kernel)) rfl
theorem cellAt_o {G : GT} {q q2 : S_} {a : Nat} (h1 : q2.1 a = q.1 a) (h2 : q2.2 a = q.2 a) : cellAt G q2 a = cellAt G q a := by
  unfold cellAt
  rw [h1, h2]
  split <;> first | rfl | (unfold flds gI; simp only [h1])
theorem aw_copy0 {X : CT} {G : GT} {q : S_} {cc : ByteArray} {own : String} {nL d pc : Nat} {lv : List (Option Value)} {st : List Value} (C : Cx X G cc own nL d) {k1 k2 n1 n2 ix n : Nat} {x0 x1 x2 : Int32} (hl : Cond.methodLink own ix arraycopyName ∈ gtb) (hd : decode cc pc = .ok (.invokestatic ix, 3)) (h1 : 1 ≤ d) (hcat : (st.map fun v => v.category).sum ≤ 8) (hsh1 : shp k1 = (1, n1)) (hsh2 : shp k2 = (1, n2)) (hs : n ≤ n1) (hdd : n ≤ n2) (e0 : x0 = nI 0) (e1 : x1 = nI 0) (e2 : x2 = nI n) (kk : AW X G (cpI q k1 k2 n) (pc + 3) lv st) : AW X G q pc lv (.int x2 :: .int x1 :: rfn G k2 :: .int x0 :: rfn G k1 :: st) := by
  subst e0; subst e1; subst e2
  have hn := shp_small hsh1
  obtain ⟨p, l, e, R, s, m, args, below, meth, c, ce, sl, Q⟩ := X
  obtain ⟨hx, hb, hml, hown, hts, hK, hW, h64a, h64b, hce, hsl⟩ := C
  intro H locs ls hP hS hlv
  have c0 : (nI 0).toNatClampNeg = 0 := nI_clamp (by decide)
  have cn : (nI n).toNatClampNeg = n := nI_clamp (by omega)
  refine va_copyi hx hb hlv.1.symm hown (hts _ hl) (hts _ arc_n) (hts _ arc_s) (hts _ arc_i) hK hP (view_D G q) hS k1 k2 0 0 (view_at hsh1 (by decide) (cell_int hsh1)) (view_at hsh2 (by decide) (cell_int hsh2)) rfl rfl rfl (nI_pos (by decide)) (nI_pos (by decide)) (nI_pos (by omega)) (by rw [c0, cn]; omega) (by rw [c0, cn]; omega) (fun _ _ => rfl) (by omega) (Nat.le_trans (Nat.add_le_add_right hcat _) (Nat.le_trans (show 8 + (nativeFrameWords "java/lang/System" "arraycopy" 5 + 11) ≤ 64 from by decide) (by omega))) hd (fun H1 locs1 hP1 _ hS1 => kk H1 locs1 ls ?_ hS1 hlv)
  rw [c0, cn, view_set G q (cpI q k1 k2 n) (by
    rw [cell_int hsh2, show (cpI q k1 k2 n).1 k2 = va_cpy (q.1 k1) (q.1 k2) 0 0 n from by funext j; simp [cpI, va_cpy]]) (fun a ha => cellAt_o (by funext j; simp [cpI, ha]) rfl)] at hP1
  exact hP1
theorem aw_copyL {X : CT} {G : GT} {q : S_} {cc : ByteArray} {own : String} {nL d pc : Nat} {lv : List (Option Value)} {st : List Value} (C : Cx X G cc own nL d) {k1 k2 n1 n2 ix n sp dp : Nat} (hl : Cond.methodLink own ix arraycopyName ∈ gtb) (hd : decode cc pc = .ok (.invokestatic ix, 3)) (h1 : 1 ≤ d) (hcat : (st.map fun v => v.category).sum ≤ 8) (hsh1 : shp k1 = (4, n1)) (hsh2 : shp k2 = (4, n2)) (hs : sp + n ≤ n1) (hdd : dp + n ≤ n2) (kk : AW X G (cpL q k1 sp k2 dp n) (pc + 3) lv st) : AW X G q pc lv (.int (nI n) :: .int (nI dp) :: rfn G k2 :: .int (nI sp) :: rfn G k1 :: st) := by
  have hn := shp_small hsh1
  have hn2 := shp_small hsh2
  obtain ⟨p, l, e, R, s, m, args, below, meth, c, ce, sl, Q⟩ := X
  obtain ⟨hx, hb, hml, hown, hts, hK, hW, h64a, h64b, hce, hsl⟩ := C
  intro H locs ls hP hS hlv
  have c0 : (nI sp).toNatClampNeg = sp := nI_clamp (by omega)
  have c1 : (nI dp).toNatClampNeg = dp := nI_clamp (by omega)
  have cn : (nI n).toNatClampNeg = n := nI_clamp (by omega)
  refine va_copyl hx hb hlv.1.symm hown (hts _ hl) (hts _ arc_n) (hts _ arc_s) (hts _ arc_i) hK hP (view_D G q) hS k1 k2 3 3 (view_at hsh1 (by decide) (cell_lon hsh1)) (view_at hsh2 (by decide) (cell_lon hsh2)) rfl rfl rfl (nI_pos (by omega)) (nI_pos (by omega)) (nI_pos (by omega)) (by rw [c0, cn]; omega) (by rw [c1, cn]; omega) (fun _ _ => rfl) (by omega) (Nat.le_trans (Nat.add_le_add_right hcat _) (Nat.le_trans (show 8 + (nativeFrameWords "java/lang/System" "arraycopy" 5 + 11) ≤ 64 from by decide) (by omega))) hd (fun H1 locs1 hP1 _ hS1 => kk H1 locs1 ls ?_ hS1 hlv)
  rw [c0, c1, cn, view_set G q (cpL q k1 sp k2 dp n) (by
    rw [cell_lon hsh2, show (cpL q k1 sp k2 dp n).2 k2 = va_cpy (q.2 k1) (q.2 k2) sp dp n from by funext j; simp [cpL, va_cpy]]) (fun a ha => cellAt_o rfl (by funext j; simp [cpL, ha]))] at hP1
  exact hP1
/-- a row of ints, all one number -/
def flI (q : S_) (k n : Nat) (v : Int32) : S_ := (fun a c => if a = k ∧ c < n then v else q.1 a c, q.2)
theorem gI_flI (q : S_) (k n : Nat) (v : Int32) (a c : Nat) : gI (flI q k n v) a c = if a = k ∧ c < n then v else gI q a c := rfl
theorem gL_flI (q : S_) (k n : Nat) (v : Int32) (a c : Nat) : gL (flI q k n v) a c = gL q a c := rfl
theorem flI_0 (q : S_) (k : Nat) (v : Int32) : flI q k 0 v = q := by
  unfold flI
  refine Prod.ext ?_ rfl
  funext a c
  exact if_neg (fun z => absurd z.2 (Nat.not_lt_zero c))
theorem flI_s (q : S_) (k n : Nat) (v : Int32) : sI (flI q k n v) k n v = flI q k (n + 1) v := by
  unfold flI sI
  refine Prod.ext ?_ rfl
  funext a c
  show (if a = k ∧ c = n then v else if a = k ∧ c < n then v else q.1 a c) = if a = k ∧ c < n + 1 then v else q.1 a c
  repeat' split
  all_goals first | rfl | omega
theorem aw_mmax {X : CT} {G : GT} {q : S_} {cc : ByteArray} {own : String} {nL d pc : Nat} {lv : List (Option Value)} {st : List Value} (C : Cx X G cc own nL d) {ix : Nat} {x y : Int32} (hl : Cond.methodLink own ix yJ9_max_7cf53 ∈ gtb) (hd : decode cc pc = .ok (.invokestatic ix, 3)) (h1 : 1 ≤ d) (hcat : (st.map fun v => v.category).sum ≤ 8) (k : AW X G q (pc + 3) lv (.int (if x < y then y else x) :: st)) : AW X G q pc lv (.int y :: .int x :: st) := by
  obtain ⟨p, l, e, R, s, m, args, below, meth, c, ce, sl, Q⟩ := X
  obtain ⟨hx, hb, hml, hown, hts, hK, hW, h64a, h64b, hce, hsl⟩ := C
  intro H locs ls hP hS hlv
  exact va_mmax hx hb (hlv.1.symm) hown (hts _ hl) (hts _ ms_J9_max_7cf53) (hts _ mf_J9_max_7cf53.2.1) (hts _ mf_J9_max_7cf53.1) (by omega) (by omega) hce hsl hd (k H locs ls hP hS hlv)

def bc1 (x : Int32) : Int32 := x - ((x.toUInt32 >>> ((nI 1).toUInt32 &&& Int32.toUInt32 31)).toInt32 &&& (1431655765))
def bc2 (x : Int32) : Int32 := (x &&& (858993459)) + ((x.toUInt32 >>> ((nI 2).toUInt32 &&& Int32.toUInt32 31)).toInt32 &&& (858993459))
def bc3 (x : Int32) : Int32 := (x + (x.toUInt32 >>> ((nI 4).toUInt32 &&& Int32.toUInt32 31)).toInt32) &&& (252645135)
def bc4 (x : Int32) : Int32 := x + (x.toUInt32 >>> ((nI 8).toUInt32 &&& Int32.toUInt32 31)).toInt32
def bc5 (x : Int32) : Int32 := (x + (x.toUInt32 >>> ((nI 16).toUInt32 &&& Int32.toUInt32 31)).toInt32) &&& nI 63
theorem bc_all : ∀ h, h < 256 → bc5 (bc4 (bc3 (bc2 (bc1 (nI h))))) = nI (pop h) := by decide +kernel

set_option maxRecDepth 100000 in
set_option maxHeartbeats 4000000 in
theorem s_J6_bitCount_0f7a4 {G : GT} {q : S_} (h : Nat) (hh : h < 256) : Spec G 1 yJ6_bitCount_0f7a4 cJ6_bitCount_0f7a4 1 (some .int) [.int (nI h)] q (PI fun r2 q3 => r2 = nI (pop h) ∧ q3 = q) := by
  refine Spec.intro RJ6 (by decide) rfl (Nat.le_of_ble_eq_true rfl) [some (.int (nI h))] rfl ?_
  intro X d hd C hR
  refine aw_iload_0 C dJ6_bitCount_0f7a4_0 ?_
  refine aw_iload_0 C dJ6_bitCount_0f7a4_1 ?_
  refine aw_iconst C dJ6_bitCount_0f7a4_2 k1_1 ?_
  refine aw_iushr C dJ6_bitCount_0f7a4_3  ?_
  refine aw_ldcw C dJ6_bitCount_0f7a4_4 kc_J6_265 ?_
  refine aw_iand C dJ6_bitCount_0f7a4_7  ?_
  refine aw_isub C dJ6_bitCount_0f7a4_8  ?_
  refine aw_istore_0 C dJ6_bitCount_0f7a4_9 (by decide) ?_
  refine aw_iload_0 C dJ6_bitCount_0f7a4_10 ?_
  refine aw_ldcw C dJ6_bitCount_0f7a4_11 kc_J6_266 ?_
  refine aw_iand C dJ6_bitCount_0f7a4_14  ?_
  refine aw_iload_0 C dJ6_bitCount_0f7a4_15 ?_
  refine aw_iconst C dJ6_bitCount_0f7a4_16 k1_2 ?_
  refine aw_iushr C dJ6_bitCount_0f7a4_17  ?_
  refine aw_ldcw C dJ6_bitCount_0f7a4_18 kc_J6_266 ?_
  refine aw_iand C dJ6_bitCount_0f7a4_21  ?_
  refine aw_iadd C dJ6_bitCount_0f7a4_22  ?_
  refine aw_istore_0 C dJ6_bitCount_0f7a4_23 (by decide) ?_
  refine aw_iload_0 C dJ6_bitCount_0f7a4_24 ?_
  refine aw_iload_0 C dJ6_bitCount_0f7a4_25 ?_
  refine aw_iconst C dJ6_bitCount_0f7a4_26 k1_4 ?_
  refine aw_iushr C dJ6_bitCount_0f7a4_27  ?_
  refine aw_iadd C dJ6_bitCount_0f7a4_28  ?_
  refine aw_ldcw C dJ6_bitCount_0f7a4_29 kc_J6_267 ?_
  refine aw_iand C dJ6_bitCount_0f7a4_32  ?_
  refine aw_istore_0 C dJ6_bitCount_0f7a4_33 (by decide) ?_
  refine aw_iload_0 C dJ6_bitCount_0f7a4_34 ?_
  refine aw_iload_0 C dJ6_bitCount_0f7a4_35 ?_
  refine aw_bipush C dJ6_bitCount_0f7a4_36 k2_8 ?_
  refine aw_iushr C dJ6_bitCount_0f7a4_38  ?_
  refine aw_iadd C dJ6_bitCount_0f7a4_39  ?_
  refine aw_istore_0 C dJ6_bitCount_0f7a4_40 (by decide) ?_
  refine aw_iload_0 C dJ6_bitCount_0f7a4_41 ?_
  refine aw_iload_0 C dJ6_bitCount_0f7a4_42 ?_
  refine aw_bipush C dJ6_bitCount_0f7a4_43 k2_16 ?_
  refine aw_iushr C dJ6_bitCount_0f7a4_45  ?_
  refine aw_iadd C dJ6_bitCount_0f7a4_46  ?_
  refine aw_istore_0 C dJ6_bitCount_0f7a4_47 (by decide) ?_
  refine aw_iload_0 C dJ6_bitCount_0f7a4_48 ?_
  refine aw_bipush C dJ6_bitCount_0f7a4_49 k2_63 ?_
  refine aw_iand C dJ6_bitCount_0f7a4_51  ?_
  refine aw_iretI C hR dJ6_bitCount_0f7a4_52 ?_
  exact ⟨bc_all h hh, rfl⟩

set_option maxRecDepth 100000 in
set_option maxHeartbeats 4000000 in
theorem s_J7_fill_53178 {G : GT} {q : S_} (k m : Nat) (v : Int32) (hs : shp k = (1, m)) : Spec G 1 yJ7_fill_53178 cJ7_fill_53178 4 none [rfn G k, .int v] q (PV fun q3 => q3 = flI q k m v) := by
  refine Spec.intro RJ7 (by decide) rfl (Nat.le_of_ble_eq_true rfl) [some (rfn G k), some (.int v), none, none] rfl ?_
  intro X d hd C hR
  have hm := shp_small hs
  refine aw_iconst C dJ7_fill_53178_0 k1_0 ?_
  refine aw_istore_2 C dJ7_fill_53178_1 (by decide) (fun w h => by cases h <;> rfl) ?_
  refine aw_aload_0 C dJ7_fill_53178_2 rfl ?_
  refine aw_alen C dJ7_fill_53178_3 hs ?_
  refine aw_istore_3 C dJ7_fill_53178_4 (by decide) (fun w h => by cases h <;> rfl) ?_
  have L5 : ∀ (n2 c : Nat), c ≤ m → m < c + n2 → AW X G (flI q k c v) 5 [some (rfn G k), some (.int v), some (.int (nI c)), some (.int (nI m))] [] := by
    refine nat_loop (fun c h1 h2 => by omega) (fun n2 ih c h1 h2 => ?_)
    refine aw_iload_2 C dJ7_fill_53178_5 ?_
    refine aw_iload_3 C dJ7_fill_53178_6 ?_
    refine aw_icmp_ge_n C dJ7_fill_53178_7 (tgt := 20) (by decide) (by omega) (by omega) (fun c_7 => ?_) (fun c_7 => ?_)
    · skip
      refine aw_vretV C hR dJ7_fill_53178_20 ?_
      exact by rw [show m = c by omega]
    · skip
      refine aw_aload_0 C dJ7_fill_53178_10 rfl ?_
      refine aw_iload_2 C dJ7_fill_53178_11 ?_
      refine aw_iload_1 C dJ7_fill_53178_12 ?_
      refine aw_iast C _ dJ7_fill_53178_13 hs rfl (by omega) ?_
      refine aw_iinc_2 C dJ7_fill_53178_14 (by decide) (fun w h => by cases h <;> rfl) (show _ + Int32.ofInt 1 = _ by rw [k1_1, nI_add]) ?_
      refine aw_goto C dJ7_fill_53178_17 (tgt := 5) (by decide) ?_
      rw [flI_s]
      exact ih (c + 1) (by omega) (by omega)
  have h5 := L5 (m + 1) 0 (by omega) (by omega)
  rw [flI_0] at h5
  exact h5

theorem aw_alenL {X : CT} {G : GT} {q : S_} {cc : ByteArray} {own : String} {nL d pc k : Nat} {lv : List (Option Value)} {st : List Value} (C : Cx X G cc own nL d) {n : Nat} (hd : decode cc pc = .ok (.arraylength, 1)) (hsh : shp k = (4, n)) (kk : AW X G q (pc + 1) lv (.int (nI n) :: st)) : AW X G q pc lv (rfn G k :: st) := by
  obtain ⟨p, l, e, R, s, m, args, below, meth, c, ce, sl, Q⟩ := X
  obtain ⟨hx, hb, hml, hown, hts, hK, hW, -, -, -, -⟩ := C
  intro H locs ls hP hS hlv
  exact va_alen hx hb hK hP k 3 (view_at hsh (by decide) (cell_lon hsh)) rfl rfl hd (kk H locs ls hP hS hlv)

set_option maxRecDepth 100000 in
set_option maxHeartbeats 4000000 in
theorem s_J7_fill_d0a16 {G : GT} {q : S_} (k m : Nat) (hs : shp k = (4, m)) : Spec G 1 yJ7_fill_d0a16 cJ7_fill_d0a16 5 none [rfn G k, .long 0] q (PV fun q3 => q3 = zrL q k 0 m) := by
  refine Spec.intro RJ7 (by decide) rfl (Nat.le_of_ble_eq_true rfl) [some (rfn G k), some (.long 0), none, none, none] rfl ?_
  intro X d hd C hR
  have hm := shp_small hs
  refine aw_iconst C dJ7_fill_d0a16_0 k1_0 ?_
  refine aw_istore_3 C dJ7_fill_d0a16_1 (by decide) (fun w h => by cases h <;> rfl) ?_
  refine aw_aload_0 C dJ7_fill_d0a16_2 rfl ?_
  refine aw_alenL C dJ7_fill_d0a16_3 hs ?_
  refine aw_istore_4 C dJ7_fill_d0a16_4 (by decide) (fun w h => by cases h <;> rfl) ?_
  have L6 : ∀ (n2 c : Nat), c ≤ m → m < c + n2 → AW X G (zrL q k 0 c) 6 [some (rfn G k), some (.long 0), none, some (.int (nI c)), some (.int (nI m))] [] := by
    refine nat_loop (fun c h1 h2 => by omega) (fun n2 ih c h1 h2 => ?_)
    refine aw_iload_3 C dJ7_fill_d0a16_6 ?_
    refine aw_iload_4 C dJ7_fill_d0a16_7 ?_
    refine aw_icmp_ge_n C dJ7_fill_d0a16_9 (tgt := 22) (by decide) (by omega) (by omega) (fun c_9 => ?_) (fun c_9 => ?_)
    · skip
      refine aw_vretV C hR dJ7_fill_d0a16_22 ?_
      exact by rw [show m = c by omega]
    · skip
      refine aw_aload_0 C dJ7_fill_d0a16_12 rfl ?_
      refine aw_iload_3 C dJ7_fill_d0a16_13 ?_
      refine aw_lload_1 C dJ7_fill_d0a16_14 ?_
      refine aw_last C _ dJ7_fill_d0a16_15 hs rfl (by omega) ?_
      refine aw_iinc_3 C dJ7_fill_d0a16_16 (by decide) (fun w h => by cases h <;> rfl) (show _ + Int32.ofInt 1 = _ by rw [k1_1, nI_add]) ?_
      refine aw_goto C dJ7_fill_d0a16_19 (tgt := 6) (by decide) ?_
      have hz := zrL_s q k 0 c
      rw [Nat.zero_add] at hz
      rw [hz]
      exact ih (c + 1) (by omega) (by omega)
  have h6 := L6 (m + 1) 0 (by omega) (by omega)
  rw [zrL_0] at h6
  exact h6
