def updN {A : Type} (f : Nat → A) (t : Nat) (v : A) : Nat → A := fun a => if a = t then v else f a
/-- tapes, changed -/
theorem RR.tape {q q2 : S_} {g : GS} {S2 E2 : Nat → Nat} {X2 : Nat → Nat → Int64} (h : RR q g) (hf : ∀ k j, ¬ (k = 151 ∨ k = 152) → gI q2 k j = gI q k j) (ht : ∀ t, t < 6 → gI q2 151 t = cs9 (S2 t) ∧ gI q2 152 t = nI (E2 t) ∧ ∀ j, j < 60 → gL q2 153 (60 * t + j) = X2 t j) : RR q2 (gM g, gK g, gJ g, gC g, gN g, gT g, S2, E2, X2, gR g, gV g) := by
  obtain ⟨a1, a2, a3, a4, a5, a6, a7, a8, a9, a10, a11, a12⟩ := h
  have hF : Fr (fun k j => k = 151 ∨ k = 152) (q.1, q2.2) q2 := ⟨rfl, fun k j hn => hf k j hn⟩
  have a2b : RE (q.1, q2.2) (gC g) := a2
  exact ⟨fun j hj => (hf _ _ (by omega)).trans (a1 j hj), a2b.w hF (fun k j e z => by omega), (hf _ _ (by omega)).trans a3, (hf _ _ (by omega)).trans a4, fun hk j hj => (hf _ _ (by omega)).trans (a5 hk j hj), (hf _ _ (by omega)).trans a6, fun j hj => (hf _ _ (by omega)).trans (a7 j hj), ht, fun j hj => (hf _ _ (by omega)).trans (a9 j hj), fun j hj => (hf _ _ (by omega)).trans (a10 j hj), (hf _ _ (by omega)).trans a11, fun j hj h2 => (hf _ _ (by omega)).trans (a12 j hj h2)⟩
