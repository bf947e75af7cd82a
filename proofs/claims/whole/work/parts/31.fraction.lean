def kL (n : Nat) : Int64 := Int64.ofNat n
theorem kL_rem : ∀ a, a < 64 → ∀ b, b < 64 → b ≠ 0 → kL a - kL a / kL b * kL b = kL (a % b) := by decide +kernel
theorem kL_div : ∀ a, a < 64 → ∀ b, b < 64 → b ≠ 0 → kL a / kL b = kL (a / b) := by decide +kernel
theorem kL_z : ∀ b, b < 64 → b ≠ 0 → ¬ kL b = 0 := by decide +kernel
theorem kL_c : ∀ b, b < 64 → (lg_cmp (kL b) (Int64.ofNat 0) = 0 ↔ b = 0) := by decide +kernel
theorem kL_i : ∀ n, n < 64 → (nI n).toInt64 = kL n := by decide +kernel
def fracM (x y : Nat) (w : Int32) : Int64 := if w = 0 then kL (x / Nat.gcd x y) else kL (y / Nat.gcd x y)

set_option maxRecDepth 100000 in
set_option maxHeartbeats 4000000 in
theorem s_X9_fraction {G : GT} {q : S_} (x y : Nat) (w : Int32) (hx : x < 64) (hy : y < 64) (h0 : y ≠ 0) : Spec G 1 yX9_fraction cX9_fraction 11 (some .long) [.long (kL x), .long (kL y), .int w] q (PL fun r2 q3 => r2 = fracM x y w ∧ q3 = q) := by
  refine Spec.intro RX9 (by decide) rfl (Nat.le_of_ble_eq_true rfl) [some (.long (kL x)), none, some (.long (kL y)), none, some (.int w), none, none, none, none, none, none] rfl ?_
  intro X d hd C hR
  refine aw_lload_0 C dX9_fraction_0 ?_
  refine aw_lstore_5 C dX9_fraction_1 (by decide) (fun w h => by cases h <;> rfl) ?_
  refine aw_lload_2 C dX9_fraction_3 ?_
  refine aw_lstore_7 C dX9_fraction_4 (by decide) (fun w h => by cases h <;> rfl) ?_
  have L6 : ∀ (n2 a b : Nat), b < n2 → a < 64 → b < 64 → Nat.gcd a b = Nat.gcd x y → AW X G (q) 6 [some (.long (kL x)), none, some (.long (kL y)), none, some (.int w), some (.long (kL a)), none, some (.long (kL b)), none, none, none] [] := by
    refine nat_loop (fun a b h1 ha hb hg2 => by omega) (fun n2 ih a b h1 ha hb hg2 => ?_)
    refine aw_lload_7 C dX9_fraction_6 ?_
    refine aw_lconst C dX9_fraction_8 rfl ?_
    refine aw_lcmp C dX9_fraction_9 ?_
    refine aw_if_eq C dX9_fraction_10 (tgt := 31) (by decide)  (fun c_10 => ?_) (fun c_10 => ?_)
    · have e0 : b = 0 := (kL_c b hb).mp c_10
      subst e0
      have ea : a = Nat.gcd x y := (Nat.gcd_zero_right a).symm.trans hg2
      have en : a ≠ 0 := fun z => h0 (Nat.eq_zero_of_gcd_eq_zero_right (ea.symm.trans z))
      refine aw_iload_4 C dX9_fraction_31 ?_
      refine aw_if_ne C dX9_fraction_33 (tgt := 43) (by decide)  (fun c_33 => ?_) (fun c_33 => ?_)
      · skip
        refine aw_lload_2 C dX9_fraction_43 ?_
        refine aw_lload_5 C dX9_fraction_44 ?_
        refine aw_ldiv C dX9_fraction_46 (kL_z a ha en) ?_
        refine aw_lretL C hR dX9_fraction_47 ?_
        exact ⟨by unfold fracM; rw [if_neg c_33, kL_div y hy a ha en, ← ea], rfl⟩
      · skip
        refine aw_lload_0 C dX9_fraction_36 ?_
        refine aw_lload_5 C dX9_fraction_37 ?_
        refine aw_ldiv C dX9_fraction_39 (kL_z a ha en) ?_
        refine aw_goto C dX9_fraction_40 (tgt := 47) (by decide) ?_
        refine aw_lretL C hR dX9_fraction_47 ?_
        exact ⟨by unfold fracM; rw [if_pos c_33, kL_div x hx a ha en, ← ea], rfl⟩
    · have e0 : b ≠ 0 := fun z => c_10 ((kL_c b hb).mpr z)
      refine aw_lload_5 C dX9_fraction_13 ?_
      refine aw_lload_7 C dX9_fraction_15 ?_
      refine aw_lrem C dX9_fraction_17 (kL_z b hb e0) ?_
      rw [kL_rem a ha b hb e0]
      refine aw_lstore_9 C dX9_fraction_18 (by decide) (fun w h => by cases h <;> rfl) ?_
      refine aw_lload_7 C dX9_fraction_20 ?_
      refine aw_lstore_5 C dX9_fraction_22 (by decide) (fun w h => by cases h <;> rfl) ?_
      refine aw_lload_9 C dX9_fraction_24 ?_
      refine aw_lstore_7 C dX9_fraction_26 (by decide) (fun w h => by cases h <;> rfl) ?_
      refine aw_goto C dX9_fraction_28 (tgt := 6) (by decide) ?_
      exact (ih b (a % b) (by have := Nat.mod_lt a (Nat.pos_of_ne_zero e0); omega) hb (by have := Nat.mod_lt a (Nat.pos_of_ne_zero e0); omega) (by rw [← hg2, Nat.gcd_comm a b, Nat.gcd_rec b a, Nat.gcd_comm]) ).less ⟨Or.inr rfl, Or.inr rfl, Or.inr rfl, Or.inr rfl, Or.inr rfl, Or.inr rfl, Or.inr rfl, Or.inr rfl, Or.inr rfl, Or.inl rfl, Or.inl rfl, trivial⟩
  exact L6 64 x y hy hx hy rfl
