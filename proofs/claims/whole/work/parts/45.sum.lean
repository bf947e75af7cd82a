def CitC (q : S_) (c : Nat) (cs : List Nat) : Prop := gI q c 2 = nI cs.length ∧ cs.length ≤ 100 ∧ ∀ k, k < cs.length → gI q (c + 1) k = cK (cs.getD k 0)
theorem CitC.t {q q2 : S_} {c : Nat} {cs : List Nat} (h : CitC q c cs) (h2 : gI q2 c 2 = gI q c 2) (h3 : ∀ j, gI q2 (c + 1) j = gI q (c + 1) j) : CitC q2 c cs := ⟨h2.trans h.1, h.2.1, fun k hk => (h3 k).trans (h.2.2 k hk)⟩
def codesOf (l : List Nat) : List Nat := (clsM (chO l) 9 0 0).2.2.1
def darkOf (l : List Nat) : Nat := (clsM (chO l) 9 0 0).2.2.2
def CyR (q : S_) (cts : Nat → List Nat) (N : Nat) : Prop := ∀ j, j < N → gI q (99 + 3 * j) 0 = nI (darkOf (cts j)) ∧ CitC q (99 + 3 * j) (codesOf (cts j))
def SFk (k _j : Nat) : Prop := 99 ≤ k ∧ k < 117 ∧ k % 3 = 2
theorem CyR.t {q q2 : S_} {cts : Nat → List Nat} {N : Nat} (h : CyR q cts N) (h6 : N ≤ 6) (hq : ∀ k j, 99 ≤ k → k < 117 → k % 3 ≠ 2 → gI q2 k j = gI q k j) : CyR q2 cts N := fun j hj => ⟨(hq _ _ (by omega) (by omega) (by omega)).trans (h j hj).1, (h j hj).2.t (hq _ _ (by omega) (by omega) (by omega)) (fun i => hq _ _ (by omega) (by omega) (by omega))⟩
theorem gb_b {x t : Nat} {st : List Bool} (S : Int32) (h : 2100 ≤ x) (ht : t = if st.headD false = true then 1 else 0) : S - nI (t * (x - 2100)) = S + gb x st := by
  unfold gb
  rw [ht]
  split
  · rw [if_neg (by omega), Nat.one_mul, Int32.sub_eq_add_neg]
  · rw [Nat.zero_mul, Int32.sub_eq_add_neg]
    congr 1
theorem gb_g {x t : Nat} {st : List Bool} (S : Int32) (h : 2000 ≤ x) (h2 : x < 2100) (ht : t = if st.headD false = true then 1 else 0) : S + nI (t * (x - 2000)) = S + gb x st := by
  unfold gb
  rw [ht]
  split
  · first | rw [if_pos h2, Nat.one_mul] | rw [Nat.one_mul]
  · rw [Nat.zero_mul]
theorem tv_r {nm : Nat → Nat} {x : Nat} (h : nm (x / 300) < 2 ^ 31) : tvB (fun j => nI (nm j)) x = decide ((if nm (x / 300) < x % 100 then 0 else if nm (x / 300) = x % 100 then 1 else 2) = x / 100 % 3) := by
  have hl : (nI (nm (x / 300)) < nI (x % 100)) = (nm (x / 300) < x % 100) := propext (nI_ltI h (by omega))
  have hg : (nI (x % 100) < nI (nm (x / 300))) = (x % 100 < nm (x / 300)) := propext (nI_ltI (by omega) h)
  have he : (nI (nm (x / 300)) = nI (x % 100)) = (nm (x / 300) = x % 100) := propext (nI_eq h (by omega))
  have h3 := Nat.mod_lt (x / 100) (by decide : 3 > 0)
  unfold tvB
  split
  · next e => rw [e]; simp only [hl]; by_cases y : nm (x / 300) < x % 100 <;> simp [y] <;> (split <;> omega)
  · split
    · next e => rw [e]; simp only [he]; by_cases y : nm (x / 300) < x % 100 <;> simp [y] <;> omega
    · next e1 e2 =>
      rw [show x / 100 % 3 = 2 by omega]
      simp only [hg]
      by_cases y : nm (x / 300) < x % 100
      · by_cases y2 : nm (x / 300) = x % 100 <;> simp [y, y2] <;> omega
      · by_cases y2 : nm (x / 300) = x % 100 <;> simp [y, y2] <;> omega
theorem evS_r {nm : Nat → Int32} {c : Nat} {cs : List Nat} {st : List Bool} {s : Int32} (h1 : 2000 ≤ c) (h2 : c < 2200) : evS nm (c :: cs) st s = evS nm cs [] (s + gb c st) := if_neg (by omega)
theorem evS_x {nm : Nat → Int32} {c : Nat} {cs : List Nat} {st : List Bool} {s : Int32} (h : c < 1800 ∨ 3000 < c) : evS nm (c :: cs) st s = evS nm cs (ev1 nm c st) s := if_pos (by omega)
theorem okR_c (c : Nat) (cs : List Nat) (n : Nat) : okR (c :: cs) n = if 3003 < c then False else if c = 3003 then 1 ≤ n ∧ okR cs n else if 3000 < c then 2 ≤ n ∧ okR cs (n - 1) else if c < 2000 then n < 20 ∧ okR cs (n + 1) else okR cs 0 := rfl

set_option maxRecDepth 100000 in
set_option maxHeartbeats 4000000 in
theorem s_X1_clear {G : GT} {q : S_} (c : Nat) (hc : shC c) : Spec G 1 yX1_clear cX1_clear 1 none [rfn G c] q (PV (fun q3 => CitC q3 c [] ∧ gI q3 c 0 = nI 0 ∧ Fr (fun a j => a = c ∧ (j = 0 ∨ j = 2)) q q3)) := by
  refine Spec.intro RX1 (by decide) rfl (Nat.le_of_ble_eq_true rfl) [some (rfn G c)] rfl ?_
  intro X d hd C hR
  refine aw_aload_0 C dX1_clear_0 rfl ?_
  refine aw_iconst C dX1_clear_1 k1_0 ?_
  refine aw_p1_0 C dX1_clear_2 hc.1 fl_X1_18 ?_
  refine aw_aload_0 C dX1_clear_5 rfl ?_
  refine aw_iconst C dX1_clear_6 k1_0 ?_
  refine aw_p1_2 C dX1_clear_7 hc.1 fl_X1_22 ?_
  refine aw_vretV C hR dX1_clear_10 ?_
  exact ⟨⟨by simp [gI_sI], Nat.zero_le _, fun k hk => absurd hk (Nat.not_lt_zero k)⟩, by simp [gI_sI], (Fr.set ⟨rfl, Or.inl rfl⟩).put ⟨rfl, Or.inr rfl⟩⟩

set_option maxRecDepth 100000 in
set_option maxHeartbeats 4000000 in
theorem s_X1_add {G : GT} {q : S_} {cs : List Nat} (c x : Nat) (hc : shC c) (h : CitC q c cs) : Spec G 1 yX1_add cX1_add 2 none [rfn G c, .int (cK x)] q (PV (fun q3 => CitC q3 c (if cs.length < 100 then cs ++ [x] else cs) ∧ Fr (fun a j => a = c + 1 ∨ (a = c ∧ j = 2)) q q3)) := by
  refine Spec.intro RX1 (by decide) rfl (Nat.le_of_ble_eq_true rfl) [some (rfn G c), some (.int (cK x))] rfl ?_
  intro X d hd C hR
  have hl := h.2.1
  refine aw_aload_0 C dX1_add_0 rfl ?_
  refine aw_g1_2 C h.1 dX1_add_1 hc.1 fl_X1_22 ?_
  refine aw_aload_0 C dX1_add_4 rfl ?_
  refine aw_g1_1 C dX1_add_5 hc.1 fl_X1_9 ?_
  refine aw_alen C dX1_add_8 hc.2.1 ?_
  refine aw_icmp_ge_n C dX1_add_9 (tgt := 32) (by decide) (by omega) (by omega) (fun c_9 => ?_) (fun c_9 => ?_)
  · skip
    refine aw_vretV C hR dX1_add_32 ?_
    exact ⟨by rw [if_neg (by omega)]; exact h, Fr.rf⟩
  · skip
    refine aw_aload_0 C dX1_add_12 rfl ?_
    refine aw_g1_1 C dX1_add_13 hc.1 fl_X1_9 ?_
    refine aw_aload_0 C dX1_add_16 rfl ?_
    refine aw_g1_2 C h.1 dX1_add_17 hc.1 fl_X1_22 ?_
    refine aw_iload_1 C dX1_add_20 ?_
    refine aw_iast C _ dX1_add_21 hc.2.1 rfl (by omega) ?_
    refine aw_aload_0 C dX1_add_22 rfl ?_
    refine aw_dup C dX1_add_23 rfl ?_
    refine aw_g1_2 C (show gI _ c 2 = nI cs.length by simp [gI_sI]; exact h.1) dX1_add_24 hc.1 fl_X1_22 ?_
    refine aw_iconst C dX1_add_27 k1_1 ?_
    refine aw_iadd_n C dX1_add_28  ?_
    refine aw_p1_2 C dX1_add_29 hc.1 fl_X1_22 ?_
    refine aw_vretV C hR dX1_add_32 ?_
    refine ⟨?_, (Fr.set (Or.inl rfl)).put (Or.inr ⟨rfl, rfl⟩)⟩
    rw [if_pos (by omega)]
    refine ⟨by rw [gI_sI, if_pos ⟨rfl, rfl⟩, List.length_append]; rfl, by rw [List.length_append]; show cs.length + 1 ≤ 100; omega, fun k hk => ?_⟩
    rw [List.length_append] at hk
    have hk2 : k < cs.length + 1 := hk
    rw [gI_sI, if_neg (by omega), gI_sI, List.getD_eq_getElem?_getD, List.getElem?_append]
    by_cases e : k = cs.length
    · rw [if_pos ⟨rfl, e⟩, if_neg (by omega), e, Nat.sub_self]
      rfl
    · rw [if_neg (fun z => e z.2), if_pos (by omega), h.2.2 k (by omega), List.getD_eq_getElem?_getD]

set_option maxRecDepth 100000 in
set_option maxHeartbeats 4000000 in
theorem s_X1_sum {G : GT} {q : S_} {cs : List Nat} {nm : Nat → Nat} (c : Nat) (hc : shC c) (h : CitC q c cs) (hv : ∀ x ∈ cs, vcd x) (hok : okR cs 0) (hn : ∀ j, j < 6 → nm j < 2 ^ 31) : Spec G 1 yX1_sum cX1_sum 15 (some .int) [rfn G c, .int (nI (nm 0)), .int (nI (nm 1)), .int (nI (nm 2)), .int (nI (nm 3)), .int (nI (nm 4)), .int (nI (nm 5))] q (PI (fun r q3 => r = evS (fun j => nI (nm j)) cs [] (nI 3) ∧ Fr (fun a _ => a = c + 2) q q3)) := by
  refine Spec.intro RX1 (by decide) rfl (Nat.le_of_ble_eq_true rfl) [some (rfn G c), some (.int (nI (nm 0))), some (.int (nI (nm 1))), some (.int (nI (nm 2))), some (.int (nI (nm 3))), some (.int (nI (nm 4))), some (.int (nI (nm 5))), none, none, none, none, none, none, none, none] rfl ?_
  intro X d hd C hR
  have hl := h.2.1
  refine aw_aload_0 C dX1_sum_0 rfl ?_
  refine aw_g1_3 C dX1_sum_1 hc.1 fl_X1_15 ?_
  refine aw_iconst C dX1_sum_4 k1_0 ?_
  refine aw_iload_1 C dX1_sum_5 ?_
  refine aw_iast C _ dX1_sum_6 hc.2.2 rfl (by decide) ?_
  refine aw_aload_0 C dX1_sum_7 rfl ?_
  refine aw_g1_3 C dX1_sum_8 hc.1 fl_X1_15 ?_
  refine aw_iconst C dX1_sum_11 k1_1 ?_
  refine aw_iload_2 C dX1_sum_12 ?_
  refine aw_iast C _ dX1_sum_13 hc.2.2 rfl (by decide) ?_
  refine aw_aload_0 C dX1_sum_14 rfl ?_
  refine aw_g1_3 C dX1_sum_15 hc.1 fl_X1_15 ?_
  refine aw_iconst C dX1_sum_18 k1_2 ?_
  refine aw_iload_3 C dX1_sum_19 ?_
  refine aw_iast C _ dX1_sum_20 hc.2.2 rfl (by decide) ?_
  refine aw_aload_0 C dX1_sum_21 rfl ?_
  refine aw_g1_3 C dX1_sum_22 hc.1 fl_X1_15 ?_
  refine aw_iconst C dX1_sum_25 k1_3 ?_
  refine aw_iload_4 C dX1_sum_26 ?_
  refine aw_iast C _ dX1_sum_28 hc.2.2 rfl (by decide) ?_
  refine aw_aload_0 C dX1_sum_29 rfl ?_
  refine aw_g1_3 C dX1_sum_30 hc.1 fl_X1_15 ?_
  refine aw_iconst C dX1_sum_33 k1_4 ?_
  refine aw_iload_5 C dX1_sum_34 ?_
  refine aw_iast C _ dX1_sum_36 hc.2.2 rfl (by decide) ?_
  refine aw_aload_0 C dX1_sum_37 rfl ?_
  refine aw_g1_3 C dX1_sum_38 hc.1 fl_X1_15 ?_
  refine aw_iconst C dX1_sum_41 k1_5 ?_
  refine aw_iload_6 C dX1_sum_42 ?_
  refine aw_iast C _ dX1_sum_44 hc.2.2 rfl (by decide) ?_
  have hF1 : Fr (fun a _ => a = c + 2) q (sI (sI (sI (sI (sI (sI q (c + 2) 0 (nI (nm 0))) (c + 2) 1 (nI (nm 1))) (c + 2) 2 (nI (nm 2))) (c + 2) 3 (nI (nm 3))) (c + 2) 4 (nI (nm 4))) (c + 2) 5 (nI (nm 5))) := (by repeat first | exact Fr.rf | refine Fr.put ?_ rfl)
  have hf : ∀ j, j < 6 → gI (sI (sI (sI (sI (sI (sI q (c + 2) 0 (nI (nm 0))) (c + 2) 1 (nI (nm 1))) (c + 2) 2 (nI (nm 2))) (c + 2) 3 (nI (nm 3))) (c + 2) 4 (nI (nm 4))) (c + 2) 5 (nI (nm 5))) (c + 2) j = nI (nm j) := by
    intro j hj
    have : j = 0 ∨ j = 1 ∨ j = 2 ∨ j = 3 ∨ j = 4 ∨ j = 5 := by omega
    rcases this with rfl | rfl | rfl | rfl | rfl | rfl <;> simp [gI_sI]
  generalize hq1 : (sI (sI (sI (sI (sI (sI q (c + 2) 0 (nI (nm 0))) (c + 2) 1 (nI (nm 1))) (c + 2) 2 (nI (nm 2))) (c + 2) 3 (nI (nm 3))) (c + 2) 4 (nI (nm 4))) (c + 2) 5 (nI (nm 5))) = q1 at hF1 hf ⊢
  refine aw_iconst C dX1_sum_45 k1_3 ?_
  refine aw_istore_7 C dX1_sum_46 (by decide) (fun w h => by cases h <;> rfl) ?_
  refine aw_iconst C dX1_sum_48 k1_0 ?_
  refine aw_istore_8 C dX1_sum_49 (by decide) (fun w h => by cases h <;> rfl) ?_
  refine aw_iconst C dX1_sum_51 k1_0 ?_
  refine aw_istore_9 C dX1_sum_52 (by decide) (fun w h => by cases h <;> rfl) ?_
  have L54 : ∀ (n2 k : Nat) (st : List Bool) (S : Int32), k ≤ cs.length → cs.length < k + n2 → st.length ≤ 20 → okR (cs.drop k) st.length → evS (fun j => nI (nm j)) cs [] (nI 3) = evS (fun j => nI (nm j)) (cs.drop k) st S → AW X G (q1) 54 [some (rfn G c), some (.int (nI (nm 0))), some (.int (nI (nm 1))), some (.int (nI (nm 2))), some (.int (nI (nm 3))), some (.int (nI (nm 4))), some (.int (nI (nm 5))), some (.int S), some (.int (nI (stk st))), some (.int (nI k)), none, none, none, none, none] [] := by
    refine nat_loop (fun k st S h1 h2 hlen hok2 hev => by omega) (fun n2 ih k st S h1 h2 hlen hok2 hev => ?_)
    refine aw_iload_9 C dX1_sum_54 ?_
    refine aw_aload_0 C dX1_sum_56 rfl ?_
    refine aw_g1_2 C ((hF1.2 c 2 (by omega)).trans h.1) dX1_sum_57 hc.1 fl_X1_22 ?_
    refine aw_icmp_ge_n C dX1_sum_60 (tgt := 263) (by decide) (by omega) (by omega) (fun c_60 => ?_) (fun c_60 => ?_)
    · skip
      refine aw_iload_7 C dX1_sum_263 ?_
      refine aw_iretI C hR dX1_sum_265 ?_
      have ek : cs.length ≤ k := c_60
      exact ⟨by rw [hev, List.drop_eq_nil_of_le ek]; rfl, hF1⟩
    · skip
      have hk : k < cs.length := by omega
      have hdr : cs.drop k = cs.getD k 0 :: cs.drop (k + 1) := by
        rw [List.drop_eq_getElem_cons hk, List.getD_eq_getElem?_getD, List.getElem?_eq_getElem hk]
        rfl
      have hvx : vcd (cs.getD k 0) := hv _ (by
        rw [List.getD_eq_getElem?_getD, List.getElem?_eq_getElem hk]
        exact List.getElem_mem hk)
      obtain ⟨x, hx⟩ : ∃ x, cs.getD k 0 = x := ⟨_, rfl⟩
      rw [hx] at hdr hvx
      rw [hdr] at hok2 hev
      rw [okR_c] at hok2
      have hst := stk_20 hlen
      refine aw_aload_0 C dX1_sum_63 rfl ?_
      refine aw_g1_1 C dX1_sum_64 hc.1 fl_X1_9 ?_
      refine aw_iload_9 C dX1_sum_67 ?_
      refine aw_iald C _ ((hF1.2 (c + 1) k (by omega)).trans ((h.2.2 k (by omega)).trans (by rw [hx]))) dX1_sum_69 hc.2.1 rfl (by omega) ?_
      refine aw_istore_10 C dX1_sum_70 (by decide) (fun w h => by cases h <;> rfl) ?_
      refine aw_iload_8 C dX1_sum_72 ?_
      refine aw_iconst C dX1_sum_74 k1_1 ?_
      refine aw_iand_n C dX1_sum_75  ?_
      rw [Nat.and_one_is_mod, stk_top]
      refine aw_istore_11 C dX1_sum_76 (by decide) (fun w h => by cases h <;> rfl) ?_
      refine aw_iload_10 C dX1_sum_78 ?_
      refine aw_sipush C dX1_sum_80 k3_2100 ?_
      refine aw_icmp_lt C dX1_sum_83 (tgt := 106) (by decide)  (fun c_83 => ?_) (fun c_83 => ?_)
      · skip
        refine aw_iload_10 C dX1_sum_106 ?_
        refine aw_sipush C dX1_sum_108 k3_2000 ?_
        refine aw_icmp_lt C dX1_sum_111 (tgt := 134) (by decide)  (fun c_111 => ?_) (fun c_111 => ?_)
        · skip
          refine aw_iload_10 C dX1_sum_134 ?_
          refine aw_if_lt C dX1_sum_136 (tgt := 211) (by decide)  (fun c_136 => ?_) (fun c_136 => ?_)
          · skip
            refine aw_iload_10 C dX1_sum_211 ?_
            refine aw_bipush C dX1_sum_213 k2_m3 ?_
            refine aw_icmp_ne C dX1_sum_215 (tgt := 227) (by decide)  (fun c_215 => ?_) (fun c_215 => ?_)
            · skip
              refine aw_iload_10 C dX1_sum_227 ?_
              refine aw_iconst C dX1_sum_229 k1_m1 ?_
              refine aw_icmp_ne C dX1_sum_230 (tgt := 248) (by decide)  (fun c_230 => ?_) (fun c_230 => ?_)
              · obtain rfl := cK_2 hvx c_136 c_215 c_230
                rcases st with _ | ⟨b, _ | ⟨a, t⟩⟩
                · exact absurd hok2.1 (by decide)
                · exact absurd hok2.1 (by show ¬ 2 ≤ 1; decide)
                rw [evS_x (Or.inr (by decide))] at hev
                refine aw_iload_8 C dX1_sum_248 ?_
                refine aw_iconst C dX1_sum_250 k1_1 ?_
                refine aw_ishr_n C dX1_sum_251 (by omega) (by omega) ?_
                refine aw_iload_11 C dX1_sum_252 ?_
                refine aw_ior_n C dX1_sum_254  ?_
                rw [stk_half, show (if (b :: a :: t).headD false = true then 1 else 0) = (if b = true then 1 else 0) from rfl, stk_or b a t]
                refine aw_istore_8 C dX1_sum_255 (by decide) (fun w h => by cases h <;> rfl) ?_
                refine aw_iinc_9 C dX1_sum_257 (by decide) (fun w h => by cases h <;> rfl) (show _ + Int32.ofInt 1 = _ by rw [k1_1, nI_add]) ?_
                refine aw_goto C dX1_sum_260 (tgt := 54) (by decide) ?_
                exact (ih (k + 1) ((a || b) :: t) S (by omega) (by omega) (Nat.le_trans (Nat.le_succ _) hlen) hok2.2 hev).less ⟨Or.inr rfl, Or.inr rfl, Or.inr rfl, Or.inr rfl, Or.inr rfl, Or.inr rfl, Or.inr rfl, Or.inr rfl, Or.inr rfl, Or.inr rfl, Or.inl rfl, Or.inl rfl, Or.inl rfl, Or.inl rfl, Or.inl rfl, trivial⟩
              · obtain rfl := cK_1 hvx c_136 c_230
                rcases st with _ | ⟨b, _ | ⟨a, t⟩⟩
                · exact absurd hok2.1 (by decide)
                · exact absurd hok2.1 (by show ¬ 2 ≤ 1; decide)
                rw [evS_x (Or.inr (by decide))] at hev
                refine aw_iload_8 C dX1_sum_233 ?_
                refine aw_iconst C dX1_sum_235 k1_1 ?_
                refine aw_ishr_n C dX1_sum_236 (by omega) (by omega) ?_
                refine aw_iload_11 C dX1_sum_237 ?_
                refine aw_bipush C dX1_sum_239 k2_m2 ?_
                refine aw_ior C dX1_sum_241  ?_
                refine aw_iand C dX1_sum_242  ?_
                rw [stk_half]
                have hst2 : stk (a :: t) < 2 ^ 20 := stk_20 (Nat.le_trans (Nat.le_succ _) hlen)
                rw [show (if (b :: a :: t).headD false = true then 1 else 0) = (if b = true then 1 else 0) from rfl, and_m2 (by omega) _ (by split <;> decide), stk_and b a t]
                refine aw_istore_8 C dX1_sum_243 (by decide) (fun w h => by cases h <;> rfl) ?_
                refine aw_goto C dX1_sum_245 (tgt := 257) (by decide) ?_
                refine aw_iinc_9 C dX1_sum_257 (by decide) (fun w h => by cases h <;> rfl) (show _ + Int32.ofInt 1 = _ by rw [k1_1, nI_add]) ?_
                refine aw_goto C dX1_sum_260 (tgt := 54) (by decide) ?_
                exact (ih (k + 1) ((a && b) :: t) S (by omega) (by omega) (Nat.le_trans (Nat.le_succ _) hlen) hok2.2 hev).less ⟨Or.inr rfl, Or.inr rfl, Or.inr rfl, Or.inr rfl, Or.inr rfl, Or.inr rfl, Or.inr rfl, Or.inr rfl, Or.inr rfl, Or.inr rfl, Or.inl rfl, Or.inl rfl, Or.inl rfl, Or.inl rfl, Or.inl rfl, trivial⟩
            · obtain rfl := cK_3 hvx c_136 c_215
              rcases st with _ | ⟨b, t⟩
              · exact absurd hok2.1 (by decide)
              rw [evS_x (Or.inr (by decide))] at hev
              refine aw_iload_8 C dX1_sum_218 ?_
              refine aw_iconst C dX1_sum_220 k1_1 ?_
              refine aw_ixor_n C dX1_sum_221  ?_
              rw [stk_not]
              refine aw_istore_8 C dX1_sum_222 (by decide) (fun w h => by cases h <;> rfl) ?_
              refine aw_goto C dX1_sum_224 (tgt := 257) (by decide) ?_
              refine aw_iinc_9 C dX1_sum_257 (by decide) (fun w h => by cases h <;> rfl) (show _ + Int32.ofInt 1 = _ by rw [k1_1, nI_add]) ?_
              refine aw_goto C dX1_sum_260 (tgt := 54) (by decide) ?_
              exact (ih (k + 1) ((!b) :: t) S (by omega) (by omega) hlen hok2.2 hev).less ⟨Or.inr rfl, Or.inr rfl, Or.inr rfl, Or.inr rfl, Or.inr rfl, Or.inr rfl, Or.inr rfl, Or.inr rfl, Or.inr rfl, Or.inr rfl, Or.inl rfl, Or.inl rfl, Or.inl rfl, Or.inl rfl, Or.inl rfl, trivial⟩
          · obtain ⟨x1, x3⟩ := cK_t hvx c_111 c_136
            rw [x3]
            have hnx := hn (x / 300) (by omega)
            rw [if_neg (by omega), if_neg (by omega), if_neg (by omega), if_pos (by omega)] at hok2
            rw [evS_x (Or.inl x1), show ev1 (fun j => nI (nm j)) x st = tvB (fun j => nI (nm j)) x :: st from by unfold ev1; rw [if_neg (by omega), if_neg (by omega), if_neg (by omega)]] at hev
            refine aw_aload_0 C dX1_sum_139 rfl ?_
            refine aw_g1_3 C dX1_sum_140 hc.1 fl_X1_15 ?_
            refine aw_iload_10 C dX1_sum_143 ?_
            refine aw_sipush C dX1_sum_145 k3_300 ?_
            refine aw_idiv_n C dX1_sum_148 (by omega) (by omega) (by omega) ?_
            refine aw_iald C _ (hf (x / 300) (by omega)) dX1_sum_149 hc.2.2 rfl (by omega) ?_
            refine aw_istore_12 C dX1_sum_150 (by decide) (fun w h => by cases h <;> rfl) ?_
            refine aw_iload_10 C dX1_sum_152 ?_
            refine aw_bipush C dX1_sum_154 k2_100 ?_
            refine aw_irem_n C dX1_sum_156 (by omega) (by omega) (by omega) ?_
            refine aw_istore_13 C dX1_sum_157 (by decide) (fun w h => by cases h <;> rfl) ?_
            refine aw_iload_12 C dX1_sum_159 ?_
            refine aw_iload_13 C dX1_sum_161 ?_
            refine aw_icmp_ge_n C dX1_sum_163 (tgt := 170) (by decide) (by omega) (by omega) (fun c_163 => ?_) (fun c_163 => ?_)
            · skip
              refine aw_iload_12 C dX1_sum_170 ?_
              refine aw_iload_13 C dX1_sum_172 ?_
              refine aw_icmp_ne_n C dX1_sum_174 (tgt := 181) (by decide) (by omega) (by omega) (fun c_174 => ?_) (fun c_174 => ?_)
              · skip
                refine aw_iconst C dX1_sum_181 k1_2 ?_
                refine aw_istore_14 C dX1_sum_182 (by decide) (fun w h => by cases h <;> rfl) ?_
                refine aw_iload_8 C dX1_sum_184 ?_
                refine aw_iconst C dX1_sum_186 k1_1 ?_
                refine aw_ishl_n C dX1_sum_187 (by omega) (by omega) ?_
                refine aw_iload_14 C dX1_sum_188 ?_
                refine aw_iload_10 C dX1_sum_190 ?_
                refine aw_bipush C dX1_sum_192 k2_100 ?_
                refine aw_idiv_n C dX1_sum_194 (by omega) (by omega) (by omega) ?_
                refine aw_iconst C dX1_sum_195 k1_3 ?_
                refine aw_irem_n C dX1_sum_196 (by omega) (by omega) (by omega) ?_
                refine aw_icmp_ne_n C dX1_sum_197 (tgt := 204) (by decide) (by omega) (by omega) (fun c_197 => ?_) (fun c_197 => ?_)
                · skip
                  refine aw_iconst C dX1_sum_204 k1_0 ?_
                  refine aw_ior_n C dX1_sum_205  ?_
                  have hrel : (if nm (x / 300) < x % 100 then 0 else if nm (x / 300) = x % 100 then 1 else 2) = 2 := by rw [if_neg (by omega), if_neg (by omega)]
                  have htv : tvB (fun j => nI (nm j)) x = false := by rw [tv_r hnx, hrel]; exact decide_eq_false (by omega)
                  rw [show stk st * 2 ^ 1 ||| 0 = stk (tvB (fun j => nI (nm j)) x :: st) from by rw [htv]; exact stk_push false st]
                  refine aw_istore_8 C dX1_sum_206 (by decide) (fun w h => by cases h <;> rfl) ?_
                  refine aw_goto C dX1_sum_208 (tgt := 257) (by decide) ?_
                  refine aw_iinc_9 C dX1_sum_257 (by decide) (fun w h => by cases h <;> rfl) (show _ + Int32.ofInt 1 = _ by rw [k1_1, nI_add]) ?_
                  refine aw_goto C dX1_sum_260 (tgt := 54) (by decide) ?_
                  exact (ih (k + 1) (tvB (fun j => nI (nm j)) x :: st) S (by omega) (by omega) hok2.1 hok2.2 hev).less ⟨Or.inr rfl, Or.inr rfl, Or.inr rfl, Or.inr rfl, Or.inr rfl, Or.inr rfl, Or.inr rfl, Or.inr rfl, Or.inr rfl, Or.inr rfl, Or.inl rfl, Or.inl rfl, Or.inl rfl, Or.inl rfl, Or.inl rfl, trivial⟩
                · skip
                  refine aw_iconst C dX1_sum_200 k1_1 ?_
                  refine aw_goto C dX1_sum_201 (tgt := 205) (by decide) ?_
                  refine aw_ior_n C dX1_sum_205  ?_
                  have hrel : (if nm (x / 300) < x % 100 then 0 else if nm (x / 300) = x % 100 then 1 else 2) = 2 := by rw [if_neg (by omega), if_neg (by omega)]
                  have htv : tvB (fun j => nI (nm j)) x = true := by rw [tv_r hnx, hrel]; exact decide_eq_true (by omega)
                  rw [show stk st * 2 ^ 1 ||| 1 = stk (tvB (fun j => nI (nm j)) x :: st) from by rw [htv]; exact stk_push true st]
                  refine aw_istore_8 C dX1_sum_206 (by decide) (fun w h => by cases h <;> rfl) ?_
                  refine aw_goto C dX1_sum_208 (tgt := 257) (by decide) ?_
                  refine aw_iinc_9 C dX1_sum_257 (by decide) (fun w h => by cases h <;> rfl) (show _ + Int32.ofInt 1 = _ by rw [k1_1, nI_add]) ?_
                  refine aw_goto C dX1_sum_260 (tgt := 54) (by decide) ?_
                  exact (ih (k + 1) (tvB (fun j => nI (nm j)) x :: st) S (by omega) (by omega) hok2.1 hok2.2 hev).less ⟨Or.inr rfl, Or.inr rfl, Or.inr rfl, Or.inr rfl, Or.inr rfl, Or.inr rfl, Or.inr rfl, Or.inr rfl, Or.inr rfl, Or.inr rfl, Or.inl rfl, Or.inl rfl, Or.inl rfl, Or.inl rfl, Or.inl rfl, trivial⟩
              · skip
                refine aw_iconst C dX1_sum_177 k1_1 ?_
                refine aw_goto C dX1_sum_178 (tgt := 182) (by decide) ?_
                refine aw_istore_14 C dX1_sum_182 (by decide) (fun w h => by cases h <;> rfl) ?_
                refine aw_iload_8 C dX1_sum_184 ?_
                refine aw_iconst C dX1_sum_186 k1_1 ?_
                refine aw_ishl_n C dX1_sum_187 (by omega) (by omega) ?_
                refine aw_iload_14 C dX1_sum_188 ?_
                refine aw_iload_10 C dX1_sum_190 ?_
                refine aw_bipush C dX1_sum_192 k2_100 ?_
                refine aw_idiv_n C dX1_sum_194 (by omega) (by omega) (by omega) ?_
                refine aw_iconst C dX1_sum_195 k1_3 ?_
                refine aw_irem_n C dX1_sum_196 (by omega) (by omega) (by omega) ?_
                refine aw_icmp_ne_n C dX1_sum_197 (tgt := 204) (by decide) (by omega) (by omega) (fun c_197 => ?_) (fun c_197 => ?_)
                · skip
                  refine aw_iconst C dX1_sum_204 k1_0 ?_
                  refine aw_ior_n C dX1_sum_205  ?_
                  have hrel : (if nm (x / 300) < x % 100 then 0 else if nm (x / 300) = x % 100 then 1 else 2) = 1 := by rw [if_neg (by omega), if_pos (by omega)]
                  have htv : tvB (fun j => nI (nm j)) x = false := by rw [tv_r hnx, hrel]; exact decide_eq_false (by omega)
                  rw [show stk st * 2 ^ 1 ||| 0 = stk (tvB (fun j => nI (nm j)) x :: st) from by rw [htv]; exact stk_push false st]
                  refine aw_istore_8 C dX1_sum_206 (by decide) (fun w h => by cases h <;> rfl) ?_
                  refine aw_goto C dX1_sum_208 (tgt := 257) (by decide) ?_
                  refine aw_iinc_9 C dX1_sum_257 (by decide) (fun w h => by cases h <;> rfl) (show _ + Int32.ofInt 1 = _ by rw [k1_1, nI_add]) ?_
                  refine aw_goto C dX1_sum_260 (tgt := 54) (by decide) ?_
                  exact (ih (k + 1) (tvB (fun j => nI (nm j)) x :: st) S (by omega) (by omega) hok2.1 hok2.2 hev).less ⟨Or.inr rfl, Or.inr rfl, Or.inr rfl, Or.inr rfl, Or.inr rfl, Or.inr rfl, Or.inr rfl, Or.inr rfl, Or.inr rfl, Or.inr rfl, Or.inl rfl, Or.inl rfl, Or.inl rfl, Or.inl rfl, Or.inl rfl, trivial⟩
                · skip
                  refine aw_iconst C dX1_sum_200 k1_1 ?_
                  refine aw_goto C dX1_sum_201 (tgt := 205) (by decide) ?_
                  refine aw_ior_n C dX1_sum_205  ?_
                  have hrel : (if nm (x / 300) < x % 100 then 0 else if nm (x / 300) = x % 100 then 1 else 2) = 1 := by rw [if_neg (by omega), if_pos (by omega)]
                  have htv : tvB (fun j => nI (nm j)) x = true := by rw [tv_r hnx, hrel]; exact decide_eq_true (by omega)
                  rw [show stk st * 2 ^ 1 ||| 1 = stk (tvB (fun j => nI (nm j)) x :: st) from by rw [htv]; exact stk_push true st]
                  refine aw_istore_8 C dX1_sum_206 (by decide) (fun w h => by cases h <;> rfl) ?_
                  refine aw_goto C dX1_sum_208 (tgt := 257) (by decide) ?_
                  refine aw_iinc_9 C dX1_sum_257 (by decide) (fun w h => by cases h <;> rfl) (show _ + Int32.ofInt 1 = _ by rw [k1_1, nI_add]) ?_
                  refine aw_goto C dX1_sum_260 (tgt := 54) (by decide) ?_
                  exact (ih (k + 1) (tvB (fun j => nI (nm j)) x :: st) S (by omega) (by omega) hok2.1 hok2.2 hev).less ⟨Or.inr rfl, Or.inr rfl, Or.inr rfl, Or.inr rfl, Or.inr rfl, Or.inr rfl, Or.inr rfl, Or.inr rfl, Or.inr rfl, Or.inr rfl, Or.inl rfl, Or.inl rfl, Or.inl rfl, Or.inl rfl, Or.inl rfl, trivial⟩
            · skip
              refine aw_iconst C dX1_sum_166 k1_0 ?_
              refine aw_goto C dX1_sum_167 (tgt := 182) (by decide) ?_
              refine aw_istore_14 C dX1_sum_182 (by decide) (fun w h => by cases h <;> rfl) ?_
              refine aw_iload_8 C dX1_sum_184 ?_
              refine aw_iconst C dX1_sum_186 k1_1 ?_
              refine aw_ishl_n C dX1_sum_187 (by omega) (by omega) ?_
              refine aw_iload_14 C dX1_sum_188 ?_
              refine aw_iload_10 C dX1_sum_190 ?_
              refine aw_bipush C dX1_sum_192 k2_100 ?_
              refine aw_idiv_n C dX1_sum_194 (by omega) (by omega) (by omega) ?_
              refine aw_iconst C dX1_sum_195 k1_3 ?_
              refine aw_irem_n C dX1_sum_196 (by omega) (by omega) (by omega) ?_
              refine aw_icmp_ne_n C dX1_sum_197 (tgt := 204) (by decide) (by omega) (by omega) (fun c_197 => ?_) (fun c_197 => ?_)
              · skip
                refine aw_iconst C dX1_sum_204 k1_0 ?_
                refine aw_ior_n C dX1_sum_205  ?_
                have hrel : (if nm (x / 300) < x % 100 then 0 else if nm (x / 300) = x % 100 then 1 else 2) = 0 := by rw [if_pos (by omega)]
                have htv : tvB (fun j => nI (nm j)) x = false := by rw [tv_r hnx, hrel]; exact decide_eq_false (by omega)
                rw [show stk st * 2 ^ 1 ||| 0 = stk (tvB (fun j => nI (nm j)) x :: st) from by rw [htv]; exact stk_push false st]
                refine aw_istore_8 C dX1_sum_206 (by decide) (fun w h => by cases h <;> rfl) ?_
                refine aw_goto C dX1_sum_208 (tgt := 257) (by decide) ?_
                refine aw_iinc_9 C dX1_sum_257 (by decide) (fun w h => by cases h <;> rfl) (show _ + Int32.ofInt 1 = _ by rw [k1_1, nI_add]) ?_
                refine aw_goto C dX1_sum_260 (tgt := 54) (by decide) ?_
                exact (ih (k + 1) (tvB (fun j => nI (nm j)) x :: st) S (by omega) (by omega) hok2.1 hok2.2 hev).less ⟨Or.inr rfl, Or.inr rfl, Or.inr rfl, Or.inr rfl, Or.inr rfl, Or.inr rfl, Or.inr rfl, Or.inr rfl, Or.inr rfl, Or.inr rfl, Or.inl rfl, Or.inl rfl, Or.inl rfl, Or.inl rfl, Or.inl rfl, trivial⟩
              · skip
                refine aw_iconst C dX1_sum_200 k1_1 ?_
                refine aw_goto C dX1_sum_201 (tgt := 205) (by decide) ?_
                refine aw_ior_n C dX1_sum_205  ?_
                have hrel : (if nm (x / 300) < x % 100 then 0 else if nm (x / 300) = x % 100 then 1 else 2) = 0 := by rw [if_pos (by omega)]
                have htv : tvB (fun j => nI (nm j)) x = true := by rw [tv_r hnx, hrel]; exact decide_eq_true (by omega)
                rw [show stk st * 2 ^ 1 ||| 1 = stk (tvB (fun j => nI (nm j)) x :: st) from by rw [htv]; exact stk_push true st]
                refine aw_istore_8 C dX1_sum_206 (by decide) (fun w h => by cases h <;> rfl) ?_
                refine aw_goto C dX1_sum_208 (tgt := 257) (by decide) ?_
                refine aw_iinc_9 C dX1_sum_257 (by decide) (fun w h => by cases h <;> rfl) (show _ + Int32.ofInt 1 = _ by rw [k1_1, nI_add]) ?_
                refine aw_goto C dX1_sum_260 (tgt := 54) (by decide) ?_
                exact (ih (k + 1) (tvB (fun j => nI (nm j)) x :: st) S (by omega) (by omega) hok2.1 hok2.2 hev).less ⟨Or.inr rfl, Or.inr rfl, Or.inr rfl, Or.inr rfl, Or.inr rfl, Or.inr rfl, Or.inr rfl, Or.inr rfl, Or.inr rfl, Or.inr rfl, Or.inl rfl, Or.inl rfl, Or.inl rfl, Or.inl rfl, Or.inl rfl, trivial⟩
        · obtain ⟨x1, x2, x3⟩ := cK_g hvx c_83 c_111
          rw [x3]
          rw [if_neg (by omega), if_neg (by omega), if_neg (by omega), if_neg (by omega)] at hok2
          rw [evS_r (by omega) (by omega)] at hev
          refine aw_iload_7 C dX1_sum_114 ?_
          refine aw_iload_11 C dX1_sum_116 ?_
          refine aw_iload_10 C dX1_sum_118 ?_
          refine aw_sipush C dX1_sum_120 k3_2000 ?_
          refine aw_isub_n C dX1_sum_123 (by omega) ?_
          refine aw_imul_n C dX1_sum_124  ?_
          refine aw_iadd C dX1_sum_125  ?_
          rw [gb_g S x1 x2 rfl]
          refine aw_istore_7 C dX1_sum_126 (by decide) (fun w h => by cases h <;> rfl) ?_
          refine aw_iconst C dX1_sum_128 k1_0 ?_
          refine aw_istore_8 C dX1_sum_129 (by decide) (fun w h => by cases h <;> rfl) ?_
          refine aw_goto C dX1_sum_131 (tgt := 257) (by decide) ?_
          refine aw_iinc_9 C dX1_sum_257 (by decide) (fun w h => by cases h <;> rfl) (show _ + Int32.ofInt 1 = _ by rw [k1_1, nI_add]) ?_
          refine aw_goto C dX1_sum_260 (tgt := 54) (by decide) ?_
          exact (ih (k + 1) [] _ (by omega) (by omega) (Nat.zero_le _) hok2 hev).less ⟨Or.inr rfl, Or.inr rfl, Or.inr rfl, Or.inr rfl, Or.inr rfl, Or.inr rfl, Or.inr rfl, Or.inr rfl, Or.inr rfl, Or.inr rfl, Or.inl rfl, Or.inl rfl, Or.inl rfl, Or.inl rfl, Or.inl rfl, trivial⟩
      · obtain ⟨x1, x2, x3⟩ := cK_b hvx c_83
        rw [x3]
        rw [if_neg (by omega), if_neg (by omega), if_neg (by omega), if_neg (by omega)] at hok2
        rw [evS_r (by omega) (by omega)] at hev
        refine aw_iload_7 C dX1_sum_86 ?_
        refine aw_iload_11 C dX1_sum_88 ?_
        refine aw_iload_10 C dX1_sum_90 ?_
        refine aw_sipush C dX1_sum_92 k3_2100 ?_
        refine aw_isub_n C dX1_sum_95 (by omega) ?_
        refine aw_imul_n C dX1_sum_96  ?_
        refine aw_isub C dX1_sum_97  ?_
        rw [gb_b S x1 rfl]
        refine aw_istore_7 C dX1_sum_98 (by decide) (fun w h => by cases h <;> rfl) ?_
        refine aw_iconst C dX1_sum_100 k1_0 ?_
        refine aw_istore_8 C dX1_sum_101 (by decide) (fun w h => by cases h <;> rfl) ?_
        refine aw_goto C dX1_sum_103 (tgt := 257) (by decide) ?_
        refine aw_iinc_9 C dX1_sum_257 (by decide) (fun w h => by cases h <;> rfl) (show _ + Int32.ofInt 1 = _ by rw [k1_1, nI_add]) ?_
        refine aw_goto C dX1_sum_260 (tgt := 54) (by decide) ?_
        exact (ih (k + 1) [] _ (by omega) (by omega) (Nat.zero_le _) hok2 hev).less ⟨Or.inr rfl, Or.inr rfl, Or.inr rfl, Or.inr rfl, Or.inr rfl, Or.inr rfl, Or.inr rfl, Or.inr rfl, Or.inr rfl, Or.inr rfl, Or.inl rfl, Or.inl rfl, Or.inl rfl, Or.inl rfl, Or.inl rfl, trivial⟩
  exact L54 101 0 [] (nI 3) (by omega) (by omega) (Nat.zero_le _) hok rfl
