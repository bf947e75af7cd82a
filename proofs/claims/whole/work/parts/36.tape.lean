theorem PG.tp {q q3 : S_} {g : GS} {S2 E2 : Nat → Nat} {X2 : Nat → Nat → Int64} {v r : Int32} {fr : Int32 × GS} (h : RR q g) (hr : r = v) (hf : fr = (v, (gM g, gK g, gJ g, gC g, gN g, gT g, S2, E2, X2, gR g, gV g))) (h1 : ∀ k j, ¬ (k = 151 ∨ k = 152) → gI q3 k j = gI q k j) (h2 : ∀ k j, k < 129 → gL q3 k j = gL q k j) (ht : ∀ t, t < 6 → gI q3 151 t = cs9 (S2 t) ∧ gI q3 152 t = nI (E2 t) ∧ ∀ j, j < 60 → gL q3 153 (60 * t + j) = X2 t j) : PG fr q r q3 := by
  subst hf
  exact ⟨hr, RR.tape h h1 ht, fun k j hk => h1 k j (by omega), h2⟩
/-- items of a row of longs from a place on, all 0 -/
def zrL (q : S_) (k b n : Nat) : S_ := (q.1, fun a c => if a = k ∧ b ≤ c ∧ c < b + n then 0 else q.2 a c)
theorem zrL_0 (q : S_) (k b : Nat) : zrL q k b 0 = q := by
  unfold zrL
  refine Prod.ext rfl ?_
  funext a c
  exact if_neg (by omega)
theorem zrL_s (q : S_) (k b n : Nat) : sL (zrL q k b n) k (b + n) 0 = zrL q k b (n + 1) := by
  unfold zrL sL
  refine Prod.ext rfl ?_
  funext a c
  show (if a = k ∧ c = b + n then (0 : Int64) else if a = k ∧ b ≤ c ∧ c < b + n then 0 else q.2 a c) = if a = k ∧ b ≤ c ∧ c < b + (n + 1) then 0 else q.2 a c
  repeat' split
  all_goals first | rfl | omega
/-- items of a row of longs over another's (or its own) -/
def cpL (q : S_) (k1 b1 k2 b2 n : Nat) : S_ := (q.1, fun a c => if a = k2 ∧ b2 ≤ c ∧ c < b2 + n then q.2 k1 (b1 + (c - b2)) else q.2 a c)
theorem cpL_0 (q : S_) (k1 b1 k2 b2 : Nat) : cpL q k1 b1 k2 b2 0 = q := by
  unfold cpL
  refine Prod.ext rfl ?_
  funext a c
  exact if_neg (by omega)
theorem cpL_s {q : S_} {k1 b1 k2 b2 n : Nat} (h : k1 ≠ k2) : sL (cpL q k1 b1 k2 b2 n) k2 (b2 + n) (gL (cpL q k1 b1 k2 b2 n) k1 (b1 + n)) = cpL q k1 b1 k2 b2 (n + 1) := by
  have e : gL (cpL q k1 b1 k2 b2 n) k1 (b1 + n) = q.2 k1 (b1 + n) := if_neg (fun z => h z.1)
  rw [e]
  unfold cpL sL
  refine Prod.ext rfl ?_
  funext a c
  show (if a = k2 ∧ c = b2 + n then q.2 k1 (b1 + n) else if a = k2 ∧ b2 ≤ c ∧ c < b2 + n then q.2 k1 (b1 + (c - b2)) else q.2 a c) = if a = k2 ∧ b2 ≤ c ∧ c < b2 + (n + 1) then q.2 k1 (b1 + (c - b2)) else q.2 a c
  by_cases h1 : a = k2 ∧ c = b2 + n
  · rw [if_pos h1, if_pos (by omega), show b1 + (c - b2) = b1 + n by omega]
  · rw [if_neg h1]
    by_cases h2 : a = k2 ∧ b2 ≤ c ∧ c < b2 + n
    · rw [if_pos h2, if_pos (by omega)]
    · rw [if_neg h2, if_neg (by omega)]
theorem gI_zrL (q : S_) (k b n a c : Nat) : gI (zrL q k b n) a c = gI q a c := rfl
theorem gL_zrL (q : S_) (k b n a c : Nat) : gL (zrL q k b n) a c = if a = k ∧ b ≤ c ∧ c < b + n then 0 else gL q a c := rfl
theorem gI_cpL (q : S_) (k1 b1 k2 b2 n a c : Nat) : gI (cpL q k1 b1 k2 b2 n) a c = gI q a c := rfl
theorem gL_cpL (q : S_) (k1 b1 k2 b2 n a c : Nat) : gL (cpL q k1 b1 k2 b2 n) a c = if a = k2 ∧ b2 ≤ c ∧ c < b2 + n then gL q k1 (b1 + (c - b2)) else gL q a c := rfl
theorem updN_eq {A : Type} {f : Nat → A} {t : Nat} {v : A} : updN f t v t = v := if_pos rfl
theorem updN_ne {A : Type} {f : Nat → A} {t a : Nat} {v : A} (h : a ≠ t) : updN f t v a = f a := if_neg h
def sN (x : Int32) : Nat := if x = -1 then 9 else u32 x
theorem sN_cs {x : Int32} (h : x = -1 ∨ inN x 5) : x = cs9 (sN x) := by
  unfold sN
  rcases h with h | h
  · subst h
    rw [if_pos rfl]
    rfl
  · obtain ⟨y, hy, hy2, rfl⟩ := inN_of h
    rw [if_neg (m1_ne hy2), show u32 (nI y) = y from nI_clamp hy2]
    exact (if_neg (by omega)).symm
def f_tape (g : GS) (t s n : Int32) : Int32 × GS := if ¬ inN t 6 then (-1, g) else if ¬ (s = -1 ∨ inN s 5) ∨ (s ≠ -1 ∧ ¬ n ≤ nI 60) then (-2, g) else if s ≠ -1 ∧ n < 0 then (-14, g) else
  (nI 1, (gM g, gK g, gJ g, gC g, gN g, gT g, updN (gS g) (u32 t) (sN s), updN (gE g) (u32 t) (if s = -1 then 0 else u32 n), updN (gX g) (u32 t) (fun _ => 0), gR g, gV g))
def asIt (s : Nat) (v : Int64) : Int64 := if s = 0 then v.toInt32.toInt8.toInt32.toInt64 else if s = 1 then v.toInt32.toInt16.toInt32.toInt64 else if s = 2 then v.toInt32.toInt64 else if s = 3 then v else if v = 0 then 0 else 1
def f_item (g : GS) (t i : Int32) (v : Int64) : Int32 × GS := if ¬ inN t 6 then (-1, g) else if gS g (u32 t) = 9 then (-11, g) else if ¬ inN i (gE g (u32 t)) then (-13, g) else
  (nI 1, (gM g, gK g, gJ g, gC g, gN g, gT g, gS g, gE g, updN (gX g) (u32 t) (updN (gX g (u32 t)) (u32 i) (asIt (gS g (u32 t)) v)), gR g, gV g))
def f_read (g : GS) (t i : Int32) : Int64 × GS := (if inN t 6 ∧ inN i (gE g (u32 t)) then gX g (u32 t) (u32 i) else noL, g)
abbrev shP (e : Nat) (i n : Int32) : Prop := inN i (e + 1) ∧ inN n (e + 1 - u32 i)
def f_shift (g : GS) (t i o j n : Int32) : Int32 × GS := if ¬ (inN t 6 ∧ inN o 6) then (-1, g) else if gS g (u32 t) = 9 ∨ gS g (u32 o) = 9 then (-11, g) else if gS g (u32 t) ≠ gS g (u32 o) then (-12, g) else if ¬ (shP (gE g (u32 t)) i n ∧ shP (gE g (u32 o)) j n) then (-13, g) else
  (n, (gM g, gK g, gJ g, gC g, gN g, gT g, gS g, gE g, updN (gX g) (u32 o) (fun c => if u32 j ≤ c ∧ c < u32 j + u32 n then gX g (u32 t) (u32 i + (c - u32 j)) else gX g (u32 o) c), gR g, gV g))
def judF (M : Nat → Nat) (X : Nat → Int64) (e : Nat) (i : Int32) : Nat → Nat → Nat
  | 0, _ => 99
  | m + 1, k => if ¬ (inN i (e - k)) then 100 + k else if X (u32 i + k) = kL (M (32 + 10 * k + 5)) then judF M X e i m (k + 1) else k
def f_judge (g : GS) (t i : Int32) : Int32 × GS := if ¬ inN t 6 then (-1, g) else if gS g (u32 t) ≠ 9 ∧ gS g (u32 t) ≠ 1 then (-12, g) else (l5 (judF (gM g) (gX g (u32 t)) (gE g (u32 t)) i (gM g 92) 0), g)
theorem cs9_lt {x : Nat} (h : x = 9 ∨ x < 5) : cs9 x < 0 ↔ x = 9 := by
  unfold cs9
  split
  · next z => exact ⟨fun _ => z, fun _ => by decide +kernel⟩
  · next z => exact ⟨fun y => absurd y (nI_pos (by omega)), fun y => absurd y z⟩

set_option maxRecDepth 100000 in
set_option maxHeartbeats 4000000 in
theorem s_X9_isTape {G : GT} {q : S_} (v : Int32)  : Spec G 2 yX9_isTape cX9_isTape 1 (some .boolean) [.int v] q (PI fun r2 q3 => r2 = bP (inN v 6) ∧ q3 = q) := by
  refine Spec.intro RX9 (by decide) rfl (Nat.le_of_ble_eq_true rfl) [some (.int v)] rfl ?_
  intro X d hd C hR
  refine aw_iload_0 C dX9_isTape_0 ?_
  refine aw_iconst C dX9_isTape_1 k1_0 ?_
  refine aw_iconst C dX9_isTape_2 k1_5 ?_
  refine aw_cS3IE C (s_X9_isIn _ _ _) mf_X9_isIn ms_X9_isIn ml_X9_98 dX9_isTape_3 (by omega) (Nat.le_of_ble_eq_true rfl) ?_
  refine aw_iretZ C hR dX9_isTape_6 (by first | rfl | exact bP_nar) ?_
  exact ⟨bP_congr (inN_le (by omega)), rfl⟩

set_option maxRecDepth 100000 in
set_option maxHeartbeats 4000000 in
theorem s_X9_tape {G : GT} {q : S_} {g : GS} (t : Int32) (s : Int32) (n : Int32) (hg : GOK g) (hRR : RR q g) : Spec G 3 yX9_tape cX9_tape 5 (some .int) [rfn G 129, .int t, .int s, .int n] q (PI (PG (f_tape g t s n) q)) := by
  refine Spec.intro RX9 (by decide) rfl (Nat.le_of_ble_eq_true rfl) [some (rfn G 129), some (.int t), some (.int s), some (.int n), none] rfl ?_
  intro X d hd C hR
  obtain ⟨hW, hCy, h95, hN6, h94, hK, hT1, hT2, hTp, hR1, hSy, hSyJ⟩ := id hg
  obtain ⟨hM, hE, hNr, hKp, hIm, hTl, hTx, hTs, hAb, hBd, hRn, hTr⟩ := id hRR
  have hc := hW.c
  have hG : Goo (gM g) (gC g) := fun k hk => hCy k (by omega)
  refine aw_iload_1 C dX9_tape_0 ?_
  refine aw_cS1IE C (s_X9_isTape _) mf_X9_isTape ms_X9_isTape ml_X9_294 dX9_tape_1 (by omega) (Nat.le_of_ble_eq_true rfl) ?_
  refine aw_if_ne_b C dX9_tape_4 (tgt := 9) (by decide)  (fun c_4 => ?_) (fun c_4 => ?_)
  · obtain ⟨t, ht1, ht2, rfl⟩ := inN_of c_4
    have hut : u32 (nI t) = t := nI_clamp ht2
    have htp := hTp t ht1
    have hts := hTs t ht1
    refine aw_iload_2 C dX9_tape_9 ?_
    refine aw_iconst C dX9_tape_10 k1_m1 ?_
    refine aw_iconst C dX9_tape_11 k1_4 ?_
    refine aw_cS3IE C (s_X9_isIn _ _ _) mf_X9_isIn ms_X9_isIn ml_X9_98 dX9_tape_12 (by omega) (Nat.le_of_ble_eq_true rfl) ?_
    refine aw_if_eq_b C dX9_tape_15 (tgt := 28) (by decide)  (fun c_15 => ?_) (fun c_15 => ?_)
    · skip
      refine aw_bipush C dX9_tape_28 k2_m2 ?_
      refine aw_iretI C hR dX9_tape_30 ?_
      exact PG.here hRR rfl (by unfold f_tape; rw [if_neg (fun z => z c_4), if_pos (Or.inl (fun z => c_15 ((isInM (by omega)).mpr z)))])
    · have c15 := (isInM (by omega)).mp c_15
      refine aw_iload_2 C dX9_tape_18 ?_
      refine aw_if_lt C dX9_tape_19 (tgt := 31) (by decide)  (fun c_19 => ?_) (fun c_19 => ?_)
      · have hs9 : s = -1 := c15.resolve_right (fun z => z.1 c_19)
        refine aw_iload_2 C dX9_tape_31 ?_
        refine aw_if_lt C dX9_tape_32 (tgt := 42) (by decide)  (fun c_32 => ?_) (fun c_32 => absurd c_32 (fun z => z c_19))
        refine aw_aload_0 C dX9_tape_42 rfl ?_
        refine aw_g9_32 C dX9_tape_43 fl_X9_77 ?_
        refine aw_iload_1 C dX9_tape_46 ?_
        refine aw_iload_2 C dX9_tape_47 ?_
        refine aw_iast C _ dX9_tape_48 sh_151 rfl (by omega) ?_
        refine aw_aload_0 C dX9_tape_49 rfl ?_
        refine aw_g9_33 C dX9_tape_50 fl_X9_80 ?_
        refine aw_iload_1 C dX9_tape_53 ?_
        refine aw_iload_2 C dX9_tape_54 ?_
        refine aw_if_ge C dX9_tape_55 (tgt := 62) (by decide)  (fun c_55 => absurd c_55 (fun z => Int32.not_le.mpr c_19 z)) (fun c_55 => ?_)
        refine aw_iconst C dX9_tape_58 k1_0 ?_
        refine aw_goto C dX9_tape_59 (tgt := 63) (by decide) ?_
        refine aw_iast C _ dX9_tape_63 sh_152 rfl (by omega) ?_
        generalize hq1 : sI (sI q 151 t s) 152 t (nI 0) = q1
        refine aw_iconst C dX9_tape_64 k1_0 ?_
        refine aw_istore_4 C dX9_tape_65 (by decide) (fun w h => by cases h <;> rfl) ?_
        have L67 : ∀ (n2 k : Nat), k ≤ 60 → 60 < k + n2 → AW X G (zrL q1 153 (60 * t) k) 67 [some (rfn G 129), some (.int (nI t)), some (.int s), some (.int n), some (.int (nI k))] [] := by
          refine nat_loop (fun k h1 h2 => by omega) (fun n2 ih k h1 h2 => ?_)
          refine aw_iload_4 C dX9_tape_67 ?_
          refine aw_bipush C dX9_tape_69 k2_60 ?_
          refine aw_icmp_ge_n C dX9_tape_71 (tgt := 93) (by decide) (by omega) (by omega) (fun c_71 => ?_) (fun c_71 => ?_)
          · skip
            refine aw_iconst C dX9_tape_93 k1_1 ?_
            refine aw_iretI C hR dX9_tape_94 ?_
            obtain rfl : k = 60 := by omega
            refine PG.tp (S2 := updN (gS g) t (sN s)) (E2 := updN (gE g) t 0) (X2 := updN (gX g) t (fun _ => 0)) hRR rfl ?_ (fun k j hk => ?_) (fun k j hk => ?_) (fun a ha => ⟨?_, ?_, fun j hj => ?_⟩)
            · unfold f_tape
              rw [if_neg (fun z => z c_4), if_neg (fun z => z.elim (fun y => y c15) (fun y => y.1 hs9)), if_neg (fun y => y.1 hs9), hut, if_pos hs9]
            · rw [gI_zrL, ← hq1, gI_sI, if_neg (by omega), gI_sI, if_neg (by omega)]
            · rw [gL_zrL, if_neg (by omega), ← hq1]
              rfl
            · rw [gI_zrL, ← hq1, gI_sI, if_neg (by omega), gI_sI]
              by_cases e : a = t
              · rw [if_pos ⟨rfl, e⟩, e, updN_eq]
                exact sN_cs c15
              · rw [if_neg (fun z => e z.2), updN_ne e]
                exact (hTs a ha).1
            · rw [gI_zrL, ← hq1, gI_sI]
              by_cases e : a = t
              · rw [if_pos ⟨rfl, e⟩, e, updN_eq]
              · rw [if_neg (fun z => e z.2), updN_ne e, gI_sI, if_neg (by omega)]
                exact (hTs a ha).2.1
            · rw [gL_zrL]
              by_cases e : a = t
              · rw [e, if_pos ⟨rfl, by omega, by omega⟩, updN_eq]
              · rw [if_neg (by omega), updN_ne e, ← hq1]
                exact (hTs a ha).2.2 j hj
          · skip
            refine aw_aload_0 C dX9_tape_74 rfl ?_
            refine aw_g9_34 C dX9_tape_75 fl_X9_83 ?_
            refine aw_bipush C dX9_tape_78 k2_60 ?_
            refine aw_iload_1 C dX9_tape_80 ?_
            refine aw_imul_n C dX9_tape_81  ?_
            refine aw_iload_4 C dX9_tape_82 ?_
            refine aw_iadd_n C dX9_tape_84  ?_
            refine aw_lconst C dX9_tape_85 rfl ?_
            refine aw_last C _ dX9_tape_86 sh_153 rfl (by omega) ?_
            refine aw_iinc_4 C dX9_tape_87 (by decide) (fun w h => by cases h <;> rfl) (show _ + Int32.ofInt 1 = _ by rw [k1_1, nI_add]) ?_
            refine aw_goto C dX9_tape_90 (tgt := 67) (by decide) ?_
            rw [show Int64.ofNat ((0 : Fin 2) : Nat) = 0 from rfl, zrL_s]
            exact ih (k + 1) (by omega) (by omega)
        have h67 := L67 61 0 (by omega) (by omega)
        rw [zrL_0] at h67
        exact h67
      · have hs9 : s ≠ -1 := fun z => c_19 (by rw [z]; decide +kernel)
        refine aw_iload_3 C dX9_tape_22 ?_
        refine aw_bipush C dX9_tape_23 k2_60 ?_
        refine aw_icmp_le C dX9_tape_25 (tgt := 31) (by decide)  (fun c_25 => ?_) (fun c_25 => ?_)
        · skip
          refine aw_iload_2 C dX9_tape_31 ?_
          refine aw_if_lt C dX9_tape_32 (tgt := 42) (by decide)  (fun c_32 => absurd c_32 c_19) (fun c_32 => ?_)
          refine aw_iload_3 C dX9_tape_35 ?_
          refine aw_if_ge C dX9_tape_36 (tgt := 42) (by decide)  (fun c_36 => ?_) (fun c_36 => ?_)
          · skip
            refine aw_aload_0 C dX9_tape_42 rfl ?_
            refine aw_g9_32 C dX9_tape_43 fl_X9_77 ?_
            refine aw_iload_1 C dX9_tape_46 ?_
            refine aw_iload_2 C dX9_tape_47 ?_
            refine aw_iast C _ dX9_tape_48 sh_151 rfl (by omega) ?_
            refine aw_aload_0 C dX9_tape_49 rfl ?_
            refine aw_g9_33 C dX9_tape_50 fl_X9_80 ?_
            refine aw_iload_1 C dX9_tape_53 ?_
            refine aw_iload_2 C dX9_tape_54 ?_
            refine aw_if_ge C dX9_tape_55 (tgt := 62) (by decide)  (fun c_55 => ?_) (fun c_55 => absurd c_55 (fun z => z (Int32.not_lt.mp c_19)))
            refine aw_iload_3 C dX9_tape_62 ?_
            refine aw_iast C _ dX9_tape_63 sh_152 rfl (by omega) ?_
            obtain ⟨n, hn1, rfl⟩ := nI_of (Int32.not_lt.mpr c_36)
            generalize hq1 : sI (sI q 151 t s) 152 t (nI n) = q1
            refine aw_iconst C dX9_tape_64 k1_0 ?_
            refine aw_istore_4 C dX9_tape_65 (by decide) (fun w h => by cases h <;> rfl) ?_
            have L67 : ∀ (n2 k : Nat), k ≤ 60 → 60 < k + n2 → AW X G (zrL q1 153 (60 * t) k) 67 [some (rfn G 129), some (.int (nI t)), some (.int s), some (.int (nI n)), some (.int (nI k))] [] := by
              refine nat_loop (fun k h1 h2 => by omega) (fun n2 ih k h1 h2 => ?_)
              refine aw_iload_4 C dX9_tape_67 ?_
              refine aw_bipush C dX9_tape_69 k2_60 ?_
              refine aw_icmp_ge_n C dX9_tape_71 (tgt := 93) (by decide) (by omega) (by omega) (fun c_71 => ?_) (fun c_71 => ?_)
              · skip
                refine aw_iconst C dX9_tape_93 k1_1 ?_
                refine aw_iretI C hR dX9_tape_94 ?_
                obtain rfl : k = 60 := by omega
                refine PG.tp (S2 := updN (gS g) t (sN s)) (E2 := updN (gE g) t n) (X2 := updN (gX g) t (fun _ => 0)) hRR rfl ?_ (fun k j hk => ?_) (fun k j hk => ?_) (fun a ha => ⟨?_, ?_, fun j hj => ?_⟩)
                · unfold f_tape
                  rw [if_neg (fun z => z c_4), if_neg (fun z => z.elim (fun y => y c15) (fun y => y.2 c_25)), if_neg (fun y => Int32.not_lt.mpr c_36 y.2), hut, if_neg hs9, show u32 (nI n) = n from nI_clamp hn1]
                · rw [gI_zrL, ← hq1, gI_sI, if_neg (by omega), gI_sI, if_neg (by omega)]
                · rw [gL_zrL, if_neg (by omega), ← hq1]
                  rfl
                · rw [gI_zrL, ← hq1, gI_sI, if_neg (by omega), gI_sI]
                  by_cases e : a = t
                  · rw [if_pos ⟨rfl, e⟩, e, updN_eq]
                    exact sN_cs c15
                  · rw [if_neg (fun z => e z.2), updN_ne e]
                    exact (hTs a ha).1
                · rw [gI_zrL, ← hq1, gI_sI]
                  by_cases e : a = t
                  · rw [if_pos ⟨rfl, e⟩, e, updN_eq]
                  · rw [if_neg (fun z => e z.2), updN_ne e, gI_sI, if_neg (by omega)]
                    exact (hTs a ha).2.1
                · rw [gL_zrL]
                  by_cases e : a = t
                  · rw [e, if_pos ⟨rfl, by omega, by omega⟩, updN_eq]
                  · rw [if_neg (by omega), updN_ne e, ← hq1]
                    exact (hTs a ha).2.2 j hj
              · skip
                refine aw_aload_0 C dX9_tape_74 rfl ?_
                refine aw_g9_34 C dX9_tape_75 fl_X9_83 ?_
                refine aw_bipush C dX9_tape_78 k2_60 ?_
                refine aw_iload_1 C dX9_tape_80 ?_
                refine aw_imul_n C dX9_tape_81  ?_
                refine aw_iload_4 C dX9_tape_82 ?_
                refine aw_iadd_n C dX9_tape_84  ?_
                refine aw_lconst C dX9_tape_85 rfl ?_
                refine aw_last C _ dX9_tape_86 sh_153 rfl (by omega) ?_
                refine aw_iinc_4 C dX9_tape_87 (by decide) (fun w h => by cases h <;> rfl) (show _ + Int32.ofInt 1 = _ by rw [k1_1, nI_add]) ?_
                refine aw_goto C dX9_tape_90 (tgt := 67) (by decide) ?_
                rw [show Int64.ofNat ((0 : Fin 2) : Nat) = 0 from rfl, zrL_s]
                exact ih (k + 1) (by omega) (by omega)
            have h67 := L67 61 0 (by omega) (by omega)
            rw [zrL_0] at h67
            exact h67
          · skip
            refine aw_bipush C dX9_tape_39 k2_m14 ?_
            refine aw_iretI C hR dX9_tape_41 ?_
            exact PG.here hRR rfl (by unfold f_tape; rw [if_neg (fun z => z c_4), if_neg (fun z => z.elim (fun y => y c15) (fun y => y.2 c_25)), if_pos ⟨hs9, Int32.not_le.mp c_36⟩])
        · skip
          refine aw_bipush C dX9_tape_28 k2_m2 ?_
          refine aw_iretI C hR dX9_tape_30 ?_
          exact PG.here hRR rfl (by unfold f_tape; rw [if_neg (fun z => z c_4), if_pos (Or.inr ⟨hs9, c_25⟩)])
  · skip
    refine aw_iconst C dX9_tape_7 k1_m1 ?_
    refine aw_iretI C hR dX9_tape_8 ?_
    exact PG.here hRR rfl (by unfold f_tape; rw [if_pos c_4])
