/-! CLAUSES -/
def SCk (k j : Nat) : Prop := k = 129 ∧ 11 ≤ j ∧ j ≤ 15
theorem Fr.pc {q q2 : S_} (h : Fr SPk q q2) : Fr SCk q q2 := h.mono (fun k j z => ⟨z.1, z.2.1, by have := z.2.2; omega⟩)
def bgN (k : Nat) : Nat := [103, 98, 100].getD k 0
def wdN (k : Nat) : Nat := [103, 114, 97, 110, 116, 98, 97, 114, 0, 0, 100, 97, 114, 107, 0].getD k 0
def wdL (k : Nat) : List Nat := if k = 0 then [103, 114, 97, 110, 116] else if k = 1 then [98, 97, 114] else [100, 97, 114, 107]
def wk (x : Nat) : Nat := if x = 103 then 0 else if x = 98 then 1 else if x = 100 then 2 else 3
theorem wk_iff {x k : Nat} (hk : k < 3) : x = bgN k ↔ wk x = k := by
  have : k = 0 ∨ k = 1 ∨ k = 2 := by omega
  unfold wk bgN
  rcases this with rfl | rfl | rfl <;> simp only [List.getD_cons_zero, List.getD_cons_succ] <;> (split <;> try split) <;> (try split) <;> omega
theorem wk_1000 {x : Nat} (h : wk x < 3) : x < 128 := by
  unfold wk at h
  revert h
  repeat' split
  all_goals omega
def tkl (ch : Nat → Nat) : List Nat → Bool → Nat → Bool × Nat
  | [], w, p => (w, p)
  | c :: l, w, p => tkl ch l (tk ch w p c).1 (tk ch w p c).2
/-- grant 0, bar 1, dark 2: well, place, codes, DARK -/
def clW (ch : Nat → Nat) (p : Nat) : Bool × Nat := tk ch (tkl ch (wdL (wk (ch p))) true p).1 (tkl ch (wdL (wk (ch p))) true p).2 32
def clN (ch : Nat → Nat) (p : Nat) : Bool × Nat × Nat := numM ch (clW ch p).1 (clW ch p).2
def clE (ch : Nat → Nat) (p : Nat) : Bool × Nat × List Nat := if (tk ch (clN ch p).1 (clN ch p).2.1 32).1 = true then pr ch 1000 3 (tk ch (clN ch p).1 (clN ch p).2.1 32).2 0 else (false, (tk ch (clN ch p).1 (clN ch p).2.1 32).2, [])
def clM (ch : Nat → Nat) (p dk : Nat) : Bool × Nat × List Nat × Nat := if wk (ch p) = 3 then (false, p, [], dk)
  else if wk (ch p) = 2 then ((clN ch p).1, (clN ch p).2.1, [], (clN ch p).2.2)
  else ((clE ch p).1, (clE ch p).2.1, (clE ch p).2.2 ++ [2000 + 100 * wk (ch p) + (clN ch p).2.2], dk)
/-- SUM by codes -/
def gb (c : Nat) (st : List Bool) : Int32 := if st.headD false = true then (if c < 2100 then nI (c - 2000) else -nI (c - 2100)) else nI 0
def evS (nm : Nat → Int32) : List Nat → List Bool → Int32 → Int32
  | [], _, s => s
  | c :: cs, st, s => if c < 2000 ∨ 3000 < c then evS nm cs (ev1 nm c st) s else evS nm cs [] (s + gb c st)
def isEx (c : Nat) : Prop := c < 1800 ∨ 3000 < c
theorem evS_ex (nm : Nat → Int32) : ∀ (a b : List Nat) (st : List Bool) (s : Int32), (∀ c ∈ a, isEx c) → evS nm (a ++ b) st s = evS nm b (ev nm a st) s := by
  intro a
  induction a with
  | nil => intro b st s h; rfl
  | cons c a ih =>
    intro b st s h
    show (if c < 2000 ∨ 3000 < c then evS nm (a ++ b) (ev1 nm c st) s else _) = _
    rw [if_pos (show c < 2000 ∨ 3000 < c from (h c List.mem_cons_self).imp (fun z => by omega) id), ih b _ s (fun x hx => h x (List.mem_cons_of_mem _ hx))]
    rfl
theorem pr_ex (ch : Nat → Nat) : ∀ (F m p wi : Nat), ∀ c ∈ (pr ch F m p wi).2.2, isEx c := by
  intro F
  induction F with
  | zero => intro m p wi c hc; cases hc
  | succ F ih =>
    intro m p wi
    have app : ∀ (a b : List Nat), (∀ c ∈ a, isEx c) → (∀ c ∈ b, isEx c) → ∀ c ∈ a ++ b, isEx c := fun a b ha hb c hc => (List.mem_append.mp hc).elim (ha c) (hb c)
    have one : ∀ x, isEx x → ∀ c ∈ [x], isEx c := fun x hx c hc => by rw [List.mem_singleton.mp hc]; exact hx
    have con : ∀ (x : Nat) (b : List Nat), isEx x → (∀ c ∈ b, isEx c) → ∀ c ∈ x :: b, isEx c := fun x b hx hb c hc => (List.mem_cons.mp hc).elim (fun e => e ▸ hx) (hb c)
    match m with
    | 0 =>
      rw [pr_e0]
      split
      · exact app _ _ (ih _ _ _) (one _ (Or.inr (by decide)))
      · split
        · exact ih _ _ _
        · exact one _ (Or.inl tst_code)
    | 1 =>
      rw [pr_e1]
      split
      · exact app _ _ (ih _ _ _) (ih _ _ _)
      · exact ih _ _ _
    | 2 =>
      rw [pr_e2]
      split
      · exact app _ _ (ih _ _ _) (con _ _ (Or.inr (by decide)) (ih _ _ _))
      · exact app _ _ (ih _ _ _) (one _ (Or.inr (by decide)))
    | 3 =>
      rw [pr_e3]
      split
      · exact app _ _ (ih _ _ _) (ih _ _ _)
      · exact ih _ _ _
    | m + 4 =>
      rw [pr_e4]
      split
      · exact app _ _ (ih _ _ _) (con _ _ (Or.inr (by decide)) (ih _ _ _))
      · exact app _ _ (ih _ _ _) (one _ (Or.inr (by decide)))
theorem clE_ex (ch : Nat → Nat) (p : Nat) : ∀ c ∈ (clE ch p).2.2, isEx c := by
  unfold clE
  split
  · exact pr_ex _ _ _ _ _
  · intro c hc
    cases hc
def BgC (q : S_) : Prop := (∀ j, j < 3 → gI q 139 j = nI (bgN j)) ∧ ∀ j, j < 15 → gI q 140 j = nI (wdN j)
theorem Fr.bg {q q2 : S_} (h : Fr SPk q q2) (hL : BgC q) : BgC q2 := ⟨fun j hj => (h.2 139 j (by unfold SPk; omega)).trans (hL.1 j hj), fun j hj => (h.2 140 j (by unfold SPk; omega)).trans (hL.2 j hj)⟩
def nmk (ch : Nat → Nat) (p k : Nat) : Int32 := if wk (ch p) < k then nI (wk (ch p)) else -1
theorem nmk_t {ch : Nat → Nat} {p k : Nat} (hk : k < 3) (h : true = true ∧ ch p = bgN k) : nI k = nmk ch p (k + 1) := by
  have := (wk_iff hk).mp h.2
  unfold nmk
  rw [if_pos (by omega), this]
theorem nmk_f {ch : Nat → Nat} {p k : Nat} (hk : k < 3) (h : ¬ (true = true ∧ ch p = bgN k)) : nmk ch p k = nmk ch p (k + 1) := by
  unfold nmk
  by_cases z : wk (ch p) < k
  · rw [if_pos z, if_pos (by omega)]
  · rw [if_neg z, if_neg]
    intro z2
    exact h ⟨rfl, (wk_iff hk).mpr (by omega)⟩
theorem bgN_lt {k : Nat} (h : k < 3) : bgN k < 128 := by
  have key : ∀ k, k < 3 → bgN k < 128 := by decide
  exact key k h
theorem wdN_lt {k : Nat} (h : k < 15) : wdN k < 128 := by
  have key : ∀ k, k < 15 → wdN k < 128 := by decide
  exact key k h
/-- the word so far: its first j signs taken -/
def tkw (ch : Nat → Nat) (k : Nat) (p j : Nat) : Bool × Nat := tkl ch ((wdL k).take j) true p
theorem tkl_snoc (ch : Nat → Nat) : ∀ (l : List Nat) (c : Nat) (w : Bool) (p : Nat), tkl ch (l ++ [c]) w p = tk ch (tkl ch l w p).1 (tkl ch l w p).2 c := by
  intro l
  induction l with
  | nil => intro c w p; rfl
  | cons x l ih => intro c w p; exact ih c _ _
theorem tkw_s {ch : Nat → Nat} {k p j : Nat} (hk : k < 3) (hj : j < 5) (h : ¬ wdN (5 * k + j) = 0) : tkw ch k p (j + 1) = tk ch (tkw ch k p j).1 (tkw ch k p j).2 (wdN (5 * k + j)) := by
  have key : ∀ k, k < 3 → ∀ j, j < 5 → wdN (5 * k + j) ≠ 0 → (wdL k).take (j + 1) = (wdL k).take j ++ [wdN (5 * k + j)] := by decide
  unfold tkw
  rw [key k hk j hj h, tkl_snoc]
theorem tkw_e {ch : Nat → Nat} {k p j : Nat} (hk : k < 3) (hj : j ≤ 5) (h : j = 5 ∨ wdN (5 * k + j) = 0) : tkw ch k p j = tkl ch (wdL k) true p := by
  have key : ∀ k, k < 3 → ∀ j, j < 6 → (j = 5 ∨ wdN (5 * k + j) = 0) → (wdL k).take j = wdL k := by decide
  unfold tkw
  rw [key k hk j (by omega) h]
theorem evS_cl {nm : Nat → Int32} {cs : List Nat} {b : Bool} {k v : Nat} {s : Int32} (hk : k < 2) (hv : v < 100) (hx : ∀ c ∈ cs, isEx c) (h : ∀ st, ev nm cs st = b :: st) : evS nm (cs ++ [2000 + 100 * k + v]) [] s = s + (if b = true then (if k = 0 then nI v else -nI v) else nI 0) := by
  rw [evS_ex _ _ _ _ _ hx, h]
  show (if _ then _ else _) = _
  rw [if_neg (by omega)]
  show s + gb _ _ = _
  have : k = 0 ∨ k = 1 := by omega
  cases b with
  | false => rfl
  | true =>
    show s + (if 2000 + 100 * k + v < 2100 then nI (2000 + 100 * k + v - 2000) else -nI (2000 + 100 * k + v - 2100)) = s + (if k = 0 then nI v else -nI v)
    rcases this with rfl | rfl
    · rw [if_pos (by omega), if_pos rfl, show 2000 + 100 * 0 + v - 2000 = v by omega]
    · rw [if_neg (by omega), if_neg (by omega), show 2000 + 100 * 1 + v - 2100 = v by omega]

set_option maxRecDepth 100000 in
set_option maxHeartbeats 4000000 in
theorem s_X9_clause {G : GT} {q : S_} {ch : Nat → Nat} {n p wi dk : Nat}  (hP : PS q ch n p true wi) (hL : LetC q) (hB : BgC q) (hdk : gI q 129 15 = nI dk) : Spec G 19 yX9_clause cX9_clause 4 none [rfn G 129] q (PV (fun q3 => (∃ w2, PS q3 ch n (clM ch p dk).2.1 (clM ch p dk).1 w2) ∧ Fr SCk q q3 ∧ gI q3 129 15 = nI (clM ch p dk).2.2.2 ∧ ((clM ch p dk).1 = true → gI q3 129 14 = evS (gI q 137) (clM ch p dk).2.2.1 [] (gI q 129 14)))) := by
  refine Spec.intro RX9 (by decide) rfl (Nat.le_of_ble_eq_true rfl) [some (rfn G 129), none, none, none] rfl ?_
  intro X d hd C hR
  have hb := hP.bd
  refine aw_iconst C dX9_clause_0 k1_m1 ?_
  refine aw_istore_1 C dX9_clause_1 (by decide) (fun w h => by cases h <;> rfl) ?_
  refine aw_iconst C dX9_clause_2 k1_0 ?_
  refine aw_istore_2 C dX9_clause_3 (by decide) (fun w h => by cases h <;> rfl) ?_
  have L4 : ∀ (n2 k : Nat), k ≤ 3 → 3 < k + n2 → AW X G (q) 4 [some (rfn G 129), some (.int (nmk ch p k)), some (.int (nI k)), none] [] := by
    refine nat_loop (fun k h1 h2 => by omega) (fun n2 ih k h1 h2 => ?_)
    refine aw_iload_2 C dX9_clause_4 ?_
    refine aw_iconst C dX9_clause_5 k1_3 ?_
    refine aw_icmp_ge_n C dX9_clause_6 (tgt := 34) (by decide) (by omega) (by omega) (fun c_6 => ?_) (fun c_6 => ?_)
    · obtain rfl : k = 3 := by omega
      refine aw_iload_1 C dX9_clause_34 ?_
      refine aw_iconst C dX9_clause_35 k1_m1 ?_
      refine aw_icmp_ne C dX9_clause_36 (tgt := 45) (by decide)  (fun c_36 => ?_) (fun c_36 => ?_)
      · have hwk : wk (ch p) < 3 := Decidable.byContradiction (fun z => c_36 (if_neg z))
        rw [show nmk ch p 3 = nI (wk (ch p)) from if_pos hwk]
        refine aw_iconst C dX9_clause_45 k1_0 ?_
        refine aw_istore_2 C dX9_clause_46 (by decide) (fun w h => by cases h <;> rfl) ?_
        have L47 : ∀ (n2 j : Nat) (q1 : S_), j ≤ 5 → 5 < j + n2 → PS q1 ch n (tkw ch (wk (ch p)) p j).2 (tkw ch (wk (ch p)) p j).1 wi → Fr SPk q q1 → AW X G (q1) 47 [some (rfn G 129), some (.int (nI (wk (ch p)))), some (.int (nI j)), none] [] := by
          refine nat_loop (fun j q1 h1 h2 hP1 hF1 => by omega) (fun n2 ih2 j q1 h1 h2 hP1 hF1 => ?_)
          have hb1 := hP1.bd
          refine aw_iload_2 C dX9_clause_47 ?_
          refine aw_iconst C dX9_clause_48 k1_5 ?_
          refine aw_icmp_ge_n C dX9_clause_49 (tgt := 85) (by decide) (by omega) (by omega) (fun c_49 => ?_) (fun c_49 => ?_)
          · skip
            refine aw_aload_0 C dX9_clause_85 rfl ?_
            refine aw_bipush C dX9_clause_86 k2_32 ?_
            have hend := tkw_e (ch := ch) (p := p) hwk h1 (Or.inl (by omega))
            rw [hend] at hP1
            refine aw_cV1V C (s_X9_takes 32 hP1 (by omega)) mf_X9_takes mv_X9_takes (sh_129) rfl ml_X9_170 dX9_clause_88 (by omega) (Nat.le_of_ble_eq_true rfl) (fun q_88 h_88 => ?_)
            obtain ⟨hP3, hF3⟩ := h_88
            rw [show tk ch (tkl ch (wdL (wk (ch p))) true p).1 (tkl ch (wdL (wk (ch p))) true p).2 32 = clW ch p from rfl] at hP3
            refine aw_aload_0 C dX9_clause_91 rfl ?_
            refine aw_cV0I C (s_X9_number hP3) mf_X9_number mv_X9_number (sh_129) rfl ml_X9_174 dX9_clause_92 (by omega) (Nat.le_of_ble_eq_true rfl) (fun r_92 q_92 h_92 => ?_)
            obtain ⟨rfl, hP4, hF4⟩ := h_92
            rw [show numM ch (clW ch p).1 (clW ch p).2 = clN ch p from rfl] at hP4
            rw [show numM ch (clW ch p).1 (clW ch p).2 = clN ch p from rfl]
            refine aw_istore_2 C dX9_clause_95 (by decide) (fun w h => by cases h <;> rfl) ?_
            refine aw_iload_1 C dX9_clause_96 ?_
            refine aw_iconst C dX9_clause_97 k1_2 ?_
            refine aw_icmp_ne_n C dX9_clause_98 (tgt := 107) (by decide) (by omega) (by omega) (fun c_98 => ?_) (fun c_98 => ?_)
            · skip
              refine aw_aload_0 C dX9_clause_107 rfl ?_
              refine aw_bipush C dX9_clause_108 k2_32 ?_
              refine aw_cV1V C (s_X9_takes 32 hP4 (by omega)) mf_X9_takes mv_X9_takes (sh_129) rfl ml_X9_170 dX9_clause_110 (by omega) (Nat.le_of_ble_eq_true rfl) (fun q_110 h_110 => ?_)
              obtain ⟨hP5, hF5⟩ := h_110
              have hP6 := hP5.wi (w2 := 0) (by omega)
              refine aw_aload_0 C dX9_clause_113 rfl ?_
              refine aw_iconst C dX9_clause_114 k1_0 ?_
              refine aw_p9_13 C dX9_clause_115 fl_X9_178 ?_
              refine aw_aload_0 C dX9_clause_118 rfl ?_
              refine aw_cV0I C (s_X9_any hP6 ((((((hF1.tr hF3).tr hF4).tr hF5).put (by unfold SPk; omega))).let' hL)) mf_X9_any mv_X9_any (sh_129) rfl ml_X9_184 dX9_clause_119 (by unfold dfx; omega) (Nat.le_of_ble_eq_true rfl) (fun r_119 q_119 h_119 => ?_)
              obtain ⟨hP7, hF7, h01, hv⟩ := h_119
              rw [show (if (tk ch (clN ch p).1 (clN ch p).2.1 32).1 = true then pr ch 1000 3 (tk ch (clN ch p).1 (clN ch p).2.1 32).2 0 else (false, (tk ch (clN ch p).1 (clN ch p).2.1 32).2, [])) = clE ch p from rfl] at hP7 hv
              refine aw_istore_3 C dX9_clause_122 (by decide) (fun w h => by cases h <;> rfl) ?_
              refine aw_aload_0 C dX9_clause_123 rfl ?_
              refine aw_dup C dX9_clause_124 rfl ?_
              refine aw_g9_14 C rfl dX9_clause_125 fl_X9_196 ?_
              refine aw_iload_3 C dX9_clause_128 ?_
              refine aw_if_ne C dX9_clause_129 (tgt := 136) (by decide)  (fun c_129 => ?_) (fun c_129 => ?_)
              · skip
                refine aw_iload_1 C dX9_clause_136 ?_
                refine aw_if_ne_n C dX9_clause_137 (tgt := 144) (by decide) (by omega) (fun c_137 => ?_) (fun c_137 => ?_)
                · skip
                  refine aw_iload_2 C dX9_clause_144 ?_
                  refine aw_ineg C dX9_clause_145 ?_
                  refine aw_iadd C dX9_clause_146  ?_
                  refine aw_p9_14 C dX9_clause_147 fl_X9_196 ?_
                  refine aw_vretV C hR dX9_clause_150 ?_
                  have hwk2 : wk (ch p) < 2 := by omega
                  have hz : clM ch p dk = ((clE ch p).1, (clE ch p).2.1, (clE ch p).2.2 ++ [2000 + 100 * wk (ch p) + (clN ch p).2.2], dk) := by unfold clM; rw [if_neg (by omega), if_neg (by omega)]
                  rw [hz]
                  have hFF := (((hF1.tr hF3).tr hF4).tr hF5).tr ((Fr.set (S := SPk) (by unfold SPk; omega)).tr hF7)
                  refine ⟨⟨0, hP7.oth (Or.inl rfl)⟩, hFF.pc.put (by unfold SCk; omega), by rw [gI_sI, if_neg (by omega)]; exact (hFF.2 129 15 (by unfold SPk; omega)).trans hdk, fun ht => ?_⟩
                  obtain ⟨b, hb1, rfl⟩ := hv ht
                  rw [show gI (sI q_110 129 13 (nI 0)) 137 = gI q 137 from funext fun j => ((((hF1.tr hF3).tr hF4).tr hF5).put (by unfold SPk; omega)).2 137 j (by unfold SPk; omega)] at hb1
                  show gI _ 129 14 = evS (gI q 137) ((clE ch p).2.2 ++ [2000 + 100 * wk (ch p) + (clN ch p).2.2]) [] (gI q 129 14)
                  rw [gI_sI, if_pos ⟨rfl, rfl⟩, evS_cl hwk2 (show (clN ch p).2.2 < 100 from numM_lt _ _ _) (clE_ex ch p) hb1, hFF.2 129 14 (by unfold SPk; omega)]
                  rw [bP_b1 c_129, if_pos rfl, if_neg c_137]
                · skip
                  refine aw_iload_2 C dX9_clause_140 ?_
                  refine aw_goto C dX9_clause_141 (tgt := 146) (by decide) ?_
                  refine aw_iadd C dX9_clause_146  ?_
                  refine aw_p9_14 C dX9_clause_147 fl_X9_196 ?_
                  refine aw_vretV C hR dX9_clause_150 ?_
                  have hwk2 : wk (ch p) < 2 := by omega
                  have hz : clM ch p dk = ((clE ch p).1, (clE ch p).2.1, (clE ch p).2.2 ++ [2000 + 100 * wk (ch p) + (clN ch p).2.2], dk) := by unfold clM; rw [if_neg (by omega), if_neg (by omega)]
                  rw [hz]
                  have hFF := (((hF1.tr hF3).tr hF4).tr hF5).tr ((Fr.set (S := SPk) (by unfold SPk; omega)).tr hF7)
                  refine ⟨⟨0, hP7.oth (Or.inl rfl)⟩, hFF.pc.put (by unfold SCk; omega), by rw [gI_sI, if_neg (by omega)]; exact (hFF.2 129 15 (by unfold SPk; omega)).trans hdk, fun ht => ?_⟩
                  obtain ⟨b, hb1, rfl⟩ := hv ht
                  rw [show gI (sI q_110 129 13 (nI 0)) 137 = gI q 137 from funext fun j => ((((hF1.tr hF3).tr hF4).tr hF5).put (by unfold SPk; omega)).2 137 j (by unfold SPk; omega)] at hb1
                  show gI _ 129 14 = evS (gI q 137) ((clE ch p).2.2 ++ [2000 + 100 * wk (ch p) + (clN ch p).2.2]) [] (gI q 129 14)
                  rw [gI_sI, if_pos ⟨rfl, rfl⟩, evS_cl hwk2 (show (clN ch p).2.2 < 100 from numM_lt _ _ _) (clE_ex ch p) hb1, hFF.2 129 14 (by unfold SPk; omega)]
                  rw [bP_b1 c_129, if_pos rfl, if_pos c_137]
              · skip
                refine aw_iconst C dX9_clause_132 k1_0 ?_
                refine aw_goto C dX9_clause_133 (tgt := 146) (by decide) ?_
                refine aw_iadd C dX9_clause_146  ?_
                refine aw_p9_14 C dX9_clause_147 fl_X9_196 ?_
                refine aw_vretV C hR dX9_clause_150 ?_
                have hwk2 : wk (ch p) < 2 := by omega
                have hz : clM ch p dk = ((clE ch p).1, (clE ch p).2.1, (clE ch p).2.2 ++ [2000 + 100 * wk (ch p) + (clN ch p).2.2], dk) := by unfold clM; rw [if_neg (by omega), if_neg (by omega)]
                rw [hz]
                have hFF := (((hF1.tr hF3).tr hF4).tr hF5).tr ((Fr.set (S := SPk) (by unfold SPk; omega)).tr hF7)
                refine ⟨⟨0, hP7.oth (Or.inl rfl)⟩, hFF.pc.put (by unfold SCk; omega), by rw [gI_sI, if_neg (by omega)]; exact (hFF.2 129 15 (by unfold SPk; omega)).trans hdk, fun ht => ?_⟩
                obtain ⟨b, hb1, rfl⟩ := hv ht
                rw [show gI (sI q_110 129 13 (nI 0)) 137 = gI q 137 from funext fun j => ((((hF1.tr hF3).tr hF4).tr hF5).put (by unfold SPk; omega)).2 137 j (by unfold SPk; omega)] at hb1
                show gI _ 129 14 = evS (gI q 137) ((clE ch p).2.2 ++ [2000 + 100 * wk (ch p) + (clN ch p).2.2]) [] (gI q 129 14)
                rw [gI_sI, if_pos ⟨rfl, rfl⟩, evS_cl hwk2 (show (clN ch p).2.2 < 100 from numM_lt _ _ _) (clE_ex ch p) hb1, hFF.2 129 14 (by unfold SPk; omega)]
                rw [bP_b c_129]
                rfl
            · skip
              refine aw_aload_0 C dX9_clause_101 rfl ?_
              refine aw_iload_2 C dX9_clause_102 ?_
              refine aw_p9_15 C dX9_clause_103 fl_X9_193 ?_
              refine aw_vretV C hR dX9_clause_106 ?_
              rw [show clM ch p dk = ((clN ch p).1, (clN ch p).2.1, [], (clN ch p).2.2) from by unfold clM; rw [if_neg (by omega), if_pos c_98]]
              exact ⟨⟨wi, hP4.oth (Or.inr rfl)⟩, (((hF1.tr hF3).tr hF4).pc.put (by unfold SCk; omega)), by rw [gI_sI, if_pos ⟨rfl, rfl⟩], fun z => by rw [gI_sI, if_neg (by omega)]; exact ((hF1.tr hF3).tr hF4).2 129 14 (by unfold SPk; omega)⟩
          · skip
            refine aw_aload_0 C dX9_clause_52 rfl ?_
            refine aw_g9_19 C dX9_clause_53 fl_X9_43 ?_
            refine aw_iconst C dX9_clause_56 k1_5 ?_
            refine aw_iload_1 C dX9_clause_57 ?_
            refine aw_imul_n C dX9_clause_58  ?_
            refine aw_iload_2 C dX9_clause_59 ?_
            refine aw_iadd_n C dX9_clause_60  ?_
            refine aw_cald C _ ((hF1.bg hB).2 (5 * wk (ch p) + j) (by omega)) dX9_clause_61 sh_140 rfl (by omega) ?_
            refine aw_if_eq C dX9_clause_62 (tgt := 85) (by decide)  (fun c_62 => ?_) (fun c_62 => ?_)
            · skip
              refine aw_aload_0 C dX9_clause_85 rfl ?_
              refine aw_bipush C dX9_clause_86 k2_32 ?_
              have hend := tkw_e (ch := ch) (p := p) hwk h1 (Or.inr ((nI_eq (b := 0) (by have := wdN_lt (k := 5 * wk (ch p) + j) (by omega); omega) (by decide)).mp c_62))
              rw [hend] at hP1
              refine aw_cV1V C (s_X9_takes 32 hP1 (by omega)) mf_X9_takes mv_X9_takes (sh_129) rfl ml_X9_170 dX9_clause_88 (by omega) (Nat.le_of_ble_eq_true rfl) (fun q_88 h_88 => ?_)
              obtain ⟨hP3, hF3⟩ := h_88
              rw [show tk ch (tkl ch (wdL (wk (ch p))) true p).1 (tkl ch (wdL (wk (ch p))) true p).2 32 = clW ch p from rfl] at hP3
              refine aw_aload_0 C dX9_clause_91 rfl ?_
              refine aw_cV0I C (s_X9_number hP3) mf_X9_number mv_X9_number (sh_129) rfl ml_X9_174 dX9_clause_92 (by omega) (Nat.le_of_ble_eq_true rfl) (fun r_92 q_92 h_92 => ?_)
              obtain ⟨rfl, hP4, hF4⟩ := h_92
              rw [show numM ch (clW ch p).1 (clW ch p).2 = clN ch p from rfl] at hP4
              rw [show numM ch (clW ch p).1 (clW ch p).2 = clN ch p from rfl]
              refine aw_istore_2 C dX9_clause_95 (by decide) (fun w h => by cases h <;> rfl) ?_
              refine aw_iload_1 C dX9_clause_96 ?_
              refine aw_iconst C dX9_clause_97 k1_2 ?_
              refine aw_icmp_ne_n C dX9_clause_98 (tgt := 107) (by decide) (by omega) (by omega) (fun c_98 => ?_) (fun c_98 => ?_)
              · skip
                refine aw_aload_0 C dX9_clause_107 rfl ?_
                refine aw_bipush C dX9_clause_108 k2_32 ?_
                refine aw_cV1V C (s_X9_takes 32 hP4 (by omega)) mf_X9_takes mv_X9_takes (sh_129) rfl ml_X9_170 dX9_clause_110 (by omega) (Nat.le_of_ble_eq_true rfl) (fun q_110 h_110 => ?_)
                obtain ⟨hP5, hF5⟩ := h_110
                have hP6 := hP5.wi (w2 := 0) (by omega)
                refine aw_aload_0 C dX9_clause_113 rfl ?_
                refine aw_iconst C dX9_clause_114 k1_0 ?_
                refine aw_p9_13 C dX9_clause_115 fl_X9_178 ?_
                refine aw_aload_0 C dX9_clause_118 rfl ?_
                refine aw_cV0I C (s_X9_any hP6 ((((((hF1.tr hF3).tr hF4).tr hF5).put (by unfold SPk; omega))).let' hL)) mf_X9_any mv_X9_any (sh_129) rfl ml_X9_184 dX9_clause_119 (by unfold dfx; omega) (Nat.le_of_ble_eq_true rfl) (fun r_119 q_119 h_119 => ?_)
                obtain ⟨hP7, hF7, h01, hv⟩ := h_119
                rw [show (if (tk ch (clN ch p).1 (clN ch p).2.1 32).1 = true then pr ch 1000 3 (tk ch (clN ch p).1 (clN ch p).2.1 32).2 0 else (false, (tk ch (clN ch p).1 (clN ch p).2.1 32).2, [])) = clE ch p from rfl] at hP7 hv
                refine aw_istore_3 C dX9_clause_122 (by decide) (fun w h => by cases h <;> rfl) ?_
                refine aw_aload_0 C dX9_clause_123 rfl ?_
                refine aw_dup C dX9_clause_124 rfl ?_
                refine aw_g9_14 C rfl dX9_clause_125 fl_X9_196 ?_
                refine aw_iload_3 C dX9_clause_128 ?_
                refine aw_if_ne C dX9_clause_129 (tgt := 136) (by decide)  (fun c_129 => ?_) (fun c_129 => ?_)
                · skip
                  refine aw_iload_1 C dX9_clause_136 ?_
                  refine aw_if_ne_n C dX9_clause_137 (tgt := 144) (by decide) (by omega) (fun c_137 => ?_) (fun c_137 => ?_)
                  · skip
                    refine aw_iload_2 C dX9_clause_144 ?_
                    refine aw_ineg C dX9_clause_145 ?_
                    refine aw_iadd C dX9_clause_146  ?_
                    refine aw_p9_14 C dX9_clause_147 fl_X9_196 ?_
                    refine aw_vretV C hR dX9_clause_150 ?_
                    have hwk2 : wk (ch p) < 2 := by omega
                    have hz : clM ch p dk = ((clE ch p).1, (clE ch p).2.1, (clE ch p).2.2 ++ [2000 + 100 * wk (ch p) + (clN ch p).2.2], dk) := by unfold clM; rw [if_neg (by omega), if_neg (by omega)]
                    rw [hz]
                    have hFF := (((hF1.tr hF3).tr hF4).tr hF5).tr ((Fr.set (S := SPk) (by unfold SPk; omega)).tr hF7)
                    refine ⟨⟨0, hP7.oth (Or.inl rfl)⟩, hFF.pc.put (by unfold SCk; omega), by rw [gI_sI, if_neg (by omega)]; exact (hFF.2 129 15 (by unfold SPk; omega)).trans hdk, fun ht => ?_⟩
                    obtain ⟨b, hb1, rfl⟩ := hv ht
                    rw [show gI (sI q_110 129 13 (nI 0)) 137 = gI q 137 from funext fun j => ((((hF1.tr hF3).tr hF4).tr hF5).put (by unfold SPk; omega)).2 137 j (by unfold SPk; omega)] at hb1
                    show gI _ 129 14 = evS (gI q 137) ((clE ch p).2.2 ++ [2000 + 100 * wk (ch p) + (clN ch p).2.2]) [] (gI q 129 14)
                    rw [gI_sI, if_pos ⟨rfl, rfl⟩, evS_cl hwk2 (show (clN ch p).2.2 < 100 from numM_lt _ _ _) (clE_ex ch p) hb1, hFF.2 129 14 (by unfold SPk; omega)]
                    rw [bP_b1 c_129, if_pos rfl, if_neg c_137]
                  · skip
                    refine aw_iload_2 C dX9_clause_140 ?_
                    refine aw_goto C dX9_clause_141 (tgt := 146) (by decide) ?_
                    refine aw_iadd C dX9_clause_146  ?_
                    refine aw_p9_14 C dX9_clause_147 fl_X9_196 ?_
                    refine aw_vretV C hR dX9_clause_150 ?_
                    have hwk2 : wk (ch p) < 2 := by omega
                    have hz : clM ch p dk = ((clE ch p).1, (clE ch p).2.1, (clE ch p).2.2 ++ [2000 + 100 * wk (ch p) + (clN ch p).2.2], dk) := by unfold clM; rw [if_neg (by omega), if_neg (by omega)]
                    rw [hz]
                    have hFF := (((hF1.tr hF3).tr hF4).tr hF5).tr ((Fr.set (S := SPk) (by unfold SPk; omega)).tr hF7)
                    refine ⟨⟨0, hP7.oth (Or.inl rfl)⟩, hFF.pc.put (by unfold SCk; omega), by rw [gI_sI, if_neg (by omega)]; exact (hFF.2 129 15 (by unfold SPk; omega)).trans hdk, fun ht => ?_⟩
                    obtain ⟨b, hb1, rfl⟩ := hv ht
                    rw [show gI (sI q_110 129 13 (nI 0)) 137 = gI q 137 from funext fun j => ((((hF1.tr hF3).tr hF4).tr hF5).put (by unfold SPk; omega)).2 137 j (by unfold SPk; omega)] at hb1
                    show gI _ 129 14 = evS (gI q 137) ((clE ch p).2.2 ++ [2000 + 100 * wk (ch p) + (clN ch p).2.2]) [] (gI q 129 14)
                    rw [gI_sI, if_pos ⟨rfl, rfl⟩, evS_cl hwk2 (show (clN ch p).2.2 < 100 from numM_lt _ _ _) (clE_ex ch p) hb1, hFF.2 129 14 (by unfold SPk; omega)]
                    rw [bP_b1 c_129, if_pos rfl, if_pos c_137]
                · skip
                  refine aw_iconst C dX9_clause_132 k1_0 ?_
                  refine aw_goto C dX9_clause_133 (tgt := 146) (by decide) ?_
                  refine aw_iadd C dX9_clause_146  ?_
                  refine aw_p9_14 C dX9_clause_147 fl_X9_196 ?_
                  refine aw_vretV C hR dX9_clause_150 ?_
                  have hwk2 : wk (ch p) < 2 := by omega
                  have hz : clM ch p dk = ((clE ch p).1, (clE ch p).2.1, (clE ch p).2.2 ++ [2000 + 100 * wk (ch p) + (clN ch p).2.2], dk) := by unfold clM; rw [if_neg (by omega), if_neg (by omega)]
                  rw [hz]
                  have hFF := (((hF1.tr hF3).tr hF4).tr hF5).tr ((Fr.set (S := SPk) (by unfold SPk; omega)).tr hF7)
                  refine ⟨⟨0, hP7.oth (Or.inl rfl)⟩, hFF.pc.put (by unfold SCk; omega), by rw [gI_sI, if_neg (by omega)]; exact (hFF.2 129 15 (by unfold SPk; omega)).trans hdk, fun ht => ?_⟩
                  obtain ⟨b, hb1, rfl⟩ := hv ht
                  rw [show gI (sI q_110 129 13 (nI 0)) 137 = gI q 137 from funext fun j => ((((hF1.tr hF3).tr hF4).tr hF5).put (by unfold SPk; omega)).2 137 j (by unfold SPk; omega)] at hb1
                  show gI _ 129 14 = evS (gI q 137) ((clE ch p).2.2 ++ [2000 + 100 * wk (ch p) + (clN ch p).2.2]) [] (gI q 129 14)
                  rw [gI_sI, if_pos ⟨rfl, rfl⟩, evS_cl hwk2 (show (clN ch p).2.2 < 100 from numM_lt _ _ _) (clE_ex ch p) hb1, hFF.2 129 14 (by unfold SPk; omega)]
                  rw [bP_b c_129]
                  rfl
              · skip
                refine aw_aload_0 C dX9_clause_101 rfl ?_
                refine aw_iload_2 C dX9_clause_102 ?_
                refine aw_p9_15 C dX9_clause_103 fl_X9_193 ?_
                refine aw_vretV C hR dX9_clause_106 ?_
                rw [show clM ch p dk = ((clN ch p).1, (clN ch p).2.1, [], (clN ch p).2.2) from by unfold clM; rw [if_neg (by omega), if_pos c_98]]
                exact ⟨⟨wi, hP4.oth (Or.inr rfl)⟩, (((hF1.tr hF3).tr hF4).pc.put (by unfold SCk; omega)), by rw [gI_sI, if_pos ⟨rfl, rfl⟩], fun z => by rw [gI_sI, if_neg (by omega)]; exact ((hF1.tr hF3).tr hF4).2 129 14 (by unfold SPk; omega)⟩
            · skip
              refine aw_aload_0 C dX9_clause_65 rfl ?_
              refine aw_aload_0 C dX9_clause_66 rfl ?_
              refine aw_g9_19 C dX9_clause_67 fl_X9_43 ?_
              refine aw_iconst C dX9_clause_70 k1_5 ?_
              refine aw_iload_1 C dX9_clause_71 ?_
              refine aw_imul_n C dX9_clause_72  ?_
              refine aw_iload_2 C dX9_clause_73 ?_
              refine aw_iadd_n C dX9_clause_74  ?_
              refine aw_cald C _ ((hF1.bg hB).2 (5 * wk (ch p) + j) (by omega)) dX9_clause_75 sh_140 rfl (by omega) ?_
              refine aw_cV1V C (s_X9_takes (wdN (5 * wk (ch p) + j)) hP1 (wdN_lt (by omega))) mf_X9_takes mv_X9_takes (sh_129) rfl ml_X9_170 dX9_clause_76 (by omega) (Nat.le_of_ble_eq_true rfl) (fun q_76 h_76 => ?_)
              obtain ⟨hP2, hF2⟩ := h_76
              refine aw_iinc_2 C dX9_clause_79 (by decide) (fun w h => by cases h <;> rfl) (show _ + Int32.ofInt 1 = _ by rw [k1_1, nI_add]) ?_
              refine aw_goto C dX9_clause_82 (tgt := 47) (by decide) ?_
              rw [← tkw_s hwk (by omega) (fun z => c_62 (by rw [z]; rfl))] at hP2
              exact ih2 (j + 1) q_76 (by omega) (by omega) hP2 (hF1.tr hF2)
        exact L47 6 0 q (by omega) (by omega) hP Fr.rf
      · have hw3 : wk (ch p) = 3 := by
          have h3 : ¬ wk (ch p) < 3 := by
            intro z
            rw [show nmk ch p 3 = nI (wk (ch p)) from if_pos z] at c_36
            exact m1_ne (by omega) c_36
          unfold wk at h3 ⊢
          repeat' split
          all_goals simp_all
        refine aw_aload_0 C dX9_clause_39 rfl ?_
        refine aw_iconst C dX9_clause_40 k1_0 ?_
        refine aw_p9_12 C dX9_clause_41 rfl rfl fl_X9_154 ?_
        refine aw_vretV C hR dX9_clause_44 ?_
        rw [show clM ch p dk = (false, p, [], dk) from if_pos hw3]
        exact ⟨⟨wi, hP.bad⟩, Fr.set (by unfold SCk; omega), by rw [gI_sI, if_neg (by omega)]; exact hdk, fun z => by cases z⟩
    · skip
      refine aw_aload_0 C dX9_clause_9 rfl ?_
      refine aw_aload_0 C dX9_clause_10 rfl ?_
      refine aw_g9_18 C dX9_clause_11 fl_X9_40 ?_
      refine aw_iload_2 C dX9_clause_14 ?_
      refine aw_cald C _ (hB.1 k (by omega)) dX9_clause_15 sh_139 rfl (by omega) ?_
      refine aw_cV1IE C (s_X9_isAt (bgN k) hP (bgN_lt (by omega))) mf_X9_isAt mv_X9_isAt (sh_129) rfl ml_X9_163 dX9_clause_16 (by omega) (Nat.le_of_ble_eq_true rfl) ?_
      refine aw_if_eq_b C dX9_clause_19 (tgt := 26) (by decide)  (fun c_19 => ?_) (fun c_19 => ?_)
      · skip
        refine aw_iload_1 C dX9_clause_26 ?_
        refine aw_istore_1 C dX9_clause_27 (by decide) (fun w h => by cases h <;> rfl) ?_
        refine aw_iinc_2 C dX9_clause_28 (by decide) (fun w h => by cases h <;> rfl) (show _ + Int32.ofInt 1 = _ by rw [k1_1, nI_add]) ?_
        refine aw_goto C dX9_clause_31 (tgt := 4) (by decide) ?_
        rw [nmk_f (by omega) c_19]
        exact ih (k + 1) (by omega) (by omega)
      · skip
        refine aw_iload_2 C dX9_clause_22 ?_
        refine aw_goto C dX9_clause_23 (tgt := 27) (by decide) ?_
        refine aw_istore_1 C dX9_clause_27 (by decide) (fun w h => by cases h <;> rfl) ?_
        refine aw_iinc_2 C dX9_clause_28 (by decide) (fun w h => by cases h <;> rfl) (show _ + Int32.ofInt 1 = _ by rw [k1_1, nI_add]) ?_
        refine aw_goto C dX9_clause_31 (tgt := 4) (by decide) ?_
        rw [nmk_t (by omega) c_19]
        exact ih (k + 1) (by omega) (by omega)
  have L0 := L4 4 0 (by omega) (by omega)
  rw [show nmk ch p 0 = -1 from if_neg (Nat.not_lt_zero _)] at L0
  exact L0
