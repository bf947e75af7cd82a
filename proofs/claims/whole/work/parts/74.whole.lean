/-! THE CLAIM OUT OF ONE WALK OF THE LAW'S BODY. Your part is whole_start (and what it stands on); all else here is the same for every law, but numbers. -/
def R_law : String := "BridgePairsLaw"
def lw_P (b : Addr) (xs : List Int32) (args : Array Value) (s : State) : Prop := args = #[.ref b] ∧ s.IntsAt b xs ∧ xs.length ≤ 3072 ∧ (Jvm.Cond.and given_1 narrow_1).before args s = true
def lw_Q (_ : Array Value) (s : State) (o : Outcome) (t : State) : Prop := o = .returned (some (.int 1)) ∧ Framed s o t [] 600000 7302250
def lw_Z (below : List Frame) (a : Array Value) (s : State) : State → Prop := fun t => ∃ o, t.status = .running ∧ Ended t below o ∧ lw_Q a s o t
/-- the law's own end, with 1 on the stack, nothing written that was there before, its room as the claim has it -/
theorem lw_ret {p : Program} {l : Launch} {e : Env} {s : State} {m : MethodId} {below : List Frame} {meth : Method} {c : Code} {b : Nat} (hx : p.tables.exec = Jvm.exec) (hb : c.code = code) (hr : meth.sig.returnType = ret) (hlocks : meth.locks = false) {pc : Nat} {H : Heap} {ls : Array Slot} (hdg : decode code pc = .ok (.ireturn, 1)) : W p l e room_1 s m #[Value.ref b] below meth c H [] 600000 7302250 (lw_Z below #[Value.ref b] s) (F0 m pc ls [.int 1]) := by
  intro T hT X
  obtain ⟨fs, hret, hrun, hended, hW, hframe⟩ := X.leave (v := some (.int 1)) (hlocks := hlocks) (fun h => by rw [hr] at h; cases h)
  have hmeth' : T.vm.method? m = some meth := X.method'
  refine ⟨T.setFrames fs, ?_, .returned (some (.int 1)), hrun, hended, rfl, ⟨_, rfl⟩, hW, hframe⟩
  jvm_step X.here [X.here.top, hx, hb, hdg, hmeth', hr, ret, narrow_b1]
  (try refine ⟨rfl, ?_⟩); (try refine ⟨rfl, ?_⟩)
  first | (intro acts; rw [hret _ acts rfl rfl rfl]) | rw [hret _ _ rfl rfl rfl]
  exact Steps.refl _
/-- what holds at the law's entry: the machine, the code, the tables' words (any of lw_tbl by 'hts w (by decide +kernel)'), the script of L ints xs at the cell b, what the Statement gives of the start (any of its parts by flat_of_before) -/
def lw_At (p : Program) (s : State) (m : MethodId) (meth : Method) (c : Code) (b L : Nat) (xs : Nat → Int32) : Prop :=
  p.tables.exec = Jvm.exec ∧ c.code = code ∧ meth.sig.returnType = ret ∧ c.maxLocals = 4 ∧ s.vm.findClass R_law = some m.cls ∧ (∀ w ∈ lw_tbl, w.before #[Value.ref b] s = true) ∧ va_X b L xs s s.heap ∧ b < s.heap.size ∧ meth.locks = false ∧ (Jvm.Cond.and given_1 narrow_1).before #[Value.ref b] s = true

theorem kw_aw {p : Program} {l : Launch} {e : Env} {R : Room} {s : State} {m : MethodId} {args : Array Value} {below : List Frame} {meth : Method} {c : Code} {ce sl ce9 sl9 c1 s1 pc : Nat} {Q : State → Prop} {G : GT} {lv : List (Option Value)} {st : List Value} (h1 : c1 = ce) (h2 : s1 = sl) (h3 : ce = 155) (h : AW (p, l, e, R, s, m, args, below, meth, c, ce, sl, Q) G kq0 pc lv st) : KW (p, l, e, R, s, m, args, below, meth, c, ce9, sl9, Q) G 0 (fun k => cellAt G kq0 k) c1 s1 pc lv st := by
  subst h1; subst h2; subst h3
  intro H locs ls hP hS hl
  exact h H locs ls hP hS hl
set_option maxRecDepth 100000 in
set_option maxHeartbeats 4000000 in
/-- THE LAW, from its entry -/
theorem whole_start {p : Program} {e : Env} {s : State} {m : MethodId} {below : List Frame} {meth : Method} {c : Code} (l : Launch) (hflags : l.flags = flags0) {b L : Nat} {xs : Nat → Int32} (hL : L ≤ 3072) (C0 : lw_At p s m meth c b L xs) : W p l e room_1 s m #[Value.ref b] below meth c s.heap [] 0 0 (lw_Z below #[Value.ref b] s) (entryFrame m ([Value.ref b] : List Value).toArray 4) := by
  obtain ⟨hx, hb, hr, hml, hown, hts, hX, hbl, hlocks, hgv⟩ := id C0
  obtain ⟨D, cA, hK0⟩ := st_K hts
  obtain ⟨ad, hSt⟩ := st_S hts hgv
  have hN : KN s := st_KN hts
  have htg : ∀ w ∈ gtb, w.before #[Value.ref b] s = true := fun w hw => hts w (gtb_lw hw)
  obtain ⟨G, hG⟩ : ∃ G : GT, G = (D, cA, s.heap.size, s, ad) := ⟨_, rfl⟩
  have hK : va_K G.1 vwCl (tysG G) s := by
    rw [hG]
    exact hK0 _ _ _
  have hW : WdS G s := by
    rw [hG]
    exact ⟨State.WarmedH.refl s, fun _ _ => rfl, rfl, Nat.le_refl _, hSt D cA⟩
  have hz : s.heap.size = G.2.2.1 + 0 := by
    rw [hG]
    rfl
  have hzb : ¬ G.2.2.1 ≤ b := by
    rw [hG]
    exact Nat.not_le.mpr hbl
  have hzs : ∀ q : Nat, G.2.2.1 ≤ q → s.heap.size ≤ q := fun q h => by
    rw [hz]
    exact h
  clear hG
  have C : KC (p, l, e, room_1, s, m, #[Value.ref b], below, meth, c, 0, 0, lw_Z below #[Value.ref b] s) G cL_law RL 4 40 0 155 15915 := ⟨hx, hb, hml, hown, htg, hK, hN, hz, Nat.le_of_ble_eq_true rfl, Nat.le_of_ble_eq_true rfl, Nat.le_of_ble_eq_true rfl, Nat.le_of_ble_eq_true rfl⟩
  have C2 : Cx (p, l, e, room_1, s, m, #[Value.ref b], below, meth, c, 155, 15915, lw_Z below #[Value.ref b] s) G cL_law RL 4 40 := ⟨hx, hb, hml, hown, htg, hK, hW, Nat.le_of_ble_eq_true rfl, Nat.le_of_ble_eq_true rfl, Nat.le_of_ble_eq_true rfl, Nat.le_of_ble_eq_true rfl⟩
  have L2 : LX (p, l, e, room_1, s, m, #[Value.ref b], below, meth, c, 155, 15915, lw_Z below #[Value.ref b] s) G b L xs := ⟨hX, hbl, hzb, hL⟩
  have hEnd : ∀ (q : S_) (i : Nat), AW (p, l, e, room_1, s, m, #[Value.ref b], below, meth, c, 155, 15915, lw_Z below #[Value.ref b] s) G q 1385 [some (.ref b), some (rfn G 0), some (rfn G 129), some (.int (nI i))] [] := by
    intro q i
    refine aw_iconst C2 dL_law_1385 (show Int32.ofInt 1 = 1 by decide +kernel) ?_
    intro H locs ls hP hS hl
    refine W.widen (k := 600000) (n := 7302250) (Nat.le_of_ble_eq_true rfl) (Nat.le_of_ble_eq_true rfl) ?_
    exact va_forget (fun q hq => hzs _ (hS.2.2 q hq)) (lw_ret hx hb hr hlocks dL_law_1386)
  have hl0 := lv_entry ([.ref b]) (n := 4) (Nat.le_of_ble_eq_true rfl)
  rw [lg_entry_eq]
  have key : KW (p, l, e, room_1, s, m, #[Value.ref b], below, meth, c, 0, 0, lw_Z below #[Value.ref b] s) G 0 (fun k => cellAt G kq0 k) 0 0 0 [some (.ref b), none, none, none] [] := by
    refine kw_new C 0 8 (by omega) rfl (gtb_u inX8) tyX8 tyX8_ok kl_L_7 kn_X8 ky_X8 kd8 kd8_ok (by omega) (by omega) dL_law_0 ?_
    refine kw_dup C dL_law_3 rfl ?_
    refine kw_call C kX8_init mf_X8_init rfl kx_X8 (Or.inl ml_L_9) rfl dL_law_4 (by omega) (by omega) (by omega) (by omega) (by intro b h1 h2; rfl) rfl (Nat.le_of_ble_eq_true rfl) ?_
    refine kw_astore_1 C dL_law_7 (by decide) (fun w h => by cases h <;> rfl) rfl ?_
    refine kw_new C 129 9 (by omega) rfl (gtb_u inX9) tyX9 tyX9_ok kl_L_10 kn_X9 ky_X9 kd9 kd9_ok (by omega) (by omega) dL_law_8 ?_
    refine kw_dup C dL_law_11 rfl ?_
    refine kw_call C kX9_init mf_X9_init rfl kx_X9 (Or.inl ml_L_12) rfl dL_law_12 (by omega) (by omega) (by omega) (by omega) (by intro b h1 h2; rfl) rfl (Nat.le_of_ble_eq_true rfl) ?_
    refine kw_astore_2 C dL_law_15 (by decide) (fun w h => by cases h <;> rfl) rfl ?_
    refine kw_iconst C dL_law_16 k1_0 ?_
    refine kw_istore_3 C dL_law_17 (by decide) (fun w h => by cases h <;> rfl) ?_
    refine kw_aw (ce := 155) (sl := 15915) rfl rfl rfl ?_
    exact law_loop C2 (by decide) L2 hEnd (L + 1) 0 kq0 gs0 (by omega) (by omega) gs0_OK gs0_CC gs0_RR
  refine key s.heap [] _ (fun k q h => ?_) va_S.rf ⟨by rw [hml]; exact hl0.1, hl0.2.1, fun i v hi => hl0.2.2 (i, v) ?_⟩
  · obtain ⟨h0, -⟩ := kpw_out h
    exact absurd h0 (Nat.not_lt_zero _)
  · have h2 : (lve [Value.ref b])[i]? = some (some v) := by
      match i, hi with
      | 0, hi => exact hi
      | 1, hi => cases hi
      | 2, hi => cases hi
      | 3, hi => cases hi
      | i + 4, hi => simp at hi
    have := lve_args [Value.ref b] i v h2 0
    rwa [Nat.zero_add] at this
