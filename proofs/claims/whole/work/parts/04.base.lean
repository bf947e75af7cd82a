/-- the tables' words that hold in every method -/
def gtb : List Cond := lw_tbl.filter goodWord
theorem gtb_in {w : Cond} (h : w ∈ lw_tbl) (hg : goodWord w = true) : w ∈ gtb := List.mem_filter.mpr ⟨h, hg⟩
theorem gtb_lw {w : Cond} (h : w ∈ gtb) : w ∈ lw_tbl := (List.mem_filter.mp h).1
theorem gtb_good {w : Cond} (h : w ∈ gtb) : goodWord w = true := (List.mem_filter.mp h).2
theorem gtb_u {C : String} {T : u_T} {N : Nat} (h : ∀ w ∈ u_ws C T N, w ∈ lw_tbl) : ∀ w ∈ u_ws C T N, w ∈ gtb := by
  intro w hw
  refine gtb_in (h w hw) ?_
  obtain ⟨k, -, rfl⟩ := List.mem_map.mp hw
  unfold u_lay
  split <;> rfl
/-! THE WORLD OF BOTH SYSTEMS AS ONE STATE: 155 cells at fixed places behind the law's entry heap; every int place by (cell, place), every long place likewise. -/
abbrev S_ : Type := (Nat → Nat → Int32) × (Nat → Nat → Int64)
def gI (q : S_) (k j : Nat) : Int32 := q.1 k j
def gL (q : S_) (k j : Nat) : Int64 := q.2 k j
def sI (q : S_) (k j : Nat) (v : Int32) : S_ := (fun a c => if a = k ∧ c = j then v else q.1 a c, q.2)
def sL (q : S_) (k j : Nat) (v : Int64) : S_ := (q.1, fun a c => if a = k ∧ c = j then v else q.2 a c)
theorem gI_sI (q : S_) (k j : Nat) (v : Int32) (a c : Nat) : gI (sI q k j v) a c = if a = k ∧ c = j then v else gI q a c := rfl
theorem gL_sI (q : S_) (k j : Nat) (v : Int32) (a c : Nat) : gL (sI q k j v) a c = gL q a c := rfl
theorem gI_sL (q : S_) (k j : Nat) (v : Int64) (a c : Nat) : gI (sL q k j v) a c = gI q a c := rfl
theorem gL_sL (q : S_) (k j : Nat) (v : Int64) (a c : Nat) : gL (sL q k j v) a c = if a = k ∧ c = j then v else gL q a c := rfl
/-- the ghosts: places of classes and fields, array classes, where the cells begin, the law's entry state, addresses of constants -/
abbrev GT : Type := va_G × (Nat → ClassId) × Nat × State × (Nat → Nat)
def rfn (G : GT) (k : Nat) : Value := .ref (G.2.2.1 + k)
/-- a city's place, or 0: null -/
def rv (G : GT) (x : Int32) : Value := if x = 0 then .null else .ref (G.2.2.1 + x.toNatClampNeg)
/-- kinds of cells: (0, class), (1, length) int[], 2 boolean[], 3 char[], 4 long[], 5 Person[], 6 City[], 7 Tape[] -/
def shpW : List (Nat × Nat) := [(0, 7), (1, 8), (1, 8), (1, 8), (5, 6), (0, 3), (1, 5), (1, 5), (1, 5), (0, 3), (1, 8), (1, 8), (1, 8), (0, 3), (1, 8), (1, 8), (1, 8), (0, 2), (1, 4), (0, 2), (1, 4), (0, 2), (1, 4), (0, 2), (1, 4), (0, 2), (1, 4), (0, 2), (1, 4)]
def shpT : List (Nat × Nat) := (0, 8) :: shpW ++ shpW ++ shpW ++
  [(0, 6), (1, 1536), (1, 1536), (2, 1536), (1, 72), (0, 5), (1, 100), (6, 6), (7, 6), (0, 0), (1, 20),
   (0, 1), (1, 100), (1, 6), (0, 1), (1, 100), (1, 6), (0, 1), (1, 100), (1, 6), (0, 1), (1, 100), (1, 6), (0, 1), (1, 100), (1, 6), (0, 1), (1, 100), (1, 6),
   (0, 4), (4, 60), (0, 4), (4, 60), (0, 4), (4, 60), (0, 4), (4, 60), (0, 4), (4, 60), (0, 4), (4, 60),
   (0, 9), (1, 146), (1, 146), (1, 146), (1, 100), (1, 600), (1, 6), (1, 100), (1, 6), (3, 6), (3, 3), (3, 15), (1, 9), (2, 1536), (1, 1536), (1, 1536), (1, 1536), (1, 1536), (1, 12), (1, 7), (1, 21), (1, 20), (1, 6), (1, 6), (4, 360), (4, 60)]
def shp (k : Nat) : Nat × Nat := shpT.getD k (9, 0)
theorem shpT_len : shpT.length = 155 := by decide +kernel
theorem shp_lt {k a c : Nat} (h : shp k = (a, c)) (ha : a ≠ 9) : k < 155 := by
  rcases Nat.lt_or_ge k 155 with q | q
  · exact q
  · exfalso
    rw [shp, List.getD_eq_getElem?_getD, List.getElem?_eq_none (by rw [shpT_len]; exact q)] at h
    exact ha (by cases h; rfl)
/-- an object's fields, by its class -/
def flds (G : GT) (q : S_) (k : Nat) (ci : Nat) : List Value := match ci with
  | 0 => [rfn G (k + 1), .int (gI q k 1), .int (gI q k 2), .int (gI q k 3), .int (gI q k 4)]
  | 1 => [.int (gI q k 0), rfn G (k + 1), .int (gI q k 2), rfn G (k + 2)]
  | 2 => [.int (gI q k 0), .int (gI q k 1), .int (gI q k 2), .int (gI q k 3), .int (gI q k 4), .int (gI q k 5), rfn G (k + 1)]
  | 3 => [rfn G (k + 1), rfn G (k + 2), rfn G (k + 3), .int (gI q k 3)]
  | 4 => [.int (gI q k 0), rfn G (k + 1), .int (gI q k 2)]
  | 5 => [rfn G (k + 1), .int (gI q k 1), .int (gI q k 2), .int (gI q k 3)]
  | 6 => [rfn G (k + 1), rfn G (k + 2), rfn G (k + 3), rfn G (k + 4), .int (gI q k 4), .int (gI q k 5)]
  | 7 => [.int (gI q k 0), rfn G (k + 1), rfn G (k + 2), rfn G (k + 3), .int (gI q k 4), .int (gI q k 5), rfn G (k + 4), .int (gI q k 7), rv G (gI q k 8), rfn G (k + 5), rfn G (k + 9), rfn G (k + 13)]
  | 8 => [rfn G 1, rfn G 30, rfn G 59, rfn G 88, rfn G 93, rfn G 95, rfn G 96, rfn G 97, .int (gI q k 8), .int (gI q k 9)]
  | _ => [rfn G 130, rfn G 131, rfn G 132, .int (gI q k 3), rfn G 133, .int (gI q k 5), rfn G 134, rfn G 135, .int (gI q k 8), rfn G 136, .int (gI q k 10), .int (gI q k 11), .int (gI q k 12), .int (gI q k 13), .int (gI q k 14), .int (gI q k 15), rfn G 137, rfn G 138, rfn G 139, rfn G 140, rfn G 141, rfn G 142, rfn G 143, rfn G 144, rfn G 145, rfn G 146, .int (gI q k 26), rfn G 147, rfn G 148, rfn G 149, rfn G 150, .int (gI q k 31), rfn G 151, rfn G 152, rfn G 153, rfn G 154]
def cellAt (G : GT) (q : S_) (k : Nat) : va_E := match shp k with
  | (0, ci) => .inr (ci, flds G q k ci)
  | (1, n) => .inl (G.2.1 0, n, .inl (q.1 k))
  | (2, n) => .inl (G.2.1 1, n, .inl (q.1 k))
  | (3, n) => .inl (G.2.1 2, n, .inl (q.1 k))
  | (4, n) => .inl (G.2.1 3, n, .inr (.inl (q.2 k)))
  | (5, n) => .inl (G.2.1 4, n, .inr (.inr (.inr (.inr fun j => some (G.2.2.1 + (k + 13 + 2 * j))))))
  | (6, n) => .inl (G.2.1 5, n, .inr (.inr (.inr (.inr fun j => some (G.2.2.1 + (99 + 3 * j))))))
  | (7, n) => .inl (G.2.1 6, n, .inr (.inr (.inr (.inr fun j => some (G.2.2.1 + (117 + 2 * j))))))
  | _ => .inr (0, [])
def view (G : GT) (q : S_) : va_W := (List.range 155).map fun k => (G.2.2.1 + k, cellAt G q k)
def tysG (G : GT) : List (ClassId × FieldType) := [(G.2.1 0, .int), (G.2.1 1, .boolean), (G.2.1 2, .char), (G.2.1 3, .long), (G.2.1 4, .object RX2), (G.2.1 5, .object RX1), (G.2.1 6, .object RX4)]
theorem view_get (G : GT) (q : S_) {k : Nat} (h : k < 155) : (view G q)[k]? = some (G.2.2.1 + k, cellAt G q k) := by
  simp [view, h]
theorem view_out (G : GT) (q : S_) {k : Nat} {x : Nat × va_E} (h : (view G q)[k]? = some x) : k < 155 ∧ x = (G.2.2.1 + k, cellAt G q k) := by
  rcases Nat.lt_or_ge k 155 with l | l
  · rw [view_get G q l] at h
    exact ⟨l, (Option.some.inj h).symm⟩
  · rw [view, List.getElem?_eq_none (by simpa using l)] at h
    cases h
theorem view_set (G : GT) (q q' : S_) {k : Nat} {e : va_E} (he : cellAt G q' k = e) (ho : ∀ a, a ≠ k → cellAt G q' a = cellAt G q a) : (view G q).set k (G.2.2.1 + k, e) = view G q' := by
  apply List.ext_getElem?
  intro i
  rw [List.getElem?_set]
  by_cases h : k = i
  · subst h
    rw [if_pos rfl]
    by_cases hk : k < 155
    · rw [if_pos (by simpa [view] using hk), view_get G q' hk, he]
    · rw [if_neg (by simpa [view] using hk), view, List.getElem?_eq_none (by simpa using hk)]
  · rw [if_neg h]
    by_cases hk : i < 155
    · rw [view_get G q hk, view_get G q' hk, ho i (fun z => h z.symm)]
    · rw [view, view, List.getElem?_eq_none (by simpa using hk), List.getElem?_eq_none (by simpa using hk)]
theorem view_D (G : GT) (q : S_) : va_D (fun a => G.2.2.1 ≤ a) (view G q) := by
  refine ⟨fun i j p r hi hj h => ?_, fun k p hk => ?_⟩
  · obtain ⟨-, rfl⟩ := view_out G q hi
    obtain ⟨-, rfl⟩ := view_out G q hj
    simpa using h
  · obtain ⟨-, rfl⟩ := view_out G q hk
    exact Nat.le_add_right _ _
theorem sI_other {q : S_} {k j a : Nat} {v : Int32} (h : a ≠ k) : (sI q k j v).1 a = q.1 a := by
  funext c
  simp [sI, h]
theorem sL_other {q : S_} {k j a : Nat} {v : Int64} (h : a ≠ k) : (sL q k j v).2 a = q.2 a := by
  funext c
  simp [sL, h]
theorem flds_sI (G : GT) {q : S_} {k j a ci : Nat} {v : Int32} (h : a ≠ k) : flds G (sI q k j v) a ci = flds G q a ci := by
  unfold flds
  simp only [gI_sI, h, false_and, if_false]
theorem cellAt_sI (G : GT) {q : S_} {k j a : Nat} {v : Int32} (h : a ≠ k) : cellAt G (sI q k j v) a = cellAt G q a := by
  unfold cellAt
  rw [sI_other h]
  split <;> first | rfl | (rw [flds_sI G h])
theorem cellAt_sL (G : GT) {q : S_} {k j a : Nat} {v : Int64} (h : a ≠ k) : cellAt G (sL q k j v) a = cellAt G q a := by
  unfold cellAt
  rw [sL_other h]
  split <;> rfl
def scI : List Nat := [39, 55, 57, 76, 82]
def scT : List String := ["dark ", "bar ", "grant ", "pkvbnh", "<=>"]
def scL : List Nat := [5, 4, 6, 6, 3]
def scB : List (List Int32) := [[100, 97, 114, 107, 32], [98, 97, 114, 32], [103, 114, 97, 110, 116, 32], [112, 107, 118, 98, 110, 104], [60, 61, 62]]
def abv (j : Nat) : Int32 := [(-1 : Int32), 0, 0, 0, 1, 2, 3].getD j 0
def bds (j : Nat) : Int32 := [(10 : Int32), 11, 12, 0, 20, 0, 30, 0, 0, 0, 0, 40, 50, 51, 0, 0, 0, 60, 71, 70, 0].getD j 0
/-- what of the constants holds at a state and its heap -/
def Stt (G : GT) (U : State) (H : Heap) : Prop := (∀ i : Nat, i < 5 → vk_R RX5 (scI.getD i 0) (scT.getD i "") (G.2.2.2.2 i) U) ∧ vk_S 5 scL scB G.2.2.2.2 (fun i => G.2.2.2.2 (10 + i)) (fun a => G.2.2.1 ≤ a) U H ∧
  va_Z RX8 "ABOVE" "[I" (.ref (G.2.2.2.2 20)) (fun a => G.2.2.1 ≤ a) U H ∧ va_T .int (G.2.2.2.2 20) 7 (fun j => .int (abv j)) (fun a => G.2.2.1 ≤ a) U H ∧
  va_Z RX8 "BODIES" "[I" (.ref (G.2.2.2.2 21)) (fun a => G.2.2.1 ≤ a) U H ∧ va_T .int (G.2.2.2.2 21) 21 (fun j => .int (bds j)) (fun a => G.2.2.1 ≤ a) U H ∧
  va_Z "java/lang/String" "COMPACT_STRINGS" "Z" (.int 1) (fun a => G.2.2.1 ≤ a) U H ∧ va_Zq "jdk/internal/util/Preconditions" "SIOOBE_FORMATTER" "Ljava/util/function/BiFunction;" (fun a => G.2.2.1 ≤ a) U H ∧ va_Nw (.fieldLinkNest RX0 36 RX8 "BODIES" "[I" RX8) U ∧ va_Nw (.fieldLinkNest RX0 39 RX8 "ABOVE" "[I" RX8) U
def WdS (G : GT) (U : State) : Prop := G.2.2.2.1.WarmedH U.vm ∧ (∀ q : Nat, q < G.2.2.1 → U.heap[q]? = G.2.2.2.1.heap[q]?) ∧ G.2.2.1 = G.2.2.2.1.heap.size ∧ G.2.2.1 ≤ U.heap.size ∧ Stt G U U.heap
def WdG (G : GT) (q : S_) (U : State) : Prop := va_P G.1 vwCl (view G q) U.heap ∧ va_K G.1 vwCl (tysG G) U ∧ WdS G U
/-- locals by their places -/
def lvh (ls : Array Slot) (nL : Nat) (lv : List (Option Value)) : Prop := ls.size = nL ∧ lv_wf ls ∧ ∀ (i : Nat) (v : Value), lv[i]? = some (some v) → ls[i]? = some (.val v)
theorem lvh_at {ls : Array Slot} {nL : Nat} {lv : List (Option Value)} (h : lvh ls nL lv) {i : Nat} {v : Value} (hi : lv[i]? = some (some v)) : ls[i]? = some (.val v) := h.2.2 i v hi
def lvl (lv : List (Option Value)) : List (Nat × Value) := (List.range lv.length).filterMap fun i => (lv[i]?.join).map fun v => (i, v)
theorem lvl_mem {lv : List (Option Value)} {i : Nat} {v : Value} : (i, v) ∈ lvl lv ↔ lv[i]? = some (some v) := by
  unfold lvl
  rw [List.mem_filterMap]
  constructor
  · rintro ⟨a, -, h⟩
    obtain ⟨w, h1, h2⟩ := Option.map_eq_some_iff.mp h
    cases h2
    exact Option.join_eq_some_iff.mp h1
  · intro h
    exact ⟨i, List.mem_range.mpr (List.getElem?_eq_some_iff.mp h).1, by rw [h]; rfl⟩
theorem lvh_has {ls : Array Slot} {nL : Nat} {lv : List (Option Value)} (h : lvh ls nL lv) : lv_has ls nL (lvl lv) := ⟨h.1, h.2.1, fun q hq => h.2.2 q.1 q.2 (lvl_mem.mp hq)⟩
theorem lvh_store1 {ls' : Array Slot} {nL i : Nat} {v : Value} {lv : List (Option Value)} (hp : ∀ w, 0 < i → lv[i - 1]? = some (some w) → w.category = 1)
    (h : lv_has ls' nL ((i, v) :: (lvl lv).filter (fun q => !(q.1 == i) && !(q.1 + 1 == i && q.2.category == 2)))) : lvh ls' nL (lv.set i (some v)) := by
  refine ⟨h.1, h.2.1, fun a w ha => ?_⟩
  rw [List.getElem?_set] at ha
  by_cases e : i = a
  · subst e
    rw [if_pos rfl] at ha
    split at ha
    · cases ha
      exact h.2.2 _ List.mem_cons_self
    · cases ha
  · rw [if_neg e] at ha
    refine h.2.2 (a, w) (List.mem_cons_of_mem _ (List.mem_filter.mpr ⟨lvl_mem.mpr ha, ?_⟩))
    simp only [Bool.and_eq_true, Bool.not_eq_true', Bool.and_eq_false_iff, beq_eq_false_iff_ne, ne_eq]
    refine ⟨fun z => e z.symm, ?_⟩
    by_cases z : a + 1 = i
    · right
      have := hp w (by omega) (by rw [← z]; simpa using ha)
      omega
    · exact Or.inl z
theorem lvh_store2 {ls' : Array Slot} {nL i : Nat} {v : Value} {lv : List (Option Value)} (hp : ∀ w, 0 < i → lv[i - 1]? = some (some w) → w.category = 1)
    (h : lv_has ls' nL ((i, v) :: (lvl lv).filter (fun q => !(q.1 == i) && (!(q.1 == i + 1) && !(q.1 + 1 == i && q.2.category == 2))))) : lvh ls' nL ((lv.set i (some v)).set (i + 1) none) := by
  refine ⟨h.1, h.2.1, fun a w ha => ?_⟩
  rw [List.getElem?_set] at ha
  by_cases e2 : i + 1 = a
  · rw [if_pos e2] at ha
    split at ha <;> cases ha
  · rw [if_neg e2, List.getElem?_set] at ha
    by_cases e : i = a
    · subst e
      rw [if_pos rfl] at ha
      split at ha
      · cases ha
        exact h.2.2 _ List.mem_cons_self
      · cases ha
    · rw [if_neg e] at ha
      refine h.2.2 (a, w) (List.mem_cons_of_mem _ (List.mem_filter.mpr ⟨lvl_mem.mpr ha, ?_⟩))
      simp only [Bool.and_eq_true, Bool.not_eq_true', Bool.and_eq_false_iff, beq_eq_false_iff_ne, ne_eq]
      refine ⟨fun z => e z.symm, fun z => e2 z.symm, ?_⟩
      by_cases z : a + 1 = i
      · right
        have := hp w (by omega) (by rw [← z]; simpa using ha)
        omega
      · exact Or.inl z
abbrev CT : Type := Program × Launch × Env × Room × State × MethodId × Array Value × List Frame × Method × Code × Nat × Nat × (State → Prop)
def AW (X : CT) (G : GT) (q : S_) (pc : Nat) (lv : List (Option Value)) (st : List Value) : Prop := match X with
  | (p, l, e, R, s, m, args, below, meth, c, ce, sl, Q) => ∀ (H : Heap) (locs : List Loc) (ls : Array Slot), va_P G.1 vwCl (view G q) H → va_S (fun a => G.2.2.1 ≤ a) s.heap H locs → lvh ls c.maxLocals lv → W p l e R s m args below meth c H locs ce sl Q (F0 m pc ls st)
def Cx (X : CT) (G : GT) (cc : ByteArray) (own : String) (nL d : Nat) : Prop := match X with
  | (p, _, _, R, s, m, args, _, _, c, ce, sl, _) => p.tables.exec = Jvm.exec ∧ c.code = cc ∧ c.maxLocals = nL ∧ s.vm.findClass own = some m.cls ∧ (∀ w ∈ gtb, w.before args s = true) ∧ va_K G.1 vwCl (tysG G) s ∧ WdS G s ∧ d ≤ R.frames ∧ 64 * d ≤ R.locals ∧ ce ≤ R.cells ∧ sl ≤ R.slots
def QcG (G : GT) (Post : Option Value → S_ → Prop) : Array Value → State → Outcome → State → Prop := fun _ st o t => (∃ (v : Option Value) (q : S_), o = .returned v ∧ Post v q ∧ va_P G.1 vwCl (view G q) t.heap) ∧ va_F (fun a => G.2.2.1 ≤ a) st t
def Rt (X : CT) (G : GT) (ret : Option FieldType) (Post : Option Value → S_ → Prop) : Prop := match X with
  | (_, _, _, _, s, _, args, below, meth, _, ce, sl, Q) => ce = 0 ∧ sl = 0 ∧ meth.sig.returnType = ret ∧ meth.locks = false ∧ Q = MQ below (QcG G Post) args s 0 0 (fun a => G.2.2.1 ≤ a)
/-- a method's contract at depth n: from these arguments and this state it returns, with an answer and a state as told -/
def Spec (G : GT) (n : Nat) (y : MethodName) (cc : ByteArray) (nL : Nat) (ret : Option FieldType) (vs : List Value) (q : S_) (Post : Option Value → S_ → Prop) : Prop :=
  ∀ (l : Launch) (d : Nat), n ≤ d → Met l y (.code y cc nL ret :: gtb) { frames := d, cells := 0, slots := 0, locals := 64 * d } (va_Pc vs (WdG G q)) (QcG G Post) 0 0 (fun a => G.2.2.1 ≤ a)
/-- what a call needs of a method, once for all calls -/
def MF (y : MethodName) (cc : ByteArray) (nL : Nat) (ret : Option FieldType) (np : Nat) : Prop := Cond.code y cc nL ret ∈ gtb ∧ Cond.initialized y.cls ∈ gtb ∧ (y.cls ≠ "java/lang/invoke/MethodHandle" ∧ y.cls ≠ "java/lang/invoke/VarHandle" ∧ (parseMethodDescriptor y.desc).map (fun d => d.parameters.length) = some np) ∧ nL ≤ 40
def MV (y : MethodName) : Prop := Cond.instanceMethod y ∈ gtb ∧ Cond.selects y.cls y y ∈ gtb
