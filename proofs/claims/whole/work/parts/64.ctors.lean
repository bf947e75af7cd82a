/-! the first state of all -/
def kqR : Nat → Nat → Int32 := fun k => if k = 138 then (upd (upd (upd (upd (upd (upd (fun _ => 0) 0 (nI 112)) 1 (nI 107)) 2 (nI 118)) 3 (nI 98)) 4 (nI 110)) 5 (nI 104)) else if k = 139 then (upd (upd (upd (fun _ => 0) 0 (nI 103)) 1 (nI 98)) 2 (nI 100)) else if k = 140 then (upd (upd (upd (upd (upd (upd (upd (upd (upd (upd (upd (upd (upd (upd (upd (fun _ => 0) 0 (nI 103)) 1 (nI 114)) 2 (nI 97)) 3 (nI 110)) 4 (nI 116)) 5 (nI 98)) 6 (nI 97)) 7 (nI 114)) 8 (nI 0)) 9 (nI 0)) 10 (nI 100)) 11 (nI 97)) 12 (nI 114)) 13 (nI 107)) 14 (nI 0)) else if k = 148 then (upd (upd (upd (upd (upd (upd (upd (fun _ => 0) 0 (-1)) 1 (nI 0)) 2 (nI 0)) 3 (nI 0)) 4 (nI 1)) 5 (nI 2)) 6 (nI 3)) else if k = 149 then (upd (upd (upd (upd (upd (upd (upd (upd (upd (upd (upd (upd (upd (upd (upd (upd (upd (upd (upd (upd (upd (fun _ => 0) 0 (nI 10)) 1 (nI 11)) 2 (nI 12)) 3 (nI 0)) 4 (nI 20)) 5 (nI 0)) 6 (nI 30)) 7 (nI 0)) 8 (nI 0)) 9 (nI 0)) 10 (nI 0)) 11 (nI 40)) 12 (nI 50)) 13 (nI 51)) 14 (nI 0)) 15 (nI 0)) 16 (nI 0)) 17 (nI 60)) 18 (nI 71)) 19 (nI 70)) 20 (nI 0)) else if k = 151 then (upd (upd (upd (upd (upd (upd (fun _ => 0) 0 (-1)) 1 (-1)) 2 (-1)) 3 (-1)) 4 (-1)) 5 (-1)) else fun _ => 0
def kqC (k : Nat) : Nat → Int32 := if (shp k).1 = 0 then (if (shp k).2 = 2 then fun j => if j = 4 then -5 else 0 else if (shp k).2 = 4 then fun j => if j = 0 then -1 else 0 else fun _ => 0) else fun _ => 0
def kq0 : S_ := (fun k => if k < 129 then kqC k else kqR k, fun _ _ => 0)
theorem kq_lt {k : Nat} (h : k < 129) : kq0.1 k = kqC k := if_pos h
theorem kq_ge {k : Nat} (h : 129 ≤ k) : kq0.1 k = kqR k := if_neg (Nat.not_lt.mpr h)
theorem kq_ob {k ci : Nat} (h : k < 129) (hs : shp k = (0, ci)) (h2 : ci ≠ 2) (h4 : ci ≠ 4) : kq0.1 k = fun _ => 0 := by
  rw [kq_lt h, kqC, hs, if_pos rfl, if_neg h2, if_neg h4]
theorem kq_pe {k : Nat} (h : k < 129) (hs : shp k = (0, 2)) : kq0.1 k = fun j => if j = 4 then -5 else 0 := by
  rw [kq_lt h, kqC, hs, if_pos rfl, if_pos rfl]
theorem kq_ta {k : Nat} (h : k < 129) (hs : shp k = (0, 4)) : kq0.1 k = fun j => if j = 0 then -1 else 0 := by
  rw [kq_lt h, kqC, hs, if_pos rfl, if_neg (by decide), if_pos rfl]
theorem kq_ar {k a n : Nat} (h : k < 129) (hs : shp k = (a, n)) (ha : a ≠ 0) : kq0.1 k = fun _ => 0 := by
  rw [kq_lt h, kqC, hs, if_neg ha]
theorem kz_int {G : GT} {k n : Nat} (h : k < 129) (hs : shp k = (1, n)) : cellAt G kq0 k = .inl (G.2.1 0, n, .inl (fun _ => 0)) := by
  rw [cell_int hs, kq_ar h hs (by decide)]
theorem kz_boo {G : GT} {k n : Nat} (h : k < 129) (hs : shp k = (2, n)) : cellAt G kq0 k = .inl (G.2.1 1, n, .inl (fun _ => 0)) := by
  rw [cell_boo hs, kq_ar h hs (by decide)]
theorem kz_lon {G : GT} {k n : Nat} (hs : shp k = (4, n)) : cellAt G kq0 k = .inl (G.2.1 3, n, .inr (.inl (fun _ => 0))) := by
  rw [cell_lon hs]
  rfl
theorem kg {k j : Nat} {f : Nat → Int32} (h : kq0.1 k = f) : gI kq0 k j = f j := by
  show kq0.1 k j = f j
  rw [h]
/-- E below a, the first state from a on -/
def kfin (G : GT) (E : Nat → va_E) (a : Nat) : Nat → va_E := fun b => if b < a then E b else cellAt G kq0 b
theorem kfin_ge {G : GT} {E : Nat → va_E} {a b : Nat} (h : a ≤ b) : kfin G E a b = cellAt G kq0 b := if_neg (Nat.not_lt.mpr h)
theorem kfin_lt {G : GT} {E : Nat → va_E} {a b : Nat} (h : b < a) : kfin G E a b = E b := if_pos h
/-- a constructor's contract: the object at a, as new made it, comes to its first state, and all that it makes behind it -/
def KS (G : GT) (n : Nat) (y : MethodName) (cc : ByteArray) (nL : Nat) (vs : List Value) (a ci : Nat) (fs : List Value) (mc ms : Nat) : Prop :=
  ∀ (E : Nat → va_E) (l : Launch) (d : Nat), n ≤ d → Met l y (.code y cc nL none :: gtb) { frames := d, cells := mc, slots := ms, locals := 64 * d } (KP G (rfn G a :: vs) (kov E a (.inr (ci, fs))) (a + 1)) (KQ G (kfin G E a) (a + 1 + mc)) mc ms (fun a => G.2.2.1 ≤ a)
def KR (X : CT) (G : GT) (E : Nat → va_E) (n mc ms : Nat) : Prop := match X with
  | (_, _, _, _, s, _, args, below, meth, _, _, _, Q) => meth.sig.returnType = none ∧ meth.locks = false ∧ Q = MQ below (KQ G E n) args s mc ms (fun a => G.2.2.1 ≤ a)
theorem KS.intro {G : GT} {n : Nat} {y : MethodName} {cc : ByteArray} {nL : Nat} {vs : List Value} {a ci : Nat} {fs : List Value} {mc ms : Nat} (own : String) (hy : plainName y.cls = true) (ho : y.cls = own) (hyn : y.name = "<init>") (hlen : (lve (rfn G a :: vs)).length ≤ nL) (lv : List (Option Value)) (hlv : lve (rfn G a :: vs) ++ List.replicate (nL - (lve (rfn G a :: vs)).length) none = lv)
    (h : ∀ (X : CT) (d : Nat) (B : Nat → va_E), n ≤ d → (∀ b, a ≤ b → B b = cellAt G kq0 b) → KC X G cc own nL d (a + 1) mc ms → KI X → KR X G B (a + 1 + mc) mc ms → KW X G (a + 1) (kov B a (.inr (ci, fs))) 0 0 0 lv []) : KS G n y cc nL vs a ci fs mc ms := by
  intro E l d hd
  refine Met.ofW (cc := cc) (maxL := nL) (ret := none) hy rfl ?_
  intro p e s m args below meth c s₁ B hml hv
  obtain ⟨rfl, hP, hz, hK, hN⟩ := hv
  have hts := atoms_spec (ws := .code y cc nL none :: gtb) B.pre
  have hown : s.vm.findClass own = some m.cls := by rw [← ho]; exact findClass_of_methodNamed B.named
  have hin : meth.name = "<init>" := by rw [← hyn]; exact (name_of_methodNamed B.named B.method).1
  have hl0 := lv_entry (rfn G a :: vs) (n := nL) (by rw [lve_len]; exact hlen)
  rw [lg_entry_eq]
  have hP2 : va_P G.1 vwCl (kpw G (kov (kfin G E a) a (.inr (ci, fs))) (a + 1 + 0)) s.heap := by
    have e : kpw G (kov (kfin G E a) a (.inr (ci, fs))) (a + 1 + 0) = kpw G (kov E a (.inr (ci, fs))) (a + 1) := kpw_congr (fun k hk => by
      by_cases z : k = a
      · rw [z, kov_eq, kov_eq]
      · rw [kov_ne z, kov_ne z, kfin_lt (by omega)])
    rw [e]
    exact hP
  refine h (p, l, e, _, s, m, _, below, meth, c, 0, 0, _) d (kfin G E a) hd (fun b hb => kfin_ge hb) ⟨B.exec, B.bytes, hml, hown, fun w hw => hts w (List.mem_cons_of_mem _ hw), hK, hN, hz, Nat.le_refl d, Nat.le_refl _, Nat.le_refl mc, Nat.le_refl ms⟩ hin ⟨B.returns, B.notSynchronized, rfl⟩ s.heap [] _ hP2 va_S.rf ?_
  refine ⟨by rw [hml]; exact hl0.1, hl0.2.1, fun i v hi => hl0.2.2 (i, v) ?_⟩
  rw [← hlv] at hi
  have h2 : (lve (rfn G a :: vs))[i]? = some (some v) := by
    rcases Nat.lt_or_ge i (lve (rfn G a :: vs)).length with z | z
    · rw [List.getElem?_append_left z] at hi
      exact hi
    · rw [List.getElem?_append_right z] at hi
      have := List.mem_of_getElem? hi
      simp [List.mem_replicate] at this
  have := lve_args (rfn G a :: vs) i v h2 0
  rwa [Nat.zero_add] at this
section KCALL
variable {X : CT} {G : GT} {E : Nat → va_E} {cc cy : ByteArray} {own : String} {y : MethodName} {nL d k0 mc ms ce sl pc k n ny np ix a ci m1 s1 : Nat} {lv : List (Option Value)} {st vs fs : List Value}
theorem kw_ret {B : Nat → va_E} (C : KC X G cc own nL d k0 mc ms) (hR : KR X G B (k0 + mc) mc ms) (hce : ce = mc) (hsl : sl = ms) (hE : E = B) (hd : decode cc pc = .ok (.return_, 1)) : KW X G k0 E ce sl pc lv [] := by
  subst hce; subst hsl; subst hE
  obtain ⟨p, l, e, R, s, m, args, below, meth, c, ce9, sl9, Q⟩ := X
  obtain ⟨hx, hb, hml, hown, hts, hK, hN, hz, hd1, hd2, hmc, hms⟩ := C
  obtain ⟨hr, hlk, rfl⟩ := hR
  intro H locs ls hP hS hlv
  exact W.vret hx hb hr (fun t ht hWt => ⟨⟨rfl, by rw [ht]; exact hP⟩, hS.F ht⟩) hS.2.2 hd hlk
theorem kw_call (C : KC X G cc own nL d k0 mc ms) (hsp : KS G n y cy ny vs a ci fs m1 s1) (F : MF y cy ny none np) (hyn : y.name = "<init>") (hins : Cond.instanceMethod y ∈ gtb) (hlink : Cond.methodLink own ix y ∈ gtb ∨ ∃ host : String, ∀ U, KN U → va_Nw (.methodLinkNest own ix y host) U) (hvs : vs.length = np) (hd : decode cc pc = .ok (.invokespecial ix, 3)) (hnd : n + 1 ≤ d) (ha : a + 1 = k0 + ce) (hce : ce + m1 ≤ mc) (hsl : sl + s1 ≤ ms) (hE : ∀ b, a ≤ b → b < a + 1 + m1 → E b = cellAt G kq0 b) {st0 : List Value} (hst : st0 = vs.reverse ++ rfn G a :: st) (hcat : (st.map fun v => v.category).sum ≤ 8)
    (kk : KW X G k0 E (ce + m1) (sl + s1) (pc + 3) lv st) : KW X G k0 (kov E a (.inr (ci, fs))) ce sl pc lv st0 := by
  subst hst
  obtain ⟨p, l, e, R, s, m, args, below, meth, c, ce9, sl9, Q⟩ := X
  obtain ⟨hx, hb, hml, hown, hts, hK, hN, hz, hd1, hd2, hmc, hms⟩ := C
  obtain ⟨F1, F2, F3, F4⟩ := F
  intro H locs ls hP hS hlv
  refine kw_in hP hz (fun hzz => ?_)
  have hG : GoodIn gtb (.code y cy ny none :: gtb) := lw_goodIn (fun w hw => by
    rcases List.mem_cons.mp hw with rfl | h
    · exact F1
    · exact h)
  have hP2 : va_P G.1 vwCl (kpw G (kov E a (.inr (ci, fs))) (a + 1)) H := by rw [ha]; exact hP
  have hz2 : H.size = G.2.2.1 + (a + 1) := by rw [ha]; exact hzz
  have hpre : PreS s H (KP G (rfn G a :: vs) (kov E a (.inr (ci, fs))) (a + 1)) (rfn G a :: vs) := KP.of hK hN hP2 hz2
  have hrun : va_Run p l e R s m args below meth c H locs ce sl m1 s1 (F0 m pc ls (vs.reverse ++ rfn G a :: st)) st (KQ G (kfin G E a) (a + 1 + m1) (rfn G a :: vs).toArray) (fun a => G.2.2.1 ≤ a) := by
    rcases hlink with hlink | ⟨host, hnest⟩
    · exact va_runI (As := vs) (rest := st) (b := G.2.2.1 + a) ⟨hx, hb, hml, hown, hts⟩ (hsp E l (d - 1) (by omega)) (cwI np hts hG rfl rfl rfl (hts _ F2) (hts _ hlink) (hts _ hins) hyn F3 ⟨by show d - 1 + 1 ≤ _; omega, by show 8 + (ny + 11) + 64 * (d - 1) ≤ _; omega⟩) hpre rfl hvs (by rw [← hml]; exact hlv.1) rfl (lv_room hcat) hd ⟨by omega, by omega⟩
    · exact va_runIN (As := vs) (rest := st) (b := G.2.2.1 + a) (host := host) ⟨hx, hb, hml, hown, hts⟩ (hsp E l (d - 1) (by omega)) ⟨va_cnB np hts hG rfl rfl rfl (hnest s hN) (hts _ F2) F3 ⟨by show d - 1 + 1 ≤ _; omega, by show 8 + (ny + 11) + 64 * (d - 1) ≤ _; omega⟩, hyn, hts _ hins⟩ hpre rfl hvs (by rw [← hml]; exact hlv.1) rfl (lv_room hcat) hd ⟨by omega, by omega⟩
  refine kw_run hS hlv hrun (k0 := k0) (by omega) (fun b hb2 => ?_) kk
  rcases Nat.lt_or_ge b a with z | z
  · rw [kfin_lt z]
  · rw [kfin_ge z, hE b z hb2]
end KCALL
