/-! THE CLASS'S WORDS: constant strings -/
def scW : List (List Nat) := [[100, 97, 114, 107, 32], [98, 97, 114, 32], [103, 114, 97, 110, 116, 32], [112, 107, 118, 98, 110, 104], [60, 61, 62]]
def scN (i j : Nat) : Nat := (scW.getD i []).getD j 0
def scl (i : Nat) : Nat := scL.getD i 0
theorem scl_lt : ∀ i, i < 5 → scl i ≤ 6 := by decide
theorem scN_lt : ∀ i, i < 5 → ∀ j, j < 6 → scN i j < 128 := by decide
theorem scB_n : ∀ i, i < 5 → ∀ j, j < 6 → j < scl i → (scB.getD i []).getD j 0 = nI (scN i j) := by decide +kernel
theorem ch_n : ∀ c, c < 128 → ((nI c &&& nI 255).toUInt32 % 65536).toInt32 = nI c := by decide +kernel
theorem i2b_n : ∀ c, c < 128 → (nI c).toInt8.toInt32 = nI c := by decide +kernel
theorem i2c_n : ∀ c, c < 128 → ((nI c).toUInt32 % 65536).toInt32 = nI c := by decide +kernel
abbrev sK (G : GT) (i : Nat) : Value := .ref (G.2.2.2.2 i)
abbrev sV (G : GT) (i : Nat) : Value := .ref (G.2.2.2.2 (10 + i))
section STRS
variable {X : CT} {G : GT} {q : S_} {cc : ByteArray} {own : String} {nL d pc i ix : Nat} {lv : List (Option Value)} {st : List Value}
theorem aw_ldcS (C : Cx X G cc RX5 nL d) (hd : decode cc pc = .ok (.ldc ix, 2)) (hi : i < 5) (e : scI.getD i 0 = ix) (kk : AW X G q (pc + 2) lv (sK G i :: st)) : AW X G q pc lv st := by
  obtain ⟨p, l, e, R, s, m, args, below, meth, c, ce, sl, Q⟩ := X
  obtain ⟨hx, hb, hml, hown, hts, hK, ⟨-, -, -, -, hT⟩, -, -, -, -⟩ := C
  intro H locs ls hP hS hlv
  have hz := hT.1 i hi
  rw [‹scI.getD i 0 = ix›] at hz
  exact va_ldcS hx hb hown hz hd (kk H locs ls hP hS hlv)
theorem aw_sval (C : Cx X G cc own nL d) (hd : decode cc pc = .ok (.getfield ix, 3)) (hi : i < 5) (hl : Cond.fieldLink own ix "java/lang/String" "value" "[B" ∈ gtb) (kk : AW X G q (pc + 3) lv (sV G i :: st)) : AW X G q pc lv (sK G i :: st) := by
  obtain ⟨p, l, e, R, s, m, args, below, meth, c, ce, sl, Q⟩ := X
  obtain ⟨hx, hb, hml, hown, hts, hK, ⟨-, -, -, -, hT⟩, -, -, -, -⟩ := C
  intro H locs ls hP hS hlv
  exact vk_getf hx hb (hT.2.1.1 i hi).2.2.1 hS hown (hts _ hl) (fun _ h => h) hd (kk H locs ls hP hS hlv)
theorem aw_scod (C : Cx X G cc own nL d) (hd : decode cc pc = .ok (.getfield ix, 3)) (hi : i < 5) (hl : Cond.fieldLink own ix "java/lang/String" "coder" "B" ∈ gtb) (kk : AW X G q (pc + 3) lv (.int 0 :: st)) : AW X G q pc lv (sK G i :: st) := by
  obtain ⟨p, l, e, R, s, m, args, below, meth, c, ce, sl, Q⟩ := X
  obtain ⟨hx, hb, hml, hown, hts, hK, ⟨-, -, -, -, hT⟩, -, -, -, -⟩ := C
  intro H locs ls hP hS hlv
  exact vk_getf hx hb (hT.2.1.1 i hi).2.1 hS hown (hts _ hl) (fun _ h => h) hd (kk H locs ls hP hS hlv)
theorem aw_slen (C : Cx X G cc own nL d) (hd : decode cc pc = .ok (.arraylength, 1)) (hi : i < 5) (kk : AW X G q (pc + 1) lv (.int (nI (scl i)) :: st)) : AW X G q pc lv (sV G i :: st) := by
  obtain ⟨p, l, e, R, s, m, args, below, meth, c, ce, sl, Q⟩ := X
  obtain ⟨hx, hb, hml, hown, hts, hK, ⟨-, -, -, -, hT⟩, -, -, -, -⟩ := C
  intro H locs ls hP hS hlv
  exact va_tlen hx hb (hT.2.1.1 i hi).2.2.2 hS rfl hd (kk H locs ls hP hS hlv)
theorem aw_sbal (C : Cx X G cc own nL d) {x : Int32} (j : Nat) (hd : decode cc pc = .ok (.baload, 1)) (hi : i < 5) (e : x = nI j) (hj : j < scl i) (kk : AW X G q (pc + 1) lv (.int (nI (scN i j)) :: st)) : AW X G q pc lv (.int x :: sV G i :: st) := by
  subst e
  have h6 := scl_lt i hi
  rw [← scB_n i hi j (by omega) hj] at kk
  obtain ⟨p, l, e, R, s, m, args, below, meth, c, ce, sl, Q⟩ := X
  obtain ⟨hx, hb, hml, hown, hts, hK, ⟨-, -, -, -, hT⟩, -, -, -, -⟩ := C
  intro H locs ls hP hS hlv
  exact va_tb hx hb (hT.2.1.1 i hi).2.2.2 hS (nI_vin hj (by show scl i < 2000; omega)) (by rw [nI_clamp (by omega)]) hd (kk H locs ls hP hS hlv)
theorem aw_compact (C : Cx X G cc own nL d) (hd : decode cc pc = .ok (.getstatic ix, 3)) (hl : Cond.fieldLink own ix "java/lang/String" "COMPACT_STRINGS" "Z" ∈ gtb) (kk : AW X G q (pc + 3) lv (.int (nI 1) :: st)) : AW X G q pc lv st := by
  obtain ⟨p, l, e, R, s, m, args, below, meth, c, ce, sl, Q⟩ := X
  obtain ⟨hx, hb, hml, hown, hts, hK, ⟨-, -, -, -, hT⟩, -, -, -, -⟩ := C
  intro H locs ls hP hS hlv
  exact va_gets hx hb hT.2.2.2.2.2.2.1 hS hown (hts _ hl) (fun _ h => h) hd (kk H locs ls hP hS hlv)
theorem aw_sioobe (C : Cx X G cc own nL d) (hd : decode cc pc = .ok (.getstatic ix, 3)) (hl : Cond.fieldLink own ix "jdk/internal/util/Preconditions" "SIOOBE_FORMATTER" "Ljava/util/function/BiFunction;" ∈ gtb) (kk : ∀ v : Value, (v = .null ∨ ∃ t, v = .ref t) → AW X G q (pc + 3) lv (v :: st)) : AW X G q pc lv st := by
  obtain ⟨p, l, e, R, s, m, args, below, meth, c, ce, sl, Q⟩ := X
  obtain ⟨hx, hb, hml, hown, hts, hK, ⟨-, -, -, -, hT⟩, -, -, -, -⟩ := C
  intro H locs ls hP hS hlv
  rcases hT.2.2.2.2.2.2.2.1 with hz | ⟨t, hz⟩
  · exact va_gets hx hb hz hS hown (hts _ hl) (fun _ h => h) hd (kk .null (Or.inl rfl) H locs ls hP hS hlv)
  · exact va_gets hx hb hz hS hown (hts _ hl) (fun _ h => h) hd (kk (.ref t) (Or.inr ⟨t, rfl⟩) H locs ls hP hS hlv)
theorem aw_cT (C : Cx X G cc own nL d) {Y : MethodName} {cy : ByteArray} {ry : Option FieldType} {n ny np : Nat} {vs : List Value} {P : Int32 → S_ → Prop} (hi : i < 5) (hsp : Spec G n Y cy ny ry (sK G i :: vs) q (PI P)) (F : MF Y cy ny ry np) (V : MV Y) (hY : Y.cls = "java/lang/String") (hvs : vs.length = np) (hlink : Cond.methodLink own ix Y ∈ gtb) (hd : decode cc pc = .ok (.invokevirtual ix, 3)) (hnd : n + 1 ≤ d) {st0 : List Value} (hst : st0 = vs.reverse ++ sK G i :: st) (hcat : (st.map fun v => v.category).sum ≤ 8)
    (kk : ∀ (r : Int32) (q2 : S_), P r q2 → AW X G q2 (pc + 3) lv (.int r :: st)) : AW X G q pc lv st0 := by
  subst hst
  obtain ⟨p, l, e, R, s, m, args, below, meth, c, ce, sl, Q⟩ := X
  obtain ⟨hx, hb, hml, hown, hts, hK, hW, hd1, hd2, hce, hsl⟩ := C
  obtain ⟨F1, F2, F3, F4⟩ := F
  obtain ⟨V1, V2⟩ := V
  intro H locs ls hP hS hlv
  have hG : GoodIn gtb (wsV own ix Y.cls Y (.code Y cy ny ry :: gtb)) := lw_goodIn (fun w hw => by
    unfold wsV at hw
    rcases List.mem_append.mp hw with h | h
    · simp only [List.mem_cons, List.not_mem_nil, or_false] at h
      rcases h with rfl | rfl | rfl | rfl
      · exact hlink
      · exact V1
      · exact V2
      · exact F2
    · rcases List.mem_cons.mp h with rfl | h
      · exact F1
      · exact h)
  have hrec := vk_recv hW.2.2.2.2.2.1 hi hS
  rw [← hY] at hrec
  refine aw_run hS hlv (va_runV (As := vs) (rest := st) ⟨hx, hb, hml, hown, hts⟩ (hsp l (d - 1) (by omega)) (cwV np hts hG rfl rfl rfl ⟨rfl, F3⟩ ⟨by show d - 1 + 1 ≤ _; omega, by show 8 + (ny + 11) + 64 * (d - 1) ≤ _; omega⟩) ⟨Spec.blind, hrec, fun U hU hWU => ⟨rfl, WdG.of hK hW hP hS hU hWU⟩⟩ rfl hvs (by rw [← hml]; exact hlv.1) rfl (lv_room hcat) hd ⟨hce, hsl⟩) (fun v q2 h => by obtain ⟨r, rfl, h⟩ := h; exact kk r q2 h)
theorem Spec.tR {n : Nat} {Y : MethodName} {cy : ByteArray} {ny : Nat} {ry : Option FieldType} {vs : List Value} {v : Int32} (h : Spec G n Y cy ny ry vs q (PI fun r2 q3 => r2 = v ∧ q3 = q)) : Spec G n Y cy ny ry vs q (PI fun r2 q3 => r2 = v ∧ q3 = q) := h
end STRS

set_option maxRecDepth 100000 in
set_option maxHeartbeats 4000000 in
theorem s_J0_coder_7d493 {G : GT} {q : S_} (i : Nat) (hi : i < 5) : Spec G 1 yJ0_coder_7d493 cJ0_coder_7d493 1 (some .byte) [sK G i] q (PI fun r2 q3 => r2 = nI 0 ∧ q3 = q) := by
  refine Spec.intro RJ0 (by decide) rfl (Nat.le_of_ble_eq_true rfl) [some (sK G i)] rfl ?_
  intro X d hd C hR
  refine aw_compact C dJ0_coder_7d493_0 fl_J0_38 ?_
  refine aw_if_eq_n C dJ0_coder_7d493_3 (tgt := 13) (by decide) (by omega) (fun c_3 => absurd c_3 (by decide)) (fun c_3 => ?_)
  refine aw_aload_0 C dJ0_coder_7d493_6 rfl ?_
  refine aw_scod C dJ0_coder_7d493_7 hi fl_J0_15 ?_
  refine aw_goto C dJ0_coder_7d493_10 (tgt := 14) (by decide) ?_
  refine aw_iret C hR dJ0_coder_7d493_14 rfl (by rfl) ⟨_, rfl, ?_⟩
  exact ⟨rfl, rfl⟩

set_option maxRecDepth 100000 in
set_option maxHeartbeats 4000000 in
theorem s_J0_isLatin1_aae02 {G : GT} {q : S_} (i : Nat) (hi : i < 5) : Spec G 1 yJ0_isLatin1_aae02 cJ0_isLatin1_aae02 1 (some .boolean) [sK G i] q (PI fun r2 q3 => r2 = nI 1 ∧ q3 = q) := by
  refine Spec.intro RJ0 (by decide) rfl (Nat.le_of_ble_eq_true rfl) [some (sK G i)] rfl ?_
  intro X d hd C hR
  refine aw_compact C dJ0_isLatin1_aae02_0 fl_J0_38 ?_
  refine aw_if_eq_n C dJ0_isLatin1_aae02_3 (tgt := 17) (by decide) (by omega) (fun c_3 => absurd c_3 (by decide)) (fun c_3 => ?_)
  refine aw_aload_0 C dJ0_isLatin1_aae02_6 rfl ?_
  refine aw_scod C dJ0_isLatin1_aae02_7 hi fl_J0_15 ?_
  refine aw_if_ne C dJ0_isLatin1_aae02_10 (tgt := 17) (by decide)  (fun c_10 => absurd c_10 (by decide)) (fun c_10 => ?_)
  refine aw_iconst C dJ0_isLatin1_aae02_13 k1_1 ?_
  refine aw_goto C dJ0_isLatin1_aae02_14 (tgt := 18) (by decide) ?_
  refine aw_iretZ C hR dJ0_isLatin1_aae02_18 (by rfl) ?_
  exact ⟨rfl, rfl⟩

set_option maxRecDepth 100000 in
set_option maxHeartbeats 4000000 in
theorem s_J0_length_8abf5 {G : GT} {q : S_} (i : Nat) (hi : i < 5) : Spec G 2 yJ0_length_8abf5 cJ0_length_8abf5 1 (some .int) [sK G i] q (PI fun r2 q3 => r2 = nI (scl i) ∧ q3 = q) := by
  refine Spec.intro RJ0 (by decide) rfl (Nat.le_of_ble_eq_true rfl) [some (sK G i)] rfl ?_
  intro X d hd C hR
  have h6 := scl_lt i hi
  refine aw_aload_0 C dJ0_length_8abf5_0 rfl ?_
  refine aw_sval C dJ0_length_8abf5_1 hi fl_J0_9 ?_
  refine aw_slen C dJ0_length_8abf5_4 hi ?_
  refine aw_aload_0 C dJ0_length_8abf5_5 rfl ?_
  refine aw_cT C hi (s_J0_coder_7d493 i hi) mf_J0_coder_7d493 mv_J0_coder_7d493 rfl (vs := []) rfl ml_J0_335 dJ0_length_8abf5_6 (by omega) rfl (Nat.le_of_ble_eq_true rfl) (fun r_6 q_6 h_6 => ?_)
  obtain ⟨rfl, rfl⟩ := h_6
  refine aw_ishr_n C dJ0_length_8abf5_9 (by omega) (by omega) ?_
  refine aw_iretI C hR dJ0_length_8abf5_10 ?_
  exact ⟨by rw [Nat.pow_zero, Nat.div_one], rfl⟩

set_option maxRecDepth 100000 in
set_option maxHeartbeats 4000000 in
theorem s_J1_canEncode_9a6ad {G : GT} {q : S_} (c : Nat) (hc : c < 128) : Spec G 1 yJ1_canEncode_9a6ad cJ1_canEncode_9a6ad 1 (some .boolean) [.int (nI c)] q (PI fun r2 q3 => r2 = nI 1 ∧ q3 = q) := by
  refine Spec.intro RJ1 (by decide) rfl (Nat.le_of_ble_eq_true rfl) [some (.int (nI c))] rfl ?_
  intro X d hd C hR
  refine aw_iload_0 C dJ1_canEncode_9a6ad_0 ?_
  refine aw_if_lt_n C dJ1_canEncode_9a6ad_1 (by decide) (by omega) ?_
  refine aw_iload_0 C dJ1_canEncode_9a6ad_4 ?_
  refine aw_sipush C dJ1_canEncode_9a6ad_5 k3_255 ?_
  refine aw_icmp_gt_n C dJ1_canEncode_9a6ad_8 (tgt := 15) (by decide) (by omega) (by omega) (fun c_8 => absurd c_8 (by omega)) (fun c_8 => ?_)
  refine aw_iconst C dJ1_canEncode_9a6ad_11 k1_1 ?_
  refine aw_goto C dJ1_canEncode_9a6ad_12 (tgt := 16) (by decide) ?_
  refine aw_iretZ C hR dJ1_canEncode_9a6ad_16 (by rfl) ?_
  exact ⟨rfl, rfl⟩

set_option maxRecDepth 100000 in
set_option maxHeartbeats 4000000 in
theorem s_J3_checkIndex_n {G : GT} {q : S_} (a b : Nat) (h : a < b) (hb : b < 2 ^ 31) : Spec G 1 yJ3_checkIndex_8e157 cJ3_checkIndex_8e157 3 (some .int) [.int (nI a), .int (nI b), .null] q (PI fun r2 q3 => r2 = nI a ∧ q3 = q) := by
  refine Spec.intro RJ3 (by decide) rfl (Nat.le_of_ble_eq_true rfl) [some (.int (nI a)), some (.int (nI b)), some (.null)] rfl ?_
  intro X d hd C hR
  refine aw_iload_0 C dJ3_checkIndex_8e157_0 ?_
  refine aw_if_lt_n C dJ3_checkIndex_8e157_1 (by decide) (by omega) ?_
  refine aw_iload_0 C dJ3_checkIndex_8e157_4 ?_
  refine aw_iload_1 C dJ3_checkIndex_8e157_5 ?_
  refine aw_icmp_lt_n C dJ3_checkIndex_8e157_6 (tgt := 16) (by decide) (by omega) (by omega) (fun c_6 => ?_) (fun c_6 => absurd c_6 (fun z => z h))
  refine aw_iload_0 C dJ3_checkIndex_8e157_16 ?_
  refine aw_iretI C hR dJ3_checkIndex_8e157_17 ?_
  exact ⟨rfl, rfl⟩

set_option maxRecDepth 100000 in
set_option maxHeartbeats 4000000 in
theorem s_J3_checkIndex_r {G : GT} {q : S_} (a b : Nat) (t : Nat) (h : a < b) (hb : b < 2 ^ 31) : Spec G 1 yJ3_checkIndex_8e157 cJ3_checkIndex_8e157 3 (some .int) [.int (nI a), .int (nI b), .ref t] q (PI fun r2 q3 => r2 = nI a ∧ q3 = q) := by
  refine Spec.intro RJ3 (by decide) rfl (Nat.le_of_ble_eq_true rfl) [some (.int (nI a)), some (.int (nI b)), some (.ref t)] rfl ?_
  intro X d hd C hR
  refine aw_iload_0 C dJ3_checkIndex_8e157_0 ?_
  refine aw_if_lt_n C dJ3_checkIndex_8e157_1 (by decide) (by omega) ?_
  refine aw_iload_0 C dJ3_checkIndex_8e157_4 ?_
  refine aw_iload_1 C dJ3_checkIndex_8e157_5 ?_
  refine aw_icmp_lt_n C dJ3_checkIndex_8e157_6 (tgt := 16) (by decide) (by omega) (by omega) (fun c_6 => ?_) (fun c_6 => absurd c_6 (fun z => z h))
  refine aw_iload_0 C dJ3_checkIndex_8e157_16 ?_
  refine aw_iretI C hR dJ3_checkIndex_8e157_17 ?_
  exact ⟨rfl, rfl⟩

theorem s_J3_checkIndex {G : GT} {q : S_} (a b : Nat) (v : Value) (hv : v = .null ∨ ∃ t, v = .ref t) (h : a < b) (hb : b < 2 ^ 31) : Spec G 1 yJ3_checkIndex_8e157 cJ3_checkIndex_8e157 3 (some .int) [.int (nI a), .int (nI b), v] q (PI fun r2 q3 => r2 = nI a ∧ q3 = q) := by
  rcases hv with rfl | ⟨t, rfl⟩
  · exact s_J3_checkIndex_n a b h hb
  · exact s_J3_checkIndex_r a b t h hb

set_option maxRecDepth 100000 in
set_option maxHeartbeats 4000000 in
theorem s_J0_checkIndex_df160 {G : GT} {q : S_} (a b : Nat) (h : a < b) (hb : b < 2 ^ 31) : Spec G 2 yJ0_checkIndex_df160 cJ0_checkIndex_df160 2 none [.int (nI a), .int (nI b)] q (PV fun q3 => q3 = q) := by
  refine Spec.intro RJ0 (by decide) rfl (Nat.le_of_ble_eq_true rfl) [some (.int (nI a)), some (.int (nI b))] rfl ?_
  intro X d hd C hR
  refine aw_iload_0 C dJ0_checkIndex_df160_0 ?_
  refine aw_iload_1 C dJ0_checkIndex_df160_1 ?_
  refine aw_sioobe C dJ0_checkIndex_df160_2 fl_J0_1053 (fun v hv => ?_)
  refine aw_cS3IE C (s_J3_checkIndex a b v hv h hb) mf_J3_checkIndex_8e157 ms_J3_checkIndex_8e157 ml_J0_1059 dJ0_checkIndex_df160_5 (by omega) (Nat.le_of_ble_eq_true rfl) ?_
  refine aw_pop C dJ0_checkIndex_df160_8 rfl ?_
  refine aw_vretV C hR dJ0_checkIndex_df160_9 ?_
  exact rfl

theorem nar_ch {c : Nat} (h : c < 128) : narrow .char (.int (nI c)) = .int (nI c) := by
  have key : ∀ c, c < 128 → ((nI c).toUInt32 % 65536).toInt32 = nI c := by decide +kernel
  have key2 : ∀ c, c < 128 → narrow .char (.int (nI c)) = .int (nI c) := fun c hc => by
    show Value.int _ = _
    exact congrArg Value.int (key c hc)
  exact key2 c h

set_option maxRecDepth 100000 in
set_option maxHeartbeats 4000000 in
theorem s_J1_charAt_3b067 {G : GT} {q : S_} (i j : Nat) (hi : i < 5) (hj : j < scl i) : Spec G 3 yJ1_charAt_3b067 cJ1_charAt_3b067 2 (some .char) [sV G i, .int (nI j)] q (PI fun r2 q3 => r2 = nI (scN i j) ∧ q3 = q) := by
  refine Spec.intro RJ1 (by decide) rfl (Nat.le_of_ble_eq_true rfl) [some (sV G i), some (.int (nI j))] rfl ?_
  intro X d hd C hR
  have h6 := scl_lt i hi
  have hcl := scN_lt i hi j (by omega)
  refine aw_iload_1 C dJ1_charAt_3b067_0 ?_
  refine aw_aload_0 C dJ1_charAt_3b067_1 rfl ?_
  refine aw_slen C dJ1_charAt_3b067_2 hi ?_
  refine aw_cS2VE C (s_J0_checkIndex_df160 j (scl i) hj (by omega)) mf_J0_checkIndex_df160 ms_J0_checkIndex_df160 ml_J1_9 dJ1_charAt_3b067_3 (by omega) (Nat.le_of_ble_eq_true rfl) ?_
  refine aw_aload_0 C dJ1_charAt_3b067_6 rfl ?_
  refine aw_iload_1 C dJ1_charAt_3b067_7 ?_
  refine aw_sbal C j dJ1_charAt_3b067_8 hi rfl hj ?_
  refine aw_sipush C dJ1_charAt_3b067_9 k3_255 ?_
  refine aw_iand C dJ1_charAt_3b067_12  ?_
  refine aw_i2c C dJ1_charAt_3b067_13 ?_
  rw [ch_n _ hcl]
  refine aw_iret C hR dJ1_charAt_3b067_14 rfl (nar_ch hcl) ⟨_, rfl, ?_⟩
  exact ⟨rfl, rfl⟩

set_option maxRecDepth 100000 in
set_option maxHeartbeats 4000000 in
theorem s_J0_charAt_5068e {G : GT} {q : S_} (i j : Nat) (hi : i < 5) (hj : j < scl i) : Spec G 4 yJ0_charAt_5068e cJ0_charAt_5068e 2 (some .char) [sK G i, .int (nI j)] q (PI fun r2 q3 => r2 = nI (scN i j) ∧ q3 = q) := by
  refine Spec.intro RJ0 (by decide) rfl (Nat.le_of_ble_eq_true rfl) [some (sK G i), some (.int (nI j))] rfl ?_
  intro X d hd C hR
  have h6 := scl_lt i hi
  have hcl := scN_lt i hi j (by omega)
  refine aw_aload_0 C dJ0_charAt_5068e_0 rfl ?_
  refine aw_cT C hi (s_J0_isLatin1_aae02 i hi) mf_J0_isLatin1_aae02 mv_J0_isLatin1_aae02 rfl (vs := []) rfl ml_J0_492 dJ0_charAt_5068e_1 (by omega) rfl (Nat.le_of_ble_eq_true rfl) (fun r_1 q_1 h_1 => ?_)
  obtain ⟨rfl, rfl⟩ := h_1
  refine aw_if_eq_n C dJ0_charAt_5068e_4 (tgt := 16) (by decide) (by omega) (fun c_4 => absurd c_4 (by decide)) (fun c_4 => ?_)
  refine aw_aload_0 C dJ0_charAt_5068e_7 rfl ?_
  refine aw_sval C dJ0_charAt_5068e_8 hi fl_J0_9 ?_
  refine aw_iload_1 C dJ0_charAt_5068e_11 ?_
  refine aw_cS2IE C (s_J1_charAt_3b067 i j hi hj) mf_J1_charAt_3b067 ms_J1_charAt_3b067 ml_J0_495 dJ0_charAt_5068e_12 (by omega) (Nat.le_of_ble_eq_true rfl) ?_
  refine aw_iret C hR dJ0_charAt_5068e_15 rfl (nar_ch hcl) ⟨_, rfl, ?_⟩
  exact ⟨rfl, rfl⟩

set_option maxRecDepth 100000 in
set_option maxHeartbeats 4000000 in
theorem s_J1_indexOfChar_4cfef {G : GT} {q : S_} (i c : Nat) (hi : i < 5) (hc : c < 128) : Spec G 1 yJ1_indexOfChar_4cfef cJ1_indexOfChar_4cfef 6 (some .int) [sV G i, .int (nI c), .int (nI 0), .int (nI (scl i))] q (PI (fun r q3 => ((∃ j, j < scl i ∧ scN i j = c ∧ r = nI j) ∨ ((∀ j, j < scl i → scN i j ≠ c) ∧ r = -1)) ∧ q3 = q)) := by
  refine Spec.intro RJ1 (by decide) rfl (Nat.le_of_ble_eq_true rfl) [some (sV G i), some (.int (nI c)), some (.int (nI 0)), some (.int (nI (scl i))), none, none] rfl ?_
  intro X d hd C hR
  have h6 := scl_lt i hi
  refine aw_iload_1 C dJ1_indexOfChar_4cfef_0 ?_
  refine aw_i2b C dJ1_indexOfChar_4cfef_1 ?_
  rw [i2b_n c hc]
  refine aw_istore_4 C dJ1_indexOfChar_4cfef_2 (by decide) (fun w h => by cases h <;> rfl) ?_
  refine aw_iload_2 C dJ1_indexOfChar_4cfef_4 ?_
  refine aw_istore_5 C dJ1_indexOfChar_4cfef_5 (by decide) (fun w h => by cases h <;> rfl) ?_
  have L7 : ∀ (n2 j : Nat), j ≤ scl i → scl i < j + n2 → (∀ j2, j2 < j → scN i j2 ≠ c) → AW X G (q) 7 [some (sV G i), some (.int (nI c)), some (.int (nI 0)), some (.int (nI (scl i))), some (.int (nI c)), some (.int (nI j))] [] := by
    refine nat_loop (fun j h1 h2 hne => by omega) (fun n2 ih j h1 h2 hne => ?_)
    refine aw_iload_5 C dJ1_indexOfChar_4cfef_7 ?_
    refine aw_iload_3 C dJ1_indexOfChar_4cfef_9 ?_
    refine aw_icmp_ge_n C dJ1_indexOfChar_4cfef_10 (tgt := 31) (by decide) (by omega) (by omega) (fun c_10 => ?_) (fun c_10 => ?_)
    · skip
      refine aw_iconst C dJ1_indexOfChar_4cfef_31 k1_m1 ?_
      refine aw_iretI C hR dJ1_indexOfChar_4cfef_32 ?_
      exact ⟨Or.inr ⟨fun j2 h => hne j2 (by omega), rfl⟩, rfl⟩
    · skip
      refine aw_aload_0 C dJ1_indexOfChar_4cfef_13 rfl ?_
      refine aw_iload_5 C dJ1_indexOfChar_4cfef_14 ?_
      have hcj := scN_lt i hi j (by omega)
      refine aw_sbal C j dJ1_indexOfChar_4cfef_16 hi rfl (by omega) ?_
      refine aw_iload_4 C dJ1_indexOfChar_4cfef_17 ?_
      refine aw_icmp_ne_n C dJ1_indexOfChar_4cfef_19 (tgt := 25) (by decide) (by omega) (by omega) (fun c_19 => ?_) (fun c_19 => ?_)
      · skip
        refine aw_iinc_5 C dJ1_indexOfChar_4cfef_25 (by decide) (fun w h => by cases h <;> rfl) (show _ + Int32.ofInt 1 = _ by rw [k1_1, nI_add]) ?_
        refine aw_goto C dJ1_indexOfChar_4cfef_28 (tgt := 7) (by decide) ?_
        exact ih (j + 1) (by omega) (by omega) (fun j2 h => by
          rcases Nat.lt_or_ge j2 j with y | y
          · exact hne j2 y
          · rw [show j2 = j by omega]
            exact c_19)
      · skip
        refine aw_iload_5 C dJ1_indexOfChar_4cfef_22 ?_
        refine aw_iretI C hR dJ1_indexOfChar_4cfef_24 ?_
        exact ⟨Or.inl ⟨j, by omega, c_19, rfl⟩, rfl⟩
  exact L7 7 0 (by omega) (by omega) (fun j2 h => absurd h (Nat.not_lt_zero j2))

set_option maxRecDepth 100000 in
set_option maxHeartbeats 4000000 in
theorem s_J1_indexOf_4cfef {G : GT} {q : S_} (i c : Nat) (hi : i < 5) (hc : c < 128) : Spec G 2 yJ1_indexOf_4cfef cJ1_indexOf_4cfef 4 (some .int) [sV G i, .int (nI c), .int (nI 0), .int (nI (scl i))] q (PI (fun r q3 => ((∃ j, j < scl i ∧ scN i j = c ∧ r = nI j) ∨ ((∀ j, j < scl i → scN i j ≠ c) ∧ r = -1)) ∧ q3 = q)) := by
  refine Spec.intro RJ1 (by decide) rfl (Nat.le_of_ble_eq_true rfl) [some (sV G i), some (.int (nI c)), some (.int (nI 0)), some (.int (nI (scl i)))] rfl ?_
  intro X d hd C hR
  have h6 := scl_lt i hi
  have h0 : ∀ i, i < 5 → 0 < scl i := by decide
  have h00 := h0 i hi
  refine aw_iload_1 C dJ1_indexOf_4cfef_0 ?_
  refine aw_cS1IE C (s_J1_canEncode_9a6ad c hc) mf_J1_canEncode_9a6ad ms_J1_canEncode_9a6ad ml_J1_88 dJ1_indexOf_4cfef_1 (by omega) (Nat.le_of_ble_eq_true rfl) ?_
  refine aw_if_ne_n C dJ1_indexOf_4cfef_4 (tgt := 9) (by decide) (by omega) (fun c_4 => ?_) (fun c_4 => absurd c_4 (by decide))
  refine aw_iload_2 C dJ1_indexOf_4cfef_9 ?_
  refine aw_iconst C dJ1_indexOf_4cfef_10 k1_0 ?_
  refine aw_mmax C ml_J1_92 dJ1_indexOf_4cfef_11 (Nat.le_trans (by decide) hd) (Nat.le_of_ble_eq_true rfl) ?_
  rw [show (if nI 0 < nI 0 then nI 0 else nI 0) = nI 0 from by decide +kernel]
  refine aw_istore_2 C dJ1_indexOf_4cfef_14 (by decide) (fun w h => by cases h <;> rfl) ?_
  refine aw_iload_3 C dJ1_indexOf_4cfef_15 ?_
  refine aw_aload_0 C dJ1_indexOf_4cfef_16 rfl ?_
  refine aw_slen C dJ1_indexOf_4cfef_17 hi ?_
  refine aw_mmin C ml_J1_38 dJ1_indexOf_4cfef_18 (Nat.le_trans (by decide) hd) (Nat.le_of_ble_eq_true rfl) (by omega) (by omega) ?_
  rw [Nat.min_self]
  refine aw_istore_3 C dJ1_indexOf_4cfef_21 (by decide) (fun w h => by cases h <;> rfl) ?_
  refine aw_iload_2 C dJ1_indexOf_4cfef_22 ?_
  refine aw_iload_3 C dJ1_indexOf_4cfef_23 ?_
  refine aw_icmp_lt_n C dJ1_indexOf_4cfef_24 (tgt := 29) (by decide) (by omega) (by omega) (fun c_24 => ?_) (fun c_24 => absurd c_24 (fun z => z h00))
  refine aw_aload_0 C dJ1_indexOf_4cfef_29 rfl ?_
  refine aw_iload_1 C dJ1_indexOf_4cfef_30 ?_
  refine aw_iload_2 C dJ1_indexOf_4cfef_31 ?_
  refine aw_iload_3 C dJ1_indexOf_4cfef_32 ?_
  refine aw_cS4I C (s_J1_indexOfChar_4cfef i c hi hc) mf_J1_indexOfChar_4cfef ms_J1_indexOfChar_4cfef ml_J1_95 dJ1_indexOf_4cfef_33 (by omega) (Nat.le_of_ble_eq_true rfl) (fun r_33 q_33 h_33 => ?_)
  obtain ⟨h33, rfl⟩ := h_33
  refine aw_iretI C hR dJ1_indexOf_4cfef_36 ?_
  exact ⟨h33, rfl⟩

set_option maxRecDepth 100000 in
set_option maxHeartbeats 4000000 in
theorem s_J0_indexOf_7cf53 {G : GT} {q : S_} (i c : Nat) (hi : i < 5) (hc : c < 128) : Spec G 3 yJ0_indexOf_7cf53 cJ0_indexOf_7cf53 3 (some .int) [sK G i, .int (nI c), .int (nI 0)] q (PI (fun r q3 => ((∃ j, j < scl i ∧ scN i j = c ∧ r = nI j) ∨ ((∀ j, j < scl i → scN i j ≠ c) ∧ r = -1)) ∧ q3 = q)) := by
  refine Spec.intro RJ0 (by decide) rfl (Nat.le_of_ble_eq_true rfl) [some (sK G i), some (.int (nI c)), some (.int (nI 0))] rfl ?_
  intro X d hd C hR
  refine aw_aload_0 C dJ0_indexOf_7cf53_0 rfl ?_
  refine aw_cT C hi (s_J0_isLatin1_aae02 i hi) mf_J0_isLatin1_aae02 mv_J0_isLatin1_aae02 rfl (vs := []) rfl ml_J0_492 dJ0_indexOf_7cf53_1 (by omega) rfl (Nat.le_of_ble_eq_true rfl) (fun r_1 q_1 h_1 => ?_)
  obtain ⟨rfl, rfl⟩ := h_1
  refine aw_if_eq_n C dJ0_indexOf_7cf53_4 (tgt := 23) (by decide) (by omega) (fun c_4 => absurd c_4 (by decide)) (fun c_4 => ?_)
  refine aw_aload_0 C dJ0_indexOf_7cf53_7 rfl ?_
  refine aw_sval C dJ0_indexOf_7cf53_8 hi fl_J0_9 ?_
  refine aw_iload_1 C dJ0_indexOf_7cf53_11 ?_
  refine aw_iload_2 C dJ0_indexOf_7cf53_12 ?_
  refine aw_aload_0 C dJ0_indexOf_7cf53_13 rfl ?_
  refine aw_cT C hi (s_J0_length_8abf5 i hi) mf_J0_length_8abf5 mv_J0_length_8abf5 rfl (vs := []) rfl ml_J0_505 dJ0_indexOf_7cf53_14 (by omega) rfl (Nat.le_of_ble_eq_true rfl) (fun r_14 q_14 h_14 => ?_)
  obtain ⟨rfl, rfl⟩ := h_14
  refine aw_cS4I C (s_J1_indexOf_4cfef i c hi hc) mf_J1_indexOf_4cfef ms_J1_indexOf_4cfef ml_J0_637 dJ0_indexOf_7cf53_17 (by omega) (Nat.le_of_ble_eq_true rfl) (fun r_17 q_17 h_17 => ?_)
  obtain ⟨h17, rfl⟩ := h_17
  refine aw_goto C dJ0_indexOf_7cf53_20 (tgt := 36) (by decide) ?_
  refine aw_iretI C hR dJ0_indexOf_7cf53_36 ?_
  exact ⟨h17, rfl⟩

set_option maxRecDepth 100000 in
set_option maxHeartbeats 4000000 in
theorem s_J0_indexOf_0f7a4 {G : GT} {q : S_} (i c : Nat) (hi : i < 5) (hc : c < 128) : Spec G 4 yJ0_indexOf_0f7a4 cJ0_indexOf_0f7a4 2 (some .int) [sK G i, .int (nI c)] q (PI (fun r q3 => ((∃ j, j < scl i ∧ scN i j = c ∧ r = nI j) ∨ ((∀ j, j < scl i → scN i j ≠ c) ∧ r = -1)) ∧ q3 = q)) := by
  refine Spec.intro RJ0 (by decide) rfl (Nat.le_of_ble_eq_true rfl) [some (sK G i), some (.int (nI c))] rfl ?_
  intro X d hd C hR
  refine aw_aload_0 C dJ0_indexOf_0f7a4_0 rfl ?_
  refine aw_iload_1 C dJ0_indexOf_0f7a4_1 ?_
  refine aw_iconst C dJ0_indexOf_0f7a4_2 k1_0 ?_
  refine aw_cT C hi (s_J0_indexOf_7cf53 i c hi hc) mf_J0_indexOf_7cf53 mv_J0_indexOf_7cf53 rfl (vs := [.int (nI c), .int (nI 0)]) rfl ml_J0_633 dJ0_indexOf_0f7a4_3 (by omega) rfl (Nat.le_of_ble_eq_true rfl) (fun r_3 q_3 h_3 => ?_)
  obtain ⟨h3, rfl⟩ := h_3
  refine aw_iretI C hR dJ0_indexOf_0f7a4_6 ?_
  exact ⟨h3, rfl⟩
