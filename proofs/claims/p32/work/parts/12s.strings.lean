/-! STRINGS: a String constant's length and chars. Its methods are run over constants of their own (mj_gs): the String at 4, its bytes at 5, nothing made, nothing written. -/
/-- the char at k of the String i -/
def mj_ch (i k : Nat) : Int32 := (((mj_byt.getD i []).getD k 0 &&& 255).toUInt32 % 65536).toInt32
theorem mj_chn : ∀ i, i < 37 → ∀ k, k < (mj_byt.getD i []).length → narrow .char (.int (mj_ch i k)) = .int (mj_ch i k) := by decide +kernel
/-- the constants with the String i looked into; what is made begins at z -/
def mj_gs (g : mj_G) (z q v i : Nat) : mj_G := (z, g.2.1, g.2.2.1, (fun n => if n = 4 then q else if n = 5 then v else if n = 6 then i else g.2.2.2.1 n), g.2.2.2.2)
theorem mj_gs_r {g : mj_G} {z q v i n : Nat} (h : n < 64) (h4 : n ≠ 4) (h5 : n ≠ 5) (h6 : n ≠ 6) : mj_r (mj_gs g z q v i) n = mj_r g n := by
  unfold mj_r
  rw [if_pos h, if_pos h]
  show (if n = 4 then q else if n = 5 then v else if n = 6 then i else g.2.2.2.1 n) = _
  rw [if_neg h4, if_neg h5, if_neg h6]
theorem mj_gs_4 {g : mj_G} {z q v i : Nat} : mj_r (mj_gs g z q v i) 4 = q := rfl
theorem mj_gs_5 {g : mj_G} {z q v i : Nat} : mj_r (mj_gs g z q v i) 5 = v := rfl
theorem mj_gs_6 {g : mj_G} {z q v i : Nat} : mj_r (mj_gs g z q v i) 6 = i := rfl
theorem mj_E.narrow {t N : Nat} {f : Nat → Value} {A A1 : Nat → Prop} {U : State} {H : Heap} (h : mj_E t N f A U H) (hA : ∀ q, A1 q → A q) : mj_E t N f A1 U H := by
  obtain ⟨cell, c1, c2, c3, c4, c5, c6, c7⟩ := h
  exact ⟨cell, c1, c2, c3, c4, c5, c6, fun h => c7 (hA _ h)⟩
theorem mj_strs_id : ∀ q ∈ mj_strs, 10 ≤ q.2.2.2 ∧ q.2.2.2 < 47 := by decide
theorem mj_Z.gs {g : mj_G} {U : State} {H : Heap} {z q v i : Nat} (hz : g.1 ≤ z) (h : mj_Z g U H) (hs : mj_st q v (mj_byt.getD i []) (mj_A g) U H) : mj_Z (mj_gs g z q v i) U H := by
  have hA : ∀ a, mj_A (mj_gs g z q v i) a → mj_A g a := fun a h => Nat.le_trans hz h
  have e : ∀ n, 7 ≤ n → n < 64 → mj_r (mj_gs g z q v i) n = mj_r g n := fun n h1 h2 => mj_gs_r h2 (by omega) (by omega) (by omega)
  obtain ⟨⟨a1, a2⟩, ⟨b1, b2⟩, ⟨c1, c2⟩, ⟨d1, d2⟩, ⟨f1, f2⟩, ⟨e1, e2⟩, e0, h1, h2, h3, h4, h5⟩ := h
  refine ⟨⟨?_, ?_⟩, ⟨?_, ?_⟩, ⟨?_, ?_⟩, ⟨?_, ?_⟩, ⟨?_, ?_⟩, ⟨e1.narrow hA, e2.narrow hA⟩, ?_, h1.narrow hA, ?_, ?_, ?_, ?_⟩
  · exact a1.narrow hA
  · exact a2.narrow hA
  · exact b1.narrow hA
  · exact b2.narrow hA
  · exact c1.narrow hA
  · exact c2.narrow hA
  · exact d1.narrow hA
  · exact d2.narrow hA
  · rw [e 50 (by decide) (by decide)]
    exact f1
  · rw [e 50 (by decide) (by decide)]
    exact fun h => f2 (hA _ h)
  · intro x hx
    rw [e _ (by have := (mj_strs_id x hx).1; omega) (by have := (mj_strs_id x hx).2; omega)]
    exact e0 x hx
  · rcases h2 with h2 | h2
    · exact Or.inl (h2.narrow hA)
    · refine Or.inr ?_
      rw [e 7 (by decide) (by decide)]
      exact h2.narrow hA
  · intro k hk
    rw [e (10 + k) (by omega) (by omega)]
    exact (h3 k hk).imp fun _ z => z.narrow hA
  · rw [mj_gs_4, mj_gs_5, mj_gs_6]
    exact hs.narrow hA
  · rw [e 8 (by decide) (by decide)]
    exact h5
section MS
variable {g : mj_G} {l : Launch} {y : mj_Y} {d pc : Nat} {lv : List (Nat × Value)} {st : List Value} {M : mj_M} {nx kc ks : Nat} {Q : Option Value → mj_M → Nat → Prop}
theorem mv_getsC {index : Nat} (hd : decode y.2.1 pc = .ok (.getstatic index, 3)) (hw : Cond.fieldLink y.1.cls index "java/lang/String" "COMPACT_STRINGS" "Z" ∈ mj_T) (kk : mj_V g l y d (pc + 3) lv (.int 1 :: st) M nx kc ks Q) : mj_V g l y d pc lv st M nx kc ks Q := by
  intro p e R s m args below meth c H locs ls cells slots TC TS X hR hS hl h1 h2 h3 h4
  obtain ⟨hx, hb, hml, hr, hlk, hown, hnm, hts, hK, hZ, hfr, hlo, hg0⟩ := id X
  exact va_gets hx hb hZ.2.2.2.2.2.2.2.1 hS hown (hts _ hw) (fun _ h => h) hd (kk p e R s m args below meth c H locs ls cells slots TC TS X hR hS hl h1 h2 h3 h4)
theorem mv_gets7 {index : Nat} (hd : decode y.2.1 pc = .ok (.getstatic index, 3)) (hw : Cond.fieldLink y.1.cls index "jdk/internal/util/Preconditions" "SIOOBE_FORMATTER" "Ljava/util/function/BiFunction;" ∈ mj_T) (kN : mj_V g l y d (pc + 3) lv (.null :: st) M nx kc ks Q) (kR : mj_V g l y d (pc + 3) lv (.ref 7 :: st) M nx kc ks Q) : mj_V g l y d pc lv st M nx kc ks Q := by
  intro p e R s m args below meth c H locs ls cells slots TC TS X hR hS hl h1 h2 h3 h4
  obtain ⟨hx, hb, hml, hr, hlk, hown, hnm, hts, hK, hZ, hfr, hlo, hg0⟩ := id X
  rcases hZ.2.2.2.2.2.2.2.2.1 with hz | hz
  · exact va_gets hx hb hz hS hown (hts _ hw) (fun _ h => h) hd (kN p e R s m args below meth c H locs ls cells slots TC TS X hR hS hl h1 h2 h3 h4)
  · exact va_gets hx hb hz hS hown (hts _ hw) (fun _ h => h) hd (kR p e R s m args below meth c H locs ls cells slots TC TS X hR hS hl h1 h2 h3 h4)
theorem mv_getc4 {index : Nat} (hd : decode y.2.1 pc = .ok (.getfield index, 3)) (hw : Cond.fieldLink y.1.cls index "java/lang/String" "coder" "B" ∈ mj_T) (kk : mj_V g l y d (pc + 3) lv (.int 0 :: st) M nx kc ks Q) : mj_V g l y d pc lv (.ref 4 :: st) M nx kc ks Q := by
  intro p e R s m args below meth c H locs ls cells slots TC TS X hR hS hl h1 h2 h3 h4
  obtain ⟨hx, hb, hml, hr, hlk, hown, hnm, hts, hK, hZ, hfr, hlo, hg0⟩ := id X
  exact vk_getf hx hb hZ.2.2.2.2.2.2.2.2.2.2.1.2.1 hS hown (hts _ hw) (fun _ h => h) hd (kk p e R s m args below meth c H locs ls cells slots TC TS X hR hS hl h1 h2 h3 h4)
theorem mv_getv4 {index : Nat} (hd : decode y.2.1 pc = .ok (.getfield index, 3)) (hw : Cond.fieldLink y.1.cls index "java/lang/String" "value" "[B" ∈ mj_T) (kk : mj_V g l y d (pc + 3) lv (.ref 5 :: st) M nx kc ks Q) : mj_V g l y d pc lv (.ref 4 :: st) M nx kc ks Q := by
  intro p e R s m args below meth c H locs ls cells slots TC TS X hR hS hl h1 h2 h3 h4
  obtain ⟨hx, hb, hml, hr, hlk, hown, hnm, hts, hK, hZ, hfr, hlo, hg0⟩ := id X
  exact vk_getf hx hb hZ.2.2.2.2.2.2.2.2.2.2.1.2.2.1 hS hown (hts _ hw) (fun _ h => h) hd (kk p e R s m args below meth c H locs ls cells slots TC TS X hR hS hl h1 h2 h3 h4)
theorem mv_alen5 (hd : decode y.2.1 pc = .ok (.arraylength, 1)) (kk : mj_V g l y d (pc + 1) lv (.int (Int32.ofNat (mj_byt.getD (mj_r g 6) []).length) :: st) M nx kc ks Q) : mj_V g l y d pc lv (.ref 5 :: st) M nx kc ks Q := by
  intro p e R s m args below meth c H locs ls cells slots TC TS X hR hS hl h1 h2 h3 h4
  obtain ⟨hx, hb, hml, hr, hlk, hown, hnm, hts, hK, hZ, hfr, hlo, hg0⟩ := id X
  exact va_tlen hx hb hZ.2.2.2.2.2.2.2.2.2.2.1.2.2.2 hS (by rfl) hd (kk p e R s m args below meth c H locs ls cells slots TC TS X hR hS hl h1 h2 h3 h4)
theorem mv_bald5 {i : Int32} (hd : decode y.2.1 pc = .ok (.baload, 1)) (hin : vp_in i (mj_byt.getD (mj_r g 6) []).length) (kk : mj_V g l y d (pc + 1) lv (.int ((mj_byt.getD (mj_r g 6) []).getD i.toNatClampNeg 0) :: st) M nx kc ks Q) : mj_V g l y d pc lv (.int i :: .ref 5 :: st) M nx kc ks Q := by
  intro p e R s m args below meth c H locs ls cells slots TC TS X hR hS hl h1 h2 h3 h4
  obtain ⟨hx, hb, hml, hr, hlk, hown, hnm, hts, hK, hZ, hfr, hlo, hg0⟩ := id X
  exact va_tb hx hb hZ.2.2.2.2.2.2.2.2.2.2.1.2.2.2 hS hin rfl hd (kk p e R s m args below meth c H locs ls cells slots TC TS X hR hS hl h1 h2 h3 h4)
/-- a method of String's on the String looked into -/
theorem mv_callV4 {index n kc1 ks1 kc' ks' : Nat} {y2 : mj_Y} {As : List Value} {Q' : Option Value → mj_M → Nat → Prop} (hd : decode y.2.1 pc = .ok (.invokevirtual index, 3)) (hw : mj_lV y.1.cls index y2 n) (hc : y2.1.cls = "java/lang/String") (hm : mj_Met g l y2 d (.ref 4 :: As) M nx kc1 ks1 Q') (hn : As.length = n) (hcat : (st.map fun v => v.category).sum ≤ 8) (hkc : kc' + kc1 ≤ kc) (hks : ks' + ks1 ≤ ks) (st9 : List Value) (hst : As.reverse ++ .ref 4 :: st = st9)
    (kk : ∀ (r : Option Value) (M' : mj_M) (nx' : Nat), Q' r M' nx' → mj_V g l y (d + 1) (pc + 3) lv (r.toList ++ st) M' nx' kc' ks' Q) : mj_V g l y (d + 1) pc lv st9 M nx kc ks Q := by
  intro p e R s m args below meth c H locs ls cells slots TC TS X hR hS hl h1 h2 h3 h4
  obtain ⟨hx, hb, hml, hr, hlk, hown, hnm, hts, hK, hZ, hfr, hlo, hg0⟩ := id X
  subst hst
  obtain ⟨hw1, hw2, hw3⟩ := hw
  obtain ⟨cell, q1, q2, q3, -⟩ := hZ.2.2.2.2.2.2.2.2.2.2.1.1.kept hS.2.1
  have hrun := va_runV (e := e) (below := below) (meth := meth) (m := m) (cells := cells) (slots := slots) (locs := locs) (g := F0 m pc ls ((As.reverse ++ .ref 4 :: st).map (mj_v g))) (rest := st.map (mj_v g)) (As := As.map (mj_v g)) (b := mj_r g 4) (H := H) ⟨hx, hb, hml, hown, hts⟩ hm ⟨mj_cB hts hw1 hfr hlo, hts _ hw2, hts _ hw3⟩ ⟨mj_Pc_blind, ⟨cell, q1, q2, by rw [hc]; exact q3⟩, mj_Pc_at (As := .ref 4 :: As) X hR hS⟩ rfl (by rw [List.length_map]; exact hn) hl.1 (by simp only [List.map_append, List.map_reverse, List.map_cons]; rfl) (mj_room hcat) hd ⟨by omega, by omega⟩
  refine mj_back hrun hS fun r M' nx' H1 locs1 hq hR1 hS1 => ?_
  have h9 := kk r M' nx' hq p e R s m args below meth c H1 locs1 ls (cells + kc1) (slots + ks1) TC TS X hR1 hS1 hl (by omega) (by omega) h3 h4
  refine W.eq ?_ h9
  cases r <;> rfl
/-- behind a call that ran over constants of its own and left the heap as it was -/
theorem mj_backS {p : Program} {e : Env} {R : Room} {s : State} {m : MethodId} {args : Array Value} {below : List Frame} {meth : Method} {c : Code} {H : Heap} {locs : List Loc} {cells slots q v i : Nat} {ls : Array Slot} {st0 rest : List Value} {a : Array Value} {P : Int32 → Prop} {Qf : State → Prop} (hg0 : g.1 ≤ H.size)
    (hr : va_Run p l e R s m args below meth c H locs cells slots 0 0 (F0 m pc ls st0) rest (mj_Q (mj_gs g H.size q v i) (fun r _ n => (∃ c9 : Int32, r = some (.int c9) ∧ P c9) ∧ n = 64) a) (mj_A (mj_gs g H.size q v i))) (hS : va_S (mj_A g) s.heap H locs)
    (kk : ∀ (c9 : Int32) (locs1 : List Loc), P c9 → va_S (mj_A g) s.heap H locs1 → W p l e R s m args below meth c H locs1 cells slots Qf (F0 m (pc + 3) ls (.int c9 :: rest))) : W p l e R s m args below meth c H locs cells slots Qf (F0 m pc ls st0) := by
  intro T hT X
  obtain ⟨v9, st₀, t, T', L, h0, X', hL, e1, e2, ⟨⟨r, M', nx', hv, ⟨⟨c9, hr9, hP⟩, hn9⟩, hR'⟩, hz, hk⟩, st9⟩ := hr T hT X
  cases hv
  subst hr9 hn9
  rw [h0] at hz hk
  have hsz : t.heap.size = H.size := by
    have := hR'.2.2
    rw [mj_r_ge (Nat.le_refl _)] at this
    rw [this]
    show H.size + (64 - 64) = H.size
    omega
  have hH : T'.heap = H := by
    rw [e1]
    refine Array.ext_getElem? fun j => ?_
    by_cases hj : j < H.size
    · exact hk j hj (fun h => absurd hj (Nat.not_lt.mpr h))
    · rw [Array.getElem?_eq_none_iff.mpr (by omega), Array.getElem?_eq_none_iff.mpr (by omega)]
  obtain ⟨t2, a1, b1⟩ := kk c9 (locs ++ L) hP
    ⟨hS.1, hS.2.1, fun q hq => by
      rcases List.mem_append.mp hq with h | h
      · exact hS.2.2 q h
      · exact Nat.le_trans hg0 (hL q h)⟩ T' hH X'
  exact ⟨t2, st9 t2 a1, b1⟩
/-- a String constant asked -/
theorem mv_callStr {index n i a : Nat} {y2 : mj_Y} {As : List Value} {P : Int32 → Prop} (hd : decode y.2.1 pc = .ok (.invokevirtual index, 3)) (hw : mj_lV y.1.cls index y2 n) (hc : y2.1.cls = "java/lang/String") (hi : i < 37) (ha : 10 + i = a) (hm : ∀ z q v : Nat, mj_Met (mj_gs g z q v i) l y2 d (.ref 4 :: As) (fun _ => none) 64 0 0 (fun r _ n => (∃ c9 : Int32, r = some (.int c9) ∧ P c9) ∧ n = 64)) (hAs : ∀ g1 : mj_G, As.map (mj_v g1) = As) (hn : As.length = n) (hcat : (st.map fun v => v.category).sum ≤ 8)
    (st9 : List Value) (hst : As.reverse ++ .ref a :: st = st9) (kk : ∀ c9 : Int32, P c9 → mj_V g l y (d + 1) (pc + 3) lv (.int c9 :: st) M nx kc ks Q) : mj_V g l y (d + 1) pc lv st9 M nx kc ks Q := by
  intro p e R s m args below meth c H locs ls cells slots TC TS X hR hS hl h1 h2 h3 h4
  obtain ⟨hx, hb, hml, hr, hlk, hown, hnm, hts, hK, hZ, hfr, hlo, hg0⟩ := id X
  subst hst ha
  obtain ⟨hw1, hw2, hw3⟩ := hw
  obtain ⟨v, hv⟩ := hZ.2.2.2.2.2.2.2.2.2.1 i hi
  have hg1 : g.1 ≤ H.size := Nat.le_trans hg0 hS.1
  obtain ⟨cell, q1, q2, q3, -⟩ := hv.1.kept hS.2.1
  have hm9 := hm H.size (mj_r g (10 + i)) v
  have hPc : ∀ U : State, U.heap = H → s.WarmedH U.vm → mj_Pc (mj_gs g H.size (mj_r g (10 + i)) v i) (.ref 4 :: As) (fun _ => none) 64 ((Value.ref (mj_r g (10 + i)) :: As)).toArray U := by
    intro U hU hW
    refine ⟨?_, ⟨(fun a c h => nomatch h), Nat.le_refl _, ?_⟩, va_K.moved hW.alike hK, ?_⟩
    · rw [List.map_cons, hAs]
      rfl
    · rw [hU, mj_r_ge (Nat.le_refl _)]
      show H.size = H.size + (64 - 64)
      omega
    · rw [hU]
      exact ((hZ.kept fun a h1 h2 => hS.2.1 a h1 h2).gs hg1 (hv.kept hS.2.1)).warm hW
  have hrun := va_runV (e := e) (below := below) (meth := meth) (m := m) (cells := cells) (slots := slots) (locs := locs) (g := F0 m pc ls ((As.reverse ++ .ref (10 + i) :: st).map (mj_v g))) (rest := st.map (mj_v g)) (As := As) (b := mj_r g (10 + i)) (H := H) ⟨hx, hb, hml, hown, hts⟩ hm9 ⟨mj_cB hts hw1 hfr hlo, hts _ hw2, hts _ hw3⟩ ⟨mj_Pc_blind, ⟨cell, q1, q2, by rw [hc]; exact q3⟩, hPc⟩ rfl hn hl.1 (by simp only [List.map_append, List.map_reverse, List.map_cons, hAs]; rfl) (mj_room hcat) hd ⟨by omega, by omega⟩
  refine mj_backS hg1 hrun hS fun c9 locs1 hP hS1 => ?_
  exact kk c9 hP p e R s m args below meth c H locs1 ls cells slots TC TS X hR hS1 hl h1 h2 h3 h4
end MS
abbrev kY_String_length : mj_Y := (⟨"java/lang/String", "length", "()I"⟩, prog_24_method_54_code, 1, (Option.some Jvm.ClassFile.FieldType.int))
abbrev kY_String_coder : mj_Y := (⟨"java/lang/String", "coder", "()B"⟩, prog_24_method_152_code, 1, (Option.some Jvm.ClassFile.FieldType.byte))
abbrev kY_String_isLatin1 : mj_Y := (⟨"java/lang/String", "isLatin1", "()Z"⟩, prog_24_method_154_code, 1, (Option.some Jvm.ClassFile.FieldType.boolean))
abbrev kY_String_charAt : mj_Y := (⟨"java/lang/String", "charAt", "(I)C"⟩, prog_24_method_56_code, 2, (Option.some Jvm.ClassFile.FieldType.char))
abbrev kY_StringLatin1_charAt : mj_Y := (⟨"java/lang/StringLatin1", "charAt", "([BI)C"⟩, prog_25_method_2_code, 2, (Option.some Jvm.ClassFile.FieldType.char))
abbrev kY_String_checkIndex : mj_Y := (⟨"java/lang/String", "checkIndex", "(II)V"⟩, prog_24_method_155_code, 2, (Option.none : Option Jvm.ClassFile.FieldType))
abbrev kY_Preconditions_checkIndex : mj_Y := (⟨"jdk/internal/util/Preconditions", "checkIndex", "(IILjava/util/function/BiFunction;)I"⟩, prog_42_method_11_code, 3, (Option.some Jvm.ClassFile.FieldType.int))
theorem d_String_length_0 : decode kY_String_length.2.1 0 = .ok (.aload_n 0, 1) := by decide +kernel
theorem d_String_length_1 : decode kY_String_length.2.1 1 = .ok (.getfield 9, 3) := by decide +kernel
theorem d_String_length_4 : decode kY_String_length.2.1 4 = .ok (.arraylength, 1) := by decide +kernel
theorem d_String_length_5 : decode kY_String_length.2.1 5 = .ok (.aload_n 0, 1) := by decide +kernel
theorem d_String_length_6 : decode kY_String_length.2.1 6 = .ok (.invokevirtual 335, 3) := by decide +kernel
theorem d_String_length_9 : decode kY_String_length.2.1 9 = .ok (.ishr, 1) := by decide +kernel
theorem d_String_length_10 : decode kY_String_length.2.1 10 = .ok (.ireturn, 1) := by decide +kernel
theorem d_String_coder_0 : decode kY_String_coder.2.1 0 = .ok (.getstatic 38, 3) := by decide +kernel
theorem d_String_coder_3 : decode kY_String_coder.2.1 3 = .ok (.ifCond .eq 10, 3) := by decide +kernel
theorem d_String_coder_6 : decode kY_String_coder.2.1 6 = .ok (.aload_n 0, 1) := by decide +kernel
theorem d_String_coder_7 : decode kY_String_coder.2.1 7 = .ok (.getfield 15, 3) := by decide +kernel
theorem d_String_coder_10 : decode kY_String_coder.2.1 10 = .ok (.goto 4, 3) := by decide +kernel
theorem d_String_coder_14 : decode kY_String_coder.2.1 14 = .ok (.ireturn, 1) := by decide +kernel
theorem d_String_isLatin1_0 : decode kY_String_isLatin1.2.1 0 = .ok (.getstatic 38, 3) := by decide +kernel
theorem d_String_isLatin1_3 : decode kY_String_isLatin1.2.1 3 = .ok (.ifCond .eq 14, 3) := by decide +kernel
theorem d_String_isLatin1_6 : decode kY_String_isLatin1.2.1 6 = .ok (.aload_n 0, 1) := by decide +kernel
theorem d_String_isLatin1_7 : decode kY_String_isLatin1.2.1 7 = .ok (.getfield 15, 3) := by decide +kernel
theorem d_String_isLatin1_10 : decode kY_String_isLatin1.2.1 10 = .ok (.ifCond .ne 7, 3) := by decide +kernel
theorem d_String_isLatin1_13 : decode kY_String_isLatin1.2.1 13 = .ok (.iconst 1, 1) := by decide +kernel
theorem d_String_isLatin1_14 : decode kY_String_isLatin1.2.1 14 = .ok (.goto 4, 3) := by decide +kernel
theorem d_String_isLatin1_18 : decode kY_String_isLatin1.2.1 18 = .ok (.ireturn, 1) := by decide +kernel
theorem d_String_charAt_0 : decode kY_String_charAt.2.1 0 = .ok (.aload_n 0, 1) := by decide +kernel
theorem d_String_charAt_1 : decode kY_String_charAt.2.1 1 = .ok (.invokevirtual 492, 3) := by decide +kernel
theorem d_String_charAt_4 : decode kY_String_charAt.2.1 4 = .ok (.ifCond .eq 12, 3) := by decide +kernel
theorem d_String_charAt_7 : decode kY_String_charAt.2.1 7 = .ok (.aload_n 0, 1) := by decide +kernel
theorem d_String_charAt_8 : decode kY_String_charAt.2.1 8 = .ok (.getfield 9, 3) := by decide +kernel
theorem d_String_charAt_11 : decode kY_String_charAt.2.1 11 = .ok (.iload_n 1, 1) := by decide +kernel
theorem d_String_charAt_12 : decode kY_String_charAt.2.1 12 = .ok (.invokestatic 495, 3) := by decide +kernel
theorem d_String_charAt_15 : decode kY_String_charAt.2.1 15 = .ok (.ireturn, 1) := by decide +kernel
theorem d_StringLatin1_charAt_0 : decode kY_StringLatin1_charAt.2.1 0 = .ok (.iload_n 1, 1) := by decide +kernel
theorem d_StringLatin1_charAt_1 : decode kY_StringLatin1_charAt.2.1 1 = .ok (.aload_n 0, 1) := by decide +kernel
theorem d_StringLatin1_charAt_2 : decode kY_StringLatin1_charAt.2.1 2 = .ok (.arraylength, 1) := by decide +kernel
theorem d_StringLatin1_charAt_3 : decode kY_StringLatin1_charAt.2.1 3 = .ok (.invokestatic 9, 3) := by decide +kernel
theorem d_StringLatin1_charAt_6 : decode kY_StringLatin1_charAt.2.1 6 = .ok (.aload_n 0, 1) := by decide +kernel
theorem d_StringLatin1_charAt_7 : decode kY_StringLatin1_charAt.2.1 7 = .ok (.iload_n 1, 1) := by decide +kernel
theorem d_StringLatin1_charAt_8 : decode kY_StringLatin1_charAt.2.1 8 = .ok (.baload, 1) := by decide +kernel
theorem d_StringLatin1_charAt_9 : decode kY_StringLatin1_charAt.2.1 9 = .ok (.sipush 255, 3) := by decide +kernel
theorem d_StringLatin1_charAt_12 : decode kY_StringLatin1_charAt.2.1 12 = .ok (.iand, 1) := by decide +kernel
theorem d_StringLatin1_charAt_13 : decode kY_StringLatin1_charAt.2.1 13 = .ok (.i2c, 1) := by decide +kernel
theorem d_StringLatin1_charAt_14 : decode kY_StringLatin1_charAt.2.1 14 = .ok (.ireturn, 1) := by decide +kernel
theorem d_String_checkIndex_0 : decode kY_String_checkIndex.2.1 0 = .ok (.iload_n 0, 1) := by decide +kernel
theorem d_String_checkIndex_1 : decode kY_String_checkIndex.2.1 1 = .ok (.iload_n 1, 1) := by decide +kernel
theorem d_String_checkIndex_2 : decode kY_String_checkIndex.2.1 2 = .ok (.getstatic 1053, 3) := by decide +kernel
theorem d_String_checkIndex_5 : decode kY_String_checkIndex.2.1 5 = .ok (.invokestatic 1059, 3) := by decide +kernel
theorem d_String_checkIndex_8 : decode kY_String_checkIndex.2.1 8 = .ok (.pop, 1) := by decide +kernel
theorem d_String_checkIndex_9 : decode kY_String_checkIndex.2.1 9 = .ok (.return_, 1) := by decide +kernel
theorem d_Preconditions_checkIndex_0 : decode kY_Preconditions_checkIndex.2.1 0 = .ok (.iload_n 0, 1) := by decide +kernel
theorem d_Preconditions_checkIndex_1 : decode kY_Preconditions_checkIndex.2.1 1 = .ok (.ifCond .lt 8, 3) := by decide +kernel
theorem d_Preconditions_checkIndex_4 : decode kY_Preconditions_checkIndex.2.1 4 = .ok (.iload_n 0, 1) := by decide +kernel
theorem d_Preconditions_checkIndex_5 : decode kY_Preconditions_checkIndex.2.1 5 = .ok (.iload_n 1, 1) := by decide +kernel
theorem d_Preconditions_checkIndex_6 : decode kY_Preconditions_checkIndex.2.1 6 = .ok (.if_icmp .lt 10, 3) := by decide +kernel
theorem d_Preconditions_checkIndex_16 : decode kY_Preconditions_checkIndex.2.1 16 = .ok (.iload_n 0, 1) := by decide +kernel
theorem d_Preconditions_checkIndex_17 : decode kY_Preconditions_checkIndex.2.1 17 = .ok (.ireturn, 1) := by decide +kernel
theorem lV_String_335 : mj_lV "java/lang/String" 335 kY_String_coder 0 := ⟨⟨(mj_in1 (List.mem_of_getElem? (i := 394) (by decide +kernel)) rfl), (mj_in1 (List.mem_of_getElem? (i := 11) (by decide +kernel)) rfl), (mj_in1 (List.mem_of_getElem? (i := 397) (by decide +kernel)) rfl), by decide, rfl, by decide⟩, (mj_in1 (List.mem_of_getElem? (i := 395) (by decide +kernel)) rfl), (mj_in1 (List.mem_of_getElem? (i := 396) (by decide +kernel)) rfl)⟩
theorem lV_String_492 : mj_lV "java/lang/String" 492 kY_String_isLatin1 0 := ⟨⟨(mj_in1 (List.mem_of_getElem? (i := 404) (by decide +kernel)) rfl), (mj_in1 (List.mem_of_getElem? (i := 11) (by decide +kernel)) rfl), (mj_in1 (List.mem_of_getElem? (i := 407) (by decide +kernel)) rfl), by decide, rfl, by decide⟩, (mj_in1 (List.mem_of_getElem? (i := 405) (by decide +kernel)) rfl), (mj_in1 (List.mem_of_getElem? (i := 406) (by decide +kernel)) rfl)⟩
theorem lS_String_495 : mj_lS "java/lang/String" 495 kY_StringLatin1_charAt 2 := ⟨⟨(mj_in1 (List.mem_of_getElem? (i := 408) (by decide +kernel)) rfl), (mj_in1 (List.mem_of_getElem? (i := 12) (by decide +kernel)) rfl), (mj_in1 (List.mem_of_getElem? (i := 410) (by decide +kernel)) rfl), by decide, rfl, by decide⟩, (mj_in1 (List.mem_of_getElem? (i := 409) (by decide +kernel)) rfl)⟩
theorem lS_StringLatin1_9 : mj_lS "java/lang/StringLatin1" 9 kY_String_checkIndex 2 := ⟨⟨(mj_in1 (List.mem_of_getElem? (i := 411) (by decide +kernel)) rfl), (mj_in1 (List.mem_of_getElem? (i := 11) (by decide +kernel)) rfl), (mj_in1 (List.mem_of_getElem? (i := 413) (by decide +kernel)) rfl), by decide, rfl, by decide⟩, (mj_in1 (List.mem_of_getElem? (i := 412) (by decide +kernel)) rfl)⟩
theorem lS_String_1059 : mj_lS "java/lang/String" 1059 kY_Preconditions_checkIndex 3 := ⟨⟨(mj_in1 (List.mem_of_getElem? (i := 416) (by decide +kernel)) rfl), (mj_in1 (List.mem_of_getElem? (i := 13) (by decide +kernel)) rfl), (mj_in1 (List.mem_of_getElem? (i := 418) (by decide +kernel)) rfl), by decide, rfl, by decide⟩, (mj_in1 (List.mem_of_getElem? (i := 417) (by decide +kernel)) rfl)⟩
theorem mj_Met.conseq {g : mj_G} {l : Launch} {y : mj_Y} {d : Nat} {As : List Value} {M : mj_M} {nx kc ks : Nat} {Q Q2 : Option Value → mj_M → Nat → Prop} (h : ∀ r M n, Q r M n → Q2 r M n) (hm : mj_Met g l y d As M nx kc ks Q) : mj_Met g l y d As M nx kc ks Q2 :=
  by
  unfold mj_Met Met at hm ⊢
  refine MetFree.mono hm (fun _ _ h => h) (fun _ _ _ _ _ h => h) (fun _ _ _ _ _ hq => ?_)
  obtain ⟨⟨⟨r, M1, n1, e1, e2, e3⟩, e4⟩, e5⟩ := hq
  exact ⟨⟨⟨r, M1, n1, e1, h _ _ _ e2, e3⟩, e4⟩, e5⟩
theorem mz_nat9 {i : Int32} (h : 0 ≤ i.toInt) : (i.toNatClampNeg : Int) = i.toInt := by
  obtain ⟨j, hj, rfl⟩ := nI_of (x := i) (by rw [Int32.lt_iff_toInt_lt]; show ¬ i.toInt < 0; omega)
  rw [nI_toInt hj, nI_clamp hj]
theorem tc_S_coder {g : mj_G} {l : Launch} {d nx : Nat} {M : mj_M} : mj_Met g l kY_String_coder d [.ref 4] M nx 0 0 (mj_E1 (some (.int 0)) M nx) := by
  refine mj_enter (by decide) (Nat.le_of_ble_eq_true rfl) ?_
  refine mv_getsC d_String_coder_0 (mj_in1 (List.mem_of_getElem? (i := 398) (by decide +kernel)) rfl) ?_
  refine mv_if_eq_f (tgt := 13) d_String_coder_3 (by decide) (by decide) ?_
  refine mv_aload_n d_String_coder_6 rfl rfl ?_
  refine mv_getc4 d_String_coder_7 (mj_in1 (List.mem_of_getElem? (i := 2121) (by decide +kernel)) rfl) ?_
  refine mv_goto (tgt := 14) d_String_coder_10 (by decide) ?_
  exact mv_iret d_String_coder_14 rfl (by decide) ⟨rfl, rfl, rfl⟩
theorem tc_S_length {g : mj_G} {l : Launch} {d nx : Nat} {M : mj_M} : mj_Met g l kY_String_length (d + 1) [.ref 4] M nx 0 0 (mj_E1 (some (.int (Int32.ofNat (mj_byt.getD (mj_r g 6) []).length))) M nx) := by
  refine mj_enter (by decide) (Nat.le_of_ble_eq_true rfl) ?_
  refine mv_aload_n d_String_length_0 rfl rfl ?_
  refine mv_getv4 d_String_length_1 (mj_in1 (List.mem_of_getElem? (i := 2120) (by decide +kernel)) rfl) ?_
  refine mv_alen5 d_String_length_4 ?_
  refine mv_aload_n d_String_length_5 rfl rfl ?_
  refine mv_callV4 (As := []) (kc' := 0) (ks' := 0) d_String_length_6 lV_String_335 rfl (tc_S_coder (d := d)) rfl (Nat.le_of_ble_eq_true rfl) (Nat.le_of_ble_eq_true rfl) (Nat.le_of_ble_eq_true rfl) _ rfl (fun r M' n' h => ?_)
  obtain ⟨rfl, rfl, rfl⟩ := h
  refine mv_ishrv d_String_length_9 (sb_shr0 _) ?_
  exact mv_iret d_String_length_10 rfl rfl ⟨rfl, rfl, rfl⟩
theorem tc_S_latin {g : mj_G} {l : Launch} {d nx : Nat} {M : mj_M} : mj_Met g l kY_String_isLatin1 d [.ref 4] M nx 0 0 (mj_E1 (some (.int 1)) M nx) := by
  refine mj_enter (by decide) (Nat.le_of_ble_eq_true rfl) ?_
  refine mv_getsC d_String_isLatin1_0 (mj_in1 (List.mem_of_getElem? (i := 398) (by decide +kernel)) rfl) ?_
  refine mv_if_eq_f (tgt := 17) d_String_isLatin1_3 (by decide) (by decide) ?_
  refine mv_aload_n d_String_isLatin1_6 rfl rfl ?_
  refine mv_getc4 d_String_isLatin1_7 (mj_in1 (List.mem_of_getElem? (i := 2121) (by decide +kernel)) rfl) ?_
  refine mv_if_ne_f (tgt := 17) d_String_isLatin1_10 (by decide) (by decide) ?_
  refine mv_iconst (v := 1) d_String_isLatin1_13 (by decide) ?_
  refine mv_goto (tgt := 18) d_String_isLatin1_14 (by decide) ?_
  exact mv_iret d_String_isLatin1_18 rfl (by decide) ⟨rfl, rfl, rfl⟩
theorem tc_S_preN {g : mj_G} {l : Launch} {d nx : Nat} {M : mj_M} {i n : Int32} (h0 : 0 ≤ i.toInt) (h1 : i.toInt < n.toInt) : mj_Met g l kY_Preconditions_checkIndex d [.int i, .int n, .null] M nx 0 0 (mj_E1 (some (.int i)) M nx) := by
  refine mj_enter (by decide) (Nat.le_of_ble_eq_true rfl) ?_
  refine mv_iload_n d_Preconditions_checkIndex_0 rfl rfl ?_
  refine mv_if_ltZ (tgt := 9) (a := i.toInt) d_Preconditions_checkIndex_1 (by decide) rfl (fun h => absurd h (by omega)) (fun _ => ?_)
  refine mv_iload_n d_Preconditions_checkIndex_4 rfl rfl ?_
  refine mv_iload_n d_Preconditions_checkIndex_5 rfl rfl ?_
  refine mv_icmp_ltZ (tgt := 16) (a := i.toInt) (b := n.toInt) d_Preconditions_checkIndex_6 (by decide) rfl rfl (fun _ => ?_) (fun h => absurd h (by omega))
  refine mv_iload_n d_Preconditions_checkIndex_16 rfl rfl ?_
  exact mv_iret d_Preconditions_checkIndex_17 rfl rfl ⟨rfl, rfl, rfl⟩
theorem tc_S_preR {g : mj_G} {l : Launch} {d nx : Nat} {M : mj_M} {i n : Int32} (h0 : 0 ≤ i.toInt) (h1 : i.toInt < n.toInt) : mj_Met g l kY_Preconditions_checkIndex d [.int i, .int n, .ref 7] M nx 0 0 (mj_E1 (some (.int i)) M nx) := by
  refine mj_enter (by decide) (Nat.le_of_ble_eq_true rfl) ?_
  refine mv_iload_n d_Preconditions_checkIndex_0 rfl rfl ?_
  refine mv_if_ltZ (tgt := 9) (a := i.toInt) d_Preconditions_checkIndex_1 (by decide) rfl (fun h => absurd h (by omega)) (fun _ => ?_)
  refine mv_iload_n d_Preconditions_checkIndex_4 rfl rfl ?_
  refine mv_iload_n d_Preconditions_checkIndex_5 rfl rfl ?_
  refine mv_icmp_ltZ (tgt := 16) (a := i.toInt) (b := n.toInt) d_Preconditions_checkIndex_6 (by decide) rfl rfl (fun _ => ?_) (fun h => absurd h (by omega))
  refine mv_iload_n d_Preconditions_checkIndex_16 rfl rfl ?_
  exact mv_iret d_Preconditions_checkIndex_17 rfl rfl ⟨rfl, rfl, rfl⟩
theorem tc_S_chk {g : mj_G} {l : Launch} {d nx : Nat} {M : mj_M} {i n : Int32} (h0 : 0 ≤ i.toInt) (h1 : i.toInt < n.toInt) : mj_Met g l kY_String_checkIndex (d + 1) [.int i, .int n] M nx 0 0 (mj_E1 none M nx) := by
  refine mj_enter (by decide) (Nat.le_of_ble_eq_true rfl) ?_
  refine mv_iload_n d_String_checkIndex_0 rfl rfl ?_
  refine mv_iload_n d_String_checkIndex_1 rfl rfl ?_
  refine mv_gets7 d_String_checkIndex_2 (mj_in1 (List.mem_of_getElem? (i := 414) (by decide +kernel)) rfl) ?_ ?_
  · refine mv_callS_s (kc' := 0) (ks' := 0) [.int i, .int n, .null] [.null, .int n, .int i] d_String_checkIndex_5 lS_String_1059 (tc_S_preN (d := d) h0 h1) rfl (Nat.le_of_ble_eq_true rfl) (Nat.le_of_ble_eq_true rfl) (Nat.le_of_ble_eq_true rfl) rfl ?_
    refine mv_pop d_String_checkIndex_8 rfl ?_
    exact mv_vret d_String_checkIndex_9 rfl ⟨rfl, rfl, rfl⟩
  · refine mv_callS_s (kc' := 0) (ks' := 0) [.int i, .int n, .ref 7] [.ref 7, .int n, .int i] d_String_checkIndex_5 lS_String_1059 (tc_S_preR (d := d) h0 h1) rfl (Nat.le_of_ble_eq_true rfl) (Nat.le_of_ble_eq_true rfl) (Nat.le_of_ble_eq_true rfl) rfl ?_
    refine mv_pop d_String_checkIndex_8 rfl ?_
    exact mv_vret d_String_checkIndex_9 rfl ⟨rfl, rfl, rfl⟩
theorem tc_S_ch1 {g : mj_G} {l : Launch} {d nx : Nat} {M : mj_M} {i : Int32} (h6 : mj_r g 6 < 37) (h0 : 0 ≤ i.toInt) (h1 : i.toInt < (((mj_byt.getD (mj_r g 6) []).length : Nat) : Int)) : mj_Met g l kY_StringLatin1_charAt (d + 2) [.ref 5, .int i] M nx 0 0 (mj_E1 (some (.int (mj_ch (mj_r g 6) i.toNatClampNeg))) M nx) := by
  have hL : (Int32.ofNat (mj_byt.getD (mj_r g 6) []).length).toInt = (((mj_byt.getD (mj_r g 6) []).length : Nat) : Int) := by
    have h9 : ∀ i, i < 37 → (Int32.ofNat (mj_byt.getD i []).length).toInt = (((mj_byt.getD i []).length : Nat) : Int) := by decide +kernel
    exact h9 _ h6
  have hi : i.toNatClampNeg < (mj_byt.getD (mj_r g 6) []).length := by
    have := mz_nat9 h0
    omega
  refine mj_enter (by decide) (Nat.le_of_ble_eq_true rfl) ?_
  refine mv_iload_n d_StringLatin1_charAt_0 rfl rfl ?_
  refine mv_aload_n d_StringLatin1_charAt_1 rfl rfl ?_
  refine mv_alen5 d_StringLatin1_charAt_2 ?_
  refine mv_callS_n (kc' := 0) (ks' := 0) [.int i, .int (Int32.ofNat (mj_byt.getD (mj_r g 6) []).length)] [.int (Int32.ofNat (mj_byt.getD (mj_r g 6) []).length), .int i] d_StringLatin1_charAt_3 lS_StringLatin1_9 (tc_S_chk (d := d) h0 (by rw [hL]; exact h1)) rfl (Nat.le_of_ble_eq_true rfl) (Nat.le_of_ble_eq_true rfl) (Nat.le_of_ble_eq_true rfl) rfl ?_
  refine mv_aload_n d_StringLatin1_charAt_6 rfl rfl ?_
  refine mv_iload_n d_StringLatin1_charAt_7 rfl rfl ?_
  refine mv_bald5 d_StringLatin1_charAt_8 (vp_in_iff.mpr ⟨h0, h1⟩) ?_
  refine mv_sipush (v := 255) d_StringLatin1_charAt_9 (by decide) ?_
  refine mv_iand d_StringLatin1_charAt_12 ?_
  refine mv_i2c d_StringLatin1_charAt_13 rfl ?_
  exact mv_iret d_StringLatin1_charAt_14 rfl (mj_chn _ h6 _ hi) ⟨rfl, rfl, rfl⟩
theorem tc_S_charAt {g : mj_G} {l : Launch} {d nx : Nat} {M : mj_M} {i : Int32} (h6 : mj_r g 6 < 37) (h0 : 0 ≤ i.toInt) (h1 : i.toInt < (((mj_byt.getD (mj_r g 6) []).length : Nat) : Int)) : mj_Met g l kY_String_charAt (d + 3) [.ref 4, .int i] M nx 0 0 (mj_E1 (some (.int (mj_ch (mj_r g 6) i.toNatClampNeg))) M nx) := by
  have hi : i.toNatClampNeg < (mj_byt.getD (mj_r g 6) []).length := by
    have := mz_nat9 h0
    omega
  refine mj_enter (by decide) (Nat.le_of_ble_eq_true rfl) ?_
  refine mv_aload_n d_String_charAt_0 rfl rfl ?_
  refine mv_callV4 (As := []) (kc' := 0) (ks' := 0) d_String_charAt_1 lV_String_492 rfl (tc_S_latin (d := d + 2)) rfl (Nat.le_of_ble_eq_true rfl) (Nat.le_of_ble_eq_true rfl) (Nat.le_of_ble_eq_true rfl) _ rfl (fun r M' n' h => ?_)
  obtain ⟨rfl, rfl, rfl⟩ := h
  refine mv_if_eq_f (tgt := 16) d_String_charAt_4 (by decide) (by decide) ?_
  refine mv_aload_n d_String_charAt_7 rfl rfl ?_
  refine mv_getv4 d_String_charAt_8 (mj_in1 (List.mem_of_getElem? (i := 2120) (by decide +kernel)) rfl) ?_
  refine mv_iload_n d_String_charAt_11 rfl rfl ?_
  refine mv_callS_s (kc' := 0) (ks' := 0) [.ref 5, .int i] [.int i, .ref 5] d_String_charAt_12 lS_String_495 (tc_S_ch1 (d := d) h6 h0 h1) rfl (Nat.le_of_ble_eq_true rfl) (Nat.le_of_ble_eq_true rfl) (Nat.le_of_ble_eq_true rfl) rfl ?_
  exact mv_iret d_String_charAt_15 rfl (mj_chn _ h6 _ hi) ⟨rfl, rfl, rfl⟩
section MS2
variable {g : mj_G} {l : Launch} {y : mj_Y} {d pc : Nat} {lv : List (Nat × Value)} {st : List Value} {M : mj_M} {nx kc ks : Nat} {Q : Option Value → mj_M → Nat → Prop}
/-- String.length on a constant -/
theorem mv_slenK {index i a : Nat} {v : Int32} (hd : decode y.2.1 pc = .ok (.invokevirtual index, 3)) (hw : mj_lV y.1.cls index kY_String_length 0) (hi : i < 37) (ha : 10 + i = a) (hv : Int32.ofNat (mj_byt.getD i []).length = v) (hcat : (st.map fun v => v.category).sum ≤ 8) (kk : mj_V g l y (d + 2) (pc + 3) lv (.int v :: st) M nx kc ks Q) : mj_V g l y (d + 2) pc lv (.ref a :: st) M nx kc ks Q := by
  refine mv_callStr (d := d + 1) (As := []) (P := fun c9 => c9 = v) hd hw rfl hi ha (fun z q v9 => ?_) (fun _ => rfl) rfl hcat _ rfl (fun c9 h => ?_)
  · refine mj_Met.conseq (fun r M n h => ?_) (tc_S_length (d := d))
    obtain ⟨rfl, rfl, rfl⟩ := h
    exact ⟨⟨_, rfl, by rw [mj_gs_6]; exact hv⟩, rfl⟩
  · subst h
    exact kk
/-- String.charAt on a constant -/
theorem mv_schK {index i a : Nat} {x : Int32} (hd : decode y.2.1 pc = .ok (.invokevirtual index, 3)) (hw : mj_lV y.1.cls index kY_String_charAt 1) (hi : i < 37) (ha : 10 + i = a) (h0 : 0 ≤ x.toInt) (h1 : x.toInt < (((mj_byt.getD i []).length : Nat) : Int)) (hcat : (st.map fun v => v.category).sum ≤ 8) (kk : mj_V g l y (d + 4) (pc + 3) lv (.int (mj_ch i x.toNatClampNeg) :: st) M nx kc ks Q) : mj_V g l y (d + 4) pc lv (.int x :: .ref a :: st) M nx kc ks Q := by
  refine mv_callStr (d := d + 3) (As := [.int x]) (P := fun c9 => c9 = mj_ch i x.toNatClampNeg) hd hw rfl hi ha (fun z q v9 => ?_) (fun _ => rfl) rfl hcat _ rfl (fun c9 h => ?_)
  · refine mj_Met.conseq (fun r M n h => ?_) (tc_S_charAt (d := d) (by rw [mj_gs_6]; exact hi) h0 (by rw [mj_gs_6]; exact h1))
    obtain ⟨rfl, rfl, rfl⟩ := h
    exact ⟨⟨_, rfl, by rw [mj_gs_6]⟩, rfl⟩
  · subst h
    exact kk
end MS2
