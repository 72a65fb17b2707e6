section MK
variable {g : mj_G} {l : Launch} {y : mj_Y} {d pc : Nat} {lv : List (Nat × Value)} {st : List Value} {M : mj_M} {nx kc ks : Nat} {Q : Option Value → mj_M → Nat → Prop}
theorem mv_callV_s {index n kc1 ks1 kc' ks' : Nat} {y2 : mj_Y} {a ci : Nat} {fs : List Value} {T : u_T} {N : Nat} {w : Value} {M1 : mj_M} {nx1 : Nat} (As : List Value) (st9 : List Value) (hd : decode y.2.1 pc = .ok (.invokevirtual index, 3)) (hw : mj_lV y.1.cls index y2 n) (hM : M a = some (.inr (ci, fs))) (hc : kcl[ci]? = some (y2.1.cls, T, N)) (hm : mj_Met g l y2 d (.ref a :: As) M nx kc1 ks1 (mj_E1 (some w) M1 nx1)) (hn : As.length = n) (hcat : (st.map fun v => v.category).sum ≤ 8) (hkc : kc' + kc1 ≤ kc) (hks : ks' + ks1 ≤ ks) (hst : As.reverse ++ .ref a :: st = st9) (kk : mj_V g l y (d + 1) (pc + 3) lv (w :: st) M1 nx1 kc' ks' Q) : mj_V g l y (d + 1) pc lv st9 M nx kc ks Q := by
  refine mv_callV hd hw hM hc hm hn hcat hkc hks st9 hst fun r M' nx' hq => ?_
  obtain ⟨rfl, rfl, rfl⟩ := hq
  exact kk
theorem mv_callV_n {index n kc1 ks1 kc' ks' : Nat} {y2 : mj_Y} {a ci : Nat} {fs : List Value} {T : u_T} {N : Nat} {M1 : mj_M} {nx1 : Nat} (As : List Value) (st9 : List Value) (hd : decode y.2.1 pc = .ok (.invokevirtual index, 3)) (hw : mj_lV y.1.cls index y2 n) (hM : M a = some (.inr (ci, fs))) (hc : kcl[ci]? = some (y2.1.cls, T, N)) (hm : mj_Met g l y2 d (.ref a :: As) M nx kc1 ks1 (mj_E1 none M1 nx1)) (hn : As.length = n) (hcat : (st.map fun v => v.category).sum ≤ 8) (hkc : kc' + kc1 ≤ kc) (hks : ks' + ks1 ≤ ks) (hst : As.reverse ++ .ref a :: st = st9) (kk : mj_V g l y (d + 1) (pc + 3) lv st M1 nx1 kc' ks' Q) : mj_V g l y (d + 1) pc lv st9 M nx kc ks Q := by
  refine mv_callV hd hw hM hc hm hn hcat hkc hks st9 hst fun r M' nx' hq => ?_
  obtain ⟨rfl, rfl, rfl⟩ := hq
  exact kk
theorem mv_callV_b {index n kc1 ks1 kc' ks' : Nat} {y2 : mj_Y} {a ci : Nat} {fs : List Value} {T : u_T} {N : Nat} {P : Prop} (As : List Value) (st9 : List Value) (hd : decode y.2.1 pc = .ok (.invokevirtual index, 3)) (hw : mj_lV y.1.cls index y2 n) (hM : M a = some (.inr (ci, fs))) (hc : kcl[ci]? = some (y2.1.cls, T, N)) (hm : mj_Met g l y2 d (.ref a :: As) M nx kc1 ks1 (mj_B P M nx)) (hn : As.length = n) (hcat : (st.map fun v => v.category).sum ≤ 8) (hkc : kc' + kc1 ≤ kc) (hks : ks' + ks1 ≤ ks) (hst : As.reverse ++ .ref a :: st = st9) (kt : P → mj_V g l y (d + 1) (pc + 3) lv (.int 1 :: st) M nx kc' ks' Q) (kf : ¬ P → mj_V g l y (d + 1) (pc + 3) lv (.int 0 :: st) M nx kc' ks' Q) : mj_V g l y (d + 1) pc lv st9 M nx kc ks Q := by
  refine mv_callV hd hw hM hc hm hn hcat hkc hks st9 hst fun r M' nx' hq => ?_
  obtain ⟨⟨hp, rfl⟩ | ⟨hp, rfl⟩, rfl, rfl⟩ := hq
  · exact kt hp
  · exact kf hp
theorem mv_callS_s {index n kc1 ks1 kc' ks' : Nat} {y2 : mj_Y} {w : Value} {M1 : mj_M} {nx1 : Nat} (As : List Value) (st9 : List Value) (hd : decode y.2.1 pc = .ok (.invokestatic index, 3)) (hw : mj_lS y.1.cls index y2 n) (hm : mj_Met g l y2 d As M nx kc1 ks1 (mj_E1 (some w) M1 nx1)) (hn : As.length = n) (hcat : (st.map fun v => v.category).sum ≤ 8) (hkc : kc' + kc1 ≤ kc) (hks : ks' + ks1 ≤ ks) (hst : As.reverse ++ st = st9) (kk : mj_V g l y (d + 1) (pc + 3) lv (w :: st) M1 nx1 kc' ks' Q) : mj_V g l y (d + 1) pc lv st9 M nx kc ks Q := by
  refine mv_callS hd hw hm hn hcat hkc hks st9 hst fun r M' nx' hq => ?_
  obtain ⟨rfl, rfl, rfl⟩ := hq
  exact kk
theorem mv_callS_n {index n kc1 ks1 kc' ks' : Nat} {y2 : mj_Y} {M1 : mj_M} {nx1 : Nat} (As : List Value) (st9 : List Value) (hd : decode y.2.1 pc = .ok (.invokestatic index, 3)) (hw : mj_lS y.1.cls index y2 n) (hm : mj_Met g l y2 d As M nx kc1 ks1 (mj_E1 none M1 nx1)) (hn : As.length = n) (hcat : (st.map fun v => v.category).sum ≤ 8) (hkc : kc' + kc1 ≤ kc) (hks : ks' + ks1 ≤ ks) (hst : As.reverse ++ st = st9) (kk : mj_V g l y (d + 1) (pc + 3) lv st M1 nx1 kc' ks' Q) : mj_V g l y (d + 1) pc lv st9 M nx kc ks Q := by
  refine mv_callS hd hw hm hn hcat hkc hks st9 hst fun r M' nx' hq => ?_
  obtain ⟨rfl, rfl, rfl⟩ := hq
  exact kk
theorem mv_callS_b {index n kc1 ks1 kc' ks' : Nat} {y2 : mj_Y} {P : Prop} (As : List Value) (st9 : List Value) (hd : decode y.2.1 pc = .ok (.invokestatic index, 3)) (hw : mj_lS y.1.cls index y2 n) (hm : mj_Met g l y2 d As M nx kc1 ks1 (mj_B P M nx)) (hn : As.length = n) (hcat : (st.map fun v => v.category).sum ≤ 8) (hkc : kc' + kc1 ≤ kc) (hks : ks' + ks1 ≤ ks) (hst : As.reverse ++ st = st9) (kt : P → mj_V g l y (d + 1) (pc + 3) lv (.int 1 :: st) M nx kc' ks' Q) (kf : ¬ P → mj_V g l y (d + 1) (pc + 3) lv (.int 0 :: st) M nx kc' ks' Q) : mj_V g l y (d + 1) pc lv st9 M nx kc ks Q := by
  refine mv_callS hd hw hm hn hcat hkc hks st9 hst fun r M' nx' hq => ?_
  obtain ⟨⟨hp, rfl⟩ | ⟨hp, rfl⟩, rfl, rfl⟩ := hq
  · exact kt hp
  · exact kf hp
theorem mv_callI_n {index n kc1 ks1 kc' ks' : Nat} {y2 : mj_Y} {a : Nat} {M1 : mj_M} {nx1 : Nat} (As : List Value) (st9 : List Value) (hd : decode y.2.1 pc = .ok (.invokespecial index, 3)) (hw : mj_lI y.1.cls index y2 n) (hm : mj_Met g l y2 d (.ref a :: As) M nx kc1 ks1 (mj_E1 none M1 nx1)) (hn : As.length = n) (hcat : (st.map fun v => v.category).sum ≤ 8) (hkc : kc' + kc1 ≤ kc) (hks : ks' + ks1 ≤ ks) (hst : As.reverse ++ .ref a :: st = st9) (kk : mj_V g l y (d + 1) (pc + 3) lv st M1 nx1 kc' ks' Q) : mj_V g l y (d + 1) pc lv st9 M nx kc ks Q := by
  refine mv_callI hd hw hm hn hcat hkc hks st9 hst fun r M' nx' hq => ?_
  obtain ⟨rfl, rfl, rfl⟩ := hq
  exact kk
theorem mj_room2 {g : mj_G} {st : List Value} (h : (st.map fun v => v.category).sum ≤ 8) : ((st.map (mj_v g)).map fun v => v.category).sum ≤ 8 := by
  rw [mj_cats]
  exact h
theorem mj_wmmax : Cond.static Lib.Math.max.name ∈ mj_T ∧ Cond.initialized "java/lang/Math" ∈ mj_T ∧ Cond.code Lib.Math.max.name Lib.Math.max.code 2 (some .int) ∈ mj_T := ⟨mj_in1 (by decide +kernel) rfl, mj_in1 (by decide +kernel) rfl, mj_in1 (by decide +kernel) rfl⟩
theorem mv_mmax {index : Nat} {x y0 v : Int32} (hd : decode y.2.1 pc = .ok (.invokestatic index, 3)) (hw : Cond.methodLink y.1.cls index Lib.Math.max.name ∈ mj_T) (hcat : (st.map fun v => v.category).sum ≤ 8) (hv : (if x < y0 then y0 else x) = v) (kk : mj_V g l y (d + 1) (pc + 3) lv (.int v :: st) M nx kc ks Q) : mj_V g l y (d + 1) pc lv (.int y0 :: .int x :: st) M nx kc ks Q := by
  intro p e R s m args below meth c H locs ls cells slots TC TS X hR hS hl h1 h2 h3 h4
  obtain ⟨hx, hb, hml, hr, hlk, hown, hnm, hts, hK, hZ, hfr, hlo, hg0⟩ := id X
  subst hv
  have hc9 := mj_room2 (g := g) hcat
  exact va_mmax hx hb (hml.trans hl.1.symm) hown (hts _ hw) (hts _ mj_wmmax.1) (hts _ mj_wmmax.2.1) (hts _ mj_wmmax.2.2) (by omega) (by omega) (by omega) (by omega) hd (kk p e R s m args below meth c H locs ls cells slots TC TS X hR hS hl h1 h2 h3 h4)
theorem mj_wmmin : Cond.static Lib.Math.min.name ∈ mj_T ∧ Cond.initialized "java/lang/Math" ∈ mj_T ∧ Cond.code Lib.Math.min.name Lib.Math.min.code 2 (some .int) ∈ mj_T := ⟨mj_in1 (by decide +kernel) rfl, mj_in1 (by decide +kernel) rfl, mj_in1 (by decide +kernel) rfl⟩
theorem mv_mmin {index : Nat} {x y0 v : Int32} (hd : decode y.2.1 pc = .ok (.invokestatic index, 3)) (hw : Cond.methodLink y.1.cls index Lib.Math.min.name ∈ mj_T) (hcat : (st.map fun v => v.category).sum ≤ 8) (hv : (if y0 < x then y0 else x) = v) (kk : mj_V g l y (d + 1) (pc + 3) lv (.int v :: st) M nx kc ks Q) : mj_V g l y (d + 1) pc lv (.int y0 :: .int x :: st) M nx kc ks Q := by
  intro p e R s m args below meth c H locs ls cells slots TC TS X hR hS hl h1 h2 h3 h4
  obtain ⟨hx, hb, hml, hr, hlk, hown, hnm, hts, hK, hZ, hfr, hlo, hg0⟩ := id X
  subst hv
  have hc9 := mj_room2 (g := g) hcat
  exact va_mmin hx hb (hml.trans hl.1.symm) hown (hts _ hw) (hts _ mj_wmmin.1) (hts _ mj_wmmin.2.1) (hts _ mj_wmmin.2.2) (by omega) (by omega) (by omega) (by omega) hd (kk p e R s m args below meth c H locs ls cells slots TC TS X hR hS hl h1 h2 h3 h4)
theorem mj_wmmax_long : Cond.static Lib.MathLoose.max_long.x ∈ mj_T ∧ Cond.initialized "java/lang/Math" ∈ mj_T ∧ Cond.code Lib.MathLoose.max_long.x Lib.MathLoose.max_long.code 4 (some .long) ∈ mj_T := ⟨mj_in1 (by decide +kernel) rfl, mj_in1 (by decide +kernel) rfl, mj_in1 (by decide +kernel) rfl⟩
theorem mv_mmax_long {index : Nat} {x y0 v : Int64} (hd : decode y.2.1 pc = .ok (.invokestatic index, 3)) (hw : Cond.methodLink y.1.cls index Lib.MathLoose.max_long.x ∈ mj_T) (hcat : (st.map fun v => v.category).sum ≤ 8) (hv : (if y0 < x then x else y0) = v) (kk : mj_V g l y (d + 1) (pc + 3) lv (.long v :: st) M nx kc ks Q) : mj_V g l y (d + 1) pc lv (.long y0 :: .long x :: st) M nx kc ks Q := by
  intro p e R s m args below meth c H locs ls cells slots TC TS X hR hS hl h1 h2 h3 h4
  obtain ⟨hx, hb, hml, hr, hlk, hown, hnm, hts, hK, hZ, hfr, hlo, hg0⟩ := id X
  subst hv
  have hc9 := mj_room2 (g := g) hcat
  exact va_mmax_long hx hb (hml.trans hl.1.symm) hown (hts _ hw) (hts _ mj_wmmax_long.1) (hts _ mj_wmmax_long.2.1) (hts _ mj_wmmax_long.2.2) (by omega) (by omega) (by omega) (by omega) hd (kk p e R s m args below meth c H locs ls cells slots TC TS X hR hS hl h1 h2 h3 h4)
theorem mj_wmmin_long : Cond.static Lib.MathLoose.min_long.x ∈ mj_T ∧ Cond.initialized "java/lang/Math" ∈ mj_T ∧ Cond.code Lib.MathLoose.min_long.x Lib.MathLoose.min_long.code 4 (some .long) ∈ mj_T := ⟨mj_in1 (by decide +kernel) rfl, mj_in1 (by decide +kernel) rfl, mj_in1 (by decide +kernel) rfl⟩
theorem mv_mmin_long {index : Nat} {x y0 v : Int64} (hd : decode y.2.1 pc = .ok (.invokestatic index, 3)) (hw : Cond.methodLink y.1.cls index Lib.MathLoose.min_long.x ∈ mj_T) (hcat : (st.map fun v => v.category).sum ≤ 8) (hv : (if y0 < x then y0 else x) = v) (kk : mj_V g l y (d + 1) (pc + 3) lv (.long v :: st) M nx kc ks Q) : mj_V g l y (d + 1) pc lv (.long y0 :: .long x :: st) M nx kc ks Q := by
  intro p e R s m args below meth c H locs ls cells slots TC TS X hR hS hl h1 h2 h3 h4
  obtain ⟨hx, hb, hml, hr, hlk, hown, hnm, hts, hK, hZ, hfr, hlo, hg0⟩ := id X
  subst hv
  have hc9 := mj_room2 (g := g) hcat
  exact va_mmin_long hx hb (hml.trans hl.1.symm) hown (hts _ hw) (hts _ mj_wmmin_long.1) (hts _ mj_wmmin_long.2.1) (hts _ mj_wmmin_long.2.2) (by omega) (by omega) (by omega) (by omega) hd (kk p e R s m args below meth c H locs ls cells slots TC TS X hR hS hl h1 h2 h3 h4)
end MK
