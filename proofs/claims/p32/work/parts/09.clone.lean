/-! the clone of the static RULE_WITHOUT -/
def mj_rwf : Nat → Int32 := fun j => [3, 1, 30, 90, 0, 20].getD j 0
theorem mj_rw_int : ∀ j, j < 6 → mj_rw.getD j .null = .int (mj_rwf j) := by
  intro j hj
  rcases (show j = 0 ∨ j = 1 ∨ j = 2 ∨ j = 3 ∨ j = 4 ∨ j = 5 by omega) with rfl | rfl | rfl | rfl | rfl | rfl <;> rfl
theorem mj_cl : Cond.sameMethod "[I" "java/lang/Object" "clone" "()Ljava/lang/Object;" ∈ mj_T ∧ Cond.native ⟨"java/lang/Object", "clone", "()Ljava/lang/Object;"⟩ ∈ mj_T ∧ Cond.instanceMethod ⟨"java/lang/Object", "clone", "()Ljava/lang/Object;"⟩ ∈ mj_T ∧ Cond.selects "[I" ⟨"[I", "clone", "()Ljava/lang/Object;"⟩ ⟨"java/lang/Object", "clone", "()Ljava/lang/Object;"⟩ ∈ mj_T ∧ Cond.castable "[I" "java/lang/Cloneable" ∈ mj_T :=
  ⟨mj_in1 (by decide +kernel) rfl, mj_in1 (by decide +kernel) rfl, mj_in1 (by decide +kernel) rfl, mj_in1 (by decide +kernel) rfl, mj_in1 (by decide +kernel) rfl⟩
set_option maxHeartbeats 4000000 in
theorem mv_cloneR {g : mj_G} {l : Launch} {y : mj_Y} {d pc : Nat} {lv : List (Nat × Value)} {st : List Value} {M : mj_M} {nx kc ks : Nat} {Q : Option Value → mj_M → Nat → Prop} {index kc' ks' : Nat} (hd : decode y.2.1 pc = .ok (.invokevirtual index, 3)) (hw : Cond.methodLink y.1.cls index ⟨"[I", "clone", "()Ljava/lang/Object;"⟩ ∈ mj_T) (hcat : (st.map fun v => v.category).sum ≤ 8) (hkc : kc' + 1 ≤ kc) (hks : ks' + 6 ≤ ks) (kk : mj_V g l y (d + 1) (pc + 3) lv (.ref nx :: st) (mj_up M nx (.inl (0, 6, .inl mj_rwf))) (nx + 1) kc' ks' Q) : mj_V g l y (d + 1) pc lv (.ref 1 :: st) M nx kc ks Q := by
  intro p e R s m args below meth c H locs ls cells slots TC TS X0 hR hS hl h1 h2 h3 h4
  obtain ⟨hx, hb, hml, hr, hlk, hown, hnm, hts, hK, hZ, hfr, hlo, hg0⟩ := id X0
  obtain ⟨cell, q1, q2, q3, q4, q5, q6, q7⟩ := hZ.2.1.2
  have hcl0 : cell.cls = g.2.2.1 0 := Option.some.inj (q4.symm.trans (va_nm_int (hK.2 0 _ rfl).2))
  have hval : ∀ j : Nat, j < 6 → cell.slots[j]? = some (.int (mj_rwf j)) := fun j hj => (q6 j hj).trans (congrArg some (mj_rw_int j hj))
  have hcellE : ({ cls := cell.cls, slots := cell.slots } : Cell) = vp_cell (g.2.2.1 0) (6, .inl mj_rwf) := by
    rw [vp_cell_i, hcl0]
    have hs9 : cell.slots = (arrV (g.2.2.1 0) 6 (fun j => .int (mj_rwf j))).slots := by
      apply Array.ext_getElem?
      intro i
      by_cases hi : i < 6
      · rw [hval i hi, arrV_read _ _ hi]
      · rw [Array.getElem?_eq_none (by rw [q5]; omega), Array.getElem?_eq_none (by rw [arrV_size]; omega)]
    rw [hs9]
    rfl
  obtain ⟨c0, t0', f1, f2, f3⟩ := Cond.castable_spec (va_Nw.use (A := args) rfl (va_Nw.of rfl (hts _ mj_cl.2.2.2.2)))
  cases q4.symm.trans f1
  have hcH : H[mj_r g 1]? = some cell := by rw [hS.2.1 _ (Array.getElem?_eq_some_iff.mp q1).1 q7]; exact q1
  have hc9 := mj_room (g := g) (m := m) (pc := pc) (ls := ls) (st9 := (Value.ref 1 :: st).map (mj_v g)) hcat
  intro T hT X
  have hcellT : T.heap[mj_r g 1]? = some cell := by rw [hT]; exact hcH
  obtain ⟨-, kA, hkA, comp, hkind⟩ := State.isArrayOf_alike X.warmed.alike ((hK.2 0 _ rfl).1 0 (fun _ => .null))
  obtain ⟨-, kS, hkS, compS, hkindS⟩ := (hK.2 0 _ rfl).1 0 (fun _ => .null)
  obtain ⟨vm', X', st9⟩ := X.cloneArray hx hown (hts _ hw) (hts _ mj_cl.1) (hts _ mj_cl.2.1) (hts _ mj_cl.2.2.1) (hts _ mj_cl.2.2.2.1) (a := mj_r g 1) (cell := cell) hcellT q3 q2 q4 f2 f3
    (fun i v hv => by
      rw [hcl0]
      have hk' : T.vm.classes[g.2.2.1 0]? = some kA := hkA
      have hi : i < 6 := by
        have := (Array.getElem?_eq_some_iff.mp hv).1
        omega
      have hv2 : v = .int (mj_rwf i) := Option.some.inj (hv.symm.trans (hval i hi))
      subst hv2
      simp [State.fitsSlot, State.slotType?, hk', hkind, fits])
    (g := F0 m pc ls ((Value.ref 1 :: st).map (mj_v g))) (rest := st.map (mj_v g)) rfl (hl.1.trans hml.symm) rfl (by rw [hb]; exact hd) (by omega) (by rw [mj_cats]; show 2 * 0 + _ + 14 ≤ _; omega) (by omega) (by rw [q5]; omega) (hloader := by rw [hcl0]; exact Vm.clonesLoader_of_array hkS hkindS)
  rw [hcellE, q5] at X'
  generalize hH1 : H.push (vp_cell (g.2.2.1 0) (6, .inl mj_rwf)) = H1
  have hsz := hR.2.2
  have z1 : H1.size = H.size + 1 := by rw [← hH1, Array.size_push]
  have e1 : H1[H.size]? = some (vp_cell (g.2.2.1 0) (6, .inl mj_rwf)) := by rw [← hH1, Array.getElem?_push_size]
  have o1 : ∀ q : Nat, q < H.size → H1[q]? = H[q]? := fun q hq => by rw [← hH1, Array.getElem?_push, if_neg (Nat.ne_of_lt hq)]
  have hk9 := kk p e R s m args below meth c H1 locs ls (cells + 1) (slots + 6) TC TS X0 (hR.push (by rw [← hsz]; exact e1) z1 o1) (mj_S_push hS z1 o1) hl (by omega) (by omega) h3 h4
  obtain ⟨t, b1, b2⟩ := hk9 _ (by rw [← hH1, ← hT]; rfl) X'
  refine ⟨t, st9 t ?_, b2⟩
  have hE : (Value.ref (Array.size T.heap)) = mj_v g (.ref nx) := by
    show _ = Value.ref (mj_r g nx)
    rw [hT, hsz]
  rw [hE, hcellE]
  exact b1
theorem mv_acmp_eq_t {g : mj_G} {l : Launch} {y : mj_Y} {d pc : Nat} {lv : List (Nat × Value)} {st : List Value} {M : mj_M} {nx kc ks : Nat} {Q : Option Value → mj_M → Nat → Prop} {r : Option Nat} {off : Int} {tgt : Nat} (hd : decode y.2.1 pc = .ok (.if_acmp .eq off, 3)) (ht : (pc : Int) + off = (tgt : Int)) (k : mj_V g l y d tgt lv st M nx kc ks Q) : mj_V g l y d pc lv (va_rf r :: va_rf r :: st) M nx kc ks Q := by
  intro p e R s m args below meth c H locs ls cells slots TC TS X hR hS hl h1 h2 h3 h4
  refine W.eq (g2 := F0 m pc ls (va_rf (r.map (mj_r g)) :: va_rf (r.map (mj_r g)) :: st.map (mj_v g))) (by rw [List.map_cons, List.map_cons, mj_vrf]) ?_
  exact lv_acmp_eq X.1 X.2.1 hd ht (fun _ => k p e R s m args below meth c H locs ls cells slots TC TS X hR hS hl h1 h2 h3 h4) (fun z => absurd rfl z)
/-- ldc_w of a String constant: the library's ldcString for the wide form -/
theorem mj_ldcSw {p : Program} {l : Launch} {e : Env} {R : Room} {s : State} {m : MethodId} {args : Array Value} {below : List Frame} {meth : Method} {c : Code} {T : State} {locs : List Loc} {cells slots : Nat}
    (X : Stand p l e R s m args below meth c T locs cells slots) (hexec : p.tables.exec = Jvm.exec) {own text : String} {index : Nat} {a : Addr} (hown : s.vm.findClass own = some m.cls)
    (hconst : (Cond.stringRef own index text).before args s = true) (hev : (Term.string own index).eval args s none [] s = some (.ref a)) {g : JFrame} (hg : g.method = m) (hdg : decode c.code g.pc = .ok (.ldc_w index, 3)) :
    ∀ target, Steps p.tables e below (T.setTop { g with pc := g.pc + 3, stack := .ref a :: g.stack }) target → Steps p.tables e below (T.setTop g) target := by
  obtain ⟨k, cf, i, a', hk, hcf, hcp, -, hr, hev'⟩ := Cond.stringRef_spec hown hconst
  cases hev.symm.trans hev'
  obtain ⟨k', hk', he⟩ := X.warmed.alike.2.2 _ _ hk
  have hr' : k'.resolved[index]? = some (some (.string a)) := by
    rcases X.warmed.entry hk hk' index with h | ⟨h, -⟩
    · rw [h]; exact hr
    · rw [hr] at h; cases h
  intro target hrest
  subst hg
  jvm_step X.here [hexec, hdg, ldc_w.wp_string (e := e) (s := T) (f := g) X.here.top hk' (by rw [he]; exact hcf) hcp hr']
  exact hrest
theorem mv_ldcSw {g : mj_G} {l : Launch} {y : mj_Y} {d pc : Nat} {lv : List (Nat × Value)} {st : List Value} {M : mj_M} {nx kc ks : Nat} {Q : Option Value → mj_M → Nat → Prop} {index id : Nat} {tx : String} (hd : decode y.2.1 pc = .ok (.ldc_w index, 3)) (hw : (y.1.cls, index, tx, id) ∈ mj_strs) (k : mj_V g l y d (pc + 3) lv (.ref id :: st) M nx kc ks Q) : mj_V g l y d pc lv st M nx kc ks Q := by
  intro p e R s m args below meth c H locs ls cells slots TC TS X hR hS hl h1 h2 h3 h4
  have hz : vk_R y.1.cls index tx (mj_r g id) s := X.2.2.2.2.2.2.2.2.2.1.2.2.2.2.2.2.1 _ hw
  intro T hT X9
  obtain ⟨t, a1, b1⟩ := k p e R s m args below meth c H locs ls cells slots TC TS X hR hS hl h1 h2 h3 h4 T hT X9
  exact ⟨t, mj_ldcSw X9 X.1 X.2.2.2.2.2.1 (text := tx) (a := mj_r g id) hz.1 hz.2 (g := F0 m pc ls (st.map (mj_v g))) rfl (by rw [X.2.1]; exact hd) t a1, b1⟩
