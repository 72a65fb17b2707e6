/-! WHAT IS MADE BEHIND THE CONSTRUCTORS: class objects, arraycopy, clone, lists that grow -/
section MK
variable {g : mj_G} {l : Launch} {y : mj_Y} {d pc : Nat} {lv : List (Nat × Value)} {st : List Value} {M : mj_M} {nx kc ks : Nat} {Q : Option Value → mj_M → Nat → Prop}
abbrev mj_q (f : Nat → Option Nat) : (Nat → Int32) ⊕ ((Nat → Int64) ⊕ ((Nat → UInt32) ⊕ ((Nat → UInt64) ⊕ (Nat → Option Nat)))) := .inr (.inr (.inr (.inr f)))
/-- the constant Object[].class -/
theorem mv_ldcM {index : Nat} (hd : decode y.2.1 pc = .ok (.ldc index, 2)) (hw : Cond.classLink y.1.cls index "[Ljava/lang/Object;" ∈ mj_T) (kk : mj_V g l y d (pc + 2) lv (.ref 8 :: st) M nx kc ks Q) : mj_V g l y d pc lv st M nx kc ks Q := by
  intro p e R s m args below meth c H locs ls cells slots TC TS X hR hS hl h1 h2 h3 h4
  obtain ⟨hx, hb, hml, hr, hlk, hown, hnm, hts, hK, hZ, hfr, hlo, hg0⟩ := id X
  exact va_ldcM hx hb hown (hts _ hw) hZ.2.2.2.2.2.2.2.2.2.2.2 hd (kk p e R s m args below meth c H locs ls cells slots TC TS X hR hS hl h1 h2 h3 h4)
theorem mj_gcw : Cond.declares ⟨"java/lang/Object", "getClass", "()Ljava/lang/Class;"⟩ ∈ mj_T ∧ Cond.selects "[Ljava/lang/Object;" ⟨"java/lang/Object", "getClass", "()Ljava/lang/Class;"⟩ ⟨"java/lang/Object", "getClass", "()Ljava/lang/Class;"⟩ ∈ mj_T ∧ Cond.instanceMethod ⟨"java/lang/Object", "getClass", "()Ljava/lang/Class;"⟩ ∈ mj_T ∧ Cond.native ⟨"java/lang/Object", "getClass", "()Ljava/lang/Class;"⟩ ∈ mj_T :=
  ⟨mj_in1 (by decide +kernel) rfl, mj_in1 (by decide +kernel) rfl, mj_in1 (by decide +kernel) rfl, mj_in1 (by decide +kernel) rfl⟩
/-- getClass of an Object[] -/
theorem mv_getC {index a n : Nat} {f : Nat → Option Nat} (hd : decode y.2.1 pc = .ok (.invokevirtual index, 3)) (hw : Cond.methodLink y.1.cls index ⟨"java/lang/Object", "getClass", "()Ljava/lang/Class;"⟩ ∈ mj_T) (hM : M a = some (.inl (4, n, mj_q f))) (hcat : (st.map fun v => v.category).sum ≤ 8) (kk : mj_V g l y (d + 1) (pc + 3) lv (.ref 8 :: st) M nx kc ks Q) : mj_V g l y (d + 1) pc lv (.ref a :: st) M nx kc ks Q := by
  intro p e R s m args below meth c H locs ls cells slots TC TS X hR hS hl h1 h2 h3 h4
  obtain ⟨hx, hb, hml, hr, hlk, hown, hnm, hts, hK, hZ, hfr, hlo, hg0⟩ := id X
  have hc0 : H[mj_r g a]? = some (vp_cell (g.2.2.1 4) (n, mj_q (fun j => (f j).map (mj_r g)))) := (hR.1 a _ hM).2.2
  exact va_getC hx hb (hml.trans hl.1.symm) hown (hts _ hw) (hts _ mj_gcw.1) (hts _ mj_gcw.2.1) (hts _ mj_gcw.2.2.1) (hts _ mj_gcw.2.2.2) hZ.2.2.2.2.2.2.2.2.2.2.2 ⟨_, hc0, rfl, va_nmO (hK.2 4 _ rfl).2 rfl⟩ (by omega) (by rw [mj_cats]; omega) hd (kk p e R s m args below meth c H locs ls cells slots TC TS X hR hS hl h1 h2 h3 h4)
theorem mv_acmp_ne_f {r : Option Nat} {off : Int} {tgt : Nat} (hd : decode y.2.1 pc = .ok (.if_acmp .ne off, 3)) (ht : (pc : Int) + off = (tgt : Int)) (k : mj_V g l y d (pc + 3) lv st M nx kc ks Q) : mj_V g l y d pc lv (va_rf r :: va_rf r :: st) M nx kc ks Q := by
  intro p e R s m args below meth c H locs ls cells slots TC TS X hR hS hl h1 h2 h3 h4
  refine W.eq (g2 := F0 m pc ls (va_rf (r.map (mj_r g)) :: va_rf (r.map (mj_r g)) :: st.map (mj_v g))) (by rw [List.map_cons, List.map_cons, mj_vrf]) ?_
  exact lv_acmp_ne X.1 X.2.1 hd ht (fun z => absurd rfl z) (fun _ => k p e R s m args below meth c H locs ls cells slots TC TS X hR hS hl h1 h2 h3 h4)
theorem mj_acw : Cond.native arraycopyName ∈ mj_T ∧ Cond.static arraycopyName ∈ mj_T ∧ Cond.initialized "java/lang/System" ∈ mj_T := ⟨mj_in1 (by decide +kernel) rfl, mj_in1 (by decide +kernel) rfl, mj_in1 (by decide +kernel) rfl⟩
theorem mj_n0 : (0 : Int32).toNatClampNeg = 0 := rfl
set_option maxHeartbeats 4000000 in
/-- System.arraycopy from the first place on to the first place on, references to objects of one class -/
theorem mv_copyq {index a0 a1 n0 n1 ci : Nat} {f h : Nat → Option Nat} {n : Int32} {C : String} {T9 : u_T} {N : Nat} (hd : decode y.2.1 pc = .ok (.invokestatic index, 3)) (hw : Cond.methodLink y.1.cls index arraycopyName ∈ mj_T) (hM0 : M a0 = some (.inl (4, n0, mj_q f))) (hM1 : M a1 = some (.inl (4, n1, mj_q h))) (hc : kcl[ci]? = some (C, T9, N)) (hca : Cond.castable C "java/lang/Object" ∈ mj_T) (hn : ¬ n < 0) (hn0 : n.toNatClampNeg ≤ n0) (hn1 : n.toNatClampNeg ≤ n1) (hel : ∀ i, i < n.toNatClampNeg → ∀ b, f i = some b → ∃ fs, M b = some (.inr (ci, fs))) (hcat : (st.map fun v => v.category).sum ≤ 8)
    (kk : mj_V g l y (d + 1) (pc + 3) lv st (mj_up M a1 (.inl (4, n1, mj_q (va_cpy f h 0 0 n.toNatClampNeg)))) nx kc ks Q) : mj_V g l y (d + 1) pc lv (.int n :: .int 0 :: .ref a1 :: .int 0 :: .ref a0 :: st) M nx kc ks Q := by
  intro p e R s m args below meth c H locs ls cells slots TC TS X0 hR hS hl h1 h2 h3 h4
  obtain ⟨hx, hb, hml, hr, hlk, hown, hnm, hts, hK, hZ, hfr, hlo, hg0⟩ := id X0
  have nn : ∀ z : Int32, ¬ z < 0 → z.toInt = (z.toNatClampNeg : Int) := by
    intro z hz
    have hz0 : (0 : Int) ≤ z.toInt := by
      have := Int32.not_lt.mp hz
      simpa using Int32.le_iff_toInt_le.mp this
    show z.toInt = ((z.toInt.toNat : Nat) : Int)
    omega
  intro T hT X
  have hc0 : H[mj_r g a0]? = some (vp_cell (g.2.2.1 4) (n0, mj_q (fun j => (f j).map (mj_r g)))) := (hR.1 a0 _ hM0).2.2
  have hc1 : H[mj_r g a1]? = some (vp_cell (g.2.2.1 4) (n1, mj_q (fun j => (h j).map (mj_r g)))) := (hR.1 a1 _ hM1).2.2
  obtain ⟨-, k0, hk0, cm0, hkk0⟩ := (hK.2 4 _ rfl).1 n0 (fun j => va_rf ((f j).map (mj_r g)))
  obtain ⟨-, k1, hk1, cm1, hkk1⟩ := (hK.2 4 _ rfl).1 n1 (fun j => va_rf ((h j).map (mj_r g)))
  have hcls := (hK.1 ci _ hc).2
  obtain ⟨c0, t1, f1, f2, f3⟩ := Cond.castable_spec (hts _ hca)
  cases hcls.1.symm.trans f1
  obtain ⟨vm', X', step⟩ := X.arraycopy hx hown (hts _ hw) (hts _ mj_acw.1) (hts _ mj_acw.2.1) (hts _ mj_acw.2.2) (src := mj_r g a0) (dst := mj_r g a1) (cs := vp_cell (g.2.2.1 4) (n0, mj_q (fun j => (f j).map (mj_r g)))) (cd := vp_cell (g.2.2.1 4) (n1, mj_q (fun j => (h j).map (mj_r g)))) (srcPos := 0) (destPos := 0) (n := n) (by rw [hT]; exact hc0) (by rw [hT]; exact hc1)
    (fun _ h => by cases h) (fun _ h => by cases h) (fun h => by cases h) (fun h => by cases h) hk0 hk1 hkk0 hkk1 rfl (by decide) (by decide) hn
    (by rw [nn n hn]; show ¬ (0 : Int) + _ > ((arrV (g.2.2.1 4) n0 (fun j => va_rf ((f j).map (mj_r g)))).slots.size : Int); rw [arrV_size]; omega)
    (by rw [nn n hn]; show ¬ (0 : Int) + _ > ((arrV (g.2.2.1 4) n1 (fun j => va_rf ((h j).map (mj_r g)))).slots.size : Int); rw [arrV_size]; omega)
    (fun vm₁ hal i hi => by
      have e : (vp_cell (g.2.2.1 4) (n0, mj_q (fun j => (f j).map (mj_r g)))).slots.getD ((0 : Int32).toNatClampNeg + i) .null = va_rf ((f i).map (mj_r g)) := by
        rw [mj_n0, Nat.zero_add]
        show (arrV (g.2.2.1 4) n0 (fun j => va_rf ((f j).map (mj_r g)))).slots.getD _ _ = _
        rw [Array.getD_eq_getD_getElem?, arrV_read _ _ (by omega)]
        rfl
      rw [e]
      cases hy : f i with
      | none => exact ⟨rfl, trivial⟩
      | some b =>
        obtain ⟨fs, hb9⟩ := hel i hi b hy
        obtain ⟨-, -, hvt⟩ := hR.1 b _ hb9
        have hvt : ∃ r : vw_C, kcl[ci]? = some r ∧ t_OB (mj_r g b) (g.2.1.1 ci) r.2.2 (g.2.1.2 ci) H (vp_V (fs.map (mj_v g))) := hvt
        obtain ⟨r', hr', cellV, g1, g2, g3, -⟩ := hvt
        obtain ⟨kA, comp, r1, r2, r3, -⟩ := (hK.2 4 _ rfl).2
        cases hk1.symm.trans r1
        cases hkk1.symm.trans r2
        cases r3.symm.trans f2
        obtain ⟨kC, hkC, -⟩ := Vm.findClass_spec f1
        obtain ⟨kE, hkE, -⟩ := Vm.findClass_spec r3
        obtain ⟨kC', hkC', -⟩ := hal.2.2 _ _ hkC
        obtain ⟨kE', hkE', -⟩ := hal.2.2 _ _ hkE
        refine ⟨rfl, cellV, (show T.heap[mj_r g b]? = some cellV by rw [hT]; exact g1), (fun q h => by rw [g3] at h; cases h), ⟨kC', by rw [g2]; exact hkC'⟩, ?_, ?_⟩
        · exact ⟨kE', hkE'⟩
        · show vm₁.assignable _ _ = true
          rw [hal.assignable, g2]
          exact f3)
    (g := F0 m pc ls ((Value.int n :: .int 0 :: .ref a1 :: .int 0 :: .ref a0 :: st).map (mj_v g))) rfl (by rw [hml]; exact hl.1) (rest := st.map (mj_v g)) rfl (by rw [hb]; exact hd) (by omega) (by rw [mj_cats]; have hw9 : nativeFrameWords "java/lang/System" "arraycopy" 5 + 11 ≤ 80 := (by decide); show 2 * 0 + _ + _ ≤ _; omega)
  have e1 : copied (vp_cell (g.2.2.1 4) (n0, mj_q (fun j => (f j).map (mj_r g)))) (vp_cell (g.2.2.1 4) (n1, mj_q (fun j => (h j).map (mj_r g)))) 0 0 n = vp_cell (g.2.2.1 4) (n1, mj_q (fun j => (va_cpy f h 0 0 n.toNatClampNeg j).map (mj_r g))) := by
    have e9 : (fun j => (va_cpy f h 0 0 n.toNatClampNeg j).map (mj_r g)) = va_cpy (fun j => (f j).map (mj_r g)) (fun j => (h j).map (mj_r g)) 0 0 n.toNatClampNeg := by
      funext j
      unfold va_cpy
      split <;> rfl
    rw [e9, vp_cell_q, vp_cell_q, vp_cell_q]
    exact va_copied (fun z => va_rf z) (g.2.2.1 4) (g.2.2.1 4) _ _ (by rw [mj_n0]; omega)
  rw [e1] at X' step
  have hlt : mj_r g a1 < H.size := (Array.getElem?_eq_some_iff.mp hc1).1
  generalize hH1 : H.setIfInBounds (mj_r g a1) (vp_cell (g.2.2.1 4) (n1, mj_q (fun j => (va_cpy f h 0 0 n.toNatClampNeg j).map (mj_r g)))) = H1
  have hheap : ((T.setVm vm').setCell (mj_r g a1) (vp_cell (g.2.2.1 4) (n1, mj_q (fun j => (va_cpy f h 0 0 n.toNatClampNeg j).map (mj_r g))))).heap = H1 := by rw [← hH1, ← hT]; rfl
  have oq : ∀ q : Nat, q ≠ mj_r g a1 → H1[q]? = H[q]? := fun q hq => by rw [← hH1]; simp [Array.getElem?_setIfInBounds, Ne.symm hq]
  have z1 : H1.size = H.size := by rw [← hH1]; simp
  have hat : va_at g.2.1 kcl (mj_r g a1, mj_c g (.inl (4, n1, mj_q (va_cpy f h 0 0 n.toNatClampNeg)))) H1 := by
    show H1[mj_r g a1]? = some (vp_cell (g.2.2.1 4) (n1, mj_q (fun j => (va_cpy f h 0 0 n.toNatClampNeg j).map (mj_r g))))
    rw [← hH1]
    simp [Array.getElem?_setIfInBounds, hlt]
  obtain ⟨t, a9, b9⟩ := kk p e R s m args below meth c H1 _ ls cells slots TC TS X0 (hR.set hM1 hat z1 oq) ⟨by rw [z1]; exact hS.1, fun q g1 g2 => by
      rw [oq q (fun e => g2 (by rw [e]; exact mj_A_r (hR.1 a1 _ hM1).1))]
      exact hS.2.1 q g1 g2, fun q hq => by
      rcases List.mem_append.mp hq with h | h
      · exact hS.2.2 q h
      · obtain ⟨z, -, hz⟩ := List.mem_map.mp h
        rw [← hz]
        exact mj_A_r (hR.1 a1 _ hM1).1⟩ hl h1 h2 h3 h4 _ hheap X'
  exact ⟨t, step t a9, b9⟩
set_option maxHeartbeats 4000000 in
/-- the same of ints -/
theorem mv_copyi {index a0 a1 n0 n1 : Nat} {f h : Nat → Int32} {n : Int32} (hd : decode y.2.1 pc = .ok (.invokestatic index, 3)) (hw : Cond.methodLink y.1.cls index arraycopyName ∈ mj_T) (hM0 : M a0 = some (.inl (0, n0, .inl f))) (hM1 : M a1 = some (.inl (0, n1, .inl h))) (hn : ¬ n < 0) (hn0 : n.toNatClampNeg ≤ n0) (hn1 : n.toNatClampNeg ≤ n1) (hcat : (st.map fun v => v.category).sum ≤ 8)
    (kk : mj_V g l y (d + 1) (pc + 3) lv st (mj_up M a1 (.inl (0, n1, .inl (va_cpy f h 0 0 n.toNatClampNeg)))) nx kc ks Q) : mj_V g l y (d + 1) pc lv (.int n :: .int 0 :: .ref a1 :: .int 0 :: .ref a0 :: st) M nx kc ks Q := by
  intro p e R s m args below meth c H locs ls cells slots TC TS X0 hR hS hl h1 h2 h3 h4
  obtain ⟨hx, hb, hml, hr, hlk, hown, hnm, hts, hK, hZ, hfr, hlo, hg0⟩ := id X0
  have nn : ∀ z : Int32, ¬ z < 0 → z.toInt = (z.toNatClampNeg : Int) := by
    intro z hz
    have hz0 : (0 : Int) ≤ z.toInt := by
      have := Int32.not_lt.mp hz
      simpa using Int32.le_iff_toInt_le.mp this
    show z.toInt = ((z.toInt.toNat : Nat) : Int)
    omega
  intro T hT X
  have hc0 : H[mj_r g a0]? = some (vp_cell (g.2.2.1 0) (n0, .inl f)) := (hR.1 a0 _ hM0).2.2
  have hc1 : H[mj_r g a1]? = some (vp_cell (g.2.2.1 0) (n1, .inl h)) := (hR.1 a1 _ hM1).2.2
  obtain ⟨-, k0, hk0, cm0, hkk0⟩ := (hK.2 0 _ rfl).1 n0 (fun j => .int (f j))
  obtain ⟨-, k1, hk1, cm1, hkk1⟩ := (hK.2 0 _ rfl).1 n1 (fun j => .int (h j))
  obtain ⟨vm', X', step⟩ := X.arraycopy hx hown (hts _ hw) (hts _ mj_acw.1) (hts _ mj_acw.2.1) (hts _ mj_acw.2.2) (src := mj_r g a0) (dst := mj_r g a1) (cs := vp_cell (g.2.2.1 0) (n0, .inl f)) (cd := vp_cell (g.2.2.1 0) (n1, .inl h)) (srcPos := 0) (destPos := 0) (n := n) (by rw [hT]; exact hc0) (by rw [hT]; exact hc1)
    (fun _ h => by cases h) (fun _ h => by cases h) (fun h => by cases h) (fun h => by cases h) hk0 hk1 hkk0 hkk1 rfl (by decide) (by decide) hn
    (by rw [nn n hn]; show ¬ (0 : Int) + _ > ((arrV (g.2.2.1 0) n0 (fun j => .int (f j))).slots.size : Int); rw [arrV_size]; omega)
    (by rw [nn n hn]; show ¬ (0 : Int) + _ > ((arrV (g.2.2.1 0) n1 (fun j => .int (h j))).slots.size : Int); rw [arrV_size]; omega)
    (fun vm₁ hal i hi => by
      have e : (vp_cell (g.2.2.1 0) (n0, .inl f)).slots.getD ((0 : Int32).toNatClampNeg + i) .null = .int (f i) := by
        rw [mj_n0, Nat.zero_add]
        show (arrV (g.2.2.1 0) n0 (fun j => .int (f j))).slots.getD _ _ = _
        rw [Array.getD_eq_getD_getElem?, arrV_read _ _ (by omega)]
        rfl
      rw [e]
      exact ⟨rfl, trivial⟩)
    (g := F0 m pc ls ((Value.int n :: .int 0 :: .ref a1 :: .int 0 :: .ref a0 :: st).map (mj_v g))) rfl (by rw [hml]; exact hl.1) (rest := st.map (mj_v g)) rfl (by rw [hb]; exact hd) (by omega) (by rw [mj_cats]; have hw9 : nativeFrameWords "java/lang/System" "arraycopy" 5 + 11 ≤ 80 := (by decide); show 2 * 0 + _ + _ ≤ _; omega)
  have e1 : copied (vp_cell (g.2.2.1 0) (n0, .inl f)) (vp_cell (g.2.2.1 0) (n1, .inl h)) 0 0 n = vp_cell (g.2.2.1 0) (n1, .inl (va_cpy f h 0 0 n.toNatClampNeg)) := by
    rw [vp_cell_i, vp_cell_i, vp_cell_i]
    exact va_copied (fun z => .int z) (g.2.2.1 0) (g.2.2.1 0) _ _ (by rw [mj_n0]; omega)
  rw [e1] at X' step
  have hlt : mj_r g a1 < H.size := (Array.getElem?_eq_some_iff.mp hc1).1
  generalize hH1 : H.setIfInBounds (mj_r g a1) (vp_cell (g.2.2.1 0) (n1, .inl (va_cpy f h 0 0 n.toNatClampNeg))) = H1
  have hheap : ((T.setVm vm').setCell (mj_r g a1) (vp_cell (g.2.2.1 0) (n1, .inl (va_cpy f h 0 0 n.toNatClampNeg)))).heap = H1 := by rw [← hH1, ← hT]; rfl
  have oq : ∀ q : Nat, q ≠ mj_r g a1 → H1[q]? = H[q]? := fun q hq => by rw [← hH1]; simp [Array.getElem?_setIfInBounds, Ne.symm hq]
  have z1 : H1.size = H.size := by rw [← hH1]; simp
  have hat : va_at g.2.1 kcl (mj_r g a1, mj_c g (.inl (0, n1, .inl (va_cpy f h 0 0 n.toNatClampNeg)))) H1 := by
    show H1[mj_r g a1]? = some (vp_cell (g.2.2.1 0) (n1, .inl (va_cpy f h 0 0 n.toNatClampNeg)))
    rw [← hH1]
    simp [Array.getElem?_setIfInBounds, hlt]
  obtain ⟨t, a9, b9⟩ := kk p e R s m args below meth c H1 _ ls cells slots TC TS X0 (hR.set hM1 hat z1 oq) ⟨by rw [z1]; exact hS.1, fun q g1 g2 => by
      rw [oq q (fun e => g2 (by rw [e]; exact mj_A_r (hR.1 a1 _ hM1).1))]
      exact hS.2.1 q g1 g2, fun q hq => by
      rcases List.mem_append.mp hq with h | h
      · exact hS.2.2 q h
      · obtain ⟨z, -, hz⟩ := List.mem_map.mp h
        rw [← hz]
        exact mj_A_r (hR.1 a1 _ hM1).1⟩ hl h1 h2 h3 h4 _ hheap X'
  exact ⟨t, step t a9, b9⟩
set_option maxHeartbeats 4000000 in
/-- the clone of an int array -/
theorem mv_cloneI {index kc' ks' a n : Nat} {f : Nat → Int32} (hd : decode y.2.1 pc = .ok (.invokevirtual index, 3)) (hw : Cond.methodLink y.1.cls index ⟨"[I", "clone", "()Ljava/lang/Object;"⟩ ∈ mj_T) (hM : M a = some (.inl (0, n, .inl f))) (hn4 : n * 4 ≤ 536870912) (hcat : (st.map fun v => v.category).sum ≤ 8) (hkc : kc' + 1 ≤ kc) (hks : ks' + n ≤ ks) (kk : mj_V g l y (d + 1) (pc + 3) lv (.ref nx :: st) (mj_up M nx (.inl (0, n, .inl f))) (nx + 1) kc' ks' Q) : mj_V g l y (d + 1) pc lv (.ref a :: st) M nx kc ks Q := by
  intro p e R s m args below meth c H locs ls cells slots TC TS X0 hR hS hl h1 h2 h3 h4
  obtain ⟨hx, hb, hml, hr, hlk, hown, hnm, hts, hK, hZ, hfr, hlo, hg0⟩ := id X0
  have hcH : H[mj_r g a]? = some (vp_cell (g.2.2.1 0) (n, .inl f)) := (hR.1 a _ hM).2.2
  have hcell : vp_cell (g.2.2.1 0) (n, .inl f) = arrV (g.2.2.1 0) n (fun j => .int (f j)) := vp_cell_i _ _ _
  rw [hcell] at hcH
  have q4 : s.vm.findClass "[I" = some (g.2.2.1 0) := va_nm_int (hK.2 0 _ rfl).2
  obtain ⟨c0, t0', f1, f2, f3⟩ := Cond.castable_spec (va_Nw.use (A := args) rfl (va_Nw.of rfl (hts _ mj_cl.2.2.2.2)))
  cases q4.symm.trans f1
  have hc9 := mj_room (g := g) (m := m) (pc := pc) (ls := ls) (st9 := (Value.ref a :: st).map (mj_v g)) hcat
  intro T hT X
  have hcellT : T.heap[mj_r g a]? = some (arrV (g.2.2.1 0) n (fun j => .int (f j))) := by rw [hT]; exact hcH
  obtain ⟨-, kA, hkA, comp, hkind⟩ := State.isArrayOf_alike X.warmed.alike ((hK.2 0 _ rfl).1 0 (fun _ => .null))
  obtain ⟨-, kS, hkS, compS, hkindS⟩ := (hK.2 0 _ rfl).1 0 (fun _ => .null)
  obtain ⟨vm', X', st9⟩ := X.cloneArray hx hown (hts _ hw) (hts _ mj_cl.1) (hts _ mj_cl.2.1) (hts _ mj_cl.2.2.1) (hts _ mj_cl.2.2.2.1) (a := mj_r g a) (cell := arrV (g.2.2.1 0) n (fun j => .int (f j))) hcellT (fun _ h => by cases h) (fun h => by cases h) q4 f2 f3
    (fun i v hv => by
      have hk' : T.vm.classes[g.2.2.1 0]? = some kA := hkA
      have hi : i < n := by
        have := (Array.getElem?_eq_some_iff.mp hv).1
        rw [arrV_size] at this
        exact this
      have hv2 : v = .int (f i) := by
        rw [arrV_read _ _ hi] at hv
        exact (Option.some.inj hv).symm
      subst hv2
      have hc9 : (arrV (g.2.2.1 0) n (fun j => Value.int (f j))).cls = g.2.2.1 0 := rfl
      rw [hc9]
      simp [State.fitsSlot, State.slotType?, hk', hkind, fits])
    (g := F0 m pc ls ((Value.ref a :: st).map (mj_v g))) (rest := st.map (mj_v g)) rfl (hl.1.trans hml.symm) rfl (by rw [hb]; exact hd) (by omega) (by rw [mj_cats]; show 2 * 0 + _ + 14 ≤ _; omega) (by omega) (by rw [arrV_size]; omega) (hloader := Vm.clonesLoader_of_array hkS hkindS)
  have hE9 : ({ cls := (arrV (g.2.2.1 0) n (fun j => Value.int (f j))).cls, slots := (arrV (g.2.2.1 0) n (fun j => Value.int (f j))).slots } : Cell) = vp_cell (g.2.2.1 0) (n, .inl f) := by
    rw [vp_cell_i]
    rfl
  rw [hE9, arrV_size] at X'
  generalize hH1 : H.push (vp_cell (g.2.2.1 0) (n, .inl f)) = H1
  have hsz := hR.2.2
  have z1 : H1.size = H.size + 1 := by rw [← hH1, Array.size_push]
  have e1 : H1[H.size]? = some (vp_cell (g.2.2.1 0) (n, .inl f)) := by rw [← hH1, Array.getElem?_push_size]
  have o1 : ∀ q : Nat, q < H.size → H1[q]? = H[q]? := fun q hq => by rw [← hH1, Array.getElem?_push, if_neg (Nat.ne_of_lt hq)]
  have hk9 := kk p e R s m args below meth c H1 locs ls (cells + 1) (slots + n) TC TS X0 (hR.push (by rw [← hsz]; exact e1) z1 o1) (mj_S_push hS z1 o1) hl (by omega) (by omega) h3 h4
  obtain ⟨t, b1, b2⟩ := hk9 _ (by rw [← hH1, ← hT]; rfl) X'
  refine ⟨t, st9 t ?_, b2⟩
  have hE : (Value.ref (Array.size T.heap)) = mj_v g (.ref nx) := by
    show _ = Value.ref (mj_r g nx)
    rw [hT, hsz]
  rw [hE, hE9]
  exact b1
end MK
