/-! THE CLAIM OUT OF ONE WALK OF THE LAW'S BODY. Your part is whole_start (and what it stands on); all else here is the same for every law, but numbers. -/
def R_law : String := "TrustDeskLaw"
def lw_P (b : Addr) (xs : List Int32) (args : Array Value) (s : State) : Prop := args = #[.ref b] ∧ s.IntsAt b xs ∧ xs.length ≤ 3072 ∧ (Jvm.Cond.and given_1 narrow_1).before args s = true
def lw_Q (_ : Array Value) (s : State) (o : Outcome) (t : State) : Prop := o = .returned (some (.int 1)) ∧ Framed s o t [] 601024 7293034
def lw_Z (below : List Frame) (a : Array Value) (s : State) : State → Prop := fun t => ∃ o, t.status = .running ∧ Ended t below o ∧ lw_Q a s o t
/-- the law's own end, with 1 on the stack, nothing written that was there before, its room as the claim has it -/
theorem lw_ret {p : Program} {l : Launch} {e : Env} {s : State} {m : MethodId} {below : List Frame} {meth : Method} {c : Code} {b : Nat} (hx : p.tables.exec = Jvm.exec) (hb : c.code = code) (hr : meth.sig.returnType = ret) (hlocks : meth.locks = false) {pc : Nat} {H : Heap} {ls : Array Slot} (hdg : decode code pc = .ok (.ireturn, 1)) : W p l e room_1 s m #[Value.ref b] below meth c H [] 601024 7293034 (lw_Z below #[Value.ref b] s) (F0 m pc ls [.int 1]) := by
  intro T hT X
  obtain ⟨fs, hret, hrun, hended, hW, hframe⟩ := X.leave (v := some (.int 1)) (hlocks := hlocks) (fun h => by rw [hr] at h; cases h)
  have hmeth' : T.vm.method? m = some meth := X.method'
  refine ⟨T.setFrames fs, ?_, .returned (some (.int 1)), hrun, hended, rfl, ⟨_, rfl⟩, hW, hframe⟩
  jvm_step X.here [X.here.top, hx, hb, hdg, hmeth', hr, ret, narrow_b1]
  (try refine ⟨rfl, ?_⟩); (try refine ⟨rfl, ?_⟩)
  first | (intro acts; rw [hret _ acts rfl rfl rfl]) | rw [hret _ _ rfl rfl rfl]
  exact Steps.refl _
/-- what holds at the law's entry: the machine, the code, the tables' words (any of lw_tbl by 'hts w (by decide +kernel)'), the script of L ints xs at the cell b, what the Statement gives of the start (any of its parts by flat_of_before) -/
def lw_At (p : Program) (s : State) (m : MethodId) (meth : Method) (c : Code) (b L : Nat) (xs : Nat → Int32) : Prop :=
  p.tables.exec = Jvm.exec ∧ c.code = code ∧ meth.sig.returnType = ret ∧ c.maxLocals = 7 ∧ s.vm.findClass R_law = some m.cls ∧ (∀ w ∈ lw_tbl, w.before #[Value.ref b] s = true) ∧ va_X b L xs s s.heap ∧ b < s.heap.size ∧ meth.locks = false ∧ (Jvm.Cond.and given_1 narrow_1).before #[Value.ref b] s = true
/-! THE START: what the Statement gives of the state, put into the small machine's terms -/
theorem ws_len {t : Term} {z : Int32} {args : Array Value} {s : State} (h : (Term.length t).eval args s none [] s = some (.int z)) : ∃ (a : Nat) (cell : Cell), t.eval args s none [] s = some (.ref a) ∧ s.arrayAt? a = some cell ∧ cell.slots.size < 2147483648 ∧ z = cell.slots.size.toInt32 := by
  simp only [Term.eval, Option.bind_eq_bind] at h
  cases ht : t.eval args s none [] s with
  | none => simp [ht] at h
  | some x =>
    cases x <;> simp [ht] at h
    case ref a =>
      obtain ⟨cell, hcell, h⟩ := Option.bind_eq_some_iff.mp h
      by_cases hn : cell.slots.size < 2147483648
      · rw [if_pos hn] at h
        cases h
        exact ⟨a, cell, rfl, hcell, hn, rfl⟩
      · rw [if_neg hn] at h
        cases h
theorem ws_str {own tx : String} {k : Nat} {s : State} {args : Array Value} (h : (Cond.stringRef own k tx).before args s = true) : ∃ a, vk_R own k tx a s := by
  cases hc : s.vm.findClass own with
  | none => simp [Cond.before, Cond.holds, Cond.value, hc] at h
  | some cur =>
    obtain ⟨-, -, -, a, -, -, -, -, -, he⟩ := Cond.stringRef_spec hc h
    exact ⟨a, vk_R.of h he⟩
theorem ws_arr {ty : FieldType} {s : State} {args : Array Value} (h : (Cond.arrayClass ty).before args s = true) : ∃ cA : ClassId, ArrOfT s cA ty ∧ s.vm.findClass ("[" ++ ty.toString) = some cA := by
  obtain ⟨cA, k, comp, h1, h2, h3⟩ := Cond.arrayClass_spec h
  exact ⟨cA, fun n z => ⟨(fun k h => by cases h), k, h2, comp, h3⟩, h1⟩
theorem ws_obj {C : String} {s : State} {args : Array Value} (h : (Cond.arrayOver (.object C)).before args s = true) : ∃ cA : ClassId, ArrOfT s cA (.object C) ∧ va_RA s cA (.object C) := by
  obtain ⟨comp, cA, k, h1, -, h3, h4, h5⟩ := Cond.arrayOver_spec h
  exact ⟨cA, fun n z => ⟨(fun k h => by cases h), k, h3, comp, h4⟩, k, comp, h3, h4, h1, h5⟩
/-- a table of six ints, its size exactly -/
theorem ws_six {args : Array Value} {s : State} {tm : Term} {f : Nat → Value} {A : Nat → Prop} (harr : (Cond.exactly tm "[I").before args s = true) (hlen : (Term.length tm).eval args s none [] s = some (.int 6)) (hel : ∀ j : Nat, j < 6 → (Term.elem tm (.int (Int32.ofNat j))).eval args s none [] s = some (f j)) (hA : ∀ a : Nat, a < s.heap.size → ¬ A a) : ∃ t : Nat, tm.eval args s none [] s = some (.ref t) ∧ mj_E t 6 f A s s.heap := by
  obtain ⟨t, cell, ht, hat, hsm, hz⟩ := ws_len hlen
  obtain ⟨hcell, hkn, hst, -⟩ := State.arrayAt?_spec hat
  obtain ⟨a, c, cell2, k, h1, h2, h3, h4, h5, h6, -⟩ := Cond.exactly_spec harr
  cases ht.symm.trans h1
  cases hcell.symm.trans h3
  have hsz : cell.slots.size = 6 := by
    have e := congrArg Int32.toInt hz
    have e2 : (cell.slots.size.toInt32).toInt = (cell.slots.size : Int) := Int32.toInt_ofNat_of_lt hsm
    rw [e2] at e
    have e3 : (6 : Int32).toInt = 6 := by decide
    omega
  refine ⟨t, ht, cell, hcell, hkn, fun k9 h9 => ?_, by rw [h6]; exact h2, hsz, fun j hj => ?_, hA t (Array.getElem?_eq_some_iff.mp hcell).1⟩
  · rw [h9] at h5
    cases h5
  · obtain ⟨a, i, cell3, g1, g2, g3, g4, g5⟩ := Term.elem_spec (hel j hj)
    cases ht.symm.trans g1
    cases hat.symm.trans g3
    have hi : i = Int32.ofNat j := by
      have e : (Term.int (Int32.ofNat j)).eval args s none [] s = some (.int (Int32.ofNat j)) := rfl
      cases g2.symm.trans e
      rfl
    have hc : i.toNatClampNeg = j := by rw [hi]; exact Int32.toNatClampNeg_ofNat_of_lt (Nat.lt_trans hj (by decide))
    rw [hc] at g5
    exact g5
def ws_okc (q : vw_C) : Prop := (∀ w ∈ u_ws q.1 q.2.1 q.2.2, w ∈ lw_tbl) ∧ ∃ n, Cond.instantiable q.1 n ∈ lw_tbl
theorem ws_c0 : ws_okc (kR_ArrayList, kF_ArrayList, 3) := ⟨fun w h => List.mem_append_right _ (ki_ArrayList w h), 3, (List.mem_append_right _ (List.mem_of_getElem? (i := 212) (by decide +kernel)))⟩
theorem ws_c1 : ws_okc (kR_Act, kF_Act, 5) := ⟨fun w h => List.mem_append_right _ (ki_Act w h), 5, (List.mem_append_right _ (List.mem_of_getElem? (i := 206) (by decide +kernel)))⟩
theorem ws_c2 : ws_okc (kR_Code, kF_Code, 1) := ⟨fun w h => List.mem_append_right _ (ki_Code w h), 1, (List.mem_append_right _ (List.mem_of_getElem? (i := 534) (by decide +kernel)))⟩
theorem ws_c3 : ws_okc (kR_End, kF_End, 4) := ⟨fun w h => List.mem_append_right _ (ki_End w h), 4, (List.mem_append_right _ (List.mem_of_getElem? (i := 780) (by decide +kernel)))⟩
theorem ws_c4 : ws_okc (kR_EndText, kF_EndText, 5) := ⟨fun w h => List.mem_append_right _ (ki_EndText w h), 5, (List.mem_append_right _ (List.mem_of_getElem? (i := 753) (by decide +kernel)))⟩
theorem ws_c5 : ws_okc (kR_Facts, kF_Facts, 5) := ⟨fun w h => List.mem_append_right _ (ki_Facts w h), 5, (List.mem_append_right _ (List.mem_of_getElem? (i := 40) (by decide +kernel)))⟩
theorem ws_c6 : ws_okc (kR_Fund, kF_Fund, 15) := ⟨fun w h => List.mem_append_right _ (ki_Fund w h), 15, (List.mem_append_right _ (List.mem_of_getElem? (i := 656) (by decide +kernel)))⟩
theorem ws_c7 : ws_okc (kR_Grouping, kF_Grouping, 14) := ⟨fun w h => List.mem_append_right _ (ki_Grouping w h), 14, (List.mem_append_right _ (List.mem_of_getElem? (i := 156) (by decide +kernel)))⟩
theorem ws_c8 : ws_okc (kR_NearEnd, kF_NearEnd, 2) := ⟨fun w h => List.mem_append_right _ (ki_NearEnd w h), 2, (List.mem_append_right _ (List.mem_of_getElem? (i := 822) (by decide +kernel)))⟩
theorem ws_c9 : ws_okc (kR_Reader, kF_Reader, 19) := ⟨fun w h => List.mem_append_right _ (ki_Reader w h), 19, (List.mem_append_right _ (List.mem_of_getElem? (i := 64) (by decide +kernel)))⟩
theorem ws_c10 : ws_okc (kR_Reckoner, kF_Reckoner, 5) := ⟨fun w h => List.mem_append_right _ (ki_Reckoner w h), 5, (List.mem_append_right _ (List.mem_of_getElem? (i := 131) (by decide +kernel)))⟩
theorem ws_c11 : ws_okc (kR_Scheme, kF_Scheme, 12) := ⟨fun w h => List.mem_append_right _ (ki_Scheme w h), 12, (List.mem_append_right _ (List.mem_of_getElem? (i := 962) (by decide +kernel)))⟩
theorem ws_c12 : ws_okc (kR_TrustDesk, kF_TrustDesk, 13) := ⟨fun w h => List.mem_append_right _ (ki_TrustDesk w h), 13, (List.mem_append_right _ (List.mem_of_getElem? (i := 32) (by decide +kernel)))⟩
theorem ws_c13 : ws_okc (kR_TrustDeskModel, kF_TrustDeskModel, 72) := ⟨fun w h => List.mem_append_right _ (ki_TrustDeskModel w h), 72, (List.mem_append_right _ (List.mem_of_getElem? (i := 1381) (by decide +kernel)))⟩
theorem ws_cls : ∀ q ∈ kcl, ws_okc q := List.forall_mem_cons.mpr ⟨ws_c0, List.forall_mem_cons.mpr ⟨ws_c1, List.forall_mem_cons.mpr ⟨ws_c2, List.forall_mem_cons.mpr ⟨ws_c3, List.forall_mem_cons.mpr ⟨ws_c4, List.forall_mem_cons.mpr ⟨ws_c5, List.forall_mem_cons.mpr ⟨ws_c6, List.forall_mem_cons.mpr ⟨ws_c7, List.forall_mem_cons.mpr ⟨ws_c8, List.forall_mem_cons.mpr ⟨ws_c9, List.forall_mem_cons.mpr ⟨ws_c10, List.forall_mem_cons.mpr ⟨ws_c11, List.forall_mem_cons.mpr ⟨ws_c12, List.forall_mem_cons.mpr ⟨ws_c13, fun _ h => absurd h List.not_mem_nil⟩⟩⟩⟩⟩⟩⟩⟩⟩⟩⟩⟩⟩⟩
theorem ws_s385 : Cond.stringRef "TrustDesk$Reader" (264) "poor maids boys sick bread coal rent lake income coin living dead marks" ∈ lw_tbl := (List.mem_append_right _ (List.mem_of_getElem? (i := 385) (by decide +kernel)))
theorem ws_s442 : Cond.stringRef "TrustDesk$Reader" (270) "fail keep days late gain sell near join sale strike bar mark trust end pays if part not and or" ∈ lw_tbl := (List.mem_append_right _ (List.mem_of_getElem? (i := 442) (by decide +kernel)))
theorem ws_s1353 : Cond.stringRef "TrustDesk" (444) "no such fund" ∈ lw_tbl := (List.mem_append_right _ (List.mem_of_getElem? (i := 1353) (by decide +kernel)))
theorem ws_s1379 : Cond.stringRef "TrustDesk" (461) "no such question" ∈ lw_tbl := (List.mem_append_right _ (List.mem_of_getElem? (i := 1379) (by decide +kernel)))
theorem ws_s1674 : Cond.stringRef "TrustDeskModel" (351) "fail" ∈ lw_tbl := (List.mem_append_right _ (List.mem_of_getElem? (i := 1674) (by decide +kernel)))
theorem ws_s1681 : Cond.stringRef "TrustDeskModel" (353) "keep" ∈ lw_tbl := (List.mem_append_right _ (List.mem_of_getElem? (i := 1681) (by decide +kernel)))
theorem ws_s1682 : Cond.stringRef "TrustDeskModel" (355) "days" ∈ lw_tbl := (List.mem_append_right _ (List.mem_of_getElem? (i := 1682) (by decide +kernel)))
theorem ws_s1683 : Cond.stringRef "TrustDeskModel" (357) "late" ∈ lw_tbl := (List.mem_append_right _ (List.mem_of_getElem? (i := 1683) (by decide +kernel)))
theorem ws_s1684 : Cond.stringRef "TrustDeskModel" (359) "gain" ∈ lw_tbl := (List.mem_append_right _ (List.mem_of_getElem? (i := 1684) (by decide +kernel)))
theorem ws_s1685 : Cond.stringRef "TrustDeskModel" (361) "sell" ∈ lw_tbl := (List.mem_append_right _ (List.mem_of_getElem? (i := 1685) (by decide +kernel)))
theorem ws_s1686 : Cond.stringRef "TrustDeskModel" (363) "bar" ∈ lw_tbl := (List.mem_append_right _ (List.mem_of_getElem? (i := 1686) (by decide +kernel)))
theorem ws_s1695 : Cond.stringRef "TrustDeskModel" (368) "near" ∈ lw_tbl := (List.mem_append_right _ (List.mem_of_getElem? (i := 1695) (by decide +kernel)))
theorem ws_s1696 : Cond.stringRef "TrustDeskModel" (370) "join" ∈ lw_tbl := (List.mem_append_right _ (List.mem_of_getElem? (i := 1696) (by decide +kernel)))
theorem ws_s1697 : Cond.stringRef "TrustDeskModel" (372) "sale" ∈ lw_tbl := (List.mem_append_right _ (List.mem_of_getElem? (i := 1697) (by decide +kernel)))
theorem ws_s1698 : Cond.stringRef "TrustDeskModel" (374) "strike" ∈ lw_tbl := (List.mem_append_right _ (List.mem_of_getElem? (i := 1698) (by decide +kernel)))
theorem ws_s1699 : Cond.stringRef "TrustDeskModel" (333) "if" ∈ lw_tbl := (List.mem_append_right _ (List.mem_of_getElem? (i := 1699) (by decide +kernel)))
theorem ws_s1716 : Cond.stringRef "TrustDeskModel" (300) "not" ∈ lw_tbl := (List.mem_append_right _ (List.mem_of_getElem? (i := 1716) (by decide +kernel)))
theorem ws_s1753 : Cond.stringRef "TrustDeskModel" (248) "poor" ∈ lw_tbl := (List.mem_append_right _ (List.mem_of_getElem? (i := 1753) (by decide +kernel)))
theorem ws_s1754 : Cond.stringRef "TrustDeskModel" (250) "maids" ∈ lw_tbl := (List.mem_append_right _ (List.mem_of_getElem? (i := 1754) (by decide +kernel)))
theorem ws_s1755 : Cond.stringRef "TrustDeskModel" (252) "boys" ∈ lw_tbl := (List.mem_append_right _ (List.mem_of_getElem? (i := 1755) (by decide +kernel)))
theorem ws_s1756 : Cond.stringRef "TrustDeskModel" (254) "sick" ∈ lw_tbl := (List.mem_append_right _ (List.mem_of_getElem? (i := 1756) (by decide +kernel)))
theorem ws_s1757 : Cond.stringRef "TrustDeskModel" (256) "bread" ∈ lw_tbl := (List.mem_append_right _ (List.mem_of_getElem? (i := 1757) (by decide +kernel)))
theorem ws_s1758 : Cond.stringRef "TrustDeskModel" (258) "coal" ∈ lw_tbl := (List.mem_append_right _ (List.mem_of_getElem? (i := 1758) (by decide +kernel)))
theorem ws_s1759 : Cond.stringRef "TrustDeskModel" (260) "rent" ∈ lw_tbl := (List.mem_append_right _ (List.mem_of_getElem? (i := 1759) (by decide +kernel)))
theorem ws_s1760 : Cond.stringRef "TrustDeskModel" (262) "lake" ∈ lw_tbl := (List.mem_append_right _ (List.mem_of_getElem? (i := 1760) (by decide +kernel)))
theorem ws_s1761 : Cond.stringRef "TrustDeskModel" (264) "income" ∈ lw_tbl := (List.mem_append_right _ (List.mem_of_getElem? (i := 1761) (by decide +kernel)))
theorem ws_s1762 : Cond.stringRef "TrustDeskModel" (266) "coin" ∈ lw_tbl := (List.mem_append_right _ (List.mem_of_getElem? (i := 1762) (by decide +kernel)))
theorem ws_s1763 : Cond.stringRef "TrustDeskModel" (271) "living" ∈ lw_tbl := (List.mem_append_right _ (List.mem_of_getElem? (i := 1763) (by decide +kernel)))
theorem ws_s1764 : Cond.stringRef "TrustDeskModel" (273) "dead" ∈ lw_tbl := (List.mem_append_right _ (List.mem_of_getElem? (i := 1764) (by decide +kernel)))
theorem ws_s1765 : Cond.stringRef "TrustDeskModel" (275) "marks" ∈ lw_tbl := (List.mem_append_right _ (List.mem_of_getElem? (i := 1765) (by decide +kernel)))
theorem ws_s1766 : Cond.stringRef "TrustDeskModel" (310) "and" ∈ lw_tbl := (List.mem_append_right _ (List.mem_of_getElem? (i := 1766) (by decide +kernel)))
theorem ws_s1767 : Cond.stringRef "TrustDeskModel" (315) "or" ∈ lw_tbl := (List.mem_append_right _ (List.mem_of_getElem? (i := 1767) (by decide +kernel)))
theorem ws_s1799 : Cond.stringRef "TrustDeskModel" (336) "end" ∈ lw_tbl := (List.mem_append_right _ (List.mem_of_getElem? (i := 1799) (by decide +kernel)))
theorem ws_s1800 : Cond.stringRef "TrustDeskModel" (338) "mark" ∈ lw_tbl := (List.mem_append_right _ (List.mem_of_getElem? (i := 1800) (by decide +kernel)))
theorem ws_s1801 : Cond.stringRef "TrustDeskModel" (340) "trust" ∈ lw_tbl := (List.mem_append_right _ (List.mem_of_getElem? (i := 1801) (by decide +kernel)))
theorem ws_s1810 : Cond.stringRef "TrustDeskModel" (327) "pays" ∈ lw_tbl := (List.mem_append_right _ (List.mem_of_getElem? (i := 1810) (by decide +kernel)))
theorem ws_s1811 : Cond.stringRef "TrustDeskModel" (335) "part" ∈ lw_tbl := (List.mem_append_right _ (List.mem_of_getElem? (i := 1811) (by decide +kernel)))
theorem ws_strs : ∀ q ∈ mj_strs, Cond.stringRef q.1 q.2.1 q.2.2.1 ∈ lw_tbl := List.forall_mem_cons.mpr ⟨ws_s385, List.forall_mem_cons.mpr ⟨ws_s442, List.forall_mem_cons.mpr ⟨ws_s1353, List.forall_mem_cons.mpr ⟨ws_s1379, List.forall_mem_cons.mpr ⟨ws_s1674, List.forall_mem_cons.mpr ⟨ws_s1681, List.forall_mem_cons.mpr ⟨ws_s1682, List.forall_mem_cons.mpr ⟨ws_s1683, List.forall_mem_cons.mpr ⟨ws_s1684, List.forall_mem_cons.mpr ⟨ws_s1685, List.forall_mem_cons.mpr ⟨ws_s1686, List.forall_mem_cons.mpr ⟨ws_s1695, List.forall_mem_cons.mpr ⟨ws_s1696, List.forall_mem_cons.mpr ⟨ws_s1697, List.forall_mem_cons.mpr ⟨ws_s1698, List.forall_mem_cons.mpr ⟨ws_s1699, List.forall_mem_cons.mpr ⟨ws_s1716, List.forall_mem_cons.mpr ⟨ws_s1753, List.forall_mem_cons.mpr ⟨ws_s1754, List.forall_mem_cons.mpr ⟨ws_s1755, List.forall_mem_cons.mpr ⟨ws_s1756, List.forall_mem_cons.mpr ⟨ws_s1757, List.forall_mem_cons.mpr ⟨ws_s1758, List.forall_mem_cons.mpr ⟨ws_s1759, List.forall_mem_cons.mpr ⟨ws_s1760, List.forall_mem_cons.mpr ⟨ws_s1761, List.forall_mem_cons.mpr ⟨ws_s1762, List.forall_mem_cons.mpr ⟨ws_s1763, List.forall_mem_cons.mpr ⟨ws_s1764, List.forall_mem_cons.mpr ⟨ws_s1765, List.forall_mem_cons.mpr ⟨ws_s1766, List.forall_mem_cons.mpr ⟨ws_s1767, List.forall_mem_cons.mpr ⟨ws_s1799, List.forall_mem_cons.mpr ⟨ws_s1800, List.forall_mem_cons.mpr ⟨ws_s1801, List.forall_mem_cons.mpr ⟨ws_s1810, List.forall_mem_cons.mpr ⟨ws_s1811, fun _ h => absurd h List.not_mem_nil⟩⟩⟩⟩⟩⟩⟩⟩⟩⟩⟩⟩⟩⟩⟩⟩⟩⟩⟩⟩⟩⟩⟩⟩⟩⟩⟩⟩⟩⟩⟩⟩⟩⟩⟩⟩⟩
theorem ws_find : ∀ q ∈ mj_strs, mj_strs.find? (fun r => r.2.2.2 == q.2.2.2) = some q ∧ 10 ≤ q.2.2.2 ∧ q.2.2.2 < 50 := by decide +kernel
abbrev ws_F : List Cond := flatC (Jvm.Cond.and given_1 narrow_1)
/-- what the premises say of a String constant, in their order, from place p on -/
def ws_exp (q : String × Nat × String × Nat) (B : List Int32) : List Cond := Cond.exactly (.string q.1 q.2.1) "java/lang/String" :: Cond.eq (.field (.string q.1 q.2.1) "java/lang/String" "coder" "B") (.int 0) :: Cond.arrayOf (.field (.string q.1 q.2.1) "java/lang/String" "value" "[B") .byte :: Cond.eq (.length (.field (.string q.1 q.2.1) "java/lang/String" "value" "[B")) (.int (Int32.ofNat B.length)) :: (List.range B.length).map fun j => Cond.eq (.elem (.field (.string q.1 q.2.1) "java/lang/String" "value" "[B") (.int (Int32.ofNat j))) (.int (B.getD j 0))
def ws_chk (q : String × Nat × String × Nat) (B : List Int32) (p : Nat) : Bool := decide (B.length < 2 ^ 31) && decide ((ws_F.drop p).take (B.length + 4) = ws_exp q B)
theorem ws_st {args : Array Value} {s : State} {q : String × Nat × String × Nat} {B : List Int32} {p a : Nat} {A : Nat → Prop} (hq : ∀ w ∈ ws_F, w.before args s = true) (hc : ws_chk q B p = true) (hR : vk_R q.1 q.2.1 q.2.2.1 a s) (hA : ∀ a : Nat, a < s.heap.size → ¬ A a) : ∃ v, mj_st a v B A s s.heap := by
  unfold ws_chk at hc
  simp only [Bool.and_eq_true, decide_eq_true_eq] at hc
  obtain ⟨c1, c2⟩ := hc
  have hm : ∀ w ∈ ws_exp q B, w.before args s = true := fun w hw => hq w (List.mem_of_mem_drop (List.mem_of_mem_take (c2 ▸ hw)))
  obtain ⟨m1, m2⟩ := List.forall_mem_cons.mp hm
  obtain ⟨m2, m3⟩ := List.forall_mem_cons.mp m2
  obtain ⟨m3, m4⟩ := List.forall_mem_cons.mp m3
  obtain ⟨m4, m5⟩ := List.forall_mem_cons.mp m4
  have he : (Term.string q.1 q.2.1).eval args s none [] s = some (.ref a) := hR.2
  obtain ⟨v, hv, hT⟩ := va_Tof (tm := .field (.string q.1 q.2.1) "java/lang/String" "value" "[B") (ty := .byte) (N := B.length) (f := fun j => .int (B.getD j 0)) (A := A) c1 m3 (va_eqt m4) (fun j hj => va_eqt (m5 _ (List.mem_map.mpr ⟨j, List.mem_range.mpr hj, rfl⟩))) hA
  exact ⟨v, va_Oof m1 he hA, vk_OFof he (va_eqt m2) hA, vk_OFof he hv hA, hT⟩
theorem ws_k0 : ws_chk ("TrustDesk$Reader", 264, "poor maids boys sick bread coal rent lake income coin living dead marks", 10) [112, 111, 111, 114, 32, 109, 97, 105, 100, 115, 32, 98, 111, 121, 115, 32, 115, 105, 99, 107, 32, 98, 114, 101, 97, 100, 32, 99, 111, 97, 108, 32, 114, 101, 110, 116, 32, 108, 97, 107, 101, 32, 105, 110, 99, 111, 109, 101, 32, 99, 111, 105, 110, 32, 108, 105, 118, 105, 110, 103, 32, 100, 101, 97, 100, 32, 109, 97, 114, 107, 115] 57 = true := by decide +kernel
theorem ws_k1 : ws_chk ("TrustDesk$Reader", 270, "fail keep days late gain sell near join sale strike bar mark trust end pays if part not and or", 11) [102, 97, 105, 108, 32, 107, 101, 101, 112, 32, 100, 97, 121, 115, 32, 108, 97, 116, 101, 32, 103, 97, 105, 110, 32, 115, 101, 108, 108, 32, 110, 101, 97, 114, 32, 106, 111, 105, 110, 32, 115, 97, 108, 101, 32, 115, 116, 114, 105, 107, 101, 32, 98, 97, 114, 32, 109, 97, 114, 107, 32, 116, 114, 117, 115, 116, 32, 101, 110, 100, 32, 112, 97, 121, 115, 32, 105, 102, 32, 112, 97, 114, 116, 32, 110, 111, 116, 32, 97, 110, 100, 32, 111, 114] 132 = true := by decide +kernel
theorem ws_k2 : ws_chk ("TrustDesk", 444, "no such fund", 12) [110, 111, 32, 115, 117, 99, 104, 32, 102, 117, 110, 100] 230 = true := by decide +kernel
theorem ws_k3 : ws_chk ("TrustDesk", 461, "no such question", 13) [110, 111, 32, 115, 117, 99, 104, 32, 113, 117, 101, 115, 116, 105, 111, 110] 246 = true := by decide +kernel
theorem ws_k4 : ws_chk ("TrustDeskModel", 351, "fail", 14) [102, 97, 105, 108] 266 = true := by decide +kernel
theorem ws_k5 : ws_chk ("TrustDeskModel", 353, "keep", 15) [107, 101, 101, 112] 274 = true := by decide +kernel
theorem ws_k6 : ws_chk ("TrustDeskModel", 355, "days", 16) [100, 97, 121, 115] 282 = true := by decide +kernel
theorem ws_k7 : ws_chk ("TrustDeskModel", 357, "late", 17) [108, 97, 116, 101] 290 = true := by decide +kernel
theorem ws_k8 : ws_chk ("TrustDeskModel", 359, "gain", 18) [103, 97, 105, 110] 298 = true := by decide +kernel
theorem ws_k9 : ws_chk ("TrustDeskModel", 361, "sell", 19) [115, 101, 108, 108] 306 = true := by decide +kernel
theorem ws_k10 : ws_chk ("TrustDeskModel", 363, "bar", 20) [98, 97, 114] 314 = true := by decide +kernel
theorem ws_k11 : ws_chk ("TrustDeskModel", 368, "near", 21) [110, 101, 97, 114] 321 = true := by decide +kernel
theorem ws_k12 : ws_chk ("TrustDeskModel", 370, "join", 22) [106, 111, 105, 110] 329 = true := by decide +kernel
theorem ws_k13 : ws_chk ("TrustDeskModel", 372, "sale", 23) [115, 97, 108, 101] 337 = true := by decide +kernel
theorem ws_k14 : ws_chk ("TrustDeskModel", 374, "strike", 24) [115, 116, 114, 105, 107, 101] 345 = true := by decide +kernel
theorem ws_k15 : ws_chk ("TrustDeskModel", 333, "if", 25) [105, 102] 355 = true := by decide +kernel
theorem ws_k16 : ws_chk ("TrustDeskModel", 300, "not", 26) [110, 111, 116] 361 = true := by decide +kernel
theorem ws_k17 : ws_chk ("TrustDeskModel", 248, "poor", 27) [112, 111, 111, 114] 368 = true := by decide +kernel
theorem ws_k18 : ws_chk ("TrustDeskModel", 250, "maids", 28) [109, 97, 105, 100, 115] 376 = true := by decide +kernel
theorem ws_k19 : ws_chk ("TrustDeskModel", 252, "boys", 29) [98, 111, 121, 115] 385 = true := by decide +kernel
theorem ws_k20 : ws_chk ("TrustDeskModel", 254, "sick", 30) [115, 105, 99, 107] 393 = true := by decide +kernel
theorem ws_k21 : ws_chk ("TrustDeskModel", 256, "bread", 31) [98, 114, 101, 97, 100] 401 = true := by decide +kernel
theorem ws_k22 : ws_chk ("TrustDeskModel", 258, "coal", 32) [99, 111, 97, 108] 410 = true := by decide +kernel
theorem ws_k23 : ws_chk ("TrustDeskModel", 260, "rent", 33) [114, 101, 110, 116] 418 = true := by decide +kernel
theorem ws_k24 : ws_chk ("TrustDeskModel", 262, "lake", 34) [108, 97, 107, 101] 426 = true := by decide +kernel
theorem ws_k25 : ws_chk ("TrustDeskModel", 264, "income", 35) [105, 110, 99, 111, 109, 101] 434 = true := by decide +kernel
theorem ws_k26 : ws_chk ("TrustDeskModel", 266, "coin", 36) [99, 111, 105, 110] 444 = true := by decide +kernel
theorem ws_k27 : ws_chk ("TrustDeskModel", 271, "living", 37) [108, 105, 118, 105, 110, 103] 452 = true := by decide +kernel
theorem ws_k28 : ws_chk ("TrustDeskModel", 273, "dead", 38) [100, 101, 97, 100] 462 = true := by decide +kernel
theorem ws_k29 : ws_chk ("TrustDeskModel", 275, "marks", 39) [109, 97, 114, 107, 115] 470 = true := by decide +kernel
theorem ws_k30 : ws_chk ("TrustDeskModel", 310, "and", 40) [97, 110, 100] 479 = true := by decide +kernel
theorem ws_k31 : ws_chk ("TrustDeskModel", 315, "or", 41) [111, 114] 486 = true := by decide +kernel
theorem ws_k32 : ws_chk ("TrustDeskModel", 336, "end", 42) [101, 110, 100] 492 = true := by decide +kernel
theorem ws_k33 : ws_chk ("TrustDeskModel", 338, "mark", 43) [109, 97, 114, 107] 499 = true := by decide +kernel
theorem ws_k34 : ws_chk ("TrustDeskModel", 340, "trust", 44) [116, 114, 117, 115, 116] 507 = true := by decide +kernel
theorem ws_k35 : ws_chk ("TrustDeskModel", 327, "pays", 45) [112, 97, 121, 115] 516 = true := by decide +kernel
theorem ws_k36 : ws_chk ("TrustDeskModel", 335, "part", 46) [112, 97, 114, 116] 524 = true := by decide +kernel
theorem ws_at : ∀ i, i < 37 → ∃ q p, mj_strs[i]? = some q ∧ q.2.2.2 = 10 + i ∧ ws_chk q (mj_byt.getD i []) p = true := by
  intro i hi
  rcases (show i = 0 ∨ i = 1 ∨ i = 2 ∨ i = 3 ∨ i = 4 ∨ i = 5 ∨ i = 6 ∨ i = 7 ∨ i = 8 ∨ i = 9 ∨ i = 10 ∨ i = 11 ∨ i = 12 ∨ i = 13 ∨ i = 14 ∨ i = 15 ∨ i = 16 ∨ i = 17 ∨ i = 18 ∨ i = 19 ∨ i = 20 ∨ i = 21 ∨ i = 22 ∨ i = 23 ∨ i = 24 ∨ i = 25 ∨ i = 26 ∨ i = 27 ∨ i = 28 ∨ i = 29 ∨ i = 30 ∨ i = 31 ∨ i = 32 ∨ i = 33 ∨ i = 34 ∨ i = 35 ∨ i = 36 by omega) with rfl | rfl | rfl | rfl | rfl | rfl | rfl | rfl | rfl | rfl | rfl | rfl | rfl | rfl | rfl | rfl | rfl | rfl | rfl | rfl | rfl | rfl | rfl | rfl | rfl | rfl | rfl | rfl | rfl | rfl | rfl | rfl | rfl | rfl | rfl | rfl | rfl
  · exact ⟨("TrustDesk$Reader", 264, "poor maids boys sick bread coal rent lake income coin living dead marks", 10), _, rfl, rfl, ws_k0⟩
  · exact ⟨("TrustDesk$Reader", 270, "fail keep days late gain sell near join sale strike bar mark trust end pays if part not and or", 11), _, rfl, rfl, ws_k1⟩
  · exact ⟨("TrustDesk", 444, "no such fund", 12), _, rfl, rfl, ws_k2⟩
  · exact ⟨("TrustDesk", 461, "no such question", 13), _, rfl, rfl, ws_k3⟩
  · exact ⟨("TrustDeskModel", 351, "fail", 14), _, rfl, rfl, ws_k4⟩
  · exact ⟨("TrustDeskModel", 353, "keep", 15), _, rfl, rfl, ws_k5⟩
  · exact ⟨("TrustDeskModel", 355, "days", 16), _, rfl, rfl, ws_k6⟩
  · exact ⟨("TrustDeskModel", 357, "late", 17), _, rfl, rfl, ws_k7⟩
  · exact ⟨("TrustDeskModel", 359, "gain", 18), _, rfl, rfl, ws_k8⟩
  · exact ⟨("TrustDeskModel", 361, "sell", 19), _, rfl, rfl, ws_k9⟩
  · exact ⟨("TrustDeskModel", 363, "bar", 20), _, rfl, rfl, ws_k10⟩
  · exact ⟨("TrustDeskModel", 368, "near", 21), _, rfl, rfl, ws_k11⟩
  · exact ⟨("TrustDeskModel", 370, "join", 22), _, rfl, rfl, ws_k12⟩
  · exact ⟨("TrustDeskModel", 372, "sale", 23), _, rfl, rfl, ws_k13⟩
  · exact ⟨("TrustDeskModel", 374, "strike", 24), _, rfl, rfl, ws_k14⟩
  · exact ⟨("TrustDeskModel", 333, "if", 25), _, rfl, rfl, ws_k15⟩
  · exact ⟨("TrustDeskModel", 300, "not", 26), _, rfl, rfl, ws_k16⟩
  · exact ⟨("TrustDeskModel", 248, "poor", 27), _, rfl, rfl, ws_k17⟩
  · exact ⟨("TrustDeskModel", 250, "maids", 28), _, rfl, rfl, ws_k18⟩
  · exact ⟨("TrustDeskModel", 252, "boys", 29), _, rfl, rfl, ws_k19⟩
  · exact ⟨("TrustDeskModel", 254, "sick", 30), _, rfl, rfl, ws_k20⟩
  · exact ⟨("TrustDeskModel", 256, "bread", 31), _, rfl, rfl, ws_k21⟩
  · exact ⟨("TrustDeskModel", 258, "coal", 32), _, rfl, rfl, ws_k22⟩
  · exact ⟨("TrustDeskModel", 260, "rent", 33), _, rfl, rfl, ws_k23⟩
  · exact ⟨("TrustDeskModel", 262, "lake", 34), _, rfl, rfl, ws_k24⟩
  · exact ⟨("TrustDeskModel", 264, "income", 35), _, rfl, rfl, ws_k25⟩
  · exact ⟨("TrustDeskModel", 266, "coin", 36), _, rfl, rfl, ws_k26⟩
  · exact ⟨("TrustDeskModel", 271, "living", 37), _, rfl, rfl, ws_k27⟩
  · exact ⟨("TrustDeskModel", 273, "dead", 38), _, rfl, rfl, ws_k28⟩
  · exact ⟨("TrustDeskModel", 275, "marks", 39), _, rfl, rfl, ws_k29⟩
  · exact ⟨("TrustDeskModel", 310, "and", 40), _, rfl, rfl, ws_k30⟩
  · exact ⟨("TrustDeskModel", 315, "or", 41), _, rfl, rfl, ws_k31⟩
  · exact ⟨("TrustDeskModel", 336, "end", 42), _, rfl, rfl, ws_k32⟩
  · exact ⟨("TrustDeskModel", 338, "mark", 43), _, rfl, rfl, ws_k33⟩
  · exact ⟨("TrustDeskModel", 340, "trust", 44), _, rfl, rfl, ws_k34⟩
  · exact ⟨("TrustDeskModel", 327, "pays", 45), _, rfl, rfl, ws_k35⟩
  · exact ⟨("TrustDeskModel", 335, "part", 46), _, rfl, rfl, ws_k36⟩
set_option maxHeartbeats 4000000 in
/-- what the run is given, out of the state -/
theorem ws_given {s : State} {b L : Nat} {xs : Nat → Int32} (hts : ∀ w ∈ lw_tbl, w.before #[Value.ref b] s = true) (hX : va_X b L xs s s.heap) (hb : b < s.heap.size) (hgv : (Jvm.Cond.and given_1 narrow_1).before #[Value.ref b] s = true) : ∃ g : mj_G, g.1 = s.heap.size ∧ mj_L g = L ∧ mj_r g 50 = b ∧ mj_K g s ∧ mj_Z g s s.heap := by
  have hq := flat_of_before _ hgv
  have hA : ∀ a : Nat, a < s.heap.size → ¬ (fun q => s.heap.size ≤ q) a := fun a h => Nat.not_le.mpr h
  have hC : ∀ c : Nat, ∃ r : ClassId × (Nat → Nat), ∀ q : vw_C, kcl[c]? = some q → u_Kn s q.1 q.2.1 q.2.2 r.1 r.2 := by
    intro c
    cases hc : kcl[c]? with
    | none => exact ⟨(0, fun _ => 0), fun q h => nomatch h⟩
    | some q =>
      obtain ⟨k1, n, k2⟩ := ws_cls q (List.mem_of_getElem? hc)
      obtain ⟨cC, iS, h⟩ := u_known (ws := lw_tbl) hts k1 (hts _ k2)
      exact ⟨(cC, iS), fun q' h' => by cases h'; exact h⟩
  obtain ⟨D, hD⟩ := Classical.axiomOfChoice hC
  obtain ⟨t0, t0a, t0b⟩ := ws_arr (hts (.arrayClass .int) (List.mem_append_right _ (List.mem_of_getElem? (i := 62) (by decide +kernel))))
  obtain ⟨t1, t1a, t1b⟩ := ws_arr (hts (.arrayClass .long) (List.mem_append_right _ (List.mem_of_getElem? (i := 154) (by decide +kernel))))
  obtain ⟨t2, t2a, t2b⟩ := ws_arr (hts (.arrayClass .boolean) (List.mem_append_right _ (List.mem_of_getElem? (i := 725) (by decide +kernel))))
  obtain ⟨t3, t3a, t3b⟩ := ws_arr (hts (.arrayClass .byte) (List.mem_append_right _ (List.mem_of_getElem? (i := 553) (by decide +kernel))))
  obtain ⟨t4, t4a, t4b⟩ := ws_obj (hts (.arrayOver (.object "java/lang/Object")) (List.mem_append_right _ (List.mem_of_getElem? (i := 609) (by decide +kernel))))
  have hS : ∀ q : String × Nat × String × Nat, ∃ a : Nat, q ∈ mj_strs → vk_R q.1 q.2.1 q.2.2.1 a s := by
    intro q
    by_cases h : q ∈ mj_strs
    · obtain ⟨a, ha⟩ := ws_str (hts _ (ws_strs q h))
      exact ⟨a, fun _ => ha⟩
    · exact ⟨0, fun h' => absurd h' h⟩
  obtain ⟨sA, hsA⟩ := Classical.axiomOfChoice hS
  obtain ⟨z0, z01, z02⟩ := va_Tof (tm := .static "java/util/ArrayList" "DEFAULTCAPACITY_EMPTY_ELEMENTDATA" "[Ljava/lang/Object;") (ty := .object "java/lang/Object") (N := 0) (f := fun _ => .null) (A := fun q => s.heap.size ≤ q) (by decide) (hq _ (by decide +kernel)) (va_eqt (z := 0) (hq _ (by decide +kernel))) (fun j hj => absurd hj (Nat.not_lt_zero j)) hA
  obtain ⟨z1, z11, z12⟩ := ws_six (tm := (Term.static "TrustDesk" "RULE_WITHOUT" "[I")) (f := fun j => mj_rw.getD j .null) (A := fun q => s.heap.size ≤ q) (hq _ (by decide +kernel)) (va_eqt (z := 6) (hq _ (by decide +kernel))) (fun j hj => by
    rcases (show j = 0 ∨ j = 1 ∨ j = 2 ∨ j = 3 ∨ j = 4 ∨ j = 5 by omega) with rfl | rfl | rfl | rfl | rfl | rfl
    · exact va_eqt (z := 3) (hq (Cond.eq (.elem (Term.static "TrustDesk" "RULE_WITHOUT" "[I") (.int 0)) (.int 3)) (by decide +kernel))
    · exact va_eqt (z := 1) (hq (Cond.eq (.elem (Term.static "TrustDesk" "RULE_WITHOUT" "[I") (.int 1)) (.int 1)) (by decide +kernel))
    · exact va_eqt (z := 30) (hq (Cond.eq (.elem (Term.static "TrustDesk" "RULE_WITHOUT" "[I") (.int 2)) (.int 30)) (by decide +kernel))
    · exact va_eqt (z := 90) (hq (Cond.eq (.elem (Term.static "TrustDesk" "RULE_WITHOUT" "[I") (.int 3)) (.int 90)) (by decide +kernel))
    · exact va_eqt (z := 0) (hq (Cond.eq (.elem (Term.static "TrustDesk" "RULE_WITHOUT" "[I") (.int 4)) (.int 0)) (by decide +kernel))
    · exact va_eqt (z := 20) (hq (Cond.eq (.elem (Term.static "TrustDesk" "RULE_WITHOUT" "[I") (.int 5)) (.int 20)) (by decide +kernel))) hA
  obtain ⟨z2, z21, z22⟩ := va_Tof (tm := (Term.static "TrustDesk" "RULE_LEAST" "[I")) (ty := .int) (N := 6) (f := fun j => mj_rl.getD j .null) (A := fun q => s.heap.size ≤ q) (by decide) (hq _ (by decide +kernel)) (va_eqt (z := 6) (hq _ (by decide +kernel))) (fun j hj => by
    rcases (show j = 0 ∨ j = 1 ∨ j = 2 ∨ j = 3 ∨ j = 4 ∨ j = 5 by omega) with rfl | rfl | rfl | rfl | rfl | rfl
    · exact va_eqt (z := 1) (hq (Cond.eq (.elem (Term.static "TrustDesk" "RULE_LEAST" "[I") (.int 0)) (.int 1)) (by decide +kernel))
    · exact va_eqt (z := 0) (hq (Cond.eq (.elem (Term.static "TrustDesk" "RULE_LEAST" "[I") (.int 1)) (.int 0)) (by decide +kernel))
    · exact va_eqt (z := 1) (hq (Cond.eq (.elem (Term.static "TrustDesk" "RULE_LEAST" "[I") (.int 2)) (.int 1)) (by decide +kernel))
    · exact va_eqt (z := 1) (hq (Cond.eq (.elem (Term.static "TrustDesk" "RULE_LEAST" "[I") (.int 3)) (.int 1)) (by decide +kernel))
    · exact va_eqt (z := 0) (hq (Cond.eq (.elem (Term.static "TrustDesk" "RULE_LEAST" "[I") (.int 4)) (.int 0)) (by decide +kernel))
    · exact va_eqt (z := 1) (hq (Cond.eq (.elem (Term.static "TrustDesk" "RULE_LEAST" "[I") (.int 5)) (.int 1)) (by decide +kernel))) hA
  obtain ⟨z3, z31, z32⟩ := va_Tof (tm := (Term.static "TrustDesk" "RULE_MOST" "[I")) (ty := .int) (N := 6) (f := fun j => mj_rm.getD j .null) (A := fun q => s.heap.size ≤ q) (by decide) (hq _ (by decide +kernel)) (va_eqt (z := 6) (hq _ (by decide +kernel))) (fun j hj => by
    rcases (show j = 0 ∨ j = 1 ∨ j = 2 ∨ j = 3 ∨ j = 4 ∨ j = 5 by omega) with rfl | rfl | rfl | rfl | rfl | rfl
    · exact va_eqt (z := 50) (hq (Cond.eq (.elem (Term.static "TrustDesk" "RULE_MOST" "[I") (.int 0)) (.int 50)) (by decide +kernel))
    · exact va_eqt (z := 8) (hq (Cond.eq (.elem (Term.static "TrustDesk" "RULE_MOST" "[I") (.int 1)) (.int 8)) (by decide +kernel))
    · exact va_eqt (z := 360) (hq (Cond.eq (.elem (Term.static "TrustDesk" "RULE_MOST" "[I") (.int 2)) (.int 360)) (by decide +kernel))
    · exact va_eqt (z := 720) (hq (Cond.eq (.elem (Term.static "TrustDesk" "RULE_MOST" "[I") (.int 3)) (.int 720)) (by decide +kernel))
    · exact va_eqt (z := 20) (hq (Cond.eq (.elem (Term.static "TrustDesk" "RULE_MOST" "[I") (.int 4)) (.int 20)) (by decide +kernel))
    · exact va_eqt (z := 40) (hq (Cond.eq (.elem (Term.static "TrustDesk" "RULE_MOST" "[I") (.int 5)) (.int 40)) (by decide +kernel))) hA
  have hst : ∀ i, i < 37 → ∀ q, mj_strs[i]? = some q → ∃ v, mj_st (sA q) v (mj_byt.getD i []) (fun q => s.heap.size ≤ q) s s.heap := fun i hi q hqi => by
    obtain ⟨q9, p9, h1, h2, h3⟩ := ws_at i hi
    cases hqi.symm.trans h1
    exact ws_st hq h3 (hsA q (List.mem_of_getElem? hqi)) hA
  obtain ⟨v0, hv0⟩ := hst 0 (by decide) _ rfl
  generalize hq0 : sA ("TrustDesk$Reader", 264, "poor maids boys sick bread coal rent lake income coin living dead marks", 10) = q0 at hv0
  obtain ⟨m8, hm8⟩ := va_Mi.of (hq (Cond.isRef (.mirror "[Ljava/lang/Object;")) (by decide +kernel))
  have hcs := va_Zof (v := .int 1) (C := "java/lang/String") (n := "COMPACT_STRINGS") (d := "Z") (A := fun q => s.heap.size ≤ q) (hts _ (List.mem_append_right _ (List.mem_of_getElem? (i := 399) (by decide +kernel)))) (hts _ (List.mem_append_right _ (List.mem_of_getElem? (i := 11) (by decide +kernel)))) (va_eqt (z := 1) (hq (Cond.eq (.static "java/lang/String" "COMPACT_STRINGS" "Z") (.int 1)) (by decide +kernel))) hA
  obtain ⟨f7, hf7⟩ : ∃ f7 : Nat, va_Z "jdk/internal/util/Preconditions" "SIOOBE_FORMATTER" "Ljava/util/function/BiFunction;" .null (fun q => s.heap.size ≤ q) s s.heap ∨ va_Z "jdk/internal/util/Preconditions" "SIOOBE_FORMATTER" "Ljava/util/function/BiFunction;" (.ref f7) (fun q => s.heap.size ≤ q) s s.heap := by
    rcases (va_Zqof (C := "jdk/internal/util/Preconditions") (n := "SIOOBE_FORMATTER") (d := "Ljava/util/function/BiFunction;") (A := fun q => s.heap.size ≤ q) (hts _ (List.mem_append_right _ (List.mem_of_getElem? (i := 415) (by decide +kernel)))) (hts _ (List.mem_append_right _ (List.mem_of_getElem? (i := 13) (by decide +kernel)))) (hq _ (by decide +kernel)) hA) with h | ⟨t, h⟩
    · exact ⟨0, Or.inl h⟩
    · exact ⟨t, Or.inr h⟩
  let cad : Nat → Nat := fun n => match n with
    | 0 => z0
    | 1 => z1
    | 2 => z2
    | 3 => z3
    | 4 => q0
    | 5 => v0
    | 6 => 0
    | 7 => f7
    | 8 => m8
    | n + 9 => if n = 41 then b else match mj_strs.find? (fun r => r.2.2.2 == n + 9) with
      | some q => sA q
      | none => 0
  let tyC : Nat → ClassId := fun n => match n with
    | 0 => t0
    | 1 => t1
    | 2 => t2
    | 3 => t3
    | _ => t4
  have er : ∀ q ∈ mj_strs, mj_r (s.heap.size, (fun c => (D c).1, fun c => (D c).2), tyC, cad, L, xs) q.2.2.2 = sA q := fun q h => by
    obtain ⟨h1, h2, h3⟩ := ws_find q h
    unfold mj_r
    rw [if_pos (by omega)]
    show cad q.2.2.2 = sA q
    obtain ⟨n, hn⟩ : ∃ n, q.2.2.2 = n + 9 := ⟨q.2.2.2 - 9, by omega⟩
    rw [hn] at h1 h3 ⊢
    show (if n = 41 then b else match mj_strs.find? (fun r => r.2.2.2 == n + 9) with
      | some q => sA q
      | none => 0) = sA q
    rw [if_neg (by omega), h1]
  refine ⟨(s.heap.size, (fun c => (D c).1, fun c => (D c).2), tyC, cad, L, xs), rfl, rfl, rfl, ⟨fun c q h => hD c q h, fun k q h => ?_⟩, ⟨va_Zref (hts _ (List.mem_append_right _ (List.mem_of_getElem? (i := 224) (by decide +kernel)))) (hts _ (List.mem_append_right _ (List.mem_of_getElem? (i := 9) (by decide +kernel)))) z01 hA, z02⟩, ⟨va_Zref (hts _ (List.mem_append_right _ (List.mem_of_getElem? (i := 238) (by decide +kernel)))) (hts _ (List.mem_append_right _ (List.mem_of_getElem? (i := 1) (by decide +kernel)))) z11 hA, z12⟩, ⟨va_Zref (hts _ (List.mem_append_right _ (List.mem_of_getElem? (i := 618) (by decide +kernel)))) (hts _ (List.mem_append_right _ (List.mem_of_getElem? (i := 1) (by decide +kernel)))) z21 hA, z22⟩, ⟨va_Zref (hts _ (List.mem_append_right _ (List.mem_of_getElem? (i := 620) (by decide +kernel)))) (hts _ (List.mem_append_right _ (List.mem_of_getElem? (i := 1) (by decide +kernel)))) z31 hA, z32⟩, ⟨hX, hA b hb⟩, ⟨vx_Zqof (hts _ (List.mem_append_right _ (List.mem_of_getElem? (i := 1341) (by decide +kernel)))) (hts _ (List.mem_append_right _ (List.mem_of_getElem? (i := 27) (by decide +kernel)))) (hq _ (by decide +kernel)) hA, vx_Zqof (hts _ (List.mem_append_right _ (List.mem_of_getElem? (i := 1343) (by decide +kernel)))) (hts _ (List.mem_append_right _ (List.mem_of_getElem? (i := 27) (by decide +kernel)))) (hq _ (by decide +kernel)) hA⟩, fun q h => ?_, hcs, hf7, fun i hi => ?_, hv0, hm8⟩
  · have h' : q ∈ [(t0, FieldType.int), (t1, .long), (t2, .boolean), (t3, .byte), (t4, .object "java/lang/Object")] := List.mem_of_getElem? h
    simp only [List.mem_cons, List.not_mem_nil, or_false] at h'
    rcases h' with rfl | rfl | rfl | rfl | rfl
    · exact ⟨t0a, t0b⟩
    · exact ⟨t1a, t1b⟩
    · exact ⟨t2a, t2b⟩
    · exact ⟨t3a, t3b⟩
    · exact ⟨t4a, t4b⟩
  · rw [er q h]
    exact hsA q h
  · obtain ⟨q, -, h1, h2, -⟩ := ws_at i hi
    rw [← h2, er q (List.mem_of_getElem? h1)]
    exact hst i hi q h1
set_option maxHeartbeats 4000000 in
/-- YOUR PART: from the entry, for every script of at most 3072 ints, the law comes to its end with true -/
theorem whole_start {p : Program} {e : Env} {s : State} {m : MethodId} {below : List Frame} {meth : Method} {c : Code} (l : Launch) (hflags : l.flags = flags0) {b L : Nat} {xs : Nat → Int32} (hL : L ≤ 3072) (C0 : lw_At p s m meth c b L xs) : W p l e room_1 s m #[Value.ref b] below meth c s.heap [] 0 0 (lw_Z below #[Value.ref b] s) (entryFrame m ([Value.ref b] : List Value).toArray 7) := by
  obtain ⟨hx, hb, hr, hml, hown, hts, hX, hbl, hlk, hgv⟩ := C0
  obtain ⟨g, hg0, hgL, hg50, hK, hZ⟩ := ws_given hts hX hbl hgv
  have hlt : l.stackTraces = false := by
    unfold Launch.stackTraces
    rw [hflags]
    decide +kernel
  have hR : mj_R g (fun _ => none) 64 s.heap := by
    refine ⟨(fun a c h => nomatch h), Nat.le_refl _, ?_⟩
    rw [mj_r_ge (Nat.le_refl _), hg0]
    omega
  have hXg : mj_X g kY_TrustDeskLaw_law 840 p room_1 s m #[Value.ref b] meth c := ⟨hx, hb, hml, hr, hlk, hown, fun h => absurd h (by decide), fun w hw => hts w (List.mem_filter.mp hw).1, hK, hZ, by decide, by decide, Nat.le_of_eq hg0⟩
  have hl := lv_entry [Value.ref b] (n := 7) (Nat.le_of_ble_eq_true rfl)
  rw [lg_entry_eq]
  generalize (lg_sl [Value.ref b] ++ List.replicate (7 - (lg_sl [Value.ref b]).length) Slot.unset).toArray = ls at hl ⊢
  have hl' : lv_has ls 7 ([((0 : Nat), Value.ref 50)].map (mj_p g)) := by
    show lv_has ls 7 [(0, .ref (mj_r g 50))]
    rw [hg50]
    exact hl
  have K := lw_all (g := g) (l := l) (d := 812) (M := fun _ => none) hlt (by rw [hgL]; exact hL) p e room_1 s m #[Value.ref b] below meth c s.heap [] ls 0 0 601024 7293034 hXg hR va_S.rf hl' (by decide) (by decide) (by decide) (by decide)
  intro T hT X
  obtain ⟨t, a, o, h1, h2, ⟨⟨r, M, nx, h3, h4, -⟩, -⟩, J, ⟨h5, h6, h7⟩, h8⟩ := K T hT X
  refine ⟨t, a, o, h1, h2, ?_, h5, h6, ?_⟩
  · rw [h3, h4]
    rfl
  · exact State.sameButNew.drop_fresh (L := []) (J := J) (by simpa using h7) (fun q hq => by rw [← hg0]; exact h8 q hq)
set_option maxHeartbeats 4000000 in
theorem lw_walk (l : Launch) (hflags : l.flags = flags0) (b : Addr) (xs : List Int32) : MetFree l x (headSpec (Jvm.Cond.code x code maxLocals ret :: tables_1) room_1) (lw_P b xs) (fun _ _ _ _ _ => True) lw_Q := by
  refine MetFree.of_bodyS (code := code) (maxLocals := maxLocals) (ret := ret) (by decide) ?_ ?_
  · intro args s m h hn
    obtain ⟨meth, c, h1, h2, h3, h4, h5, h6, -, -⟩ := Cond.code_spec hn (atoms_spec (ws := Jvm.Cond.code x code maxLocals ret :: tables_1) h _ List.mem_cons_self)
    exact ⟨meth, c, h1, h2, h3, h4, h5, h6⟩
  · intro p e s m args below meth c s₁ B hml0 hP _
    obtain ⟨rfl, hx, hbd, hgv⟩ := hP
    obtain ⟨scr, harrAt, hlist, hof, hsmall⟩ := hx
    obtain ⟨hcb, hkn, -, -⟩ := State.arrayAt?_spec harrAt
    have hown : s.vm.findClass R_law = some m.cls := findClass_of_methodNamed B.named
    have hts0 : ∀ c ∈ (Jvm.Cond.code x code maxLocals ret :: tables_1), c.before #[Value.ref b] s = true := atoms_spec (ws := Jvm.Cond.code x code maxLocals ret :: tables_1) B.pre
    have hts : ∀ w ∈ lw_tbl, w.before #[Value.ref b] s = true := k2_hts_sels lw_privs (fun w hw => hts0 w (List.mem_cons_of_mem _ hw)) lw_privs_ok
    have hml : c.maxLocals = 7 := B.maxLocals_eq (hts0 _ List.mem_cons_self)
    have X₀ : Stand p l e room_1 s m #[Value.ref b] below meth c s₁ [] 0 0 := Stand.of_body B
    have hh0 : s₁.heap = s.heap := by rw [B.state]; rfl
    have hsz : scr.slots.size = xs.length := by rw [← Array.length_toList, hlist, List.length_map]
    have hval : ∀ j : Nat, j < xs.length → scr.slots[j]? = some (.int (xs.getD j 0)) := fun j hj => by
      rw [← Array.getElem?_toList, hlist]
      simp [hj]
    have hbl : b < s.heap.size := (Array.getElem?_eq_some_iff.mp hcb).1
    have hX : va_X b xs.length (fun j => xs.getD j 0) s s.heap := ⟨scr, hcb, hof, hkn, hsz, hval⟩
    have K : W p l e room_1 s m #[Value.ref b] below meth c s₁.heap [] 0 0 (lw_Z below #[Value.ref b] s) (entryFrame m ([Value.ref b] : List Value).toArray 7) := by
      rw [hh0]
      exact whole_start l hflags hbd ⟨B.exec, B.bytes, B.returns, hml, hown, hts, hX, hbl, B.notSynchronized, hgv⟩
    obtain ⟨t, a1, o, b1, b2, b3⟩ := K s₁ rfl X₀
    exact ⟨t, o, a1, b1, b2, b3⟩
theorem lw_pre_spec {args : Array Value} {s : State} (h : (Jvm.Cond.and given_1 narrow_1).before args s = true) (hr : rest_1_c.before args s = true) : ∃ (b : Addr) (xs : List Int32), lw_P b xs args s := by
  have hs := flat_of_before _ h
  have hq := flat_of_before _ hr
  have hc : (Cond.count 1).before args s = true := hs _ (by decide +kernel)
  have harr : (Cond.arrayOf (.arg 0) .int).before args s = true := hs _ (by decide +kernel)
  have hle : (Cond.le (.length (.arg 0)) (.int 3072)).before args s = true := hs _ (by decide +kernel)
  have hlen : (Cond.isInt (.length (.arg 0))).before args s = true := hq _ (by decide +kernel)
  have hall : (Cond.all (.arg 0) (.isInt (.elem (.arg 0) (.index 0)))).before args s = true := hq _ (by decide +kernel)
  obtain ⟨b, xs, hb, hx⟩ := State.ints_of_pre rfl harr hlen hall
  have hsm : xs.length < 2 ^ 31 := hx.choose_spec.2.2.2
  have hev : (Term.length (.arg 0)).eval args s none [] s = some (.int xs.length.toInt32) := hx.length_eval hb
  have hv := Cond.le_ints hev (show (Term.int 3072).eval args s none [] s = some (.int 3072) from rfl)
  have hd : xs.length.toInt32 ≤ 3072 := by
    simpa [Cond.before, Cond.holds, hv] using hle
  have hN : xs.length ≤ 3072 := (Int32.ofNat_le_ofNat hsm (by decide)).mp (show Int32.ofNat xs.length ≤ Int32.ofNat 3072 from hd)
  exact ⟨b, xs, Cond.one_arg hc (show args[0]? = some (.ref b) from hb), hx, hN, h⟩
theorem lw_comes (l : Launch) (hflags : l.flags = flags0) : Comes l x (Jvm.Cond.code x code maxLocals ret :: tables_1) room_1 (fun tb e args s => Calls_1 tb e args s ∧ rest_1 tb e args s ∧ Pre_1 tb e args s)
    (fun _ _ args s o t => lw_Q args s o t) := by
  intro p e ha hc hk s m args below hf hfit hheap happ hpre
  obtain ⟨b, xs, hP⟩ := lw_pre_spec hpre.2.2 hpre.2.1
  obtain ⟨k, o, h1, h2, h3, hQ⟩ := lw_walk l hflags b xs p e ha hc hk s m args below hf ((Spec.applies_iff_loose hf).mp happ).1 hP trivial
  exact ⟨k, o, h1, h2, h3, hQ⟩
theorem lw_frame {s t : State} {o : Outcome} {args : Array Value} (h : Framed s o t [] 601024 7293034) :
    Framed s o t (fieldLocs frame_1_writes args s ++ arrayLocs frame_1_arrays args s ++ staticLocs frame_1_statics s) 601024 7293034 := h
theorem lw_limb (L : Cond) (hL : ∀ (args : Array Value) (s t : State), L.after args s (.returned (some (.int 1))) t = true) :
    ArmFor flags0 classFile x code maxLocals ret World_1 tables_1 room_1 Calls_1 rest_1 Pre_1
      (fun tb e a s o t => postC L tb e a s o t ∧ Framed s o t (fieldLocs frame_1_writes a s ++ arrayLocs frame_1_arrays a s ++ staticLocs frame_1_statics s) 601024 7293034) := by
  intro l hflags _ _ p e ha hc hk s m args below hf hfit hheap happ hpre
  obtain ⟨k, o, h1, h2, h3, rfl, hF⟩ := lw_comes l hflags p e ha hc hk s m args below hf hfit hheap happ hpre
  exact ⟨k, _, h1, h2, h3, hL args s _, lw_frame hF⟩
theorem i_vc : Claimed_1_1 ∧ Claimed_1_2 := ⟨lw_limb limb_1_1 (fun args s t => by simp [limb_1_1, Cond.after, Cond.holds, Cond.value]), lw_limb limb_1_2 (fun args s t => Cond.after_iff.mpr (by
  first | (rw [show limb_1_2 = Cond.eq .result (.int 1) from rfl, Cond.eq_ints (x := 1) (y := 1) rfl rfl]; simp; done) | (simp [limb_1_2, Cond.value, Term.eval]; done)))⟩
