/-! fundOf: the one call that throws, and the law's method that catches it -/
theorem mj_R.grow {g : mj_G} {M : mj_M} {nx : Nat} {H H1 : Heap} (hR : mj_R g M nx H) (z : H.size ≤ H1.size) (oq : ∀ q : Nat, q < H.size → H1[q]? = H[q]?) : ∃ nx', mj_R g M nx' H1 := by
  have hn := hR.2.1
  have hs := hR.2.2
  rw [mj_r_ge hn] at hs
  refine ⟨64 + (H1.size - g.1), fun b c hb => ?_, by omega, by rw [mj_r_ge (by omega)]; omega⟩
  obtain ⟨e1, e2, e3⟩ := hR.1 b c hb
  exact ⟨e1, by omega, e3.kept (oq _ (by rw [mj_r_ge e1, hs]; omega))⟩
abbrev kY_TrustDesk_fundOf : mj_Y := (⟨"TrustDesk", "fundOf", "(II)I"⟩, prog_1_method_38_code, 4, some .int)
abbrev kE_no : String := "java/util/NoSuchElementException"
abbrev kE_at : List Cond := (th_at "TrustDesk" 446 kE_no 13 prog_37_method_4_code "java/lang/RuntimeException" ["java/lang/Exception"]).filter vx_no
theorem fo_0 : decode kY_TrustDesk_fundOf.2.1 0 = .ok (.aload_n 0, 1) := by decide +kernel
theorem fo_1 : decode kY_TrustDesk_fundOf.2.1 1 = .ok (.iload_n 1, 1) := by decide +kernel
theorem fo_2 : decode kY_TrustDesk_fundOf.2.1 2 = .ok (.invokevirtual 257, 3) := by decide +kernel
theorem fo_5 : decode kY_TrustDesk_fundOf.2.1 5 = .ok (.astore_n 3, 1) := by decide +kernel
theorem fo_6 : decode kY_TrustDesk_fundOf.2.1 6 = .ok (.aload_n 3, 1) := by decide +kernel
theorem fo_7 : decode kY_TrustDesk_fundOf.2.1 7 = .ok (.ifnonnull 14, 3) := by decide +kernel
theorem fo_10 : decode kY_TrustDesk_fundOf.2.1 10 = .ok (.new 442, 3) := by decide +kernel
theorem fo_13 : decode kY_TrustDesk_fundOf.2.1 13 = .ok (.dup, 1) := by decide +kernel
theorem fo_14 : decode kY_TrustDesk_fundOf.2.1 14 = .ok (.ldc_w 444, 3) := by decide +kernel
theorem fo_17 : decode kY_TrustDesk_fundOf.2.1 17 = .ok (.invokespecial 446, 3) := by decide +kernel
theorem fo_20 : decode kY_TrustDesk_fundOf.2.1 20 = .ok (.athrow, 1) := by decide +kernel
theorem fo_words : ∀ w ∈ kE_at, w ∈ mj_T := by
  intro w hw
  have h := List.all_eq_true.mp (show (kE_at).all (fun w => decide (w ∈ tables_1) && mj_good w) = true by decide +kernel) w hw
  simp only [Bool.and_eq_true, decide_eq_true_eq] at h
  exact mj_in1 h.1 h.2
theorem fo_good : ∀ w ∈ Cond.classLink "TrustDesk" 442 kE_no :: Cond.initialized kE_no :: kE_at, vx_ot w = true := by
  intro w hw
  exact List.all_eq_true.mp (show (Cond.classLink "TrustDesk" 442 kE_no :: Cond.initialized kE_no :: kE_at).all vx_ot = true by decide +kernel) w hw
theorem fo_k : Cond.classLink "TrustDesk" 442 kE_no ∈ mj_T ∧ Cond.initialized kE_no ∈ mj_T := ⟨mj_in1 (by decide +kernel) rfl, mj_in1 (by decide +kernel) rfl⟩
def fo_id : Nat := 12
theorem th_0 : decode prog_37_method_4_code 0 = .ok (.aload_n 0, 1) := by decide +kernel
theorem th_1 : decode prog_37_method_4_code 1 = .ok (.aload_n 1, 1) := by decide +kernel
theorem th_2 : decode prog_37_method_4_code 2 = .ok (.invokespecial 13, 3) := by decide +kernel
theorem th_5 : decode prog_37_method_4_code 5 = .ok (.return_, 1) := by decide +kernel
theorem fo_str : ("TrustDesk", 444, "no such fund", fo_id) ∈ mj_strs := List.mem_of_getElem? (i := 2) rfl
/-- what is thrown: the class, and the memory as it was, in a heap that has grown -/
def mj_XC (g : mj_G) (M : mj_M) : String → State → State → Prop := vx_X (S := Unit) (fun _ => True) (fun E _ t => E = kE_no ∧ ∃ nx', mj_R g M nx' t.heap) (mj_A g)
set_option maxHeartbeats 4000000 in
theorem fo_desk {g : mj_G} {l : Launch} {d nx : Nat} {M : mj_M} (hlt : l.stackTraces = false) {x1 x2 : Int32} (h_64 : M 64 = some (.inr (12, [.ref 65, .ref 70, .ref 77, .ref 80, .ref 90, .ref 94, .ref 95, .ref 96, .ref 97, .ref 98, .int 0, .int 0, .int 0]))) (h_95 : M 95 = some (.inr (0, [.int 0, .ref 0, .int 0]))) :
    vx_Met l kY_TrustDesk_fundOf.1 (mj_ws kY_TrustDesk_fundOf) (mj_rm0 (d + 6) 1 6) (mj_Pc g [.ref 64, .int x1, .int x2] M nx) (va_Qi (S := Unit) (fun _ _ => False) (fun _ _ => True) (mj_A g)) (mj_XC g M) 1 6 (mj_A g) := by
  refine vx_ofW (cc := kY_TrustDesk_fundOf.2.1) (maxL := 4) (ret := some .int) (by decide) rfl ?_
  intro p e s m args below meth c s₁ B hml hno hv
  obtain ⟨rfl, hR, hK, hZ⟩ := hv
  have hts0 := atoms_spec (ws := mj_ws kY_TrustDesk_fundOf) B.pre
  have hts : ∀ w ∈ mj_T, w.before _ s = true := fun w hw => hts0 w (List.mem_cons_of_mem _ hw)
  have hx := B.exec
  have hb := B.bytes
  have hown := findClass_of_methodNamed B.named
  have hlk := B.notSynchronized
  have hl := lv_entry ([.ref (mj_r g 64), .int x1, .int x2]) (n := 4) (Nat.le_of_ble_eq_true rfl)
  have hge : g.1 ≤ s.heap.size := by
    rw [hR.2.2, mj_r_ge hR.2.1]
    omega
  have X : mj_X g kY_TrustDesk_fundOf (d + 6) p (mj_rm0 (d + 6) 1 6) s m _ meth c := ⟨hx, hb, hml, B.returns, hlk, hown, (fun h9 => (name_of_methodNamed B.named B.method).1.trans h9), hts, hK, hZ, Nat.le_refl _, Nat.le_refl _, hge⟩
  have hS : va_S (mj_A g) s.heap s.heap [] := va_S.rf
  rw [show (List.map (mj_v g) [Value.ref 64, .int x1, .int x2]) = [.ref (mj_r g 64), .int x1, .int x2] from rfl, lg_entry_eq]
  generalize (lg_sl ([.ref (mj_r g 64), .int x1, .int x2]) ++ List.replicate (4 - (lg_sl ([.ref (mj_r g 64), .int x1, .int x2])).length) Slot.unset).toArray = ls at hl ⊢
  have hl : lv_has ls 4 [(0, .ref (mj_r g 64)), (1, .int x1), (2, .int x2)] := hl
  refine lv_aload_n hx hb fo_0 rfl (lv_at hl 0 rfl) ?_
  refine lv_iload_n hx hb fo_1 rfl (lv_at hl 1 rfl) ?_
  obtain ⟨hw1, hw2, hw3⟩ := lV_TrustDesk_257
  have hrun := va_runV (e := e) (below := below) (meth := meth) (m := m) (cells := 0) (slots := 0) (locs := []) (g := F0 m 2 ls [.int x1, .ref (mj_r g 64)]) (rest := []) (As := [.int x1]) (b := mj_r g 64) (H := s.heap) ⟨hx, hb, hml, hown, hts⟩ (c_TrustDesk_fundAt_0 (g := g) (l := l) (d := d + 4) (nx := nx) (M := M) (x1 := x1) h_64 h_95) ⟨mj_cB (R := mj_rm0 (d + 6) 1 6) (d := d + 5) hts hw1 (Nat.le_refl _) (Nat.le_refl _), hts _ hw2, hts _ hw3⟩ ⟨mj_Pc_blind, va_recv hK (mj_one (hR.1 64 _ h_64).2.2) rfl (q0 := 0) rfl, mj_Pc_at (As := [.ref 64, .int x1]) X hR hS⟩ rfl rfl hl.1 rfl (lv_room (Nat.le_of_ble_eq_true rfl)) fo_2 ⟨Nat.zero_le _, Nat.zero_le _⟩
  refine mj_back hrun hS fun r M' nx' H1 locs1 hq hR1 hS1 => ?_
  obtain ⟨rfl, rfl, rfl⟩ := hq
  refine lv_astore_nN (lv' := [(3, .null), (0, .ref (mj_r g 64)), (1, .int x1), (2, .int x2)]) hx hb fo_5 rfl hl (by decide) rfl (fun ls hl => ?_)
  refine lv_aload_nN hx hb fo_6 rfl (lv_at hl 0 rfl) ?_
  refine lv_ifnonnullN hx hb fo_7 ?_
  have hstr : vk_R "TrustDesk" 444 "no such fund" (mj_r g fo_id) s := hZ.2.2.2.2.2.2 _ fo_str
  refine th_throwSW (is := 444) (ic := 446) (ik := 442) hx hb hlt (x0 := th_0) (x1 := th_1) (x2 := th_2) (x5 := th_5) hown (by decide +kernel) (by decide +kernel) (by decide +kernel) (hts _ fo_k.1) (hts _ fo_k.2) hstr (fun w hw => hts w (fo_words w hw)) fo_good hZ.2.2.2.2.2.1.1 hZ.2.2.2.2.2.1.2 hS1 (hl.1.trans hml.symm) fo_10 fo_13 fo_14 fo_17 fo_20 (fun x hx => (hno x hx).elim) ?_ ?_ (Nat.le_refl _) (Nat.le_refl _) hlk (fun t ha hz ho => ?_) hS1.2.2 (Nat.le_refl _) (Nat.le_refl _)
  · show 1 + 4 < d + 6
    omega
  · show 0 + (13 * 3 + 43) ≤ 100 * (d + 6)
    omega
  · refine ⟨(), trivial, ⟨rfl, hR1.grow hz ho⟩, Nat.le_trans hS1.1 hz, fun q h1 h2 => ?_⟩
    rw [ho q (Nat.lt_of_lt_of_le h1 hS1.1)]
    exact hS1.2.1 q h1 h2
/-! the law's own fundOf -/
def kY_fo : MethodName := ⟨"TrustDeskLaw", "fundOf", "(LTrustDesk;II[J)I"⟩
abbrev kB_fo : ByteArray := method_3_code
def kW_fo : List Cond := Cond.codeWith kY_fo kB_fo 5 (some .int) [(0, 10, 13, 13)] :: mj_T
theorem fl_0 : decode kB_fo 0 = .ok (.aload_n 3, 1) := by decide +kernel
theorem fl_1 : decode kB_fo 1 = .ok (.iconst 0, 1) := by decide +kernel
theorem fl_2 : decode kB_fo 2 = .ok (.aload_n 0, 1) := by decide +kernel
theorem fl_3 : decode kB_fo 3 = .ok (.iload_n 1, 1) := by decide +kernel
theorem fl_4 : decode kB_fo 4 = .ok (.iload_n 2, 1) := by decide +kernel
theorem fl_5 : decode kB_fo 5 = .ok (.invokevirtual 7, 3) := by decide +kernel
theorem fl_13 : decode kB_fo 13 = .ok (.astore 4, 2) := by decide +kernel
theorem fl_15 : decode kB_fo 15 = .ok (.iconst 1, 1) := by decide +kernel
theorem fl_16 : decode kB_fo 16 = .ok (.ireturn, 1) := by decide +kernel
theorem fl_w : mj_lV "TrustDeskLaw" 7 kY_TrustDesk_fundOf 2 := ⟨⟨mj_in1 (by decide +kernel) rfl, mj_in1 (by decide +kernel) rfl, mj_in1 (by decide +kernel) rfl, by decide, rfl, by decide⟩, mj_in1 (by decide +kernel) rfl, mj_in1 (by decide +kernel) rfl⟩
theorem fl_k : Cond.classLink "TrustDeskLaw" 13 kE_no ∈ mj_T ∧ Cond.castable kE_no kE_no ∈ mj_T := ⟨mj_in1 (by decide +kernel) rfl, mj_in1 (by decide +kernel) rfl⟩
theorem fl_word : Cond.codeWith kY_fo kB_fo 5 (some .int) [(0, 10, 13, 13)] ∈ mj_T ∧ Cond.methodLink "TrustDeskLaw" 94 kY_fo ∈ mj_T ∧ Cond.static kY_fo ∈ mj_T ∧ Cond.initialized "TrustDeskLaw" ∈ mj_T := ⟨mj_in1 (by decide +kernel) rfl, mj_in1 (by decide +kernel) rfl, mj_in1 (by decide +kernel) rfl, mj_in1 (by decide +kernel) rfl⟩
set_option maxHeartbeats 4000000 in
theorem fo_law {g : mj_G} {l : Launch} {d nx : Nat} {M : mj_M} (hlt : l.stackTraces = false) {x1 x2 : Int32} {o3 : Nat} (h_64 : M 64 = some (.inr (12, [.ref 65, .ref 70, .ref 77, .ref 80, .ref 90, .ref 94, .ref 95, .ref 96, .ref 97, .ref 98, .int 0, .int 0, .int 0]))) (h_95 : M 95 = some (.inr (0, [.int 0, .ref 0, .int 0]))) :
    vx_Met l kY_fo kW_fo (mj_rm0 (d + 7) 1 6) (mj_Pc g [.ref 64, .int x1, .int x2, .ref o3] M nx) (va_Qi (S := Unit) (fun r _ => r = 1) (fun _ t => ∃ nx', mj_R g M nx' t.heap) (mj_A g)) (vx_X (S := Unit) (fun _ => False) (fun _ _ _ => True) (mj_A g)) 1 6 (mj_A g) := by
  refine vx_ofWH (cc := kB_fo) (maxL := 5) (ret := some .int) (hh := [(0, 10, 13, 13)]) (by decide) rfl ?_
  intro p e s m args below meth c s₁ B hml hv
  obtain ⟨rfl, hR, hK, hZ⟩ := hv
  have hts0 := atoms_spec (ws := kW_fo) B.pre
  have hts : ∀ w ∈ mj_T, w.before _ s = true := fun w hw => hts0 w (List.mem_cons_of_mem _ hw)
  have hx := B.exec
  have hb := B.bytes
  have hown := findClass_of_methodNamed B.named
  have hlk := B.notSynchronized
  have hl := lv_entry ([.ref (mj_r g 64), .int x1, .int x2, .ref (mj_r g o3)]) (n := 5) (Nat.le_of_ble_eq_true rfl)
  have htab := vx_table (x := kY_fo) B (hts0 _ List.mem_cons_self)
  have hS : va_S (mj_A g) s.heap s.heap [] := va_S.rf
  rw [show (List.map (mj_v g) [Value.ref 64, .int x1, .int x2, .ref o3]) = [.ref (mj_r g 64), .int x1, .int x2, .ref (mj_r g o3)] from rfl, lg_entry_eq]
  generalize (lg_sl ([.ref (mj_r g 64), .int x1, .int x2, .ref (mj_r g o3)]) ++ List.replicate (5 - (lg_sl ([.ref (mj_r g 64), .int x1, .int x2, .ref (mj_r g o3)])).length) Slot.unset).toArray = ls at hl ⊢
  have hl : lv_has ls 5 [(0, .ref (mj_r g 64)), (1, .int x1), (2, .int x2), (3, .ref (mj_r g o3))] := hl
  refine lv_aload_n hx hb fl_0 rfl (lv_at hl 3 rfl) ?_
  refine lv_iconst (v := 0) hx hb fl_1 (by decide) ?_
  refine lv_aload_n hx hb fl_2 rfl (lv_at hl 0 rfl) ?_
  refine lv_iload_n hx hb fl_3 rfl (lv_at hl 1 rfl) ?_
  refine lv_iload_n hx hb fl_4 rfl (lv_at hl 2 rfl) ?_
  obtain ⟨hw1, hw2, hw3⟩ := fl_w
  have hPc : ∀ U : State, U.heap = s.heap → s.WarmedH U.vm → mj_Pc g [.ref 64, .int x1, .int x2] M nx ([Value.ref 64, .int x1, .int x2].map (mj_v g)).toArray U := by
    intro U hU hW
    refine ⟨rfl, by rw [hU]; exact hR, va_K.moved hW.alike hK, ?_⟩
    rw [hU]
    exact hZ.warm hW
  have hrun := vx_runV (e := e) (below := below) (meth := meth) (m := m) (cells := 0) (slots := 0) (locs := []) (g := F0 m 5 ls [.int x2, .int x1, .ref (mj_r g 64), .int 0, .ref (mj_r g o3)]) (rest := [.int 0, .ref (mj_r g o3)]) (As := [.int x1, .int x2]) (b := mj_r g 64) (H := s.heap) ⟨hx, hb, hml, hown, hts⟩ (fo_desk (g := g) (l := l) (d := d) (nx := nx) (M := M) hlt (x1 := x1) (x2 := x2) h_64 h_95) ⟨mj_cB (R := mj_rm0 (d + 7) 1 6) (d := d + 6) hts hw1 (Nat.le_refl _) (Nat.le_refl _), hts _ hw2, hts _ hw3⟩ ⟨mj_Pc_blind, va_recv hK (mj_one (hR.1 64 _ h_64).2.2) rfl (q0 := 0) rfl, hPc⟩ rfl rfl hl.1 rfl (lv_room (Nat.le_of_ble_eq_true rfl)) fl_5 ⟨Nat.le_refl _, Nat.le_refl _⟩
  refine vx_calli hrun hS (fun q _ h => h) (fun q h => h) (fun q _ h => h) (fun E ce q9 u t H1 locs1 ht ha hpx hBX hz ho hS1 hce hcv hcl => ?_) (fun r u t H1 locs1 ht ha hp => hp.elim)
  obtain ⟨rfl, nx', hR'⟩ := hBX
  rw [ht] at hR'
  refine vx_catch (own := "TrustDeskLaw") (name := kE_no) hown [] _ [] htab (fun z hz => nomatch hz) (by decide) (by decide) (hts _ fl_k.1) (hts _ fl_k.2) hce hcv hcl ?_
  refine vx_ret ?_
  refine lv_astore (i := 4) (lv' := [(4, .ref q9), (0, .ref (mj_r g 64)), (1, .int x1), (2, .int x2), (3, .ref (mj_r g o3))]) hx hb fl_13 hl (by decide) rfl (fun ls hl => ?_)
  refine lv_iconst (v := 1) hx hb fl_15 (by decide) ?_
  exact W.iret hx hb B.returns (fun t2 ht2 hW => ⟨⟨1, (), rfl, rfl, nx', by rw [ht2]; exact hR'⟩, hS1.F ht2⟩) hS1.2.2 fl_16 hlk
theorem fo_loc (d : Nat) : 8 + (5 + 11) + 100 * (d + 7) ≤ 100 * (d + 8) := by omega
/-- the law's call of it -/
theorem mv_callFO {g : mj_G} {l : Launch} {y : mj_Y} {d pc : Nat} {lv : List (Nat × Value)} {st : List Value} {M : mj_M} {nx kc' ks' kc ks : Nat} {Q : Option Value → mj_M → Nat → Prop} (hlt : l.stackTraces = false) (hy : y.1.cls = "TrustDeskLaw") {x1 x2 : Int32} {o3 : Nat} (h_64 : M 64 = some (.inr (12, [.ref 65, .ref 70, .ref 77, .ref 80, .ref 90, .ref 94, .ref 95, .ref 96, .ref 97, .ref 98, .int 0, .int 0, .int 0]))) (h_95 : M 95 = some (.inr (0, [.int 0, .ref 0, .int 0])))
    (hd : decode y.2.1 pc = .ok (.invokestatic 94, 3)) (hcat : (st.map fun v => v.category).sum ≤ 8) (hkc : kc' + 1 ≤ kc) (hks : ks' + 6 ≤ ks) (kk : ∀ nx', mj_V g l y (d + 8) (pc + 3) lv (.int 1 :: st) M nx' kc' ks' Q) : mj_V g l y (d + 8) pc lv (.ref o3 :: .int x2 :: .int x1 :: .ref 64 :: st) M nx kc ks Q := by
  intro p e R s m args below meth c H locs ls cells slots TC TS X hR hS hl h1 h2 h3 h4
  obtain ⟨hx, hb, hml, hr, hlk, hown, hnm, hts, hK, hZ, hfr, hlo, hg0⟩ := id X
  rw [hy] at hown
  obtain ⟨hw1, hw2, hw3, hw4⟩ := fl_word
  have hcw : vx_CSW R s args "TrustDeskLaw" 94 kY_fo kB_fo 5 (some .int) [(0, 10, 13, 13)] kW_fo (mj_rm0 (d + 7) 1 6) 1 6 4 := by
    refine ⟨⟨rfl, rfl, hfr, ?_, fun w hw => ?_, List.mem_cons_self⟩, hts _ hw1, hts _ hw4, ⟨by decide, by decide⟩, fun sig hsig => ?_, hts _ hw2, hts _ hw3⟩
    · exact Nat.le_trans (fo_loc d) hlo
    · rcases List.mem_cons.mp hw with rfl | hw
      · exact mj_pay hts _ hw1
      · exact mj_pay hts w hw
    · have h9 : (parseMethodDescriptor kY_fo.desc).map (fun d => d.parameters.length) = some 4 := by rfl
      rw [hsig] at h9
      exact (Option.some.inj h9).symm
  have hrun := vx_runSX (e := e) (below := below) (meth := meth) (m := m) (cells := cells) (slots := slots) (locs := locs) (g := F0 m pc ls ((Value.ref o3 :: .int x2 :: .int x1 :: .ref 64 :: st).map (mj_v g))) (rest := st.map (mj_v g)) (As := [.ref 64, .int x1, .int x2, .ref o3].map (mj_v g)) (H := H) ⟨hx, hb, hml, hown, hts⟩ (fo_law (g := g) (l := l) (d := d) (nx := nx) (M := M) hlt (x1 := x1) (x2 := x2) (o3 := o3) h_64 h_95) hcw ⟨mj_Pc_blind, mj_Pc_at (As := [.ref 64, .int x1, .int x2, .ref o3]) X hR hS⟩ rfl rfl hl.1 rfl (mj_room hcat) hd ⟨by omega, by omega⟩
  refine vx_calli hrun hS (fun q _ h => h) (fun q h => h) (fun q _ h => h) (fun E ce q9 u t H1 locs1 ht ha hpx => hpx.elim) (fun r u t H1 locs1 ht ha hp hB hz ho hS1 => ?_)
  obtain ⟨nx', hR'⟩ := hB
  rw [ht] at hR'
  subst hp
  exact kk nx' p e R s m args below meth c H1 locs1 ls (cells + 1) (slots + 6) TC TS X hR' hS1 hl (by omega) (by omega) h3 h4
