abbrev kY_TrustDeskLaw_law : mj_Y := (x, code, 7, some .boolean)
abbrev lx_lv (i : Int32) : List (Nat × Value) := [(4, .int i), (3, .ref 148), (2, .ref 99), (1, .ref 64), (0, .ref 50)]
abbrev lx_Q : Option Value → mj_M → Nat → Prop := fun r _ _ => r = some (.int 1)
theorem lx_ld {g : mj_G} {l : Launch} {d pc k : Nat} {i : Int32} {st : List Value} {M : mj_M} {n kc ks : Nat} {Q : Option Value → mj_M → Nat → Prop} {c : Int32} (h0 : 0 ≤ i.toInt) (hi : i.toInt + 6 ≤ (mj_L g : Int)) (hL : mj_L g ≤ 3072) (hc : c.toInt = (k : Int)) (hk : k ≤ 5)
    (d0 : decode kY_TrustDeskLaw_law.2.1 pc = .ok (.aload_n 0, 1)) (d1 : decode kY_TrustDeskLaw_law.2.1 (pc + 1) = .ok (.iload 4, 2)) (d2 : ∀ {st9 : List Value}, mj_V g l kY_TrustDeskLaw_law d (pc + 4) (lx_lv i) (.int c :: st9) M n kc ks Q → mj_V g l kY_TrustDeskLaw_law d (pc + 3) (lx_lv i) st9 M n kc ks Q) (d3 : decode kY_TrustDeskLaw_law.2.1 (pc + 4) = .ok (.iadd, 1)) (d4 : decode kY_TrustDeskLaw_law.2.1 (pc + 5) = .ok (.iaload, 1)) (kk : mj_V g l kY_TrustDeskLaw_law d (pc + 6) (lx_lv i) (.int (mj_xs g (i.toNatClampNeg + k)) :: st) M n kc ks Q) : mj_V g l kY_TrustDeskLaw_law d pc (lx_lv i) st M n kc ks Q := by
  have h1 := mz_nat9 h0
  have h2 : (i + c).toInt = i.toInt + k := mz_addn c k hc (by omega) (by omega)
  have h3 : (i + c).toNatClampNeg = i.toNatClampNeg + k := by
    have := mz_nat9 (i := i + c) (by omega)
    omega
  refine mv_aload_n d0 rfl rfl ?_
  refine mv_iload d1 rfl ?_
  refine d2 ?_
  refine mv_iadd d3 ?_
  exact mv_sld d4 (vp_in_iff.mpr (by omega)) (by rw [h3]) kk
theorem d_TrustDeskLaw_law_837 : decode kY_TrustDeskLaw_law.2.1 837 = .ok (.aload_n 1, 1) := by decide +kernel
theorem d_TrustDeskLaw_law_838 : decode kY_TrustDeskLaw_law.2.1 838 = .ok (.aload_n 0, 1) := by decide +kernel
theorem d_TrustDeskLaw_law_839 : decode kY_TrustDeskLaw_law.2.1 839 = .ok (.iload 4, 2) := by decide +kernel
theorem d_TrustDeskLaw_law_841 : decode kY_TrustDeskLaw_law.2.1 841 = .ok (.iconst 1, 1) := by decide +kernel
theorem d_TrustDeskLaw_law_842 : decode kY_TrustDeskLaw_law.2.1 842 = .ok (.iadd, 1) := by decide +kernel
theorem d_TrustDeskLaw_law_843 : decode kY_TrustDeskLaw_law.2.1 843 = .ok (.iaload, 1) := by decide +kernel
theorem d_TrustDeskLaw_law_844 : decode kY_TrustDeskLaw_law.2.1 844 = .ok (.aload_n 0, 1) := by decide +kernel
theorem d_TrustDeskLaw_law_845 : decode kY_TrustDeskLaw_law.2.1 845 = .ok (.iload 4, 2) := by decide +kernel
theorem d_TrustDeskLaw_law_847 : decode kY_TrustDeskLaw_law.2.1 847 = .ok (.iconst 2, 1) := by decide +kernel
theorem d_TrustDeskLaw_law_848 : decode kY_TrustDeskLaw_law.2.1 848 = .ok (.iadd, 1) := by decide +kernel
theorem d_TrustDeskLaw_law_849 : decode kY_TrustDeskLaw_law.2.1 849 = .ok (.iaload, 1) := by decide +kernel
theorem d_TrustDeskLaw_law_850 : decode kY_TrustDeskLaw_law.2.1 850 = .ok (.aload_n 3, 1) := by decide +kernel
theorem d_TrustDeskLaw_law_851 : decode kY_TrustDeskLaw_law.2.1 851 = .ok (.invokestatic 94, 3) := by decide +kernel
theorem d_TrustDeskLaw_law_854 : decode kY_TrustDeskLaw_law.2.1 854 = .ok (.istore 5, 2) := by decide +kernel
theorem d_TrustDeskLaw_law_856 : decode kY_TrustDeskLaw_law.2.1 856 = .ok (.aload_n 2, 1) := by decide +kernel
theorem d_TrustDeskLaw_law_857 : decode kY_TrustDeskLaw_law.2.1 857 = .ok (.aload_n 0, 1) := by decide +kernel
theorem d_TrustDeskLaw_law_858 : decode kY_TrustDeskLaw_law.2.1 858 = .ok (.iload 4, 2) := by decide +kernel
theorem d_TrustDeskLaw_law_860 : decode kY_TrustDeskLaw_law.2.1 860 = .ok (.iconst 1, 1) := by decide +kernel
theorem d_TrustDeskLaw_law_861 : decode kY_TrustDeskLaw_law.2.1 861 = .ok (.iadd, 1) := by decide +kernel
theorem d_TrustDeskLaw_law_862 : decode kY_TrustDeskLaw_law.2.1 862 = .ok (.iaload, 1) := by decide +kernel
theorem d_TrustDeskLaw_law_863 : decode kY_TrustDeskLaw_law.2.1 863 = .ok (.aload_n 0, 1) := by decide +kernel
theorem d_TrustDeskLaw_law_864 : decode kY_TrustDeskLaw_law.2.1 864 = .ok (.iload 4, 2) := by decide +kernel
theorem d_TrustDeskLaw_law_866 : decode kY_TrustDeskLaw_law.2.1 866 = .ok (.iconst 2, 1) := by decide +kernel
theorem d_TrustDeskLaw_law_867 : decode kY_TrustDeskLaw_law.2.1 867 = .ok (.iadd, 1) := by decide +kernel
theorem d_TrustDeskLaw_law_868 : decode kY_TrustDeskLaw_law.2.1 868 = .ok (.iaload, 1) := by decide +kernel
theorem d_TrustDeskLaw_law_869 : decode kY_TrustDeskLaw_law.2.1 869 = .ok (.invokevirtual 99, 3) := by decide +kernel
theorem lV_TrustDeskLaw_99 : mj_lV "TrustDeskLaw" 99 kY_TrustDeskModel_fundOf 2 := ⟨⟨(mj_in1 (List.mem_of_getElem? (i := 2053) (by decide +kernel)) rfl), (mj_in1 (List.mem_of_getElem? (i := 10) (by decide +kernel)) rfl), (mj_in1 (List.mem_of_getElem? (i := 2056) (by decide +kernel)) rfl), by decide, rfl, by decide⟩, (mj_in1 (List.mem_of_getElem? (i := 2054) (by decide +kernel)) rfl), (mj_in1 (List.mem_of_getElem? (i := 2055) (by decide +kernel)) rfl)⟩
theorem d_TrustDeskLaw_law_872 : decode kY_TrustDeskLaw_law.2.1 872 = .ok (.istore 6, 2) := by decide +kernel
theorem d_TrustDeskLaw_law_874 : decode kY_TrustDeskLaw_law.2.1 874 = .ok (.goto 607, 3) := by decide +kernel
set_option maxHeartbeats 4000000 in
theorem lx_case_17 {g : mj_G} {l : Launch} {d n Lf kc ks : Nat} {T : tm_H} {M : mj_M} {i t : Int32} (hlt : l.stackTraces = false) (h0 : 0 ≤ i.toInt) (hi : i.toInt + 6 ≤ (mj_L g : Int)) (hL : mj_L g ≤ 3072) (LI : lx_I T M n Lf t t) (k0 : lx_K T M n t) (kk : ∀ (T1 : tm_H) (M1 : mj_M) (n1 : Nat) (t1 : Int32), lx_I T1 M1 n1 Lf t1 t1 → lx_K T1 M1 n1 t1 → mj_V g l kY_TrustDeskLaw_law (d + 28) 1481 (lx_lv i) [] M1 n1 kc ks lx_Q) : mj_V g l kY_TrustDeskLaw_law (d + 28) 837 (lx_lv i) [] M n (kc + 1100) (ks + 14000) lx_Q := by
  refine mv_aload_n d_TrustDeskLaw_law_837 rfl rfl ?_
  refine lx_ld (k := 1) (c := 1) h0 hi hL (by decide) (by decide) d_TrustDeskLaw_law_838 d_TrustDeskLaw_law_839 (mv_iconst d_TrustDeskLaw_law_841 (by decide)) d_TrustDeskLaw_law_842 d_TrustDeskLaw_law_843 ?_
  refine lx_ld (k := 2) (c := 2) h0 hi hL (by decide) (by decide) d_TrustDeskLaw_law_844 d_TrustDeskLaw_law_845 (mv_iconst d_TrustDeskLaw_law_847 (by decide)) d_TrustDeskLaw_law_848 d_TrustDeskLaw_law_849 ?_
  refine mv_aload_n d_TrustDeskLaw_law_850 rfl rfl ?_
  refine mv_callFO (kc' := kc + 1099) (ks' := ks + 13994) (d := d + 20) (x := 0) hlt rfl LI.2.1 LI.2.2.2.1 LI.1.start d_TrustDeskLaw_law_851 (Nat.le_of_ble_eq_true rfl) (by omega) (by omega) (fun v1 T2 M3 n4 J5 => ?_)
  have LI6 := LI.desk J5 (lx_ok (by decide))
  have k7 := lx_Kkeep LI J5 (lx_ok (by decide)) k0
  refine mv_istore (lv' := [(5, .int v1), (4, .int i), (3, .ref 148), (2, .ref 99), (1, .ref 64), (0, .ref 50)]) d_TrustDeskLaw_law_854 (by decide) rfl ?_
  refine mv_drop (lv := lx_lv i) (fun q hq => List.mem_cons_of_mem _ hq) ?_
  refine mv_aload_n d_TrustDeskLaw_law_856 rfl rfl ?_
  refine lx_ld (k := 1) (c := 1) h0 hi hL (by decide) (by decide) d_TrustDeskLaw_law_857 d_TrustDeskLaw_law_858 (mv_iconst d_TrustDeskLaw_law_860 (by decide)) d_TrustDeskLaw_law_861 d_TrustDeskLaw_law_862 ?_
  refine lx_ld (k := 2) (c := 2) h0 hi hL (by decide) (by decide) d_TrustDeskLaw_law_863 d_TrustDeskLaw_law_864 (mv_iconst d_TrustDeskLaw_law_866 (by decide)) d_TrustDeskLaw_law_867 d_TrustDeskLaw_law_868 ?_
  obtain ⟨_, b9, -⟩ := LI6.1.1 _ _ LI6.2.2.1
  refine mv_callV (kc' := kc + 1099) (ks' := ks + 13994) (As := [.int (mj_xs g (i.toNatClampNeg + 1)), .int (mj_xs g (i.toNatClampNeg + 2))]) (st9 := [.int (mj_xs g (i.toNatClampNeg + 2)), .int (mj_xs g (i.toNatClampNeg + 1)), .ref 99]) d_TrustDeskLaw_law_869 lV_TrustDeskLaw_99 b9 rfl (tc_TrustDeskModel_fundOf_x (d := d + 26) (x9 := 0) (o0 := 99) (x1 := (mj_xs g (i.toNatClampNeg + 1))) (x2 := (mj_xs g (i.toNatClampNeg + 2))) LI6.2.2.1 LI6.2.2.2.2.2.2.2.2.2.1 LI6.1.start) rfl (Nat.le_of_ble_eq_true rfl) (by omega) (by omega) (hst := rfl) (fun r10 M11 n12 h13 => ?_)
  obtain ⟨T14, J15, v16, rfl, R18⟩ := h13
  have LI17 := LI6.ref J15 (lx_ok (by decide)) (J15.keep LI6.2.2.1 rfl LI6.2.2.2.2.2.2.2.1) R18 (LI6.2.2.2.2.2.2.2.2.2.2.1.same (sA_c LI6.1 J15 LI6.2.2.1 (by decide +kernel)) (sF_c LI6.1 J15 LI6.2.2.1 (by decide +kernel))) (LI6.2.2.2.2.2.2.2.2.2.2.2.1.same (sA_c LI6.1 J15 LI6.2.2.1 (by decide +kernel)) (sF_c LI6.1 J15 LI6.2.2.1 (by decide +kernel))) (LI6.2.2.2.2.2.2.2.2.2.2.2.2.1.same (sA_c LI6.1 J15 LI6.2.2.1 (by decide +kernel)) (sF_c LI6.1 J15 LI6.2.2.1 (by decide +kernel))) (LI6.2.2.2.2.2.2.2.2.2.2.2.2.2.same (sA_c LI6.1 J15 LI6.2.2.1 (by decide +kernel)) (sF_c LI6.1 J15 LI6.2.2.1 (by decide +kernel)))
  have k8 := lx_Kkeep LI6 J15 (lx_ok (by decide)) k7
  refine mv_istore (lv' := [(6, .int v16), (4, .int i), (3, .ref 148), (2, .ref 99), (1, .ref 64), (0, .ref 50)]) d_TrustDeskLaw_law_872 (by decide) rfl ?_
  refine mv_drop (lv := lx_lv i) (fun q hq => List.mem_cons_of_mem _ hq) ?_
  refine mv_goto (tgt := 1481) d_TrustDeskLaw_law_874 (by decide) ?_
  exact mv_less (by omega) (by omega) (kk _ _ _ _ LI17 k8)
