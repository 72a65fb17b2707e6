theorem d_TrustDeskLaw_law_877 : decode kY_TrustDeskLaw_law.2.1 877 = .ok (.aload_n 1, 1) := by decide +kernel
theorem d_TrustDeskLaw_law_878 : decode kY_TrustDeskLaw_law.2.1 878 = .ok (.aload_n 0, 1) := by decide +kernel
theorem d_TrustDeskLaw_law_879 : decode kY_TrustDeskLaw_law.2.1 879 = .ok (.iload 4, 2) := by decide +kernel
theorem d_TrustDeskLaw_law_881 : decode kY_TrustDeskLaw_law.2.1 881 = .ok (.iconst 1, 1) := by decide +kernel
theorem d_TrustDeskLaw_law_882 : decode kY_TrustDeskLaw_law.2.1 882 = .ok (.iadd, 1) := by decide +kernel
theorem d_TrustDeskLaw_law_883 : decode kY_TrustDeskLaw_law.2.1 883 = .ok (.iaload, 1) := by decide +kernel
theorem d_TrustDeskLaw_law_884 : decode kY_TrustDeskLaw_law.2.1 884 = .ok (.invokevirtual 100, 3) := by decide +kernel
theorem lV_TrustDeskLaw_100 : mj_lV "TrustDeskLaw" 100 kY_TrustDesk_coin 1 := ⟨⟨(mj_in1 (List.mem_of_getElem? (i := 1170) (by decide +kernel)) rfl), (mj_in1 (List.mem_of_getElem? (i := 1) (by decide +kernel)) rfl), (mj_in1 (List.mem_of_getElem? (i := 1173) (by decide +kernel)) rfl), by decide, rfl, by decide⟩, (mj_in1 (List.mem_of_getElem? (i := 1171) (by decide +kernel)) rfl), (mj_in1 (List.mem_of_getElem? (i := 1172) (by decide +kernel)) rfl)⟩
theorem d_TrustDeskLaw_law_887 : decode kY_TrustDeskLaw_law.2.1 887 = .ok (.pop2, 1) := by decide +kernel
theorem d_TrustDeskLaw_law_888 : decode kY_TrustDeskLaw_law.2.1 888 = .ok (.aload_n 2, 1) := by decide +kernel
theorem d_TrustDeskLaw_law_889 : decode kY_TrustDeskLaw_law.2.1 889 = .ok (.aload_n 0, 1) := by decide +kernel
theorem d_TrustDeskLaw_law_890 : decode kY_TrustDeskLaw_law.2.1 890 = .ok (.iload 4, 2) := by decide +kernel
theorem d_TrustDeskLaw_law_892 : decode kY_TrustDeskLaw_law.2.1 892 = .ok (.iconst 1, 1) := by decide +kernel
theorem d_TrustDeskLaw_law_893 : decode kY_TrustDeskLaw_law.2.1 893 = .ok (.iadd, 1) := by decide +kernel
theorem d_TrustDeskLaw_law_894 : decode kY_TrustDeskLaw_law.2.1 894 = .ok (.iaload, 1) := by decide +kernel
theorem d_TrustDeskLaw_law_895 : decode kY_TrustDeskLaw_law.2.1 895 = .ok (.invokevirtual 104, 3) := by decide +kernel
theorem lV_TrustDeskLaw_104 : mj_lV "TrustDeskLaw" 104 kY_TrustDeskModel_coin 1 := ⟨⟨(mj_in1 (List.mem_of_getElem? (i := 2058) (by decide +kernel)) rfl), (mj_in1 (List.mem_of_getElem? (i := 10) (by decide +kernel)) rfl), (mj_in1 (List.mem_of_getElem? (i := 2061) (by decide +kernel)) rfl), by decide, rfl, by decide⟩, (mj_in1 (List.mem_of_getElem? (i := 2059) (by decide +kernel)) rfl), (mj_in1 (List.mem_of_getElem? (i := 2060) (by decide +kernel)) rfl)⟩
theorem d_TrustDeskLaw_law_898 : decode kY_TrustDeskLaw_law.2.1 898 = .ok (.pop2, 1) := by decide +kernel
theorem d_TrustDeskLaw_law_899 : decode kY_TrustDeskLaw_law.2.1 899 = .ok (.goto 582, 3) := by decide +kernel
set_option maxHeartbeats 4000000 in
theorem lx_case_18 {g : mj_G} {l : Launch} {d n Lf kc ks : Nat} {T : tm_H} {M : mj_M} {i t : Int32} (hlt : l.stackTraces = false) (h0 : 0 ≤ i.toInt) (hi : i.toInt + 6 ≤ (mj_L g : Int)) (hL : mj_L g ≤ 3072) (LI : lx_I T M n Lf t t) (k0 : lx_K T M n t) (kk : ∀ (T1 : tm_H) (M1 : mj_M) (n1 : Nat) (t1 : Int32), lx_I T1 M1 n1 Lf t1 t1 → lx_K T1 M1 n1 t1 → mj_V g l kY_TrustDeskLaw_law (d + 28) 1481 (lx_lv i) [] M1 n1 kc ks lx_Q) : mj_V g l kY_TrustDeskLaw_law (d + 28) 877 (lx_lv i) [] M n (kc + 1100) (ks + 14000) lx_Q := by
  refine mv_aload_n d_TrustDeskLaw_law_877 rfl rfl ?_
  refine lx_ld (k := 1) (c := 1) h0 hi hL (by decide) (by decide) d_TrustDeskLaw_law_878 d_TrustDeskLaw_law_879 (mv_iconst d_TrustDeskLaw_law_881 (by decide)) d_TrustDeskLaw_law_882 d_TrustDeskLaw_law_883 ?_
  obtain ⟨_, b2, -⟩ := LI.1.1 _ _ LI.2.1
  refine mv_callV (kc' := kc + 1100) (ks' := ks + 14000) (As := [.int (mj_xs g (i.toNatClampNeg + 1))]) (st9 := [.int (mj_xs g (i.toNatClampNeg + 1)), .ref 64]) d_TrustDeskLaw_law_884 lV_TrustDeskLaw_100 b2 rfl (tc_TrustDesk_coin (d := d + 23) (x9 := 0) (o0 := 64) (x1 := (mj_xs g (i.toNatClampNeg + 1))) LI.2.1 LI.1.start) rfl (Nat.le_of_ble_eq_true rfl) (by omega) (by omega) (hst := rfl) (fun r3 M4 n5 h6 => ?_)
  obtain ⟨T7, J8, v9, rfl⟩ := h6
  have LI10 := LI.desk J8 (lx_ok (by decide))
  have k1 := lx_Kkeep LI J8 (lx_ok (by decide)) k0
  refine mv_pop2_2 d_TrustDeskLaw_law_887 rfl ?_
  refine mv_aload_n d_TrustDeskLaw_law_888 rfl rfl ?_
  refine lx_ld (k := 1) (c := 1) h0 hi hL (by decide) (by decide) d_TrustDeskLaw_law_889 d_TrustDeskLaw_law_890 (mv_iconst d_TrustDeskLaw_law_892 (by decide)) d_TrustDeskLaw_law_893 d_TrustDeskLaw_law_894 ?_
  obtain ⟨_, b12, -⟩ := LI10.1.1 _ _ LI10.2.2.1
  refine mv_callV (kc' := kc + 1100) (ks' := ks + 14000) (As := [.int (mj_xs g (i.toNatClampNeg + 1))]) (st9 := [.int (mj_xs g (i.toNatClampNeg + 1)), .ref 99]) d_TrustDeskLaw_law_895 lV_TrustDeskLaw_104 b12 rfl (tc_TrustDeskModel_coin_x (d := d + 26) (x9 := 0) (o0 := 99) (x1 := (mj_xs g (i.toNatClampNeg + 1))) LI10.2.2.1 LI10.2.2.2.2.2.2.2.2.2.1 LI10.1.start) rfl (Nat.le_of_ble_eq_true rfl) (by omega) (by omega) (hst := rfl) (fun r13 M14 n15 h16 => ?_)
  obtain ⟨T17, J18, v19, rfl, R21⟩ := h16
  have LI20 := LI10.ref J18 (lx_ok (by decide)) (J18.keep LI10.2.2.1 rfl LI10.2.2.2.2.2.2.2.1) R21 (LI10.2.2.2.2.2.2.2.2.2.2.1.same (sA_c LI10.1 J18 LI10.2.2.1 (by decide +kernel)) (sF_c LI10.1 J18 LI10.2.2.1 (by decide +kernel))) (LI10.2.2.2.2.2.2.2.2.2.2.2.1.same (sA_c LI10.1 J18 LI10.2.2.1 (by decide +kernel)) (sF_c LI10.1 J18 LI10.2.2.1 (by decide +kernel))) (LI10.2.2.2.2.2.2.2.2.2.2.2.2.1.same (sA_c LI10.1 J18 LI10.2.2.1 (by decide +kernel)) (sF_c LI10.1 J18 LI10.2.2.1 (by decide +kernel))) (LI10.2.2.2.2.2.2.2.2.2.2.2.2.2.same (sA_c LI10.1 J18 LI10.2.2.1 (by decide +kernel)) (sF_c LI10.1 J18 LI10.2.2.1 (by decide +kernel)))
  have k11 := lx_Kkeep LI10 J18 (lx_ok (by decide)) k1
  refine mv_pop2_2 d_TrustDeskLaw_law_898 rfl ?_
  refine mv_goto (tgt := 1481) d_TrustDeskLaw_law_899 (by decide) ?_
  exact mv_less (by omega) (by omega) (kk _ _ _ _ LI20 k11)
theorem d_TrustDeskLaw_law_902 : decode kY_TrustDeskLaw_law.2.1 902 = .ok (.aload_n 1, 1) := by decide +kernel
theorem d_TrustDeskLaw_law_903 : decode kY_TrustDeskLaw_law.2.1 903 = .ok (.aload_n 0, 1) := by decide +kernel
theorem d_TrustDeskLaw_law_904 : decode kY_TrustDeskLaw_law.2.1 904 = .ok (.iload 4, 2) := by decide +kernel
theorem d_TrustDeskLaw_law_906 : decode kY_TrustDeskLaw_law.2.1 906 = .ok (.iconst 1, 1) := by decide +kernel
theorem d_TrustDeskLaw_law_907 : decode kY_TrustDeskLaw_law.2.1 907 = .ok (.iadd, 1) := by decide +kernel
theorem d_TrustDeskLaw_law_908 : decode kY_TrustDeskLaw_law.2.1 908 = .ok (.iaload, 1) := by decide +kernel
theorem d_TrustDeskLaw_law_909 : decode kY_TrustDeskLaw_law.2.1 909 = .ok (.aload_n 0, 1) := by decide +kernel
theorem d_TrustDeskLaw_law_910 : decode kY_TrustDeskLaw_law.2.1 910 = .ok (.iload 4, 2) := by decide +kernel
theorem d_TrustDeskLaw_law_912 : decode kY_TrustDeskLaw_law.2.1 912 = .ok (.iconst 2, 1) := by decide +kernel
theorem d_TrustDeskLaw_law_913 : decode kY_TrustDeskLaw_law.2.1 913 = .ok (.iadd, 1) := by decide +kernel
theorem d_TrustDeskLaw_law_914 : decode kY_TrustDeskLaw_law.2.1 914 = .ok (.iaload, 1) := by decide +kernel
theorem d_TrustDeskLaw_law_915 : decode kY_TrustDeskLaw_law.2.1 915 = .ok (.aload_n 0, 1) := by decide +kernel
theorem d_TrustDeskLaw_law_916 : decode kY_TrustDeskLaw_law.2.1 916 = .ok (.iload 4, 2) := by decide +kernel
theorem d_TrustDeskLaw_law_918 : decode kY_TrustDeskLaw_law.2.1 918 = .ok (.iconst 3, 1) := by decide +kernel
theorem d_TrustDeskLaw_law_919 : decode kY_TrustDeskLaw_law.2.1 919 = .ok (.iadd, 1) := by decide +kernel
theorem d_TrustDeskLaw_law_920 : decode kY_TrustDeskLaw_law.2.1 920 = .ok (.iaload, 1) := by decide +kernel
theorem d_TrustDeskLaw_law_921 : decode kY_TrustDeskLaw_law.2.1 921 = .ok (.invokevirtual 105, 3) := by decide +kernel
theorem lV_TrustDeskLaw_105 : mj_lV "TrustDeskLaw" 105 kY_TrustDesk_income 3 := ⟨⟨(mj_in1 (List.mem_of_getElem? (i := 1175) (by decide +kernel)) rfl), (mj_in1 (List.mem_of_getElem? (i := 1) (by decide +kernel)) rfl), (mj_in1 (List.mem_of_getElem? (i := 1178) (by decide +kernel)) rfl), by decide, rfl, by decide⟩, (mj_in1 (List.mem_of_getElem? (i := 1176) (by decide +kernel)) rfl), (mj_in1 (List.mem_of_getElem? (i := 1177) (by decide +kernel)) rfl)⟩
theorem d_TrustDeskLaw_law_924 : decode kY_TrustDeskLaw_law.2.1 924 = .ok (.pop, 1) := by decide +kernel
theorem d_TrustDeskLaw_law_925 : decode kY_TrustDeskLaw_law.2.1 925 = .ok (.aload_n 2, 1) := by decide +kernel
theorem d_TrustDeskLaw_law_926 : decode kY_TrustDeskLaw_law.2.1 926 = .ok (.aload_n 0, 1) := by decide +kernel
theorem d_TrustDeskLaw_law_927 : decode kY_TrustDeskLaw_law.2.1 927 = .ok (.iload 4, 2) := by decide +kernel
theorem d_TrustDeskLaw_law_929 : decode kY_TrustDeskLaw_law.2.1 929 = .ok (.iconst 1, 1) := by decide +kernel
theorem d_TrustDeskLaw_law_930 : decode kY_TrustDeskLaw_law.2.1 930 = .ok (.iadd, 1) := by decide +kernel
theorem d_TrustDeskLaw_law_931 : decode kY_TrustDeskLaw_law.2.1 931 = .ok (.iaload, 1) := by decide +kernel
theorem d_TrustDeskLaw_law_932 : decode kY_TrustDeskLaw_law.2.1 932 = .ok (.aload_n 0, 1) := by decide +kernel
theorem d_TrustDeskLaw_law_933 : decode kY_TrustDeskLaw_law.2.1 933 = .ok (.iload 4, 2) := by decide +kernel
theorem d_TrustDeskLaw_law_935 : decode kY_TrustDeskLaw_law.2.1 935 = .ok (.iconst 2, 1) := by decide +kernel
theorem d_TrustDeskLaw_law_936 : decode kY_TrustDeskLaw_law.2.1 936 = .ok (.iadd, 1) := by decide +kernel
theorem d_TrustDeskLaw_law_937 : decode kY_TrustDeskLaw_law.2.1 937 = .ok (.iaload, 1) := by decide +kernel
theorem d_TrustDeskLaw_law_938 : decode kY_TrustDeskLaw_law.2.1 938 = .ok (.aload_n 0, 1) := by decide +kernel
theorem d_TrustDeskLaw_law_939 : decode kY_TrustDeskLaw_law.2.1 939 = .ok (.iload 4, 2) := by decide +kernel
theorem d_TrustDeskLaw_law_941 : decode kY_TrustDeskLaw_law.2.1 941 = .ok (.iconst 3, 1) := by decide +kernel
theorem d_TrustDeskLaw_law_942 : decode kY_TrustDeskLaw_law.2.1 942 = .ok (.iadd, 1) := by decide +kernel
theorem d_TrustDeskLaw_law_943 : decode kY_TrustDeskLaw_law.2.1 943 = .ok (.iaload, 1) := by decide +kernel
theorem d_TrustDeskLaw_law_944 : decode kY_TrustDeskLaw_law.2.1 944 = .ok (.invokevirtual 108, 3) := by decide +kernel
theorem lV_TrustDeskLaw_108 : mj_lV "TrustDeskLaw" 108 kY_TrustDeskModel_income 3 := ⟨⟨(mj_in1 (List.mem_of_getElem? (i := 2062) (by decide +kernel)) rfl), (mj_in1 (List.mem_of_getElem? (i := 10) (by decide +kernel)) rfl), (mj_in1 (List.mem_of_getElem? (i := 2065) (by decide +kernel)) rfl), by decide, rfl, by decide⟩, (mj_in1 (List.mem_of_getElem? (i := 2063) (by decide +kernel)) rfl), (mj_in1 (List.mem_of_getElem? (i := 2064) (by decide +kernel)) rfl)⟩
theorem d_TrustDeskLaw_law_947 : decode kY_TrustDeskLaw_law.2.1 947 = .ok (.pop, 1) := by decide +kernel
theorem d_TrustDeskLaw_law_948 : decode kY_TrustDeskLaw_law.2.1 948 = .ok (.goto 533, 3) := by decide +kernel
set_option maxHeartbeats 4000000 in
theorem lx_case_19 {g : mj_G} {l : Launch} {d n Lf kc ks : Nat} {T : tm_H} {M : mj_M} {i t : Int32} (hlt : l.stackTraces = false) (h0 : 0 ≤ i.toInt) (hi : i.toInt + 6 ≤ (mj_L g : Int)) (hL : mj_L g ≤ 3072) (LI : lx_I T M n Lf t t) (k0 : lx_K T M n t) (kk : ∀ (T1 : tm_H) (M1 : mj_M) (n1 : Nat) (t1 : Int32), lx_I T1 M1 n1 Lf t1 t1 → lx_K T1 M1 n1 t1 → mj_V g l kY_TrustDeskLaw_law (d + 28) 1481 (lx_lv i) [] M1 n1 kc ks lx_Q) : mj_V g l kY_TrustDeskLaw_law (d + 28) 902 (lx_lv i) [] M n (kc + 1100) (ks + 14000) lx_Q := by
  refine mv_aload_n d_TrustDeskLaw_law_902 rfl rfl ?_
  refine lx_ld (k := 1) (c := 1) h0 hi hL (by decide) (by decide) d_TrustDeskLaw_law_903 d_TrustDeskLaw_law_904 (mv_iconst d_TrustDeskLaw_law_906 (by decide)) d_TrustDeskLaw_law_907 d_TrustDeskLaw_law_908 ?_
  refine lx_ld (k := 2) (c := 2) h0 hi hL (by decide) (by decide) d_TrustDeskLaw_law_909 d_TrustDeskLaw_law_910 (mv_iconst d_TrustDeskLaw_law_912 (by decide)) d_TrustDeskLaw_law_913 d_TrustDeskLaw_law_914 ?_
  refine lx_ld (k := 3) (c := 3) h0 hi hL (by decide) (by decide) d_TrustDeskLaw_law_915 d_TrustDeskLaw_law_916 (mv_iconst d_TrustDeskLaw_law_918 (by decide)) d_TrustDeskLaw_law_919 d_TrustDeskLaw_law_920 ?_
  obtain ⟨_, b2, -⟩ := LI.1.1 _ _ LI.2.1
  refine mv_callV (kc' := kc + 1100) (ks' := ks + 14000) (As := [.int (mj_xs g (i.toNatClampNeg + 1)), .int (mj_xs g (i.toNatClampNeg + 2)), .int (mj_xs g (i.toNatClampNeg + 3))]) (st9 := [.int (mj_xs g (i.toNatClampNeg + 3)), .int (mj_xs g (i.toNatClampNeg + 2)), .int (mj_xs g (i.toNatClampNeg + 1)), .ref 64]) d_TrustDeskLaw_law_921 lV_TrustDeskLaw_105 b2 rfl (tc_TrustDesk_income (d := d + 23) (x9 := 0) (o0 := 64) (x1 := (mj_xs g (i.toNatClampNeg + 1))) (x2 := (mj_xs g (i.toNatClampNeg + 2))) (x3 := (mj_xs g (i.toNatClampNeg + 3))) LI.2.1 LI.1.start) rfl (Nat.le_of_ble_eq_true rfl) (by omega) (by omega) (hst := rfl) (fun r3 M4 n5 h6 => ?_)
  obtain ⟨T7, J8, v9, rfl⟩ := h6
  have LI10 := LI.desk J8 (lx_ok (by decide))
  have k1 := lx_Kkeep LI J8 (lx_ok (by decide)) k0
  refine mv_pop d_TrustDeskLaw_law_924 rfl ?_
  refine mv_aload_n d_TrustDeskLaw_law_925 rfl rfl ?_
  refine lx_ld (k := 1) (c := 1) h0 hi hL (by decide) (by decide) d_TrustDeskLaw_law_926 d_TrustDeskLaw_law_927 (mv_iconst d_TrustDeskLaw_law_929 (by decide)) d_TrustDeskLaw_law_930 d_TrustDeskLaw_law_931 ?_
  refine lx_ld (k := 2) (c := 2) h0 hi hL (by decide) (by decide) d_TrustDeskLaw_law_932 d_TrustDeskLaw_law_933 (mv_iconst d_TrustDeskLaw_law_935 (by decide)) d_TrustDeskLaw_law_936 d_TrustDeskLaw_law_937 ?_
  refine lx_ld (k := 3) (c := 3) h0 hi hL (by decide) (by decide) d_TrustDeskLaw_law_938 d_TrustDeskLaw_law_939 (mv_iconst d_TrustDeskLaw_law_941 (by decide)) d_TrustDeskLaw_law_942 d_TrustDeskLaw_law_943 ?_
  obtain ⟨_, b12, -⟩ := LI10.1.1 _ _ LI10.2.2.1
  refine mv_callV (kc' := kc + 1100) (ks' := ks + 14000) (As := [.int (mj_xs g (i.toNatClampNeg + 1)), .int (mj_xs g (i.toNatClampNeg + 2)), .int (mj_xs g (i.toNatClampNeg + 3))]) (st9 := [.int (mj_xs g (i.toNatClampNeg + 3)), .int (mj_xs g (i.toNatClampNeg + 2)), .int (mj_xs g (i.toNatClampNeg + 1)), .ref 99]) d_TrustDeskLaw_law_944 lV_TrustDeskLaw_108 b12 rfl (tc_TrustDeskModel_income_x (d := d + 25) (x9 := 0) (o0 := 99) (x1 := (mj_xs g (i.toNatClampNeg + 1))) (x2 := (mj_xs g (i.toNatClampNeg + 2))) (x3 := (mj_xs g (i.toNatClampNeg + 3))) LI10.2.2.1 LI10.2.2.2.2.2.2.2.2.2.1 LI10.1.start) rfl (Nat.le_of_ble_eq_true rfl) (by omega) (by omega) (hst := rfl) (fun r13 M14 n15 h16 => ?_)
  obtain ⟨T17, J18, v19, rfl, R21⟩ := h16
  have LI20 := LI10.ref J18 (lx_ok (by decide)) (J18.keep LI10.2.2.1 rfl LI10.2.2.2.2.2.2.2.1) R21 (LI10.2.2.2.2.2.2.2.2.2.2.1.same (sA_c LI10.1 J18 LI10.2.2.1 (by decide +kernel)) (sF_c LI10.1 J18 LI10.2.2.1 (by decide +kernel))) (LI10.2.2.2.2.2.2.2.2.2.2.2.1.same (sA_c LI10.1 J18 LI10.2.2.1 (by decide +kernel)) (sF_c LI10.1 J18 LI10.2.2.1 (by decide +kernel))) (LI10.2.2.2.2.2.2.2.2.2.2.2.2.1.same (sA_c LI10.1 J18 LI10.2.2.1 (by decide +kernel)) (sF_c LI10.1 J18 LI10.2.2.1 (by decide +kernel))) (LI10.2.2.2.2.2.2.2.2.2.2.2.2.2.same (sA_c LI10.1 J18 LI10.2.2.1 (by decide +kernel)) (sF_c LI10.1 J18 LI10.2.2.1 (by decide +kernel)))
  have k11 := lx_Kkeep LI10 J18 (lx_ok (by decide)) k1
  refine mv_pop d_TrustDeskLaw_law_947 rfl ?_
  refine mv_goto (tgt := 1481) d_TrustDeskLaw_law_948 (by decide) ?_
  exact mv_less (by omega) (by omega) (kk _ _ _ _ LI20 k11)
theorem d_TrustDeskLaw_law_951 : decode kY_TrustDeskLaw_law.2.1 951 = .ok (.aload_n 1, 1) := by decide +kernel
theorem d_TrustDeskLaw_law_952 : decode kY_TrustDeskLaw_law.2.1 952 = .ok (.aload_n 0, 1) := by decide +kernel
theorem d_TrustDeskLaw_law_953 : decode kY_TrustDeskLaw_law.2.1 953 = .ok (.iload 4, 2) := by decide +kernel
theorem d_TrustDeskLaw_law_955 : decode kY_TrustDeskLaw_law.2.1 955 = .ok (.iconst 1, 1) := by decide +kernel
theorem d_TrustDeskLaw_law_956 : decode kY_TrustDeskLaw_law.2.1 956 = .ok (.iadd, 1) := by decide +kernel
theorem d_TrustDeskLaw_law_957 : decode kY_TrustDeskLaw_law.2.1 957 = .ok (.iaload, 1) := by decide +kernel
theorem d_TrustDeskLaw_law_958 : decode kY_TrustDeskLaw_law.2.1 958 = .ok (.aload_n 0, 1) := by decide +kernel
theorem d_TrustDeskLaw_law_959 : decode kY_TrustDeskLaw_law.2.1 959 = .ok (.iload 4, 2) := by decide +kernel
theorem d_TrustDeskLaw_law_961 : decode kY_TrustDeskLaw_law.2.1 961 = .ok (.iconst 2, 1) := by decide +kernel
theorem d_TrustDeskLaw_law_962 : decode kY_TrustDeskLaw_law.2.1 962 = .ok (.iadd, 1) := by decide +kernel
theorem d_TrustDeskLaw_law_963 : decode kY_TrustDeskLaw_law.2.1 963 = .ok (.iaload, 1) := by decide +kernel
theorem d_TrustDeskLaw_law_964 : decode kY_TrustDeskLaw_law.2.1 964 = .ok (.invokevirtual 109, 3) := by decide +kernel
theorem lV_TrustDeskLaw_109 : mj_lV "TrustDeskLaw" 109 kY_TrustDesk_part 2 := ⟨⟨(mj_in1 (List.mem_of_getElem? (i := 1179) (by decide +kernel)) rfl), (mj_in1 (List.mem_of_getElem? (i := 1) (by decide +kernel)) rfl), (mj_in1 (List.mem_of_getElem? (i := 1182) (by decide +kernel)) rfl), by decide, rfl, by decide⟩, (mj_in1 (List.mem_of_getElem? (i := 1180) (by decide +kernel)) rfl), (mj_in1 (List.mem_of_getElem? (i := 1181) (by decide +kernel)) rfl)⟩
theorem d_TrustDeskLaw_law_967 : decode kY_TrustDeskLaw_law.2.1 967 = .ok (.pop, 1) := by decide +kernel
theorem d_TrustDeskLaw_law_968 : decode kY_TrustDeskLaw_law.2.1 968 = .ok (.aload_n 2, 1) := by decide +kernel
theorem d_TrustDeskLaw_law_969 : decode kY_TrustDeskLaw_law.2.1 969 = .ok (.aload_n 0, 1) := by decide +kernel
theorem d_TrustDeskLaw_law_970 : decode kY_TrustDeskLaw_law.2.1 970 = .ok (.iload 4, 2) := by decide +kernel
theorem d_TrustDeskLaw_law_972 : decode kY_TrustDeskLaw_law.2.1 972 = .ok (.iconst 1, 1) := by decide +kernel
theorem d_TrustDeskLaw_law_973 : decode kY_TrustDeskLaw_law.2.1 973 = .ok (.iadd, 1) := by decide +kernel
theorem d_TrustDeskLaw_law_974 : decode kY_TrustDeskLaw_law.2.1 974 = .ok (.iaload, 1) := by decide +kernel
theorem d_TrustDeskLaw_law_975 : decode kY_TrustDeskLaw_law.2.1 975 = .ok (.aload_n 0, 1) := by decide +kernel
theorem d_TrustDeskLaw_law_976 : decode kY_TrustDeskLaw_law.2.1 976 = .ok (.iload 4, 2) := by decide +kernel
theorem d_TrustDeskLaw_law_978 : decode kY_TrustDeskLaw_law.2.1 978 = .ok (.iconst 2, 1) := by decide +kernel
theorem d_TrustDeskLaw_law_979 : decode kY_TrustDeskLaw_law.2.1 979 = .ok (.iadd, 1) := by decide +kernel
theorem d_TrustDeskLaw_law_980 : decode kY_TrustDeskLaw_law.2.1 980 = .ok (.iaload, 1) := by decide +kernel
theorem d_TrustDeskLaw_law_981 : decode kY_TrustDeskLaw_law.2.1 981 = .ok (.invokevirtual 112, 3) := by decide +kernel
theorem lV_TrustDeskLaw_112 : mj_lV "TrustDeskLaw" 112 kY_TrustDeskModel_part_1 2 := ⟨⟨(mj_in1 (List.mem_of_getElem? (i := 2066) (by decide +kernel)) rfl), (mj_in1 (List.mem_of_getElem? (i := 10) (by decide +kernel)) rfl), (mj_in1 (List.mem_of_getElem? (i := 2069) (by decide +kernel)) rfl), by decide, rfl, by decide⟩, (mj_in1 (List.mem_of_getElem? (i := 2067) (by decide +kernel)) rfl), (mj_in1 (List.mem_of_getElem? (i := 2068) (by decide +kernel)) rfl)⟩
theorem d_TrustDeskLaw_law_984 : decode kY_TrustDeskLaw_law.2.1 984 = .ok (.pop, 1) := by decide +kernel
theorem d_TrustDeskLaw_law_985 : decode kY_TrustDeskLaw_law.2.1 985 = .ok (.goto 496, 3) := by decide +kernel
set_option maxHeartbeats 4000000 in
theorem lx_case_20 {g : mj_G} {l : Launch} {d n Lf kc ks : Nat} {T : tm_H} {M : mj_M} {i t : Int32} (hlt : l.stackTraces = false) (h0 : 0 ≤ i.toInt) (hi : i.toInt + 6 ≤ (mj_L g : Int)) (hL : mj_L g ≤ 3072) (LI : lx_I T M n Lf t t) (k0 : lx_K T M n t) (kk : ∀ (T1 : tm_H) (M1 : mj_M) (n1 : Nat) (t1 : Int32), lx_I T1 M1 n1 Lf t1 t1 → lx_K T1 M1 n1 t1 → mj_V g l kY_TrustDeskLaw_law (d + 28) 1481 (lx_lv i) [] M1 n1 kc ks lx_Q) : mj_V g l kY_TrustDeskLaw_law (d + 28) 951 (lx_lv i) [] M n (kc + 1100) (ks + 14000) lx_Q := by
  refine mv_aload_n d_TrustDeskLaw_law_951 rfl rfl ?_
  refine lx_ld (k := 1) (c := 1) h0 hi hL (by decide) (by decide) d_TrustDeskLaw_law_952 d_TrustDeskLaw_law_953 (mv_iconst d_TrustDeskLaw_law_955 (by decide)) d_TrustDeskLaw_law_956 d_TrustDeskLaw_law_957 ?_
  refine lx_ld (k := 2) (c := 2) h0 hi hL (by decide) (by decide) d_TrustDeskLaw_law_958 d_TrustDeskLaw_law_959 (mv_iconst d_TrustDeskLaw_law_961 (by decide)) d_TrustDeskLaw_law_962 d_TrustDeskLaw_law_963 ?_
  obtain ⟨_, b2, -⟩ := LI.1.1 _ _ LI.2.1
  refine mv_callV (kc' := kc + 1100) (ks' := ks + 14000) (As := [.int (mj_xs g (i.toNatClampNeg + 1)), .int (mj_xs g (i.toNatClampNeg + 2))]) (st9 := [.int (mj_xs g (i.toNatClampNeg + 2)), .int (mj_xs g (i.toNatClampNeg + 1)), .ref 64]) d_TrustDeskLaw_law_964 lV_TrustDeskLaw_109 b2 rfl (tc_TrustDesk_part (d := d + 23) (x9 := 0) (o0 := 64) (x1 := (mj_xs g (i.toNatClampNeg + 1))) (x2 := (mj_xs g (i.toNatClampNeg + 2))) LI.2.1 LI.1.start) rfl (Nat.le_of_ble_eq_true rfl) (by omega) (by omega) (hst := rfl) (fun r3 M4 n5 h6 => ?_)
  obtain ⟨T7, J8, v9, rfl⟩ := h6
  have LI10 := LI.desk J8 (lx_ok (by decide))
  have k1 := lx_Kkeep LI J8 (lx_ok (by decide)) k0
  refine mv_pop d_TrustDeskLaw_law_967 rfl ?_
  refine mv_aload_n d_TrustDeskLaw_law_968 rfl rfl ?_
  refine lx_ld (k := 1) (c := 1) h0 hi hL (by decide) (by decide) d_TrustDeskLaw_law_969 d_TrustDeskLaw_law_970 (mv_iconst d_TrustDeskLaw_law_972 (by decide)) d_TrustDeskLaw_law_973 d_TrustDeskLaw_law_974 ?_
  refine lx_ld (k := 2) (c := 2) h0 hi hL (by decide) (by decide) d_TrustDeskLaw_law_975 d_TrustDeskLaw_law_976 (mv_iconst d_TrustDeskLaw_law_978 (by decide)) d_TrustDeskLaw_law_979 d_TrustDeskLaw_law_980 ?_
  obtain ⟨_, b12, -⟩ := LI10.1.1 _ _ LI10.2.2.1
  refine mv_callV (kc' := kc + 1100) (ks' := ks + 14000) (As := [.int (mj_xs g (i.toNatClampNeg + 1)), .int (mj_xs g (i.toNatClampNeg + 2))]) (st9 := [.int (mj_xs g (i.toNatClampNeg + 2)), .int (mj_xs g (i.toNatClampNeg + 1)), .ref 99]) d_TrustDeskLaw_law_981 lV_TrustDeskLaw_112 b12 rfl (tc_TrustDeskModel_part_1_x (d := d + 26) (x9 := 0) (o0 := 99) (x1 := (mj_xs g (i.toNatClampNeg + 1))) (x2 := (mj_xs g (i.toNatClampNeg + 2))) LI10.2.2.1 LI10.2.2.2.2.2.2.2.2.2.1 LI10.1.start) rfl (Nat.le_of_ble_eq_true rfl) (by omega) (by omega) (hst := rfl) (fun r13 M14 n15 h16 => ?_)
  obtain ⟨T17, J18, v19, rfl, R21⟩ := h16
  have LI20 := LI10.ref J18 (lx_ok (by decide)) (J18.keep LI10.2.2.1 rfl LI10.2.2.2.2.2.2.2.1) R21 (LI10.2.2.2.2.2.2.2.2.2.2.1.same (sA_c LI10.1 J18 LI10.2.2.1 (by decide +kernel)) (sF_c LI10.1 J18 LI10.2.2.1 (by decide +kernel))) (LI10.2.2.2.2.2.2.2.2.2.2.2.1.same (sA_c LI10.1 J18 LI10.2.2.1 (by decide +kernel)) (sF_c LI10.1 J18 LI10.2.2.1 (by decide +kernel))) (LI10.2.2.2.2.2.2.2.2.2.2.2.2.1.same (sA_c LI10.1 J18 LI10.2.2.1 (by decide +kernel)) (sF_c LI10.1 J18 LI10.2.2.1 (by decide +kernel))) (LI10.2.2.2.2.2.2.2.2.2.2.2.2.2.same (sA_c LI10.1 J18 LI10.2.2.1 (by decide +kernel)) (sF_c LI10.1 J18 LI10.2.2.1 (by decide +kernel)))
  have k11 := lx_Kkeep LI10 J18 (lx_ok (by decide)) k1
  refine mv_pop d_TrustDeskLaw_law_984 rfl ?_
  refine mv_goto (tgt := 1481) d_TrustDeskLaw_law_985 (by decide) ?_
  exact mv_less (by omega) (by omega) (kk _ _ _ _ LI20 k11)
theorem d_TrustDeskLaw_law_988 : decode kY_TrustDeskLaw_law.2.1 988 = .ok (.aload_n 1, 1) := by decide +kernel
theorem d_TrustDeskLaw_law_989 : decode kY_TrustDeskLaw_law.2.1 989 = .ok (.aload_n 0, 1) := by decide +kernel
theorem d_TrustDeskLaw_law_990 : decode kY_TrustDeskLaw_law.2.1 990 = .ok (.iload 4, 2) := by decide +kernel
theorem d_TrustDeskLaw_law_992 : decode kY_TrustDeskLaw_law.2.1 992 = .ok (.iconst 1, 1) := by decide +kernel
theorem d_TrustDeskLaw_law_993 : decode kY_TrustDeskLaw_law.2.1 993 = .ok (.iadd, 1) := by decide +kernel
theorem d_TrustDeskLaw_law_994 : decode kY_TrustDeskLaw_law.2.1 994 = .ok (.iaload, 1) := by decide +kernel
theorem d_TrustDeskLaw_law_995 : decode kY_TrustDeskLaw_law.2.1 995 = .ok (.invokevirtual 113, 3) := by decide +kernel
theorem lV_TrustDeskLaw_113 : mj_lV "TrustDeskLaw" 113 kY_TrustDesk_paid 1 := ⟨⟨(mj_in1 (List.mem_of_getElem? (i := 1183) (by decide +kernel)) rfl), (mj_in1 (List.mem_of_getElem? (i := 1) (by decide +kernel)) rfl), (mj_in1 (List.mem_of_getElem? (i := 1186) (by decide +kernel)) rfl), by decide, rfl, by decide⟩, (mj_in1 (List.mem_of_getElem? (i := 1184) (by decide +kernel)) rfl), (mj_in1 (List.mem_of_getElem? (i := 1185) (by decide +kernel)) rfl)⟩
theorem d_TrustDeskLaw_law_998 : decode kY_TrustDeskLaw_law.2.1 998 = .ok (.pop2, 1) := by decide +kernel
theorem d_TrustDeskLaw_law_999 : decode kY_TrustDeskLaw_law.2.1 999 = .ok (.aload_n 2, 1) := by decide +kernel
theorem d_TrustDeskLaw_law_1000 : decode kY_TrustDeskLaw_law.2.1 1000 = .ok (.aload_n 0, 1) := by decide +kernel
theorem d_TrustDeskLaw_law_1001 : decode kY_TrustDeskLaw_law.2.1 1001 = .ok (.iload 4, 2) := by decide +kernel
theorem d_TrustDeskLaw_law_1003 : decode kY_TrustDeskLaw_law.2.1 1003 = .ok (.iconst 1, 1) := by decide +kernel
theorem d_TrustDeskLaw_law_1004 : decode kY_TrustDeskLaw_law.2.1 1004 = .ok (.iadd, 1) := by decide +kernel
theorem d_TrustDeskLaw_law_1005 : decode kY_TrustDeskLaw_law.2.1 1005 = .ok (.iaload, 1) := by decide +kernel
theorem d_TrustDeskLaw_law_1006 : decode kY_TrustDeskLaw_law.2.1 1006 = .ok (.invokevirtual 116, 3) := by decide +kernel
theorem lV_TrustDeskLaw_116 : mj_lV "TrustDeskLaw" 116 kY_TrustDeskModel_paid 1 := ⟨⟨(mj_in1 (List.mem_of_getElem? (i := 2070) (by decide +kernel)) rfl), (mj_in1 (List.mem_of_getElem? (i := 10) (by decide +kernel)) rfl), (mj_in1 (List.mem_of_getElem? (i := 2073) (by decide +kernel)) rfl), by decide, rfl, by decide⟩, (mj_in1 (List.mem_of_getElem? (i := 2071) (by decide +kernel)) rfl), (mj_in1 (List.mem_of_getElem? (i := 2072) (by decide +kernel)) rfl)⟩
theorem d_TrustDeskLaw_law_1009 : decode kY_TrustDeskLaw_law.2.1 1009 = .ok (.pop2, 1) := by decide +kernel
theorem d_TrustDeskLaw_law_1010 : decode kY_TrustDeskLaw_law.2.1 1010 = .ok (.goto 471, 3) := by decide +kernel
set_option maxHeartbeats 4000000 in
theorem lx_case_21 {g : mj_G} {l : Launch} {d n Lf kc ks : Nat} {T : tm_H} {M : mj_M} {i t : Int32} (hlt : l.stackTraces = false) (h0 : 0 ≤ i.toInt) (hi : i.toInt + 6 ≤ (mj_L g : Int)) (hL : mj_L g ≤ 3072) (LI : lx_I T M n Lf t t) (k0 : lx_K T M n t) (kk : ∀ (T1 : tm_H) (M1 : mj_M) (n1 : Nat) (t1 : Int32), lx_I T1 M1 n1 Lf t1 t1 → lx_K T1 M1 n1 t1 → mj_V g l kY_TrustDeskLaw_law (d + 28) 1481 (lx_lv i) [] M1 n1 kc ks lx_Q) : mj_V g l kY_TrustDeskLaw_law (d + 28) 988 (lx_lv i) [] M n (kc + 1100) (ks + 14000) lx_Q := by
  refine mv_aload_n d_TrustDeskLaw_law_988 rfl rfl ?_
  refine lx_ld (k := 1) (c := 1) h0 hi hL (by decide) (by decide) d_TrustDeskLaw_law_989 d_TrustDeskLaw_law_990 (mv_iconst d_TrustDeskLaw_law_992 (by decide)) d_TrustDeskLaw_law_993 d_TrustDeskLaw_law_994 ?_
  obtain ⟨_, b2, -⟩ := LI.1.1 _ _ LI.2.1
  refine mv_callV (kc' := kc + 1100) (ks' := ks + 14000) (As := [.int (mj_xs g (i.toNatClampNeg + 1))]) (st9 := [.int (mj_xs g (i.toNatClampNeg + 1)), .ref 64]) d_TrustDeskLaw_law_995 lV_TrustDeskLaw_113 b2 rfl (tc_TrustDesk_paid (d := d + 23) (x9 := 0) (o0 := 64) (x1 := (mj_xs g (i.toNatClampNeg + 1))) LI.2.1 LI.1.start) rfl (Nat.le_of_ble_eq_true rfl) (by omega) (by omega) (hst := rfl) (fun r3 M4 n5 h6 => ?_)
  obtain ⟨T7, J8, v9, rfl⟩ := h6
  have LI10 := LI.desk J8 (lx_ok (by decide))
  have k1 := lx_Kkeep LI J8 (lx_ok (by decide)) k0
  refine mv_pop2_2 d_TrustDeskLaw_law_998 rfl ?_
  refine mv_aload_n d_TrustDeskLaw_law_999 rfl rfl ?_
  refine lx_ld (k := 1) (c := 1) h0 hi hL (by decide) (by decide) d_TrustDeskLaw_law_1000 d_TrustDeskLaw_law_1001 (mv_iconst d_TrustDeskLaw_law_1003 (by decide)) d_TrustDeskLaw_law_1004 d_TrustDeskLaw_law_1005 ?_
  obtain ⟨_, b12, -⟩ := LI10.1.1 _ _ LI10.2.2.1
  refine mv_callV (kc' := kc + 1100) (ks' := ks + 14000) (As := [.int (mj_xs g (i.toNatClampNeg + 1))]) (st9 := [.int (mj_xs g (i.toNatClampNeg + 1)), .ref 99]) d_TrustDeskLaw_law_1006 lV_TrustDeskLaw_116 b12 rfl (tc_TrustDeskModel_paid_x (d := d + 26) (x9 := 0) (o0 := 99) (x1 := (mj_xs g (i.toNatClampNeg + 1))) LI10.2.2.1 LI10.2.2.2.2.2.2.2.2.2.1 LI10.1.start) rfl (Nat.le_of_ble_eq_true rfl) (by omega) (by omega) (hst := rfl) (fun r13 M14 n15 h16 => ?_)
  obtain ⟨T17, J18, v19, rfl, R21⟩ := h16
  have LI20 := LI10.ref J18 (lx_ok (by decide)) (J18.keep LI10.2.2.1 rfl LI10.2.2.2.2.2.2.2.1) R21 (LI10.2.2.2.2.2.2.2.2.2.2.1.same (sA_c LI10.1 J18 LI10.2.2.1 (by decide +kernel)) (sF_c LI10.1 J18 LI10.2.2.1 (by decide +kernel))) (LI10.2.2.2.2.2.2.2.2.2.2.2.1.same (sA_c LI10.1 J18 LI10.2.2.1 (by decide +kernel)) (sF_c LI10.1 J18 LI10.2.2.1 (by decide +kernel))) (LI10.2.2.2.2.2.2.2.2.2.2.2.2.1.same (sA_c LI10.1 J18 LI10.2.2.1 (by decide +kernel)) (sF_c LI10.1 J18 LI10.2.2.1 (by decide +kernel))) (LI10.2.2.2.2.2.2.2.2.2.2.2.2.2.same (sA_c LI10.1 J18 LI10.2.2.1 (by decide +kernel)) (sF_c LI10.1 J18 LI10.2.2.1 (by decide +kernel)))
  have k11 := lx_Kkeep LI10 J18 (lx_ok (by decide)) k1
  refine mv_pop2_2 d_TrustDeskLaw_law_1009 rfl ?_
  refine mv_goto (tgt := 1481) d_TrustDeskLaw_law_1010 (by decide) ?_
  exact mv_less (by omega) (by omega) (kk _ _ _ _ LI20 k11)
theorem d_TrustDeskLaw_law_1013 : decode kY_TrustDeskLaw_law.2.1 1013 = .ok (.aload_n 1, 1) := by decide +kernel
theorem d_TrustDeskLaw_law_1014 : decode kY_TrustDeskLaw_law.2.1 1014 = .ok (.aload_n 0, 1) := by decide +kernel
theorem d_TrustDeskLaw_law_1015 : decode kY_TrustDeskLaw_law.2.1 1015 = .ok (.iload 4, 2) := by decide +kernel
theorem d_TrustDeskLaw_law_1017 : decode kY_TrustDeskLaw_law.2.1 1017 = .ok (.iconst 1, 1) := by decide +kernel
theorem d_TrustDeskLaw_law_1018 : decode kY_TrustDeskLaw_law.2.1 1018 = .ok (.iadd, 1) := by decide +kernel
theorem d_TrustDeskLaw_law_1019 : decode kY_TrustDeskLaw_law.2.1 1019 = .ok (.iaload, 1) := by decide +kernel
theorem d_TrustDeskLaw_law_1020 : decode kY_TrustDeskLaw_law.2.1 1020 = .ok (.aload_n 0, 1) := by decide +kernel
theorem d_TrustDeskLaw_law_1021 : decode kY_TrustDeskLaw_law.2.1 1021 = .ok (.iload 4, 2) := by decide +kernel
theorem d_TrustDeskLaw_law_1023 : decode kY_TrustDeskLaw_law.2.1 1023 = .ok (.iconst 2, 1) := by decide +kernel
theorem d_TrustDeskLaw_law_1024 : decode kY_TrustDeskLaw_law.2.1 1024 = .ok (.iadd, 1) := by decide +kernel
theorem d_TrustDeskLaw_law_1025 : decode kY_TrustDeskLaw_law.2.1 1025 = .ok (.iaload, 1) := by decide +kernel
theorem d_TrustDeskLaw_law_1026 : decode kY_TrustDeskLaw_law.2.1 1026 = .ok (.aload_n 0, 1) := by decide +kernel
theorem d_TrustDeskLaw_law_1027 : decode kY_TrustDeskLaw_law.2.1 1027 = .ok (.iload 4, 2) := by decide +kernel
theorem d_TrustDeskLaw_law_1029 : decode kY_TrustDeskLaw_law.2.1 1029 = .ok (.iconst 3, 1) := by decide +kernel
theorem d_TrustDeskLaw_law_1030 : decode kY_TrustDeskLaw_law.2.1 1030 = .ok (.iadd, 1) := by decide +kernel
theorem d_TrustDeskLaw_law_1031 : decode kY_TrustDeskLaw_law.2.1 1031 = .ok (.iaload, 1) := by decide +kernel
theorem d_TrustDeskLaw_law_1032 : decode kY_TrustDeskLaw_law.2.1 1032 = .ok (.invokevirtual 117, 3) := by decide +kernel
theorem lV_TrustDeskLaw_117 : mj_lV "TrustDeskLaw" 117 kY_TrustDesk_endOf 3 := ⟨⟨(mj_in1 (List.mem_of_getElem? (i := 1187) (by decide +kernel)) rfl), (mj_in1 (List.mem_of_getElem? (i := 1) (by decide +kernel)) rfl), (mj_in1 (List.mem_of_getElem? (i := 1190) (by decide +kernel)) rfl), by decide, rfl, by decide⟩, (mj_in1 (List.mem_of_getElem? (i := 1188) (by decide +kernel)) rfl), (mj_in1 (List.mem_of_getElem? (i := 1189) (by decide +kernel)) rfl)⟩
theorem d_TrustDeskLaw_law_1035 : decode kY_TrustDeskLaw_law.2.1 1035 = .ok (.pop, 1) := by decide +kernel
theorem d_TrustDeskLaw_law_1036 : decode kY_TrustDeskLaw_law.2.1 1036 = .ok (.aload_n 2, 1) := by decide +kernel
theorem d_TrustDeskLaw_law_1037 : decode kY_TrustDeskLaw_law.2.1 1037 = .ok (.aload_n 0, 1) := by decide +kernel
theorem d_TrustDeskLaw_law_1038 : decode kY_TrustDeskLaw_law.2.1 1038 = .ok (.iload 4, 2) := by decide +kernel
theorem d_TrustDeskLaw_law_1040 : decode kY_TrustDeskLaw_law.2.1 1040 = .ok (.iconst 1, 1) := by decide +kernel
theorem d_TrustDeskLaw_law_1041 : decode kY_TrustDeskLaw_law.2.1 1041 = .ok (.iadd, 1) := by decide +kernel
theorem d_TrustDeskLaw_law_1042 : decode kY_TrustDeskLaw_law.2.1 1042 = .ok (.iaload, 1) := by decide +kernel
theorem d_TrustDeskLaw_law_1043 : decode kY_TrustDeskLaw_law.2.1 1043 = .ok (.aload_n 0, 1) := by decide +kernel
theorem d_TrustDeskLaw_law_1044 : decode kY_TrustDeskLaw_law.2.1 1044 = .ok (.iload 4, 2) := by decide +kernel
theorem d_TrustDeskLaw_law_1046 : decode kY_TrustDeskLaw_law.2.1 1046 = .ok (.iconst 2, 1) := by decide +kernel
theorem d_TrustDeskLaw_law_1047 : decode kY_TrustDeskLaw_law.2.1 1047 = .ok (.iadd, 1) := by decide +kernel
theorem d_TrustDeskLaw_law_1048 : decode kY_TrustDeskLaw_law.2.1 1048 = .ok (.iaload, 1) := by decide +kernel
theorem d_TrustDeskLaw_law_1049 : decode kY_TrustDeskLaw_law.2.1 1049 = .ok (.aload_n 0, 1) := by decide +kernel
theorem d_TrustDeskLaw_law_1050 : decode kY_TrustDeskLaw_law.2.1 1050 = .ok (.iload 4, 2) := by decide +kernel
theorem d_TrustDeskLaw_law_1052 : decode kY_TrustDeskLaw_law.2.1 1052 = .ok (.iconst 3, 1) := by decide +kernel
theorem d_TrustDeskLaw_law_1053 : decode kY_TrustDeskLaw_law.2.1 1053 = .ok (.iadd, 1) := by decide +kernel
theorem d_TrustDeskLaw_law_1054 : decode kY_TrustDeskLaw_law.2.1 1054 = .ok (.iaload, 1) := by decide +kernel
theorem d_TrustDeskLaw_law_1055 : decode kY_TrustDeskLaw_law.2.1 1055 = .ok (.invokevirtual 120, 3) := by decide +kernel
theorem lV_TrustDeskLaw_120 : mj_lV "TrustDeskLaw" 120 kY_TrustDeskModel_endOf 3 := ⟨⟨(mj_in1 (List.mem_of_getElem? (i := 2074) (by decide +kernel)) rfl), (mj_in1 (List.mem_of_getElem? (i := 10) (by decide +kernel)) rfl), (mj_in1 (List.mem_of_getElem? (i := 2077) (by decide +kernel)) rfl), by decide, rfl, by decide⟩, (mj_in1 (List.mem_of_getElem? (i := 2075) (by decide +kernel)) rfl), (mj_in1 (List.mem_of_getElem? (i := 2076) (by decide +kernel)) rfl)⟩
theorem d_TrustDeskLaw_law_1058 : decode kY_TrustDeskLaw_law.2.1 1058 = .ok (.pop, 1) := by decide +kernel
theorem d_TrustDeskLaw_law_1059 : decode kY_TrustDeskLaw_law.2.1 1059 = .ok (.goto 422, 3) := by decide +kernel
set_option maxHeartbeats 4000000 in
theorem lx_case_22 {g : mj_G} {l : Launch} {d n Lf kc ks : Nat} {T : tm_H} {M : mj_M} {i t : Int32} (hlt : l.stackTraces = false) (h0 : 0 ≤ i.toInt) (hi : i.toInt + 6 ≤ (mj_L g : Int)) (hL : mj_L g ≤ 3072) (LI : lx_I T M n Lf t t) (k0 : lx_K T M n t) (kk : ∀ (T1 : tm_H) (M1 : mj_M) (n1 : Nat) (t1 : Int32), lx_I T1 M1 n1 Lf t1 t1 → lx_K T1 M1 n1 t1 → mj_V g l kY_TrustDeskLaw_law (d + 28) 1481 (lx_lv i) [] M1 n1 kc ks lx_Q) : mj_V g l kY_TrustDeskLaw_law (d + 28) 1013 (lx_lv i) [] M n (kc + 1100) (ks + 14000) lx_Q := by
  refine mv_aload_n d_TrustDeskLaw_law_1013 rfl rfl ?_
  refine lx_ld (k := 1) (c := 1) h0 hi hL (by decide) (by decide) d_TrustDeskLaw_law_1014 d_TrustDeskLaw_law_1015 (mv_iconst d_TrustDeskLaw_law_1017 (by decide)) d_TrustDeskLaw_law_1018 d_TrustDeskLaw_law_1019 ?_
  refine lx_ld (k := 2) (c := 2) h0 hi hL (by decide) (by decide) d_TrustDeskLaw_law_1020 d_TrustDeskLaw_law_1021 (mv_iconst d_TrustDeskLaw_law_1023 (by decide)) d_TrustDeskLaw_law_1024 d_TrustDeskLaw_law_1025 ?_
  refine lx_ld (k := 3) (c := 3) h0 hi hL (by decide) (by decide) d_TrustDeskLaw_law_1026 d_TrustDeskLaw_law_1027 (mv_iconst d_TrustDeskLaw_law_1029 (by decide)) d_TrustDeskLaw_law_1030 d_TrustDeskLaw_law_1031 ?_
  obtain ⟨_, b2, -⟩ := LI.1.1 _ _ LI.2.1
  refine mv_callV (kc' := kc + 1100) (ks' := ks + 14000) (As := [.int (mj_xs g (i.toNatClampNeg + 1)), .int (mj_xs g (i.toNatClampNeg + 2)), .int (mj_xs g (i.toNatClampNeg + 3))]) (st9 := [.int (mj_xs g (i.toNatClampNeg + 3)), .int (mj_xs g (i.toNatClampNeg + 2)), .int (mj_xs g (i.toNatClampNeg + 1)), .ref 64]) d_TrustDeskLaw_law_1032 lV_TrustDeskLaw_117 b2 rfl (tc_TrustDesk_endOf (d := d + 22) (x9 := 0) (o0 := 64) (x1 := (mj_xs g (i.toNatClampNeg + 1))) (x2 := (mj_xs g (i.toNatClampNeg + 2))) (x3 := (mj_xs g (i.toNatClampNeg + 3))) LI.2.1 LI.1.start) rfl (Nat.le_of_ble_eq_true rfl) (by omega) (by omega) (hst := rfl) (fun r3 M4 n5 h6 => ?_)
  obtain ⟨T7, J8, v9, rfl⟩ := h6
  have LI10 := LI.desk J8 (lx_ok (by decide))
  have k1 := lx_Kkeep LI J8 (lx_ok (by decide)) k0
  refine mv_pop d_TrustDeskLaw_law_1035 rfl ?_
  refine mv_aload_n d_TrustDeskLaw_law_1036 rfl rfl ?_
  refine lx_ld (k := 1) (c := 1) h0 hi hL (by decide) (by decide) d_TrustDeskLaw_law_1037 d_TrustDeskLaw_law_1038 (mv_iconst d_TrustDeskLaw_law_1040 (by decide)) d_TrustDeskLaw_law_1041 d_TrustDeskLaw_law_1042 ?_
  refine lx_ld (k := 2) (c := 2) h0 hi hL (by decide) (by decide) d_TrustDeskLaw_law_1043 d_TrustDeskLaw_law_1044 (mv_iconst d_TrustDeskLaw_law_1046 (by decide)) d_TrustDeskLaw_law_1047 d_TrustDeskLaw_law_1048 ?_
  refine lx_ld (k := 3) (c := 3) h0 hi hL (by decide) (by decide) d_TrustDeskLaw_law_1049 d_TrustDeskLaw_law_1050 (mv_iconst d_TrustDeskLaw_law_1052 (by decide)) d_TrustDeskLaw_law_1053 d_TrustDeskLaw_law_1054 ?_
  obtain ⟨_, b12, -⟩ := LI10.1.1 _ _ LI10.2.2.1
  refine mv_callV (kc' := kc + 1100) (ks' := ks + 14000) (As := [.int (mj_xs g (i.toNatClampNeg + 1)), .int (mj_xs g (i.toNatClampNeg + 2)), .int (mj_xs g (i.toNatClampNeg + 3))]) (st9 := [.int (mj_xs g (i.toNatClampNeg + 3)), .int (mj_xs g (i.toNatClampNeg + 2)), .int (mj_xs g (i.toNatClampNeg + 1)), .ref 99]) d_TrustDeskLaw_law_1055 lV_TrustDeskLaw_120 b12 rfl (tc_TrustDeskModel_endOf_x (d := d + 25) (x9 := 0) (o0 := 99) (x1 := (mj_xs g (i.toNatClampNeg + 1))) (x2 := (mj_xs g (i.toNatClampNeg + 2))) (x3 := (mj_xs g (i.toNatClampNeg + 3))) LI10.2.2.1 LI10.2.2.2.2.2.2.2.2.2.1 LI10.1.start) rfl (Nat.le_of_ble_eq_true rfl) (by omega) (by omega) (hst := rfl) (fun r13 M14 n15 h16 => ?_)
  obtain ⟨T17, J18, v19, rfl, R21⟩ := h16
  have LI20 := LI10.ref J18 (lx_ok (by decide)) (J18.keep LI10.2.2.1 rfl LI10.2.2.2.2.2.2.2.1) R21 (LI10.2.2.2.2.2.2.2.2.2.2.1.same (sA_c LI10.1 J18 LI10.2.2.1 (by decide +kernel)) (sF_c LI10.1 J18 LI10.2.2.1 (by decide +kernel))) (LI10.2.2.2.2.2.2.2.2.2.2.2.1.same (sA_c LI10.1 J18 LI10.2.2.1 (by decide +kernel)) (sF_c LI10.1 J18 LI10.2.2.1 (by decide +kernel))) (LI10.2.2.2.2.2.2.2.2.2.2.2.2.1.same (sA_c LI10.1 J18 LI10.2.2.1 (by decide +kernel)) (sF_c LI10.1 J18 LI10.2.2.1 (by decide +kernel))) (LI10.2.2.2.2.2.2.2.2.2.2.2.2.2.same (sA_c LI10.1 J18 LI10.2.2.1 (by decide +kernel)) (sF_c LI10.1 J18 LI10.2.2.1 (by decide +kernel)))
  have k11 := lx_Kkeep LI10 J18 (lx_ok (by decide)) k1
  refine mv_pop d_TrustDeskLaw_law_1058 rfl ?_
  refine mv_goto (tgt := 1481) d_TrustDeskLaw_law_1059 (by decide) ?_
  exact mv_less (by omega) (by omega) (kk _ _ _ _ LI20 k11)
theorem d_TrustDeskLaw_law_1062 : decode kY_TrustDeskLaw_law.2.1 1062 = .ok (.aload_n 1, 1) := by decide +kernel
theorem d_TrustDeskLaw_law_1063 : decode kY_TrustDeskLaw_law.2.1 1063 = .ok (.aload_n 0, 1) := by decide +kernel
theorem d_TrustDeskLaw_law_1064 : decode kY_TrustDeskLaw_law.2.1 1064 = .ok (.iload 4, 2) := by decide +kernel
theorem d_TrustDeskLaw_law_1066 : decode kY_TrustDeskLaw_law.2.1 1066 = .ok (.iconst 1, 1) := by decide +kernel
theorem d_TrustDeskLaw_law_1067 : decode kY_TrustDeskLaw_law.2.1 1067 = .ok (.iadd, 1) := by decide +kernel
theorem d_TrustDeskLaw_law_1068 : decode kY_TrustDeskLaw_law.2.1 1068 = .ok (.iaload, 1) := by decide +kernel
theorem d_TrustDeskLaw_law_1069 : decode kY_TrustDeskLaw_law.2.1 1069 = .ok (.aload_n 0, 1) := by decide +kernel
theorem d_TrustDeskLaw_law_1070 : decode kY_TrustDeskLaw_law.2.1 1070 = .ok (.iload 4, 2) := by decide +kernel
theorem d_TrustDeskLaw_law_1072 : decode kY_TrustDeskLaw_law.2.1 1072 = .ok (.iconst 2, 1) := by decide +kernel
theorem d_TrustDeskLaw_law_1073 : decode kY_TrustDeskLaw_law.2.1 1073 = .ok (.iadd, 1) := by decide +kernel
theorem d_TrustDeskLaw_law_1074 : decode kY_TrustDeskLaw_law.2.1 1074 = .ok (.iaload, 1) := by decide +kernel
theorem d_TrustDeskLaw_law_1075 : decode kY_TrustDeskLaw_law.2.1 1075 = .ok (.aload_n 0, 1) := by decide +kernel
theorem d_TrustDeskLaw_law_1076 : decode kY_TrustDeskLaw_law.2.1 1076 = .ok (.iload 4, 2) := by decide +kernel
theorem d_TrustDeskLaw_law_1078 : decode kY_TrustDeskLaw_law.2.1 1078 = .ok (.iconst 3, 1) := by decide +kernel
theorem d_TrustDeskLaw_law_1079 : decode kY_TrustDeskLaw_law.2.1 1079 = .ok (.iadd, 1) := by decide +kernel
theorem d_TrustDeskLaw_law_1080 : decode kY_TrustDeskLaw_law.2.1 1080 = .ok (.iaload, 1) := by decide +kernel
theorem d_TrustDeskLaw_law_1081 : decode kY_TrustDeskLaw_law.2.1 1081 = .ok (.aload_n 0, 1) := by decide +kernel
theorem d_TrustDeskLaw_law_1082 : decode kY_TrustDeskLaw_law.2.1 1082 = .ok (.iload 4, 2) := by decide +kernel
theorem d_TrustDeskLaw_law_1084 : decode kY_TrustDeskLaw_law.2.1 1084 = .ok (.iconst 4, 1) := by decide +kernel
theorem d_TrustDeskLaw_law_1085 : decode kY_TrustDeskLaw_law.2.1 1085 = .ok (.iadd, 1) := by decide +kernel
theorem d_TrustDeskLaw_law_1086 : decode kY_TrustDeskLaw_law.2.1 1086 = .ok (.iaload, 1) := by decide +kernel
theorem d_TrustDeskLaw_law_1087 : decode kY_TrustDeskLaw_law.2.1 1087 = .ok (.invokevirtual 121, 3) := by decide +kernel
theorem lV_TrustDeskLaw_121 : mj_lV "TrustDeskLaw" 121 kY_TrustDesk_due 4 := ⟨⟨(mj_in1 (List.mem_of_getElem? (i := 1195) (by decide +kernel)) rfl), (mj_in1 (List.mem_of_getElem? (i := 1) (by decide +kernel)) rfl), (mj_in1 (List.mem_of_getElem? (i := 1198) (by decide +kernel)) rfl), by decide, rfl, by decide⟩, (mj_in1 (List.mem_of_getElem? (i := 1196) (by decide +kernel)) rfl), (mj_in1 (List.mem_of_getElem? (i := 1197) (by decide +kernel)) rfl)⟩
theorem d_TrustDeskLaw_law_1090 : decode kY_TrustDeskLaw_law.2.1 1090 = .ok (.pop, 1) := by decide +kernel
theorem d_TrustDeskLaw_law_1091 : decode kY_TrustDeskLaw_law.2.1 1091 = .ok (.aload_n 2, 1) := by decide +kernel
theorem d_TrustDeskLaw_law_1092 : decode kY_TrustDeskLaw_law.2.1 1092 = .ok (.aload_n 0, 1) := by decide +kernel
theorem d_TrustDeskLaw_law_1093 : decode kY_TrustDeskLaw_law.2.1 1093 = .ok (.iload 4, 2) := by decide +kernel
theorem d_TrustDeskLaw_law_1095 : decode kY_TrustDeskLaw_law.2.1 1095 = .ok (.iconst 1, 1) := by decide +kernel
theorem d_TrustDeskLaw_law_1096 : decode kY_TrustDeskLaw_law.2.1 1096 = .ok (.iadd, 1) := by decide +kernel
theorem d_TrustDeskLaw_law_1097 : decode kY_TrustDeskLaw_law.2.1 1097 = .ok (.iaload, 1) := by decide +kernel
theorem d_TrustDeskLaw_law_1098 : decode kY_TrustDeskLaw_law.2.1 1098 = .ok (.aload_n 0, 1) := by decide +kernel
theorem d_TrustDeskLaw_law_1099 : decode kY_TrustDeskLaw_law.2.1 1099 = .ok (.iload 4, 2) := by decide +kernel
theorem d_TrustDeskLaw_law_1101 : decode kY_TrustDeskLaw_law.2.1 1101 = .ok (.iconst 2, 1) := by decide +kernel
theorem d_TrustDeskLaw_law_1102 : decode kY_TrustDeskLaw_law.2.1 1102 = .ok (.iadd, 1) := by decide +kernel
theorem d_TrustDeskLaw_law_1103 : decode kY_TrustDeskLaw_law.2.1 1103 = .ok (.iaload, 1) := by decide +kernel
theorem d_TrustDeskLaw_law_1104 : decode kY_TrustDeskLaw_law.2.1 1104 = .ok (.aload_n 0, 1) := by decide +kernel
theorem d_TrustDeskLaw_law_1105 : decode kY_TrustDeskLaw_law.2.1 1105 = .ok (.iload 4, 2) := by decide +kernel
theorem d_TrustDeskLaw_law_1107 : decode kY_TrustDeskLaw_law.2.1 1107 = .ok (.iconst 3, 1) := by decide +kernel
theorem d_TrustDeskLaw_law_1108 : decode kY_TrustDeskLaw_law.2.1 1108 = .ok (.iadd, 1) := by decide +kernel
theorem d_TrustDeskLaw_law_1109 : decode kY_TrustDeskLaw_law.2.1 1109 = .ok (.iaload, 1) := by decide +kernel
theorem d_TrustDeskLaw_law_1110 : decode kY_TrustDeskLaw_law.2.1 1110 = .ok (.aload_n 0, 1) := by decide +kernel
theorem d_TrustDeskLaw_law_1111 : decode kY_TrustDeskLaw_law.2.1 1111 = .ok (.iload 4, 2) := by decide +kernel
theorem d_TrustDeskLaw_law_1113 : decode kY_TrustDeskLaw_law.2.1 1113 = .ok (.iconst 4, 1) := by decide +kernel
theorem d_TrustDeskLaw_law_1114 : decode kY_TrustDeskLaw_law.2.1 1114 = .ok (.iadd, 1) := by decide +kernel
theorem d_TrustDeskLaw_law_1115 : decode kY_TrustDeskLaw_law.2.1 1115 = .ok (.iaload, 1) := by decide +kernel
theorem d_TrustDeskLaw_law_1116 : decode kY_TrustDeskLaw_law.2.1 1116 = .ok (.invokevirtual 125, 3) := by decide +kernel
theorem lV_TrustDeskLaw_125 : mj_lV "TrustDeskLaw" 125 kY_TrustDeskModel_due 4 := ⟨⟨(mj_in1 (List.mem_of_getElem? (i := 1826) (by decide +kernel)) rfl), (mj_in1 (List.mem_of_getElem? (i := 10) (by decide +kernel)) rfl), (mj_in1 (List.mem_of_getElem? (i := 1829) (by decide +kernel)) rfl), by decide, rfl, by decide⟩, (mj_in1 (List.mem_of_getElem? (i := 1827) (by decide +kernel)) rfl), (mj_in1 (List.mem_of_getElem? (i := 1828) (by decide +kernel)) rfl)⟩
theorem d_TrustDeskLaw_law_1119 : decode kY_TrustDeskLaw_law.2.1 1119 = .ok (.pop, 1) := by decide +kernel
theorem d_TrustDeskLaw_law_1120 : decode kY_TrustDeskLaw_law.2.1 1120 = .ok (.goto 361, 3) := by decide +kernel
set_option maxHeartbeats 4000000 in
theorem lx_case_23 {g : mj_G} {l : Launch} {d n Lf kc ks : Nat} {T : tm_H} {M : mj_M} {i t : Int32} (hlt : l.stackTraces = false) (h0 : 0 ≤ i.toInt) (hi : i.toInt + 6 ≤ (mj_L g : Int)) (hL : mj_L g ≤ 3072) (LI : lx_I T M n Lf t t) (k0 : lx_K T M n t) (kk : ∀ (T1 : tm_H) (M1 : mj_M) (n1 : Nat) (t1 : Int32), lx_I T1 M1 n1 Lf t1 t1 → lx_K T1 M1 n1 t1 → mj_V g l kY_TrustDeskLaw_law (d + 28) 1481 (lx_lv i) [] M1 n1 kc ks lx_Q) : mj_V g l kY_TrustDeskLaw_law (d + 28) 1062 (lx_lv i) [] M n (kc + 1100) (ks + 14000) lx_Q := by
  refine mv_aload_n d_TrustDeskLaw_law_1062 rfl rfl ?_
  refine lx_ld (k := 1) (c := 1) h0 hi hL (by decide) (by decide) d_TrustDeskLaw_law_1063 d_TrustDeskLaw_law_1064 (mv_iconst d_TrustDeskLaw_law_1066 (by decide)) d_TrustDeskLaw_law_1067 d_TrustDeskLaw_law_1068 ?_
  refine lx_ld (k := 2) (c := 2) h0 hi hL (by decide) (by decide) d_TrustDeskLaw_law_1069 d_TrustDeskLaw_law_1070 (mv_iconst d_TrustDeskLaw_law_1072 (by decide)) d_TrustDeskLaw_law_1073 d_TrustDeskLaw_law_1074 ?_
  refine lx_ld (k := 3) (c := 3) h0 hi hL (by decide) (by decide) d_TrustDeskLaw_law_1075 d_TrustDeskLaw_law_1076 (mv_iconst d_TrustDeskLaw_law_1078 (by decide)) d_TrustDeskLaw_law_1079 d_TrustDeskLaw_law_1080 ?_
  refine lx_ld (k := 4) (c := 4) h0 hi hL (by decide) (by decide) d_TrustDeskLaw_law_1081 d_TrustDeskLaw_law_1082 (mv_iconst d_TrustDeskLaw_law_1084 (by decide)) d_TrustDeskLaw_law_1085 d_TrustDeskLaw_law_1086 ?_
  obtain ⟨_, b2, -⟩ := LI.1.1 _ _ LI.2.1
  refine mv_callV (kc' := kc + 1100) (ks' := ks + 14000) (As := [.int (mj_xs g (i.toNatClampNeg + 1)), .int (mj_xs g (i.toNatClampNeg + 2)), .int (mj_xs g (i.toNatClampNeg + 3)), .int (mj_xs g (i.toNatClampNeg + 4))]) (st9 := [.int (mj_xs g (i.toNatClampNeg + 4)), .int (mj_xs g (i.toNatClampNeg + 3)), .int (mj_xs g (i.toNatClampNeg + 2)), .int (mj_xs g (i.toNatClampNeg + 1)), .ref 64]) d_TrustDeskLaw_law_1087 lV_TrustDeskLaw_121 b2 rfl (tc_TrustDesk_due (d := d + 22) (x9 := 0) (o0 := 64) (x1 := (mj_xs g (i.toNatClampNeg + 1))) (x2 := (mj_xs g (i.toNatClampNeg + 2))) (x3 := (mj_xs g (i.toNatClampNeg + 3))) (x4 := (mj_xs g (i.toNatClampNeg + 4))) LI.2.1 LI.1.start) rfl (Nat.le_of_ble_eq_true rfl) (by omega) (by omega) (hst := rfl) (fun r3 M4 n5 h6 => ?_)
  obtain ⟨T7, J8, v9, rfl⟩ := h6
  have LI10 := LI.desk J8 (lx_ok (by decide))
  have k1 := lx_Kkeep LI J8 (lx_ok (by decide)) k0
  refine mv_pop d_TrustDeskLaw_law_1090 rfl ?_
  refine mv_aload_n d_TrustDeskLaw_law_1091 rfl rfl ?_
  refine lx_ld (k := 1) (c := 1) h0 hi hL (by decide) (by decide) d_TrustDeskLaw_law_1092 d_TrustDeskLaw_law_1093 (mv_iconst d_TrustDeskLaw_law_1095 (by decide)) d_TrustDeskLaw_law_1096 d_TrustDeskLaw_law_1097 ?_
  refine lx_ld (k := 2) (c := 2) h0 hi hL (by decide) (by decide) d_TrustDeskLaw_law_1098 d_TrustDeskLaw_law_1099 (mv_iconst d_TrustDeskLaw_law_1101 (by decide)) d_TrustDeskLaw_law_1102 d_TrustDeskLaw_law_1103 ?_
  refine lx_ld (k := 3) (c := 3) h0 hi hL (by decide) (by decide) d_TrustDeskLaw_law_1104 d_TrustDeskLaw_law_1105 (mv_iconst d_TrustDeskLaw_law_1107 (by decide)) d_TrustDeskLaw_law_1108 d_TrustDeskLaw_law_1109 ?_
  refine lx_ld (k := 4) (c := 4) h0 hi hL (by decide) (by decide) d_TrustDeskLaw_law_1110 d_TrustDeskLaw_law_1111 (mv_iconst d_TrustDeskLaw_law_1113 (by decide)) d_TrustDeskLaw_law_1114 d_TrustDeskLaw_law_1115 ?_
  obtain ⟨_, b12, -⟩ := LI10.1.1 _ _ LI10.2.2.1
  refine mv_callV (kc' := kc + 1100) (ks' := ks + 14000) (As := [.int (mj_xs g (i.toNatClampNeg + 1)), .int (mj_xs g (i.toNatClampNeg + 2)), .int (mj_xs g (i.toNatClampNeg + 3)), .int (mj_xs g (i.toNatClampNeg + 4))]) (st9 := [.int (mj_xs g (i.toNatClampNeg + 4)), .int (mj_xs g (i.toNatClampNeg + 3)), .int (mj_xs g (i.toNatClampNeg + 2)), .int (mj_xs g (i.toNatClampNeg + 1)), .ref 99]) d_TrustDeskLaw_law_1116 lV_TrustDeskLaw_125 b12 rfl (tc_TrustDeskModel_due_x (d := d + 23) (x9 := 0) (o0 := 99) (x1 := (mj_xs g (i.toNatClampNeg + 1))) (x2 := (mj_xs g (i.toNatClampNeg + 2))) (x3 := (mj_xs g (i.toNatClampNeg + 3))) (x4 := (mj_xs g (i.toNatClampNeg + 4))) LI10.2.2.1 LI10.2.2.2.2.2.2.2.2.2.1 LI10.2.2.2.2.2.2.2.2.2.2.1 LI10.1.start) rfl (Nat.le_of_ble_eq_true rfl) (by omega) (by omega) (hst := rfl) (fun r13 M14 n15 h16 => ?_)
  obtain ⟨T17, J18, v19, rfl, R21⟩ := h16
  have LI20 := LI10.ref J18 (lx_ok (by decide)) (J18.keep LI10.2.2.1 rfl LI10.2.2.2.2.2.2.2.1) R21 (LI10.2.2.2.2.2.2.2.2.2.2.1.same (sA_c LI10.1 J18 LI10.2.2.1 (by decide +kernel)) (sF_c LI10.1 J18 LI10.2.2.1 (by decide +kernel))) (LI10.2.2.2.2.2.2.2.2.2.2.2.1.same (sA_c LI10.1 J18 LI10.2.2.1 (by decide +kernel)) (sF_c LI10.1 J18 LI10.2.2.1 (by decide +kernel))) (LI10.2.2.2.2.2.2.2.2.2.2.2.2.1.same (sA_c LI10.1 J18 LI10.2.2.1 (by decide +kernel)) (sF_c LI10.1 J18 LI10.2.2.1 (by decide +kernel))) (LI10.2.2.2.2.2.2.2.2.2.2.2.2.2.same (sA_c LI10.1 J18 LI10.2.2.1 (by decide +kernel)) (sF_c LI10.1 J18 LI10.2.2.1 (by decide +kernel)))
  have k11 := lx_Kkeep LI10 J18 (lx_ok (by decide)) k1
  refine mv_pop d_TrustDeskLaw_law_1119 rfl ?_
  refine mv_goto (tgt := 1481) d_TrustDeskLaw_law_1120 (by decide) ?_
  exact mv_less (by omega) (by omega) (kk _ _ _ _ LI20 k11)
theorem d_TrustDeskLaw_law_1123 : decode kY_TrustDeskLaw_law.2.1 1123 = .ok (.aload_n 1, 1) := by decide +kernel
theorem d_TrustDeskLaw_law_1124 : decode kY_TrustDeskLaw_law.2.1 1124 = .ok (.aload_n 0, 1) := by decide +kernel
theorem d_TrustDeskLaw_law_1125 : decode kY_TrustDeskLaw_law.2.1 1125 = .ok (.iload 4, 2) := by decide +kernel
theorem d_TrustDeskLaw_law_1127 : decode kY_TrustDeskLaw_law.2.1 1127 = .ok (.iconst 1, 1) := by decide +kernel
theorem d_TrustDeskLaw_law_1128 : decode kY_TrustDeskLaw_law.2.1 1128 = .ok (.iadd, 1) := by decide +kernel
theorem d_TrustDeskLaw_law_1129 : decode kY_TrustDeskLaw_law.2.1 1129 = .ok (.iaload, 1) := by decide +kernel
theorem d_TrustDeskLaw_law_1130 : decode kY_TrustDeskLaw_law.2.1 1130 = .ok (.aload_n 0, 1) := by decide +kernel
theorem d_TrustDeskLaw_law_1131 : decode kY_TrustDeskLaw_law.2.1 1131 = .ok (.iload 4, 2) := by decide +kernel
theorem d_TrustDeskLaw_law_1133 : decode kY_TrustDeskLaw_law.2.1 1133 = .ok (.iconst 2, 1) := by decide +kernel
theorem d_TrustDeskLaw_law_1134 : decode kY_TrustDeskLaw_law.2.1 1134 = .ok (.iadd, 1) := by decide +kernel
theorem d_TrustDeskLaw_law_1135 : decode kY_TrustDeskLaw_law.2.1 1135 = .ok (.iaload, 1) := by decide +kernel
theorem d_TrustDeskLaw_law_1136 : decode kY_TrustDeskLaw_law.2.1 1136 = .ok (.aload_n 0, 1) := by decide +kernel
theorem d_TrustDeskLaw_law_1137 : decode kY_TrustDeskLaw_law.2.1 1137 = .ok (.iload 4, 2) := by decide +kernel
theorem d_TrustDeskLaw_law_1139 : decode kY_TrustDeskLaw_law.2.1 1139 = .ok (.iconst 3, 1) := by decide +kernel
theorem d_TrustDeskLaw_law_1140 : decode kY_TrustDeskLaw_law.2.1 1140 = .ok (.iadd, 1) := by decide +kernel
theorem d_TrustDeskLaw_law_1141 : decode kY_TrustDeskLaw_law.2.1 1141 = .ok (.iaload, 1) := by decide +kernel
theorem d_TrustDeskLaw_law_1142 : decode kY_TrustDeskLaw_law.2.1 1142 = .ok (.aload_n 0, 1) := by decide +kernel
theorem d_TrustDeskLaw_law_1143 : decode kY_TrustDeskLaw_law.2.1 1143 = .ok (.iload 4, 2) := by decide +kernel
theorem d_TrustDeskLaw_law_1145 : decode kY_TrustDeskLaw_law.2.1 1145 = .ok (.iconst 4, 1) := by decide +kernel
theorem d_TrustDeskLaw_law_1146 : decode kY_TrustDeskLaw_law.2.1 1146 = .ok (.iadd, 1) := by decide +kernel
theorem d_TrustDeskLaw_law_1147 : decode kY_TrustDeskLaw_law.2.1 1147 = .ok (.iaload, 1) := by decide +kernel
theorem d_TrustDeskLaw_law_1148 : decode kY_TrustDeskLaw_law.2.1 1148 = .ok (.invokevirtual 126, 3) := by decide +kernel
theorem lV_TrustDeskLaw_126 : mj_lV "TrustDeskLaw" 126 kY_TrustDesk_why 4 := ⟨⟨(mj_in1 (List.mem_of_getElem? (i := 1199) (by decide +kernel)) rfl), (mj_in1 (List.mem_of_getElem? (i := 1) (by decide +kernel)) rfl), (mj_in1 (List.mem_of_getElem? (i := 1202) (by decide +kernel)) rfl), by decide, rfl, by decide⟩, (mj_in1 (List.mem_of_getElem? (i := 1200) (by decide +kernel)) rfl), (mj_in1 (List.mem_of_getElem? (i := 1201) (by decide +kernel)) rfl)⟩
theorem d_TrustDeskLaw_law_1151 : decode kY_TrustDeskLaw_law.2.1 1151 = .ok (.pop, 1) := by decide +kernel
theorem d_TrustDeskLaw_law_1152 : decode kY_TrustDeskLaw_law.2.1 1152 = .ok (.aload_n 2, 1) := by decide +kernel
theorem d_TrustDeskLaw_law_1153 : decode kY_TrustDeskLaw_law.2.1 1153 = .ok (.aload_n 0, 1) := by decide +kernel
theorem d_TrustDeskLaw_law_1154 : decode kY_TrustDeskLaw_law.2.1 1154 = .ok (.iload 4, 2) := by decide +kernel
theorem d_TrustDeskLaw_law_1156 : decode kY_TrustDeskLaw_law.2.1 1156 = .ok (.iconst 1, 1) := by decide +kernel
theorem d_TrustDeskLaw_law_1157 : decode kY_TrustDeskLaw_law.2.1 1157 = .ok (.iadd, 1) := by decide +kernel
theorem d_TrustDeskLaw_law_1158 : decode kY_TrustDeskLaw_law.2.1 1158 = .ok (.iaload, 1) := by decide +kernel
theorem d_TrustDeskLaw_law_1159 : decode kY_TrustDeskLaw_law.2.1 1159 = .ok (.aload_n 0, 1) := by decide +kernel
theorem d_TrustDeskLaw_law_1160 : decode kY_TrustDeskLaw_law.2.1 1160 = .ok (.iload 4, 2) := by decide +kernel
theorem d_TrustDeskLaw_law_1162 : decode kY_TrustDeskLaw_law.2.1 1162 = .ok (.iconst 2, 1) := by decide +kernel
theorem d_TrustDeskLaw_law_1163 : decode kY_TrustDeskLaw_law.2.1 1163 = .ok (.iadd, 1) := by decide +kernel
theorem d_TrustDeskLaw_law_1164 : decode kY_TrustDeskLaw_law.2.1 1164 = .ok (.iaload, 1) := by decide +kernel
theorem d_TrustDeskLaw_law_1165 : decode kY_TrustDeskLaw_law.2.1 1165 = .ok (.aload_n 0, 1) := by decide +kernel
theorem d_TrustDeskLaw_law_1166 : decode kY_TrustDeskLaw_law.2.1 1166 = .ok (.iload 4, 2) := by decide +kernel
theorem d_TrustDeskLaw_law_1168 : decode kY_TrustDeskLaw_law.2.1 1168 = .ok (.iconst 3, 1) := by decide +kernel
theorem d_TrustDeskLaw_law_1169 : decode kY_TrustDeskLaw_law.2.1 1169 = .ok (.iadd, 1) := by decide +kernel
theorem d_TrustDeskLaw_law_1170 : decode kY_TrustDeskLaw_law.2.1 1170 = .ok (.iaload, 1) := by decide +kernel
theorem d_TrustDeskLaw_law_1171 : decode kY_TrustDeskLaw_law.2.1 1171 = .ok (.aload_n 0, 1) := by decide +kernel
theorem d_TrustDeskLaw_law_1172 : decode kY_TrustDeskLaw_law.2.1 1172 = .ok (.iload 4, 2) := by decide +kernel
theorem d_TrustDeskLaw_law_1174 : decode kY_TrustDeskLaw_law.2.1 1174 = .ok (.iconst 4, 1) := by decide +kernel
theorem d_TrustDeskLaw_law_1175 : decode kY_TrustDeskLaw_law.2.1 1175 = .ok (.iadd, 1) := by decide +kernel
theorem d_TrustDeskLaw_law_1176 : decode kY_TrustDeskLaw_law.2.1 1176 = .ok (.iaload, 1) := by decide +kernel
theorem d_TrustDeskLaw_law_1177 : decode kY_TrustDeskLaw_law.2.1 1177 = .ok (.invokevirtual 129, 3) := by decide +kernel
theorem lV_TrustDeskLaw_129 : mj_lV "TrustDeskLaw" 129 kY_TrustDeskModel_why 4 := ⟨⟨(mj_in1 (List.mem_of_getElem? (i := 1872) (by decide +kernel)) rfl), (mj_in1 (List.mem_of_getElem? (i := 10) (by decide +kernel)) rfl), (mj_in1 (List.mem_of_getElem? (i := 1875) (by decide +kernel)) rfl), by decide, rfl, by decide⟩, (mj_in1 (List.mem_of_getElem? (i := 1873) (by decide +kernel)) rfl), (mj_in1 (List.mem_of_getElem? (i := 1874) (by decide +kernel)) rfl)⟩
theorem d_TrustDeskLaw_law_1180 : decode kY_TrustDeskLaw_law.2.1 1180 = .ok (.pop, 1) := by decide +kernel
theorem d_TrustDeskLaw_law_1181 : decode kY_TrustDeskLaw_law.2.1 1181 = .ok (.goto 300, 3) := by decide +kernel
set_option maxHeartbeats 4000000 in
theorem lx_case_24 {g : mj_G} {l : Launch} {d n Lf kc ks : Nat} {T : tm_H} {M : mj_M} {i t : Int32} (hlt : l.stackTraces = false) (h0 : 0 ≤ i.toInt) (hi : i.toInt + 6 ≤ (mj_L g : Int)) (hL : mj_L g ≤ 3072) (LI : lx_I T M n Lf t t) (k0 : lx_K T M n t) (kk : ∀ (T1 : tm_H) (M1 : mj_M) (n1 : Nat) (t1 : Int32), lx_I T1 M1 n1 Lf t1 t1 → lx_K T1 M1 n1 t1 → mj_V g l kY_TrustDeskLaw_law (d + 28) 1481 (lx_lv i) [] M1 n1 kc ks lx_Q) : mj_V g l kY_TrustDeskLaw_law (d + 28) 1123 (lx_lv i) [] M n (kc + 1100) (ks + 14000) lx_Q := by
  refine mv_aload_n d_TrustDeskLaw_law_1123 rfl rfl ?_
  refine lx_ld (k := 1) (c := 1) h0 hi hL (by decide) (by decide) d_TrustDeskLaw_law_1124 d_TrustDeskLaw_law_1125 (mv_iconst d_TrustDeskLaw_law_1127 (by decide)) d_TrustDeskLaw_law_1128 d_TrustDeskLaw_law_1129 ?_
  refine lx_ld (k := 2) (c := 2) h0 hi hL (by decide) (by decide) d_TrustDeskLaw_law_1130 d_TrustDeskLaw_law_1131 (mv_iconst d_TrustDeskLaw_law_1133 (by decide)) d_TrustDeskLaw_law_1134 d_TrustDeskLaw_law_1135 ?_
  refine lx_ld (k := 3) (c := 3) h0 hi hL (by decide) (by decide) d_TrustDeskLaw_law_1136 d_TrustDeskLaw_law_1137 (mv_iconst d_TrustDeskLaw_law_1139 (by decide)) d_TrustDeskLaw_law_1140 d_TrustDeskLaw_law_1141 ?_
  refine lx_ld (k := 4) (c := 4) h0 hi hL (by decide) (by decide) d_TrustDeskLaw_law_1142 d_TrustDeskLaw_law_1143 (mv_iconst d_TrustDeskLaw_law_1145 (by decide)) d_TrustDeskLaw_law_1146 d_TrustDeskLaw_law_1147 ?_
  obtain ⟨_, b2, -⟩ := LI.1.1 _ _ LI.2.1
  refine mv_callV (kc' := kc + 1100) (ks' := ks + 14000) (As := [.int (mj_xs g (i.toNatClampNeg + 1)), .int (mj_xs g (i.toNatClampNeg + 2)), .int (mj_xs g (i.toNatClampNeg + 3)), .int (mj_xs g (i.toNatClampNeg + 4))]) (st9 := [.int (mj_xs g (i.toNatClampNeg + 4)), .int (mj_xs g (i.toNatClampNeg + 3)), .int (mj_xs g (i.toNatClampNeg + 2)), .int (mj_xs g (i.toNatClampNeg + 1)), .ref 64]) d_TrustDeskLaw_law_1148 lV_TrustDeskLaw_126 b2 rfl (tc_TrustDesk_why (d := d + 22) (x9 := 0) (o0 := 64) (x1 := (mj_xs g (i.toNatClampNeg + 1))) (x2 := (mj_xs g (i.toNatClampNeg + 2))) (x3 := (mj_xs g (i.toNatClampNeg + 3))) (x4 := (mj_xs g (i.toNatClampNeg + 4))) LI.2.1 LI.1.start) rfl (Nat.le_of_ble_eq_true rfl) (by omega) (by omega) (hst := rfl) (fun r3 M4 n5 h6 => ?_)
  obtain ⟨T7, J8, v9, rfl⟩ := h6
  have LI10 := LI.desk J8 (lx_ok (by decide))
  have k1 := lx_Kkeep LI J8 (lx_ok (by decide)) k0
  refine mv_pop d_TrustDeskLaw_law_1151 rfl ?_
  refine mv_aload_n d_TrustDeskLaw_law_1152 rfl rfl ?_
  refine lx_ld (k := 1) (c := 1) h0 hi hL (by decide) (by decide) d_TrustDeskLaw_law_1153 d_TrustDeskLaw_law_1154 (mv_iconst d_TrustDeskLaw_law_1156 (by decide)) d_TrustDeskLaw_law_1157 d_TrustDeskLaw_law_1158 ?_
  refine lx_ld (k := 2) (c := 2) h0 hi hL (by decide) (by decide) d_TrustDeskLaw_law_1159 d_TrustDeskLaw_law_1160 (mv_iconst d_TrustDeskLaw_law_1162 (by decide)) d_TrustDeskLaw_law_1163 d_TrustDeskLaw_law_1164 ?_
  refine lx_ld (k := 3) (c := 3) h0 hi hL (by decide) (by decide) d_TrustDeskLaw_law_1165 d_TrustDeskLaw_law_1166 (mv_iconst d_TrustDeskLaw_law_1168 (by decide)) d_TrustDeskLaw_law_1169 d_TrustDeskLaw_law_1170 ?_
  refine lx_ld (k := 4) (c := 4) h0 hi hL (by decide) (by decide) d_TrustDeskLaw_law_1171 d_TrustDeskLaw_law_1172 (mv_iconst d_TrustDeskLaw_law_1174 (by decide)) d_TrustDeskLaw_law_1175 d_TrustDeskLaw_law_1176 ?_
  obtain ⟨_, b12, -⟩ := LI10.1.1 _ _ LI10.2.2.1
  refine mv_callV (kc' := kc + 1100) (ks' := ks + 14000) (As := [.int (mj_xs g (i.toNatClampNeg + 1)), .int (mj_xs g (i.toNatClampNeg + 2)), .int (mj_xs g (i.toNatClampNeg + 3)), .int (mj_xs g (i.toNatClampNeg + 4))]) (st9 := [.int (mj_xs g (i.toNatClampNeg + 4)), .int (mj_xs g (i.toNatClampNeg + 3)), .int (mj_xs g (i.toNatClampNeg + 2)), .int (mj_xs g (i.toNatClampNeg + 1)), .ref 99]) d_TrustDeskLaw_law_1177 lV_TrustDeskLaw_129 b12 rfl (tc_TrustDeskModel_why_x (d := d + 24) (x9 := 0) (o0 := 99) (x1 := (mj_xs g (i.toNatClampNeg + 1))) (x2 := (mj_xs g (i.toNatClampNeg + 2))) (x3 := (mj_xs g (i.toNatClampNeg + 3))) (x4 := (mj_xs g (i.toNatClampNeg + 4))) LI10.2.2.1 LI10.2.2.2.2.2.2.2.2.2.1 LI10.2.2.2.2.2.2.2.2.2.2.1 LI10.1.start) rfl (Nat.le_of_ble_eq_true rfl) (by omega) (by omega) (hst := rfl) (fun r13 M14 n15 h16 => ?_)
  obtain ⟨T17, J18, v19, rfl, R21⟩ := h16
  have LI20 := LI10.ref J18 (lx_ok (by decide)) (J18.keep LI10.2.2.1 rfl LI10.2.2.2.2.2.2.2.1) R21 (LI10.2.2.2.2.2.2.2.2.2.2.1.same (sA_c LI10.1 J18 LI10.2.2.1 (by decide +kernel)) (sF_c LI10.1 J18 LI10.2.2.1 (by decide +kernel))) (LI10.2.2.2.2.2.2.2.2.2.2.2.1.same (sA_c LI10.1 J18 LI10.2.2.1 (by decide +kernel)) (sF_c LI10.1 J18 LI10.2.2.1 (by decide +kernel))) (LI10.2.2.2.2.2.2.2.2.2.2.2.2.1.same (sA_c LI10.1 J18 LI10.2.2.1 (by decide +kernel)) (sF_c LI10.1 J18 LI10.2.2.1 (by decide +kernel))) (LI10.2.2.2.2.2.2.2.2.2.2.2.2.2.same (sA_c LI10.1 J18 LI10.2.2.1 (by decide +kernel)) (sF_c LI10.1 J18 LI10.2.2.1 (by decide +kernel)))
  have k11 := lx_Kkeep LI10 J18 (lx_ok (by decide)) k1
  refine mv_pop d_TrustDeskLaw_law_1180 rfl ?_
  refine mv_goto (tgt := 1481) d_TrustDeskLaw_law_1181 (by decide) ?_
  exact mv_less (by omega) (by omega) (kk _ _ _ _ LI20 k11)
theorem d_TrustDeskLaw_law_1184 : decode kY_TrustDeskLaw_law.2.1 1184 = .ok (.aload_n 1, 1) := by decide +kernel
theorem d_TrustDeskLaw_law_1185 : decode kY_TrustDeskLaw_law.2.1 1185 = .ok (.aload_n 0, 1) := by decide +kernel
theorem d_TrustDeskLaw_law_1186 : decode kY_TrustDeskLaw_law.2.1 1186 = .ok (.iload 4, 2) := by decide +kernel
theorem d_TrustDeskLaw_law_1188 : decode kY_TrustDeskLaw_law.2.1 1188 = .ok (.iconst 1, 1) := by decide +kernel
theorem d_TrustDeskLaw_law_1189 : decode kY_TrustDeskLaw_law.2.1 1189 = .ok (.iadd, 1) := by decide +kernel
theorem d_TrustDeskLaw_law_1190 : decode kY_TrustDeskLaw_law.2.1 1190 = .ok (.iaload, 1) := by decide +kernel
theorem d_TrustDeskLaw_law_1191 : decode kY_TrustDeskLaw_law.2.1 1191 = .ok (.aload_n 0, 1) := by decide +kernel
theorem d_TrustDeskLaw_law_1192 : decode kY_TrustDeskLaw_law.2.1 1192 = .ok (.iload 4, 2) := by decide +kernel
theorem d_TrustDeskLaw_law_1194 : decode kY_TrustDeskLaw_law.2.1 1194 = .ok (.iconst 2, 1) := by decide +kernel
theorem d_TrustDeskLaw_law_1195 : decode kY_TrustDeskLaw_law.2.1 1195 = .ok (.iadd, 1) := by decide +kernel
theorem d_TrustDeskLaw_law_1196 : decode kY_TrustDeskLaw_law.2.1 1196 = .ok (.iaload, 1) := by decide +kernel
theorem d_TrustDeskLaw_law_1197 : decode kY_TrustDeskLaw_law.2.1 1197 = .ok (.invokevirtual 130, 3) := by decide +kernel
theorem lV_TrustDeskLaw_130 : mj_lV "TrustDeskLaw" 130 kY_TrustDesk_entry 2 := ⟨⟨(mj_in1 (List.mem_of_getElem? (i := 1203) (by decide +kernel)) rfl), (mj_in1 (List.mem_of_getElem? (i := 1) (by decide +kernel)) rfl), (mj_in1 (List.mem_of_getElem? (i := 1206) (by decide +kernel)) rfl), by decide, rfl, by decide⟩, (mj_in1 (List.mem_of_getElem? (i := 1204) (by decide +kernel)) rfl), (mj_in1 (List.mem_of_getElem? (i := 1205) (by decide +kernel)) rfl)⟩
theorem d_TrustDeskLaw_law_1200 : decode kY_TrustDeskLaw_law.2.1 1200 = .ok (.pop, 1) := by decide +kernel
theorem d_TrustDeskLaw_law_1201 : decode kY_TrustDeskLaw_law.2.1 1201 = .ok (.aload_n 2, 1) := by decide +kernel
theorem d_TrustDeskLaw_law_1202 : decode kY_TrustDeskLaw_law.2.1 1202 = .ok (.aload_n 0, 1) := by decide +kernel
theorem d_TrustDeskLaw_law_1203 : decode kY_TrustDeskLaw_law.2.1 1203 = .ok (.iload 4, 2) := by decide +kernel
theorem d_TrustDeskLaw_law_1205 : decode kY_TrustDeskLaw_law.2.1 1205 = .ok (.iconst 1, 1) := by decide +kernel
theorem d_TrustDeskLaw_law_1206 : decode kY_TrustDeskLaw_law.2.1 1206 = .ok (.iadd, 1) := by decide +kernel
theorem d_TrustDeskLaw_law_1207 : decode kY_TrustDeskLaw_law.2.1 1207 = .ok (.iaload, 1) := by decide +kernel
theorem d_TrustDeskLaw_law_1208 : decode kY_TrustDeskLaw_law.2.1 1208 = .ok (.aload_n 0, 1) := by decide +kernel
theorem d_TrustDeskLaw_law_1209 : decode kY_TrustDeskLaw_law.2.1 1209 = .ok (.iload 4, 2) := by decide +kernel
theorem d_TrustDeskLaw_law_1211 : decode kY_TrustDeskLaw_law.2.1 1211 = .ok (.iconst 2, 1) := by decide +kernel
theorem d_TrustDeskLaw_law_1212 : decode kY_TrustDeskLaw_law.2.1 1212 = .ok (.iadd, 1) := by decide +kernel
theorem d_TrustDeskLaw_law_1213 : decode kY_TrustDeskLaw_law.2.1 1213 = .ok (.iaload, 1) := by decide +kernel
theorem d_TrustDeskLaw_law_1214 : decode kY_TrustDeskLaw_law.2.1 1214 = .ok (.invokevirtual 133, 3) := by decide +kernel
theorem lV_TrustDeskLaw_133 : mj_lV "TrustDeskLaw" 133 kY_TrustDeskModel_entry 2 := ⟨⟨(mj_in1 (List.mem_of_getElem? (i := 2078) (by decide +kernel)) rfl), (mj_in1 (List.mem_of_getElem? (i := 10) (by decide +kernel)) rfl), (mj_in1 (List.mem_of_getElem? (i := 2081) (by decide +kernel)) rfl), by decide, rfl, by decide⟩, (mj_in1 (List.mem_of_getElem? (i := 2079) (by decide +kernel)) rfl), (mj_in1 (List.mem_of_getElem? (i := 2080) (by decide +kernel)) rfl)⟩
theorem d_TrustDeskLaw_law_1217 : decode kY_TrustDeskLaw_law.2.1 1217 = .ok (.pop, 1) := by decide +kernel
theorem d_TrustDeskLaw_law_1218 : decode kY_TrustDeskLaw_law.2.1 1218 = .ok (.goto 263, 3) := by decide +kernel
set_option maxHeartbeats 4000000 in
theorem lx_case_25 {g : mj_G} {l : Launch} {d n Lf kc ks : Nat} {T : tm_H} {M : mj_M} {i t : Int32} (hlt : l.stackTraces = false) (h0 : 0 ≤ i.toInt) (hi : i.toInt + 6 ≤ (mj_L g : Int)) (hL : mj_L g ≤ 3072) (LI : lx_I T M n Lf t t) (k0 : lx_K T M n t) (kk : ∀ (T1 : tm_H) (M1 : mj_M) (n1 : Nat) (t1 : Int32), lx_I T1 M1 n1 Lf t1 t1 → lx_K T1 M1 n1 t1 → mj_V g l kY_TrustDeskLaw_law (d + 28) 1481 (lx_lv i) [] M1 n1 kc ks lx_Q) : mj_V g l kY_TrustDeskLaw_law (d + 28) 1184 (lx_lv i) [] M n (kc + 1100) (ks + 14000) lx_Q := by
  refine mv_aload_n d_TrustDeskLaw_law_1184 rfl rfl ?_
  refine lx_ld (k := 1) (c := 1) h0 hi hL (by decide) (by decide) d_TrustDeskLaw_law_1185 d_TrustDeskLaw_law_1186 (mv_iconst d_TrustDeskLaw_law_1188 (by decide)) d_TrustDeskLaw_law_1189 d_TrustDeskLaw_law_1190 ?_
  refine lx_ld (k := 2) (c := 2) h0 hi hL (by decide) (by decide) d_TrustDeskLaw_law_1191 d_TrustDeskLaw_law_1192 (mv_iconst d_TrustDeskLaw_law_1194 (by decide)) d_TrustDeskLaw_law_1195 d_TrustDeskLaw_law_1196 ?_
  obtain ⟨_, b2, -⟩ := LI.1.1 _ _ LI.2.1
  refine mv_callV (kc' := kc + 1100) (ks' := ks + 14000) (As := [.int (mj_xs g (i.toNatClampNeg + 1)), .int (mj_xs g (i.toNatClampNeg + 2))]) (st9 := [.int (mj_xs g (i.toNatClampNeg + 2)), .int (mj_xs g (i.toNatClampNeg + 1)), .ref 64]) d_TrustDeskLaw_law_1197 lV_TrustDeskLaw_130 b2 rfl (tc_TrustDesk_entry (d := d + 27) (x9 := 0) (o0 := 64) (x1 := (mj_xs g (i.toNatClampNeg + 1))) (x2 := (mj_xs g (i.toNatClampNeg + 2))) LI.2.1 LI.1.start) rfl (Nat.le_of_ble_eq_true rfl) (by omega) (by omega) (hst := rfl) (fun r3 M4 n5 h6 => ?_)
  obtain ⟨T7, J8, v9, rfl⟩ := h6
  have LI10 := LI.desk J8 (lx_ok (by decide))
  have k1 := lx_Kkeep LI J8 (lx_ok (by decide)) k0
  refine mv_pop d_TrustDeskLaw_law_1200 rfl ?_
  refine mv_aload_n d_TrustDeskLaw_law_1201 rfl rfl ?_
  refine lx_ld (k := 1) (c := 1) h0 hi hL (by decide) (by decide) d_TrustDeskLaw_law_1202 d_TrustDeskLaw_law_1203 (mv_iconst d_TrustDeskLaw_law_1205 (by decide)) d_TrustDeskLaw_law_1206 d_TrustDeskLaw_law_1207 ?_
  refine lx_ld (k := 2) (c := 2) h0 hi hL (by decide) (by decide) d_TrustDeskLaw_law_1208 d_TrustDeskLaw_law_1209 (mv_iconst d_TrustDeskLaw_law_1211 (by decide)) d_TrustDeskLaw_law_1212 d_TrustDeskLaw_law_1213 ?_
  obtain ⟨_, b12, -⟩ := LI10.1.1 _ _ LI10.2.2.1
  refine mv_callV (kc' := kc + 1100) (ks' := ks + 14000) (As := [.int (mj_xs g (i.toNatClampNeg + 1)), .int (mj_xs g (i.toNatClampNeg + 2))]) (st9 := [.int (mj_xs g (i.toNatClampNeg + 2)), .int (mj_xs g (i.toNatClampNeg + 1)), .ref 99]) d_TrustDeskLaw_law_1214 lV_TrustDeskLaw_133 b12 rfl (tc_TrustDeskModel_entry_x (d := d + 26) (x9 := 0) (o0 := 99) (x1 := (mj_xs g (i.toNatClampNeg + 1))) (x2 := (mj_xs g (i.toNatClampNeg + 2))) LI10.2.2.1 LI10.2.2.2.2.2.2.2.2.2.1 LI10.1.start) rfl (Nat.le_of_ble_eq_true rfl) (by omega) (by omega) (hst := rfl) (fun r13 M14 n15 h16 => ?_)
  obtain ⟨T17, J18, v19, rfl, R21⟩ := h16
  have LI20 := LI10.ref J18 (lx_ok (by decide)) (J18.keep LI10.2.2.1 rfl LI10.2.2.2.2.2.2.2.1) R21 (LI10.2.2.2.2.2.2.2.2.2.2.1.same (sA_c LI10.1 J18 LI10.2.2.1 (by decide +kernel)) (sF_c LI10.1 J18 LI10.2.2.1 (by decide +kernel))) (LI10.2.2.2.2.2.2.2.2.2.2.2.1.same (sA_c LI10.1 J18 LI10.2.2.1 (by decide +kernel)) (sF_c LI10.1 J18 LI10.2.2.1 (by decide +kernel))) (LI10.2.2.2.2.2.2.2.2.2.2.2.2.1.same (sA_c LI10.1 J18 LI10.2.2.1 (by decide +kernel)) (sF_c LI10.1 J18 LI10.2.2.1 (by decide +kernel))) (LI10.2.2.2.2.2.2.2.2.2.2.2.2.2.same (sA_c LI10.1 J18 LI10.2.2.1 (by decide +kernel)) (sF_c LI10.1 J18 LI10.2.2.1 (by decide +kernel)))
  have k11 := lx_Kkeep LI10 J18 (lx_ok (by decide)) k1
  refine mv_pop d_TrustDeskLaw_law_1217 rfl ?_
  refine mv_goto (tgt := 1481) d_TrustDeskLaw_law_1218 (by decide) ?_
  exact mv_less (by omega) (by omega) (kk _ _ _ _ LI20 k11)
theorem d_TrustDeskLaw_law_1221 : decode kY_TrustDeskLaw_law.2.1 1221 = .ok (.aload_n 1, 1) := by decide +kernel
theorem d_TrustDeskLaw_law_1222 : decode kY_TrustDeskLaw_law.2.1 1222 = .ok (.aload_n 0, 1) := by decide +kernel
theorem d_TrustDeskLaw_law_1223 : decode kY_TrustDeskLaw_law.2.1 1223 = .ok (.iload 4, 2) := by decide +kernel
theorem d_TrustDeskLaw_law_1225 : decode kY_TrustDeskLaw_law.2.1 1225 = .ok (.iconst 1, 1) := by decide +kernel
theorem d_TrustDeskLaw_law_1226 : decode kY_TrustDeskLaw_law.2.1 1226 = .ok (.iadd, 1) := by decide +kernel
theorem d_TrustDeskLaw_law_1227 : decode kY_TrustDeskLaw_law.2.1 1227 = .ok (.iaload, 1) := by decide +kernel
theorem d_TrustDeskLaw_law_1228 : decode kY_TrustDeskLaw_law.2.1 1228 = .ok (.invokevirtual 134, 3) := by decide +kernel
theorem lV_TrustDeskLaw_134 : mj_lV "TrustDeskLaw" 134 kY_TrustDesk_nearest 1 := ⟨⟨(mj_in1 (List.mem_of_getElem? (i := 1207) (by decide +kernel)) rfl), (mj_in1 (List.mem_of_getElem? (i := 1) (by decide +kernel)) rfl), (mj_in1 (List.mem_of_getElem? (i := 1210) (by decide +kernel)) rfl), by decide, rfl, by decide⟩, (mj_in1 (List.mem_of_getElem? (i := 1208) (by decide +kernel)) rfl), (mj_in1 (List.mem_of_getElem? (i := 1209) (by decide +kernel)) rfl)⟩
theorem d_TrustDeskLaw_law_1231 : decode kY_TrustDeskLaw_law.2.1 1231 = .ok (.pop, 1) := by decide +kernel
theorem d_TrustDeskLaw_law_1232 : decode kY_TrustDeskLaw_law.2.1 1232 = .ok (.aload_n 2, 1) := by decide +kernel
theorem d_TrustDeskLaw_law_1233 : decode kY_TrustDeskLaw_law.2.1 1233 = .ok (.aload_n 0, 1) := by decide +kernel
theorem d_TrustDeskLaw_law_1234 : decode kY_TrustDeskLaw_law.2.1 1234 = .ok (.iload 4, 2) := by decide +kernel
theorem d_TrustDeskLaw_law_1236 : decode kY_TrustDeskLaw_law.2.1 1236 = .ok (.iconst 1, 1) := by decide +kernel
theorem d_TrustDeskLaw_law_1237 : decode kY_TrustDeskLaw_law.2.1 1237 = .ok (.iadd, 1) := by decide +kernel
theorem d_TrustDeskLaw_law_1238 : decode kY_TrustDeskLaw_law.2.1 1238 = .ok (.iaload, 1) := by decide +kernel
theorem d_TrustDeskLaw_law_1239 : decode kY_TrustDeskLaw_law.2.1 1239 = .ok (.invokevirtual 137, 3) := by decide +kernel
theorem lV_TrustDeskLaw_137 : mj_lV "TrustDeskLaw" 137 kY_TrustDeskModel_nearest 1 := ⟨⟨(mj_in1 (List.mem_of_getElem? (i := 2002) (by decide +kernel)) rfl), (mj_in1 (List.mem_of_getElem? (i := 10) (by decide +kernel)) rfl), (mj_in1 (List.mem_of_getElem? (i := 2005) (by decide +kernel)) rfl), by decide, rfl, by decide⟩, (mj_in1 (List.mem_of_getElem? (i := 2003) (by decide +kernel)) rfl), (mj_in1 (List.mem_of_getElem? (i := 2004) (by decide +kernel)) rfl)⟩
theorem d_TrustDeskLaw_law_1242 : decode kY_TrustDeskLaw_law.2.1 1242 = .ok (.pop, 1) := by decide +kernel
theorem d_TrustDeskLaw_law_1243 : decode kY_TrustDeskLaw_law.2.1 1243 = .ok (.goto 238, 3) := by decide +kernel
set_option maxHeartbeats 4000000 in
theorem lx_case_26 {g : mj_G} {l : Launch} {d n Lf kc ks : Nat} {T : tm_H} {M : mj_M} {i t : Int32} (hlt : l.stackTraces = false) (h0 : 0 ≤ i.toInt) (hi : i.toInt + 6 ≤ (mj_L g : Int)) (hL : mj_L g ≤ 3072) (LI : lx_I T M n Lf t t) (k0 : lx_K T M n t) (kk : ∀ (T1 : tm_H) (M1 : mj_M) (n1 : Nat) (t1 : Int32), lx_I T1 M1 n1 Lf t1 t1 → lx_K T1 M1 n1 t1 → mj_V g l kY_TrustDeskLaw_law (d + 28) 1481 (lx_lv i) [] M1 n1 kc ks lx_Q) : mj_V g l kY_TrustDeskLaw_law (d + 28) 1221 (lx_lv i) [] M n (kc + 1100) (ks + 14000) lx_Q := by
  refine mv_aload_n d_TrustDeskLaw_law_1221 rfl rfl ?_
  refine lx_ld (k := 1) (c := 1) h0 hi hL (by decide) (by decide) d_TrustDeskLaw_law_1222 d_TrustDeskLaw_law_1223 (mv_iconst d_TrustDeskLaw_law_1225 (by decide)) d_TrustDeskLaw_law_1226 d_TrustDeskLaw_law_1227 ?_
  obtain ⟨_, b2, -⟩ := LI.1.1 _ _ LI.2.1
  refine mv_callV (kc' := kc + 1100) (ks' := ks + 14000) (As := [.int (mj_xs g (i.toNatClampNeg + 1))]) (st9 := [.int (mj_xs g (i.toNatClampNeg + 1)), .ref 64]) d_TrustDeskLaw_law_1228 lV_TrustDeskLaw_134 b2 rfl (tc_TrustDesk_nearest (d := d + 23) (x9 := 0) (o0 := 64) (x1 := (mj_xs g (i.toNatClampNeg + 1))) LI.2.1 LI.1.start) rfl (Nat.le_of_ble_eq_true rfl) (by omega) (by omega) (hst := rfl) (fun r3 M4 n5 h6 => ?_)
  obtain ⟨T7, J8, v9, rfl⟩ := h6
  have LI10 := LI.desk J8 (lx_ok (by decide))
  have k1 := lx_Kkeep LI J8 (lx_ok (by decide)) k0
  refine mv_pop d_TrustDeskLaw_law_1231 rfl ?_
  refine mv_aload_n d_TrustDeskLaw_law_1232 rfl rfl ?_
  refine lx_ld (k := 1) (c := 1) h0 hi hL (by decide) (by decide) d_TrustDeskLaw_law_1233 d_TrustDeskLaw_law_1234 (mv_iconst d_TrustDeskLaw_law_1236 (by decide)) d_TrustDeskLaw_law_1237 d_TrustDeskLaw_law_1238 ?_
  obtain ⟨_, b12, -⟩ := LI10.1.1 _ _ LI10.2.2.1
  refine mv_callV (kc' := kc + 1100) (ks' := ks + 14000) (As := [.int (mj_xs g (i.toNatClampNeg + 1))]) (st9 := [.int (mj_xs g (i.toNatClampNeg + 1)), .ref 99]) d_TrustDeskLaw_law_1239 lV_TrustDeskLaw_137 b12 rfl (tc_TrustDeskModel_nearest_x (d := d + 25) (x9 := 0) (o0 := 99) (x1 := (mj_xs g (i.toNatClampNeg + 1))) LI10.2.2.1 LI10.2.2.2.2.2.2.2.2.2.1 LI10.2.2.2.2.2.2.2.2.2.2.1.2.2.1 LI10.1.start) rfl (Nat.le_of_ble_eq_true rfl) (by omega) (by omega) (hst := rfl) (fun r13 M14 n15 h16 => ?_)
  obtain ⟨T17, J18, v19, rfl, R21⟩ := h16
  have LI20 := LI10.ref J18 (lx_ok (by decide)) (J18.keep LI10.2.2.1 rfl LI10.2.2.2.2.2.2.2.1) R21 (LI10.2.2.2.2.2.2.2.2.2.2.1.same (sA_c LI10.1 J18 LI10.2.2.1 (by decide +kernel)) (sF_c LI10.1 J18 LI10.2.2.1 (by decide +kernel))) (LI10.2.2.2.2.2.2.2.2.2.2.2.1.same (sA_c LI10.1 J18 LI10.2.2.1 (by decide +kernel)) (sF_c LI10.1 J18 LI10.2.2.1 (by decide +kernel))) (LI10.2.2.2.2.2.2.2.2.2.2.2.2.1.same (sA_c LI10.1 J18 LI10.2.2.1 (by decide +kernel)) (sF_c LI10.1 J18 LI10.2.2.1 (by decide +kernel))) (LI10.2.2.2.2.2.2.2.2.2.2.2.2.2.same (sA_c LI10.1 J18 LI10.2.2.1 (by decide +kernel)) (sF_c LI10.1 J18 LI10.2.2.1 (by decide +kernel)))
  have k11 := lx_Kkeep LI10 J18 (lx_ok (by decide)) k1
  refine mv_pop d_TrustDeskLaw_law_1242 rfl ?_
  refine mv_goto (tgt := 1481) d_TrustDeskLaw_law_1243 (by decide) ?_
  exact mv_less (by omega) (by omega) (kk _ _ _ _ LI20 k11)
theorem d_TrustDeskLaw_law_1246 : decode kY_TrustDeskLaw_law.2.1 1246 = .ok (.aload_n 1, 1) := by decide +kernel
theorem d_TrustDeskLaw_law_1247 : decode kY_TrustDeskLaw_law.2.1 1247 = .ok (.aload_n 0, 1) := by decide +kernel
theorem d_TrustDeskLaw_law_1248 : decode kY_TrustDeskLaw_law.2.1 1248 = .ok (.iload 4, 2) := by decide +kernel
theorem d_TrustDeskLaw_law_1250 : decode kY_TrustDeskLaw_law.2.1 1250 = .ok (.iconst 1, 1) := by decide +kernel
theorem d_TrustDeskLaw_law_1251 : decode kY_TrustDeskLaw_law.2.1 1251 = .ok (.iadd, 1) := by decide +kernel
theorem d_TrustDeskLaw_law_1252 : decode kY_TrustDeskLaw_law.2.1 1252 = .ok (.iaload, 1) := by decide +kernel
theorem d_TrustDeskLaw_law_1253 : decode kY_TrustDeskLaw_law.2.1 1253 = .ok (.aload_n 0, 1) := by decide +kernel
theorem d_TrustDeskLaw_law_1254 : decode kY_TrustDeskLaw_law.2.1 1254 = .ok (.iload 4, 2) := by decide +kernel
theorem d_TrustDeskLaw_law_1256 : decode kY_TrustDeskLaw_law.2.1 1256 = .ok (.iconst 2, 1) := by decide +kernel
theorem d_TrustDeskLaw_law_1257 : decode kY_TrustDeskLaw_law.2.1 1257 = .ok (.iadd, 1) := by decide +kernel
theorem d_TrustDeskLaw_law_1258 : decode kY_TrustDeskLaw_law.2.1 1258 = .ok (.iaload, 1) := by decide +kernel
theorem d_TrustDeskLaw_law_1259 : decode kY_TrustDeskLaw_law.2.1 1259 = .ok (.aload_n 0, 1) := by decide +kernel
theorem d_TrustDeskLaw_law_1260 : decode kY_TrustDeskLaw_law.2.1 1260 = .ok (.iload 4, 2) := by decide +kernel
theorem d_TrustDeskLaw_law_1262 : decode kY_TrustDeskLaw_law.2.1 1262 = .ok (.iconst 3, 1) := by decide +kernel
theorem d_TrustDeskLaw_law_1263 : decode kY_TrustDeskLaw_law.2.1 1263 = .ok (.iadd, 1) := by decide +kernel
theorem d_TrustDeskLaw_law_1264 : decode kY_TrustDeskLaw_law.2.1 1264 = .ok (.iaload, 1) := by decide +kernel
theorem d_TrustDeskLaw_law_1265 : decode kY_TrustDeskLaw_law.2.1 1265 = .ok (.invokevirtual 138, 3) := by decide +kernel
theorem lV_TrustDeskLaw_138 : mj_lV "TrustDeskLaw" 138 kY_TrustDesk_marks 3 := ⟨⟨(mj_in1 (List.mem_of_getElem? (i := 1211) (by decide +kernel)) rfl), (mj_in1 (List.mem_of_getElem? (i := 1) (by decide +kernel)) rfl), (mj_in1 (List.mem_of_getElem? (i := 1214) (by decide +kernel)) rfl), by decide, rfl, by decide⟩, (mj_in1 (List.mem_of_getElem? (i := 1212) (by decide +kernel)) rfl), (mj_in1 (List.mem_of_getElem? (i := 1213) (by decide +kernel)) rfl)⟩
theorem d_TrustDeskLaw_law_1268 : decode kY_TrustDeskLaw_law.2.1 1268 = .ok (.pop, 1) := by decide +kernel
theorem d_TrustDeskLaw_law_1269 : decode kY_TrustDeskLaw_law.2.1 1269 = .ok (.aload_n 2, 1) := by decide +kernel
theorem d_TrustDeskLaw_law_1270 : decode kY_TrustDeskLaw_law.2.1 1270 = .ok (.aload_n 0, 1) := by decide +kernel
theorem d_TrustDeskLaw_law_1271 : decode kY_TrustDeskLaw_law.2.1 1271 = .ok (.iload 4, 2) := by decide +kernel
theorem d_TrustDeskLaw_law_1273 : decode kY_TrustDeskLaw_law.2.1 1273 = .ok (.iconst 1, 1) := by decide +kernel
theorem d_TrustDeskLaw_law_1274 : decode kY_TrustDeskLaw_law.2.1 1274 = .ok (.iadd, 1) := by decide +kernel
theorem d_TrustDeskLaw_law_1275 : decode kY_TrustDeskLaw_law.2.1 1275 = .ok (.iaload, 1) := by decide +kernel
theorem d_TrustDeskLaw_law_1276 : decode kY_TrustDeskLaw_law.2.1 1276 = .ok (.aload_n 0, 1) := by decide +kernel
theorem d_TrustDeskLaw_law_1277 : decode kY_TrustDeskLaw_law.2.1 1277 = .ok (.iload 4, 2) := by decide +kernel
theorem d_TrustDeskLaw_law_1279 : decode kY_TrustDeskLaw_law.2.1 1279 = .ok (.iconst 2, 1) := by decide +kernel
theorem d_TrustDeskLaw_law_1280 : decode kY_TrustDeskLaw_law.2.1 1280 = .ok (.iadd, 1) := by decide +kernel
theorem d_TrustDeskLaw_law_1281 : decode kY_TrustDeskLaw_law.2.1 1281 = .ok (.iaload, 1) := by decide +kernel
theorem d_TrustDeskLaw_law_1282 : decode kY_TrustDeskLaw_law.2.1 1282 = .ok (.aload_n 0, 1) := by decide +kernel
theorem d_TrustDeskLaw_law_1283 : decode kY_TrustDeskLaw_law.2.1 1283 = .ok (.iload 4, 2) := by decide +kernel
theorem d_TrustDeskLaw_law_1285 : decode kY_TrustDeskLaw_law.2.1 1285 = .ok (.iconst 3, 1) := by decide +kernel
theorem d_TrustDeskLaw_law_1286 : decode kY_TrustDeskLaw_law.2.1 1286 = .ok (.iadd, 1) := by decide +kernel
theorem d_TrustDeskLaw_law_1287 : decode kY_TrustDeskLaw_law.2.1 1287 = .ok (.iaload, 1) := by decide +kernel
theorem d_TrustDeskLaw_law_1288 : decode kY_TrustDeskLaw_law.2.1 1288 = .ok (.invokevirtual 141, 3) := by decide +kernel
theorem lV_TrustDeskLaw_141 : mj_lV "TrustDeskLaw" 141 kY_TrustDeskModel_marks 3 := ⟨⟨(mj_in1 (List.mem_of_getElem? (i := 2006) (by decide +kernel)) rfl), (mj_in1 (List.mem_of_getElem? (i := 10) (by decide +kernel)) rfl), (mj_in1 (List.mem_of_getElem? (i := 2009) (by decide +kernel)) rfl), by decide, rfl, by decide⟩, (mj_in1 (List.mem_of_getElem? (i := 2007) (by decide +kernel)) rfl), (mj_in1 (List.mem_of_getElem? (i := 2008) (by decide +kernel)) rfl)⟩
theorem d_TrustDeskLaw_law_1291 : decode kY_TrustDeskLaw_law.2.1 1291 = .ok (.pop, 1) := by decide +kernel
theorem d_TrustDeskLaw_law_1292 : decode kY_TrustDeskLaw_law.2.1 1292 = .ok (.goto 189, 3) := by decide +kernel
set_option maxHeartbeats 4000000 in
theorem lx_case_27 {g : mj_G} {l : Launch} {d n Lf kc ks : Nat} {T : tm_H} {M : mj_M} {i t : Int32} (hlt : l.stackTraces = false) (h0 : 0 ≤ i.toInt) (hi : i.toInt + 6 ≤ (mj_L g : Int)) (hL : mj_L g ≤ 3072) (LI : lx_I T M n Lf t t) (k0 : lx_K T M n t) (kk : ∀ (T1 : tm_H) (M1 : mj_M) (n1 : Nat) (t1 : Int32), lx_I T1 M1 n1 Lf t1 t1 → lx_K T1 M1 n1 t1 → mj_V g l kY_TrustDeskLaw_law (d + 28) 1481 (lx_lv i) [] M1 n1 kc ks lx_Q) : mj_V g l kY_TrustDeskLaw_law (d + 28) 1246 (lx_lv i) [] M n (kc + 1100) (ks + 14000) lx_Q := by
  refine mv_aload_n d_TrustDeskLaw_law_1246 rfl rfl ?_
  refine lx_ld (k := 1) (c := 1) h0 hi hL (by decide) (by decide) d_TrustDeskLaw_law_1247 d_TrustDeskLaw_law_1248 (mv_iconst d_TrustDeskLaw_law_1250 (by decide)) d_TrustDeskLaw_law_1251 d_TrustDeskLaw_law_1252 ?_
  refine lx_ld (k := 2) (c := 2) h0 hi hL (by decide) (by decide) d_TrustDeskLaw_law_1253 d_TrustDeskLaw_law_1254 (mv_iconst d_TrustDeskLaw_law_1256 (by decide)) d_TrustDeskLaw_law_1257 d_TrustDeskLaw_law_1258 ?_
  refine lx_ld (k := 3) (c := 3) h0 hi hL (by decide) (by decide) d_TrustDeskLaw_law_1259 d_TrustDeskLaw_law_1260 (mv_iconst d_TrustDeskLaw_law_1262 (by decide)) d_TrustDeskLaw_law_1263 d_TrustDeskLaw_law_1264 ?_
  obtain ⟨_, b2, -⟩ := LI.1.1 _ _ LI.2.1
  refine mv_callV (kc' := kc + 1100) (ks' := ks + 14000) (As := [.int (mj_xs g (i.toNatClampNeg + 1)), .int (mj_xs g (i.toNatClampNeg + 2)), .int (mj_xs g (i.toNatClampNeg + 3))]) (st9 := [.int (mj_xs g (i.toNatClampNeg + 3)), .int (mj_xs g (i.toNatClampNeg + 2)), .int (mj_xs g (i.toNatClampNeg + 1)), .ref 64]) d_TrustDeskLaw_law_1265 lV_TrustDeskLaw_138 b2 rfl (tc_TrustDesk_marks (d := d + 23) (x9 := 0) (o0 := 64) (x1 := (mj_xs g (i.toNatClampNeg + 1))) (x2 := (mj_xs g (i.toNatClampNeg + 2))) (x3 := (mj_xs g (i.toNatClampNeg + 3))) LI.2.1 LI.1.start) rfl (Nat.le_of_ble_eq_true rfl) (by omega) (by omega) (hst := rfl) (fun r3 M4 n5 h6 => ?_)
  obtain ⟨T7, J8, v9, rfl⟩ := h6
  have LI10 := LI.desk J8 (lx_ok (by decide))
  have k1 := lx_Kkeep LI J8 (lx_ok (by decide)) k0
  refine mv_pop d_TrustDeskLaw_law_1268 rfl ?_
  refine mv_aload_n d_TrustDeskLaw_law_1269 rfl rfl ?_
  refine lx_ld (k := 1) (c := 1) h0 hi hL (by decide) (by decide) d_TrustDeskLaw_law_1270 d_TrustDeskLaw_law_1271 (mv_iconst d_TrustDeskLaw_law_1273 (by decide)) d_TrustDeskLaw_law_1274 d_TrustDeskLaw_law_1275 ?_
  refine lx_ld (k := 2) (c := 2) h0 hi hL (by decide) (by decide) d_TrustDeskLaw_law_1276 d_TrustDeskLaw_law_1277 (mv_iconst d_TrustDeskLaw_law_1279 (by decide)) d_TrustDeskLaw_law_1280 d_TrustDeskLaw_law_1281 ?_
  refine lx_ld (k := 3) (c := 3) h0 hi hL (by decide) (by decide) d_TrustDeskLaw_law_1282 d_TrustDeskLaw_law_1283 (mv_iconst d_TrustDeskLaw_law_1285 (by decide)) d_TrustDeskLaw_law_1286 d_TrustDeskLaw_law_1287 ?_
  obtain ⟨_, b12, -⟩ := LI10.1.1 _ _ LI10.2.2.1
  refine mv_callV (kc' := kc + 1100) (ks' := ks + 14000) (As := [.int (mj_xs g (i.toNatClampNeg + 1)), .int (mj_xs g (i.toNatClampNeg + 2)), .int (mj_xs g (i.toNatClampNeg + 3))]) (st9 := [.int (mj_xs g (i.toNatClampNeg + 3)), .int (mj_xs g (i.toNatClampNeg + 2)), .int (mj_xs g (i.toNatClampNeg + 1)), .ref 99]) d_TrustDeskLaw_law_1288 lV_TrustDeskLaw_141 b12 rfl (tc_TrustDeskModel_marks_x (d := d + 26) (x9 := 0) (o0 := 99) (x1 := (mj_xs g (i.toNatClampNeg + 1))) (x2 := (mj_xs g (i.toNatClampNeg + 2))) (x3 := (mj_xs g (i.toNatClampNeg + 3))) LI10.2.2.1 LI10.2.2.2.2.2.2.2.2.2.1 LI10.1.start) rfl (Nat.le_of_ble_eq_true rfl) (by omega) (by omega) (hst := rfl) (fun r13 M14 n15 h16 => ?_)
  obtain ⟨T17, J18, v19, rfl, R21⟩ := h16
  have LI20 := LI10.ref J18 (lx_ok (by decide)) (J18.keep LI10.2.2.1 rfl LI10.2.2.2.2.2.2.2.1) R21 (LI10.2.2.2.2.2.2.2.2.2.2.1.same (sA_c LI10.1 J18 LI10.2.2.1 (by decide +kernel)) (sF_c LI10.1 J18 LI10.2.2.1 (by decide +kernel))) (LI10.2.2.2.2.2.2.2.2.2.2.2.1.same (sA_c LI10.1 J18 LI10.2.2.1 (by decide +kernel)) (sF_c LI10.1 J18 LI10.2.2.1 (by decide +kernel))) (LI10.2.2.2.2.2.2.2.2.2.2.2.2.1.same (sA_c LI10.1 J18 LI10.2.2.1 (by decide +kernel)) (sF_c LI10.1 J18 LI10.2.2.1 (by decide +kernel))) (LI10.2.2.2.2.2.2.2.2.2.2.2.2.2.same (sA_c LI10.1 J18 LI10.2.2.1 (by decide +kernel)) (sF_c LI10.1 J18 LI10.2.2.1 (by decide +kernel)))
  have k11 := lx_Kkeep LI10 J18 (lx_ok (by decide)) k1
  refine mv_pop d_TrustDeskLaw_law_1291 rfl ?_
  refine mv_goto (tgt := 1481) d_TrustDeskLaw_law_1292 (by decide) ?_
  exact mv_less (by omega) (by omega) (kk _ _ _ _ LI20 k11)
theorem d_TrustDeskLaw_law_1295 : decode kY_TrustDeskLaw_law.2.1 1295 = .ok (.aload_n 1, 1) := by decide +kernel
theorem d_TrustDeskLaw_law_1296 : decode kY_TrustDeskLaw_law.2.1 1296 = .ok (.aload_n 0, 1) := by decide +kernel
theorem d_TrustDeskLaw_law_1297 : decode kY_TrustDeskLaw_law.2.1 1297 = .ok (.iload 4, 2) := by decide +kernel
theorem d_TrustDeskLaw_law_1299 : decode kY_TrustDeskLaw_law.2.1 1299 = .ok (.iconst 1, 1) := by decide +kernel
theorem d_TrustDeskLaw_law_1300 : decode kY_TrustDeskLaw_law.2.1 1300 = .ok (.iadd, 1) := by decide +kernel
theorem d_TrustDeskLaw_law_1301 : decode kY_TrustDeskLaw_law.2.1 1301 = .ok (.iaload, 1) := by decide +kernel
theorem d_TrustDeskLaw_law_1302 : decode kY_TrustDeskLaw_law.2.1 1302 = .ok (.invokevirtual 142, 3) := by decide +kernel
theorem lV_TrustDeskLaw_142 : mj_lV "TrustDeskLaw" 142 kY_TrustDesk_group 1 := ⟨⟨(mj_in1 (List.mem_of_getElem? (i := 1215) (by decide +kernel)) rfl), (mj_in1 (List.mem_of_getElem? (i := 1) (by decide +kernel)) rfl), (mj_in1 (List.mem_of_getElem? (i := 1218) (by decide +kernel)) rfl), by decide, rfl, by decide⟩, (mj_in1 (List.mem_of_getElem? (i := 1216) (by decide +kernel)) rfl), (mj_in1 (List.mem_of_getElem? (i := 1217) (by decide +kernel)) rfl)⟩
theorem d_TrustDeskLaw_law_1305 : decode kY_TrustDeskLaw_law.2.1 1305 = .ok (.pop2, 1) := by decide +kernel
theorem d_TrustDeskLaw_law_1306 : decode kY_TrustDeskLaw_law.2.1 1306 = .ok (.aload_n 2, 1) := by decide +kernel
theorem d_TrustDeskLaw_law_1307 : decode kY_TrustDeskLaw_law.2.1 1307 = .ok (.aload_n 0, 1) := by decide +kernel
theorem d_TrustDeskLaw_law_1308 : decode kY_TrustDeskLaw_law.2.1 1308 = .ok (.iload 4, 2) := by decide +kernel
theorem d_TrustDeskLaw_law_1310 : decode kY_TrustDeskLaw_law.2.1 1310 = .ok (.iconst 1, 1) := by decide +kernel
theorem d_TrustDeskLaw_law_1311 : decode kY_TrustDeskLaw_law.2.1 1311 = .ok (.iadd, 1) := by decide +kernel
theorem d_TrustDeskLaw_law_1312 : decode kY_TrustDeskLaw_law.2.1 1312 = .ok (.iaload, 1) := by decide +kernel
theorem d_TrustDeskLaw_law_1313 : decode kY_TrustDeskLaw_law.2.1 1313 = .ok (.invokevirtual 145, 3) := by decide +kernel
theorem lV_TrustDeskLaw_145 : mj_lV "TrustDeskLaw" 145 kY_TrustDeskModel_group 1 := ⟨⟨(mj_in1 (List.mem_of_getElem? (i := 2010) (by decide +kernel)) rfl), (mj_in1 (List.mem_of_getElem? (i := 10) (by decide +kernel)) rfl), (mj_in1 (List.mem_of_getElem? (i := 2013) (by decide +kernel)) rfl), by decide, rfl, by decide⟩, (mj_in1 (List.mem_of_getElem? (i := 2011) (by decide +kernel)) rfl), (mj_in1 (List.mem_of_getElem? (i := 2012) (by decide +kernel)) rfl)⟩
theorem d_TrustDeskLaw_law_1316 : decode kY_TrustDeskLaw_law.2.1 1316 = .ok (.pop2, 1) := by decide +kernel
theorem d_TrustDeskLaw_law_1317 : decode kY_TrustDeskLaw_law.2.1 1317 = .ok (.goto 164, 3) := by decide +kernel
set_option maxHeartbeats 4000000 in
theorem lx_case_28 {g : mj_G} {l : Launch} {d n Lf kc ks : Nat} {T : tm_H} {M : mj_M} {i t : Int32} (hlt : l.stackTraces = false) (h0 : 0 ≤ i.toInt) (hi : i.toInt + 6 ≤ (mj_L g : Int)) (hL : mj_L g ≤ 3072) (LI : lx_I T M n Lf t t) (k0 : lx_K T M n t) (kk : ∀ (T1 : tm_H) (M1 : mj_M) (n1 : Nat) (t1 : Int32), lx_I T1 M1 n1 Lf t1 t1 → lx_K T1 M1 n1 t1 → mj_V g l kY_TrustDeskLaw_law (d + 28) 1481 (lx_lv i) [] M1 n1 kc ks lx_Q) : mj_V g l kY_TrustDeskLaw_law (d + 28) 1295 (lx_lv i) [] M n (kc + 1100) (ks + 14000) lx_Q := by
  refine mv_aload_n d_TrustDeskLaw_law_1295 rfl rfl ?_
  refine lx_ld (k := 1) (c := 1) h0 hi hL (by decide) (by decide) d_TrustDeskLaw_law_1296 d_TrustDeskLaw_law_1297 (mv_iconst d_TrustDeskLaw_law_1299 (by decide)) d_TrustDeskLaw_law_1300 d_TrustDeskLaw_law_1301 ?_
  obtain ⟨_, b2, -⟩ := LI.1.1 _ _ LI.2.1
  refine mv_callV (kc' := kc + 1100) (ks' := ks + 14000) (As := [.int (mj_xs g (i.toNatClampNeg + 1))]) (st9 := [.int (mj_xs g (i.toNatClampNeg + 1)), .ref 64]) d_TrustDeskLaw_law_1302 lV_TrustDeskLaw_142 b2 rfl (tc_TrustDesk_group (d := d + 15) (x9 := 0) (o0 := 64) (x1 := (mj_xs g (i.toNatClampNeg + 1))) LI.2.1 LI.1.start) rfl (Nat.le_of_ble_eq_true rfl) (by omega) (by omega) (hst := rfl) (fun r3 M4 n5 h6 => ?_)
  obtain ⟨T7, J8, v9, rfl⟩ := h6
  have LI10 := LI.desk J8 (lx_ok (by decide))
  have k1 := lx_Kkeep LI J8 (lx_ok (by decide)) k0
  refine mv_pop2_2 d_TrustDeskLaw_law_1305 rfl ?_
  refine mv_aload_n d_TrustDeskLaw_law_1306 rfl rfl ?_
  refine lx_ld (k := 1) (c := 1) h0 hi hL (by decide) (by decide) d_TrustDeskLaw_law_1307 d_TrustDeskLaw_law_1308 (mv_iconst d_TrustDeskLaw_law_1310 (by decide)) d_TrustDeskLaw_law_1311 d_TrustDeskLaw_law_1312 ?_
  obtain ⟨_, b12, -⟩ := LI10.1.1 _ _ LI10.2.2.1
  refine mv_callV (kc' := kc + 1100) (ks' := ks + 14000) (As := [.int (mj_xs g (i.toNatClampNeg + 1))]) (st9 := [.int (mj_xs g (i.toNatClampNeg + 1)), .ref 99]) d_TrustDeskLaw_law_1313 lV_TrustDeskLaw_145 b12 rfl (tc_TrustDeskModel_group_x (d := d + 10) (x9 := 0) (o0 := 99) (x1 := (mj_xs g (i.toNatClampNeg + 1))) LI10.2.2.1 LI10.2.2.2.2.2.2.2.2.2.1 LI10.2.2.2.2.2.2.2.2.2.2.1 LI10.1.start) rfl (Nat.le_of_ble_eq_true rfl) (by omega) (by omega) (hst := rfl) (fun r13 M14 n15 h16 => ?_)
  obtain ⟨T17, J18, v19, rfl, R21⟩ := h16
  have LI20 := LI10.ref J18 (lx_ok (by decide)) (J18.keep LI10.2.2.1 rfl LI10.2.2.2.2.2.2.2.1) R21 (LI10.2.2.2.2.2.2.2.2.2.2.1.same (sA_c LI10.1 J18 LI10.2.2.1 (by decide +kernel)) (sF_c LI10.1 J18 LI10.2.2.1 (by decide +kernel))) (LI10.2.2.2.2.2.2.2.2.2.2.2.1.same (sA_c LI10.1 J18 LI10.2.2.1 (by decide +kernel)) (sF_c LI10.1 J18 LI10.2.2.1 (by decide +kernel))) (LI10.2.2.2.2.2.2.2.2.2.2.2.2.1.same (sA_c LI10.1 J18 LI10.2.2.1 (by decide +kernel)) (sF_c LI10.1 J18 LI10.2.2.1 (by decide +kernel))) (LI10.2.2.2.2.2.2.2.2.2.2.2.2.2.same (sA_c LI10.1 J18 LI10.2.2.1 (by decide +kernel)) (sF_c LI10.1 J18 LI10.2.2.1 (by decide +kernel)))
  have k11 := lx_Kkeep LI10 J18 (lx_ok (by decide)) k1
  refine mv_pop2_2 d_TrustDeskLaw_law_1316 rfl ?_
  refine mv_goto (tgt := 1481) d_TrustDeskLaw_law_1317 (by decide) ?_
  exact mv_less (by omega) (by omega) (kk _ _ _ _ LI20 k11)
theorem d_TrustDeskLaw_law_1320 : decode kY_TrustDeskLaw_law.2.1 1320 = .ok (.aload_n 1, 1) := by decide +kernel
theorem d_TrustDeskLaw_law_1321 : decode kY_TrustDeskLaw_law.2.1 1321 = .ok (.aload_n 0, 1) := by decide +kernel
theorem d_TrustDeskLaw_law_1322 : decode kY_TrustDeskLaw_law.2.1 1322 = .ok (.iload 4, 2) := by decide +kernel
theorem d_TrustDeskLaw_law_1324 : decode kY_TrustDeskLaw_law.2.1 1324 = .ok (.iconst 1, 1) := by decide +kernel
theorem d_TrustDeskLaw_law_1325 : decode kY_TrustDeskLaw_law.2.1 1325 = .ok (.iadd, 1) := by decide +kernel
theorem d_TrustDeskLaw_law_1326 : decode kY_TrustDeskLaw_law.2.1 1326 = .ok (.iaload, 1) := by decide +kernel
theorem d_TrustDeskLaw_law_1327 : decode kY_TrustDeskLaw_law.2.1 1327 = .ok (.aload_n 0, 1) := by decide +kernel
theorem d_TrustDeskLaw_law_1328 : decode kY_TrustDeskLaw_law.2.1 1328 = .ok (.iload 4, 2) := by decide +kernel
theorem d_TrustDeskLaw_law_1330 : decode kY_TrustDeskLaw_law.2.1 1330 = .ok (.iconst 2, 1) := by decide +kernel
theorem d_TrustDeskLaw_law_1331 : decode kY_TrustDeskLaw_law.2.1 1331 = .ok (.iadd, 1) := by decide +kernel
theorem d_TrustDeskLaw_law_1332 : decode kY_TrustDeskLaw_law.2.1 1332 = .ok (.iaload, 1) := by decide +kernel
theorem d_TrustDeskLaw_law_1333 : decode kY_TrustDeskLaw_law.2.1 1333 = .ok (.invokevirtual 146, 3) := by decide +kernel
theorem lV_TrustDeskLaw_146 : mj_lV "TrustDeskLaw" 146 kY_TrustDesk_grouped 2 := ⟨⟨(mj_in1 (List.mem_of_getElem? (i := 1265) (by decide +kernel)) rfl), (mj_in1 (List.mem_of_getElem? (i := 1) (by decide +kernel)) rfl), (mj_in1 (List.mem_of_getElem? (i := 1268) (by decide +kernel)) rfl), by decide, rfl, by decide⟩, (mj_in1 (List.mem_of_getElem? (i := 1266) (by decide +kernel)) rfl), (mj_in1 (List.mem_of_getElem? (i := 1267) (by decide +kernel)) rfl)⟩
theorem d_TrustDeskLaw_law_1336 : decode kY_TrustDeskLaw_law.2.1 1336 = .ok (.pop, 1) := by decide +kernel
theorem d_TrustDeskLaw_law_1337 : decode kY_TrustDeskLaw_law.2.1 1337 = .ok (.aload_n 2, 1) := by decide +kernel
theorem d_TrustDeskLaw_law_1338 : decode kY_TrustDeskLaw_law.2.1 1338 = .ok (.aload_n 0, 1) := by decide +kernel
theorem d_TrustDeskLaw_law_1339 : decode kY_TrustDeskLaw_law.2.1 1339 = .ok (.iload 4, 2) := by decide +kernel
theorem d_TrustDeskLaw_law_1341 : decode kY_TrustDeskLaw_law.2.1 1341 = .ok (.iconst 1, 1) := by decide +kernel
theorem d_TrustDeskLaw_law_1342 : decode kY_TrustDeskLaw_law.2.1 1342 = .ok (.iadd, 1) := by decide +kernel
theorem d_TrustDeskLaw_law_1343 : decode kY_TrustDeskLaw_law.2.1 1343 = .ok (.iaload, 1) := by decide +kernel
theorem d_TrustDeskLaw_law_1344 : decode kY_TrustDeskLaw_law.2.1 1344 = .ok (.aload_n 0, 1) := by decide +kernel
theorem d_TrustDeskLaw_law_1345 : decode kY_TrustDeskLaw_law.2.1 1345 = .ok (.iload 4, 2) := by decide +kernel
theorem d_TrustDeskLaw_law_1347 : decode kY_TrustDeskLaw_law.2.1 1347 = .ok (.iconst 2, 1) := by decide +kernel
theorem d_TrustDeskLaw_law_1348 : decode kY_TrustDeskLaw_law.2.1 1348 = .ok (.iadd, 1) := by decide +kernel
theorem d_TrustDeskLaw_law_1349 : decode kY_TrustDeskLaw_law.2.1 1349 = .ok (.iaload, 1) := by decide +kernel
theorem d_TrustDeskLaw_law_1350 : decode kY_TrustDeskLaw_law.2.1 1350 = .ok (.invokevirtual 149, 3) := by decide +kernel
theorem lV_TrustDeskLaw_149 : mj_lV "TrustDeskLaw" 149 kY_TrustDeskModel_grouped 2 := ⟨⟨(mj_in1 (List.mem_of_getElem? (i := 2037) (by decide +kernel)) rfl), (mj_in1 (List.mem_of_getElem? (i := 10) (by decide +kernel)) rfl), (mj_in1 (List.mem_of_getElem? (i := 2040) (by decide +kernel)) rfl), by decide, rfl, by decide⟩, (mj_in1 (List.mem_of_getElem? (i := 2038) (by decide +kernel)) rfl), (mj_in1 (List.mem_of_getElem? (i := 2039) (by decide +kernel)) rfl)⟩
theorem d_TrustDeskLaw_law_1353 : decode kY_TrustDeskLaw_law.2.1 1353 = .ok (.pop, 1) := by decide +kernel
theorem d_TrustDeskLaw_law_1354 : decode kY_TrustDeskLaw_law.2.1 1354 = .ok (.goto 127, 3) := by decide +kernel
set_option maxHeartbeats 4000000 in
theorem lx_case_29 {g : mj_G} {l : Launch} {d n Lf kc ks : Nat} {T : tm_H} {M : mj_M} {i t : Int32} (hlt : l.stackTraces = false) (h0 : 0 ≤ i.toInt) (hi : i.toInt + 6 ≤ (mj_L g : Int)) (hL : mj_L g ≤ 3072) (LI : lx_I T M n Lf t t) (k0 : lx_K T M n t) (kk : ∀ (T1 : tm_H) (M1 : mj_M) (n1 : Nat) (t1 : Int32), lx_I T1 M1 n1 Lf t1 t1 → lx_K T1 M1 n1 t1 → mj_V g l kY_TrustDeskLaw_law (d + 28) 1481 (lx_lv i) [] M1 n1 kc ks lx_Q) : mj_V g l kY_TrustDeskLaw_law (d + 28) 1320 (lx_lv i) [] M n (kc + 1100) (ks + 14000) lx_Q := by
  refine mv_aload_n d_TrustDeskLaw_law_1320 rfl rfl ?_
  refine lx_ld (k := 1) (c := 1) h0 hi hL (by decide) (by decide) d_TrustDeskLaw_law_1321 d_TrustDeskLaw_law_1322 (mv_iconst d_TrustDeskLaw_law_1324 (by decide)) d_TrustDeskLaw_law_1325 d_TrustDeskLaw_law_1326 ?_
  refine lx_ld (k := 2) (c := 2) h0 hi hL (by decide) (by decide) d_TrustDeskLaw_law_1327 d_TrustDeskLaw_law_1328 (mv_iconst d_TrustDeskLaw_law_1330 (by decide)) d_TrustDeskLaw_law_1331 d_TrustDeskLaw_law_1332 ?_
  obtain ⟨_, b2, -⟩ := LI.1.1 _ _ LI.2.1
  refine mv_callV (kc' := kc + 1100) (ks' := ks + 14000) (As := [.int (mj_xs g (i.toNatClampNeg + 1)), .int (mj_xs g (i.toNatClampNeg + 2))]) (st9 := [.int (mj_xs g (i.toNatClampNeg + 2)), .int (mj_xs g (i.toNatClampNeg + 1)), .ref 64]) d_TrustDeskLaw_law_1333 lV_TrustDeskLaw_146 b2 rfl (tc_TrustDesk_grouped (d := d + 15) (x9 := 0) (o0 := 64) (x1 := (mj_xs g (i.toNatClampNeg + 1))) (x2 := (mj_xs g (i.toNatClampNeg + 2))) LI.2.1 LI.1.start) rfl (Nat.le_of_ble_eq_true rfl) (by omega) (by omega) (hst := rfl) (fun r3 M4 n5 h6 => ?_)
  obtain ⟨T7, J8, v9, rfl⟩ := h6
  have LI10 := LI.desk J8 (lx_ok (by decide))
  have k1 := lx_Kkeep LI J8 (lx_ok (by decide)) k0
  refine mv_pop d_TrustDeskLaw_law_1336 rfl ?_
  refine mv_aload_n d_TrustDeskLaw_law_1337 rfl rfl ?_
  refine lx_ld (k := 1) (c := 1) h0 hi hL (by decide) (by decide) d_TrustDeskLaw_law_1338 d_TrustDeskLaw_law_1339 (mv_iconst d_TrustDeskLaw_law_1341 (by decide)) d_TrustDeskLaw_law_1342 d_TrustDeskLaw_law_1343 ?_
  refine lx_ld (k := 2) (c := 2) h0 hi hL (by decide) (by decide) d_TrustDeskLaw_law_1344 d_TrustDeskLaw_law_1345 (mv_iconst d_TrustDeskLaw_law_1347 (by decide)) d_TrustDeskLaw_law_1348 d_TrustDeskLaw_law_1349 ?_
  obtain ⟨_, b12, -⟩ := LI10.1.1 _ _ LI10.2.2.1
  refine mv_callV (kc' := kc + 1100) (ks' := ks + 14000) (As := [.int (mj_xs g (i.toNatClampNeg + 1)), .int (mj_xs g (i.toNatClampNeg + 2))]) (st9 := [.int (mj_xs g (i.toNatClampNeg + 2)), .int (mj_xs g (i.toNatClampNeg + 1)), .ref 99]) d_TrustDeskLaw_law_1350 lV_TrustDeskLaw_149 b12 rfl (tc_TrustDeskModel_grouped_x (d := d + 10) (x9 := 0) (o0 := 99) (x1 := (mj_xs g (i.toNatClampNeg + 1))) (x2 := (mj_xs g (i.toNatClampNeg + 2))) LI10.2.2.1 LI10.2.2.2.2.2.2.2.2.2.1 LI10.2.2.2.2.2.2.2.2.2.2.1 LI10.1.start) rfl (Nat.le_of_ble_eq_true rfl) (by omega) (by omega) (hst := rfl) (fun r13 M14 n15 h16 => ?_)
  obtain ⟨T17, J18, v19, rfl, R21⟩ := h16
  have LI20 := LI10.ref J18 (lx_ok (by decide)) (J18.keep LI10.2.2.1 rfl LI10.2.2.2.2.2.2.2.1) R21 (LI10.2.2.2.2.2.2.2.2.2.2.1.same (sA_c LI10.1 J18 LI10.2.2.1 (by decide +kernel)) (sF_c LI10.1 J18 LI10.2.2.1 (by decide +kernel))) (LI10.2.2.2.2.2.2.2.2.2.2.2.1.same (sA_c LI10.1 J18 LI10.2.2.1 (by decide +kernel)) (sF_c LI10.1 J18 LI10.2.2.1 (by decide +kernel))) (LI10.2.2.2.2.2.2.2.2.2.2.2.2.1.same (sA_c LI10.1 J18 LI10.2.2.1 (by decide +kernel)) (sF_c LI10.1 J18 LI10.2.2.1 (by decide +kernel))) (LI10.2.2.2.2.2.2.2.2.2.2.2.2.2.same (sA_c LI10.1 J18 LI10.2.2.1 (by decide +kernel)) (sF_c LI10.1 J18 LI10.2.2.1 (by decide +kernel)))
  have k11 := lx_Kkeep LI10 J18 (lx_ok (by decide)) k1
  refine mv_pop d_TrustDeskLaw_law_1353 rfl ?_
  refine mv_goto (tgt := 1481) d_TrustDeskLaw_law_1354 (by decide) ?_
  exact mv_less (by omega) (by omega) (kk _ _ _ _ LI20 k11)
theorem d_TrustDeskLaw_law_1357 : decode kY_TrustDeskLaw_law.2.1 1357 = .ok (.aload_n 1, 1) := by decide +kernel
theorem d_TrustDeskLaw_law_1358 : decode kY_TrustDeskLaw_law.2.1 1358 = .ok (.aload_n 0, 1) := by decide +kernel
theorem d_TrustDeskLaw_law_1359 : decode kY_TrustDeskLaw_law.2.1 1359 = .ok (.iload 4, 2) := by decide +kernel
theorem d_TrustDeskLaw_law_1361 : decode kY_TrustDeskLaw_law.2.1 1361 = .ok (.iconst 1, 1) := by decide +kernel
theorem d_TrustDeskLaw_law_1362 : decode kY_TrustDeskLaw_law.2.1 1362 = .ok (.iadd, 1) := by decide +kernel
theorem d_TrustDeskLaw_law_1363 : decode kY_TrustDeskLaw_law.2.1 1363 = .ok (.iaload, 1) := by decide +kernel
theorem d_TrustDeskLaw_law_1364 : decode kY_TrustDeskLaw_law.2.1 1364 = .ok (.aload_n 0, 1) := by decide +kernel
theorem d_TrustDeskLaw_law_1365 : decode kY_TrustDeskLaw_law.2.1 1365 = .ok (.iload 4, 2) := by decide +kernel
theorem d_TrustDeskLaw_law_1367 : decode kY_TrustDeskLaw_law.2.1 1367 = .ok (.iconst 2, 1) := by decide +kernel
theorem d_TrustDeskLaw_law_1368 : decode kY_TrustDeskLaw_law.2.1 1368 = .ok (.iadd, 1) := by decide +kernel
theorem d_TrustDeskLaw_law_1369 : decode kY_TrustDeskLaw_law.2.1 1369 = .ok (.iaload, 1) := by decide +kernel
theorem d_TrustDeskLaw_law_1370 : decode kY_TrustDeskLaw_law.2.1 1370 = .ok (.invokevirtual 150, 3) := by decide +kernel
theorem lV_TrustDeskLaw_150 : mj_lV "TrustDeskLaw" 150 kY_TrustDesk_lay 2 := ⟨⟨(mj_in1 (List.mem_of_getElem? (i := 1273) (by decide +kernel)) rfl), (mj_in1 (List.mem_of_getElem? (i := 1) (by decide +kernel)) rfl), (mj_in1 (List.mem_of_getElem? (i := 1276) (by decide +kernel)) rfl), by decide, rfl, by decide⟩, (mj_in1 (List.mem_of_getElem? (i := 1274) (by decide +kernel)) rfl), (mj_in1 (List.mem_of_getElem? (i := 1275) (by decide +kernel)) rfl)⟩
theorem d_TrustDeskLaw_law_1373 : decode kY_TrustDeskLaw_law.2.1 1373 = .ok (.aload_n 2, 1) := by decide +kernel
theorem d_TrustDeskLaw_law_1374 : decode kY_TrustDeskLaw_law.2.1 1374 = .ok (.aload_n 0, 1) := by decide +kernel
theorem d_TrustDeskLaw_law_1375 : decode kY_TrustDeskLaw_law.2.1 1375 = .ok (.iload 4, 2) := by decide +kernel
theorem d_TrustDeskLaw_law_1377 : decode kY_TrustDeskLaw_law.2.1 1377 = .ok (.iconst 1, 1) := by decide +kernel
theorem d_TrustDeskLaw_law_1378 : decode kY_TrustDeskLaw_law.2.1 1378 = .ok (.iadd, 1) := by decide +kernel
theorem d_TrustDeskLaw_law_1379 : decode kY_TrustDeskLaw_law.2.1 1379 = .ok (.iaload, 1) := by decide +kernel
theorem d_TrustDeskLaw_law_1380 : decode kY_TrustDeskLaw_law.2.1 1380 = .ok (.aload_n 0, 1) := by decide +kernel
theorem d_TrustDeskLaw_law_1381 : decode kY_TrustDeskLaw_law.2.1 1381 = .ok (.iload 4, 2) := by decide +kernel
theorem d_TrustDeskLaw_law_1383 : decode kY_TrustDeskLaw_law.2.1 1383 = .ok (.iconst 2, 1) := by decide +kernel
theorem d_TrustDeskLaw_law_1384 : decode kY_TrustDeskLaw_law.2.1 1384 = .ok (.iadd, 1) := by decide +kernel
theorem d_TrustDeskLaw_law_1385 : decode kY_TrustDeskLaw_law.2.1 1385 = .ok (.iaload, 1) := by decide +kernel
theorem d_TrustDeskLaw_law_1386 : decode kY_TrustDeskLaw_law.2.1 1386 = .ok (.invokevirtual 153, 3) := by decide +kernel
theorem lV_TrustDeskLaw_153 : mj_lV "TrustDeskLaw" 153 kY_TrustDeskModel_lay 2 := ⟨⟨(mj_in1 (List.mem_of_getElem? (i := 2041) (by decide +kernel)) rfl), (mj_in1 (List.mem_of_getElem? (i := 10) (by decide +kernel)) rfl), (mj_in1 (List.mem_of_getElem? (i := 2044) (by decide +kernel)) rfl), by decide, rfl, by decide⟩, (mj_in1 (List.mem_of_getElem? (i := 2042) (by decide +kernel)) rfl), (mj_in1 (List.mem_of_getElem? (i := 2043) (by decide +kernel)) rfl)⟩
theorem d_TrustDeskLaw_law_1389 : decode kY_TrustDeskLaw_law.2.1 1389 = .ok (.if_icmp .eq 92, 3) := by decide +kernel
set_option maxHeartbeats 4000000 in
theorem lx_case_30 {g : mj_G} {l : Launch} {d n Lf kc ks : Nat} {T : tm_H} {M : mj_M} {i t : Int32} (hlt : l.stackTraces = false) (h0 : 0 ≤ i.toInt) (hi : i.toInt + 6 ≤ (mj_L g : Int)) (hL : mj_L g ≤ 3072) (LI : lx_I T M n Lf t t) (k0 : lx_K T M n t) (kk : ∀ (T1 : tm_H) (M1 : mj_M) (n1 : Nat) (t1 : Int32), lx_I T1 M1 n1 Lf t1 t1 → lx_K T1 M1 n1 t1 → mj_V g l kY_TrustDeskLaw_law (d + 28) 1481 (lx_lv i) [] M1 n1 kc ks lx_Q) : mj_V g l kY_TrustDeskLaw_law (d + 28) 1357 (lx_lv i) [] M n (kc + 1100) (ks + 14000) lx_Q := by
  refine mv_aload_n d_TrustDeskLaw_law_1357 rfl rfl ?_
  refine lx_ld (k := 1) (c := 1) h0 hi hL (by decide) (by decide) d_TrustDeskLaw_law_1358 d_TrustDeskLaw_law_1359 (mv_iconst d_TrustDeskLaw_law_1361 (by decide)) d_TrustDeskLaw_law_1362 d_TrustDeskLaw_law_1363 ?_
  refine lx_ld (k := 2) (c := 2) h0 hi hL (by decide) (by decide) d_TrustDeskLaw_law_1364 d_TrustDeskLaw_law_1365 (mv_iconst d_TrustDeskLaw_law_1367 (by decide)) d_TrustDeskLaw_law_1368 d_TrustDeskLaw_law_1369 ?_
  obtain ⟨_, b2, -⟩ := LI.1.1 _ _ LI.2.1
  obtain ⟨pb, pn, P9, A9, F9, N9, S9, kD, kM⟩ := id k0
  obtain ⟨Rd, La, Lg, Ln, Ls, vp, ka, kf, kn, ks9, ⟨hR, qR⟩, yB, ⟨yp, ep⟩, lA, lF, lN, lS⟩ := id kD
  refine mv_callV (kc' := kc + 1100) (ks' := ks + 14000) (As := [.int (mj_xs g (i.toNatClampNeg + 1)), .int (mj_xs g (i.toNatClampNeg + 2))]) (st9 := [.int (mj_xs g (i.toNatClampNeg + 2)), .int (mj_xs g (i.toNatClampNeg + 1)), .ref 64]) d_TrustDeskLaw_law_1370 lV_TrustDeskLaw_150 b2 rfl (tc_TrustDesk_lay_r (d := d + 23) (x9 := 0) (o0 := 64) (x1 := (mj_xs g (i.toNatClampNeg + 1))) (x2 := (mj_xs g (i.toNatClampNeg + 2))) LI.2.1 lF.1 lF.2.1 lF.2.2.1 LI.1.start) rfl (Nat.le_of_ble_eq_true rfl) (by omega) (by omega) (hst := rfl) (fun r3 M4 n5 h6 => ?_)
  obtain ⟨T7, J8, v9, rfl, -, -, q11⟩ := h6
  have LI10 := LI.desk J8 (lx_ok (by decide))
  have k1 := lx_Kkeep LI J8 (lx_ok (by decide)) k0
  refine mv_aload_n d_TrustDeskLaw_law_1373 rfl rfl ?_
  refine lx_ld (k := 1) (c := 1) h0 hi hL (by decide) (by decide) d_TrustDeskLaw_law_1374 d_TrustDeskLaw_law_1375 (mv_iconst d_TrustDeskLaw_law_1377 (by decide)) d_TrustDeskLaw_law_1378 d_TrustDeskLaw_law_1379 ?_
  refine lx_ld (k := 2) (c := 2) h0 hi hL (by decide) (by decide) d_TrustDeskLaw_law_1380 d_TrustDeskLaw_law_1381 (mv_iconst d_TrustDeskLaw_law_1383 (by decide)) d_TrustDeskLaw_law_1384 d_TrustDeskLaw_law_1385 ?_
  obtain ⟨_, b13, -⟩ := LI10.1.1 _ _ LI10.2.2.1
  have hX22 := lx_X LI J8 rfl rfl rfl kM.1
  refine mv_callV (kc' := kc + 1100) (ks' := ks + 14000) (As := [.int (mj_xs g (i.toNatClampNeg + 1)), .int (mj_xs g (i.toNatClampNeg + 2))]) (st9 := [.int (mj_xs g (i.toNatClampNeg + 2)), .int (mj_xs g (i.toNatClampNeg + 1)), .ref 99, .int v9]) d_TrustDeskLaw_law_1386 lV_TrustDeskLaw_153 b13 rfl (tc_TrustDeskModel_lay_z (d := d + 26) (x9 := 0) (o0 := 99) (x1 := (mj_xs g (i.toNatClampNeg + 1))) (x2 := (mj_xs g (i.toNatClampNeg + 2))) LI10.2.2.1 LI10.2.2.2.2.2.2.2.2.2.1 LI10.1.start) rfl (Nat.le_of_ble_eq_true rfl) (by omega) (by omega) (hst := rfl) (fun r14 M15 n16 h17 => ?_)
  obtain ⟨T18, J19, v20, rfl, -, -, R24, f23⟩ := h17
  have LI21 := LI10.ref J19 (lx_ok (by decide)) (J19.keep LI10.2.2.1 rfl LI10.2.2.2.2.2.2.2.1) R24 (LI10.2.2.2.2.2.2.2.2.2.2.1.same (sA_c LI10.1 J19 LI10.2.2.1 (by decide +kernel)) (sF_c LI10.1 J19 LI10.2.2.1 (by decide +kernel))) (LI10.2.2.2.2.2.2.2.2.2.2.2.1.same (sA_c LI10.1 J19 LI10.2.2.1 (by decide +kernel)) (sF_c LI10.1 J19 LI10.2.2.1 (by decide +kernel))) (LI10.2.2.2.2.2.2.2.2.2.2.2.2.1.same (sA_c LI10.1 J19 LI10.2.2.1 (by decide +kernel)) (sF_c LI10.1 J19 LI10.2.2.1 (by decide +kernel))) (LI10.2.2.2.2.2.2.2.2.2.2.2.2.2.same (sA_c LI10.1 J19 LI10.2.2.1 (by decide +kernel)) (sF_c LI10.1 J19 LI10.2.2.1 (by decide +kernel)))
  have hr21 : rv M4 99 21 = vp.toInt := (rv_c LI.1 J8 LI.2.2.1 (k := 21) rfl).trans (kM.2.1.trans ep.symm)
  have hr27 : rv M4 99 27 = ka.toInt := (rv_c LI.1 J8 LI.2.2.1 (k := 27) rfl).trans (kM.2.2.1.trans lA.2.2.2.symm)
  have := LI10.2.2.2.2.2.2.2.2.2.1.1 27 _ _ rfl
  have hr32 : rv M4 99 32 = kf.toInt := (rv_c LI.1 J8 LI.2.2.1 (k := 32) rfl).trans (kM.2.2.2.1.trans lF.2.2.2.symm)
  have := LI10.2.2.2.2.2.2.2.2.2.1.1 32 _ _ rfl
  have hr49 : rv M4 99 49 = kn.toInt := (rv_c LI.1 J8 LI.2.2.1 (k := 49) rfl).trans (kM.2.2.2.2.1.trans lN.2.2.2.symm)
  have := LI10.2.2.2.2.2.2.2.2.2.1.1 49 _ _ rfl
  have hr53 : rv M4 99 53 = ks9.toInt := (rv_c LI.1 J8 LI.2.2.1 (k := 53) rfl).trans (kM.2.2.2.2.2.trans lS.2.2.2.symm)
  have := LI10.2.2.2.2.2.2.2.2.2.1.1 53 _ _ rfl
  have e8 : v9.toInt = v20.toInt := by omega
  have k12 := lx_Kkeep LI10 J19 (lx_ok (by decide)) k1
  refine mv_icmp_eqZ (tgt := 1481) (a := v9.toInt) (b := v20.toInt) d_TrustDeskLaw_law_1389 (by decide) rfl rfl (fun b25 => ?_) (fun b25 => ?_)
  · exact mv_less (by omega) (by omega) (kk _ _ _ _ LI21 k12)
  · exact absurd e8 b25
theorem d_TrustDeskLaw_law_1394 : decode kY_TrustDeskLaw_law.2.1 1394 = .ok (.aload_n 1, 1) := by decide +kernel
theorem d_TrustDeskLaw_law_1395 : decode kY_TrustDeskLaw_law.2.1 1395 = .ok (.aload_n 0, 1) := by decide +kernel
theorem d_TrustDeskLaw_law_1396 : decode kY_TrustDeskLaw_law.2.1 1396 = .ok (.iload 4, 2) := by decide +kernel
theorem d_TrustDeskLaw_law_1398 : decode kY_TrustDeskLaw_law.2.1 1398 = .ok (.iconst 1, 1) := by decide +kernel
theorem d_TrustDeskLaw_law_1399 : decode kY_TrustDeskLaw_law.2.1 1399 = .ok (.iadd, 1) := by decide +kernel
theorem d_TrustDeskLaw_law_1400 : decode kY_TrustDeskLaw_law.2.1 1400 = .ok (.iaload, 1) := by decide +kernel
theorem d_TrustDeskLaw_law_1401 : decode kY_TrustDeskLaw_law.2.1 1401 = .ok (.invokevirtual 154, 3) := by decide +kernel
theorem lV_TrustDeskLaw_154 : mj_lV "TrustDeskLaw" 154 kY_TrustDesk_judge 1 := ⟨⟨(mj_in1 (List.mem_of_getElem? (i := 1277) (by decide +kernel)) rfl), (mj_in1 (List.mem_of_getElem? (i := 1) (by decide +kernel)) rfl), (mj_in1 (List.mem_of_getElem? (i := 1280) (by decide +kernel)) rfl), by decide, rfl, by decide⟩, (mj_in1 (List.mem_of_getElem? (i := 1278) (by decide +kernel)) rfl), (mj_in1 (List.mem_of_getElem? (i := 1279) (by decide +kernel)) rfl)⟩
theorem d_TrustDeskLaw_law_1404 : decode kY_TrustDeskLaw_law.2.1 1404 = .ok (.pop2, 1) := by decide +kernel
theorem d_TrustDeskLaw_law_1405 : decode kY_TrustDeskLaw_law.2.1 1405 = .ok (.aload_n 2, 1) := by decide +kernel
theorem d_TrustDeskLaw_law_1406 : decode kY_TrustDeskLaw_law.2.1 1406 = .ok (.aload_n 0, 1) := by decide +kernel
theorem d_TrustDeskLaw_law_1407 : decode kY_TrustDeskLaw_law.2.1 1407 = .ok (.iload 4, 2) := by decide +kernel
theorem d_TrustDeskLaw_law_1409 : decode kY_TrustDeskLaw_law.2.1 1409 = .ok (.iconst 1, 1) := by decide +kernel
theorem d_TrustDeskLaw_law_1410 : decode kY_TrustDeskLaw_law.2.1 1410 = .ok (.iadd, 1) := by decide +kernel
theorem d_TrustDeskLaw_law_1411 : decode kY_TrustDeskLaw_law.2.1 1411 = .ok (.iaload, 1) := by decide +kernel
theorem d_TrustDeskLaw_law_1412 : decode kY_TrustDeskLaw_law.2.1 1412 = .ok (.invokevirtual 157, 3) := by decide +kernel
theorem lV_TrustDeskLaw_157 : mj_lV "TrustDeskLaw" 157 kY_TrustDeskModel_judge 1 := ⟨⟨(mj_in1 (List.mem_of_getElem? (i := 2045) (by decide +kernel)) rfl), (mj_in1 (List.mem_of_getElem? (i := 10) (by decide +kernel)) rfl), (mj_in1 (List.mem_of_getElem? (i := 2048) (by decide +kernel)) rfl), by decide, rfl, by decide⟩, (mj_in1 (List.mem_of_getElem? (i := 2046) (by decide +kernel)) rfl), (mj_in1 (List.mem_of_getElem? (i := 2047) (by decide +kernel)) rfl)⟩
theorem d_TrustDeskLaw_law_1415 : decode kY_TrustDeskLaw_law.2.1 1415 = .ok (.pop2, 1) := by decide +kernel
theorem d_TrustDeskLaw_law_1416 : decode kY_TrustDeskLaw_law.2.1 1416 = .ok (.goto 65, 3) := by decide +kernel
set_option maxHeartbeats 4000000 in
theorem lx_case_31 {g : mj_G} {l : Launch} {d n Lf kc ks : Nat} {T : tm_H} {M : mj_M} {i t : Int32} (hlt : l.stackTraces = false) (h0 : 0 ≤ i.toInt) (hi : i.toInt + 6 ≤ (mj_L g : Int)) (hL : mj_L g ≤ 3072) (LI : lx_I T M n Lf t t) (k0 : lx_K T M n t) (kk : ∀ (T1 : tm_H) (M1 : mj_M) (n1 : Nat) (t1 : Int32), lx_I T1 M1 n1 Lf t1 t1 → lx_K T1 M1 n1 t1 → mj_V g l kY_TrustDeskLaw_law (d + 28) 1481 (lx_lv i) [] M1 n1 kc ks lx_Q) : mj_V g l kY_TrustDeskLaw_law (d + 28) 1394 (lx_lv i) [] M n (kc + 1100) (ks + 14000) lx_Q := by
  refine mv_aload_n d_TrustDeskLaw_law_1394 rfl rfl ?_
  refine lx_ld (k := 1) (c := 1) h0 hi hL (by decide) (by decide) d_TrustDeskLaw_law_1395 d_TrustDeskLaw_law_1396 (mv_iconst d_TrustDeskLaw_law_1398 (by decide)) d_TrustDeskLaw_law_1399 d_TrustDeskLaw_law_1400 ?_
  obtain ⟨_, b2, -⟩ := LI.1.1 _ _ LI.2.1
  refine mv_callV (kc' := kc + 1100) (ks' := ks + 14000) (As := [.int (mj_xs g (i.toNatClampNeg + 1))]) (st9 := [.int (mj_xs g (i.toNatClampNeg + 1)), .ref 64]) d_TrustDeskLaw_law_1401 lV_TrustDeskLaw_154 b2 rfl (tc_TrustDesk_judge (d := d + 21) (x9 := 0) (o0 := 64) (x1 := (mj_xs g (i.toNatClampNeg + 1))) LI.2.1 LI.1.start) rfl (Nat.le_of_ble_eq_true rfl) (by omega) (by omega) (hst := rfl) (fun r3 M4 n5 h6 => ?_)
  obtain ⟨T7, J8, v9, rfl⟩ := h6
  have LI10 := LI.desk J8 (lx_ok (by decide))
  have k1 := lx_Kkeep LI J8 (lx_ok (by decide)) k0
  refine mv_pop2_2 d_TrustDeskLaw_law_1404 rfl ?_
  refine mv_aload_n d_TrustDeskLaw_law_1405 rfl rfl ?_
  refine lx_ld (k := 1) (c := 1) h0 hi hL (by decide) (by decide) d_TrustDeskLaw_law_1406 d_TrustDeskLaw_law_1407 (mv_iconst d_TrustDeskLaw_law_1409 (by decide)) d_TrustDeskLaw_law_1410 d_TrustDeskLaw_law_1411 ?_
  obtain ⟨_, b12, -⟩ := LI10.1.1 _ _ LI10.2.2.1
  refine mv_callV (kc' := kc + 1100) (ks' := ks + 14000) (As := [.int (mj_xs g (i.toNatClampNeg + 1))]) (st9 := [.int (mj_xs g (i.toNatClampNeg + 1)), .ref 99]) d_TrustDeskLaw_law_1412 lV_TrustDeskLaw_157 b12 rfl (tc_TrustDeskModel_judge_x (d := d + 22) (x9 := 0) (o0 := 99) (x1 := (mj_xs g (i.toNatClampNeg + 1))) LI10.2.2.1 LI10.2.2.2.2.2.2.2.2.2.1 LI10.2.2.2.2.2.2.2.2.2.2.1 LI10.1.start) rfl (Nat.le_of_ble_eq_true rfl) (by omega) (by omega) (hst := rfl) (fun r13 M14 n15 h16 => ?_)
  obtain ⟨T17, J18, v19, rfl, R21⟩ := h16
  have LI20 := LI10.ref J18 (lx_ok (by decide)) (J18.keep LI10.2.2.1 rfl LI10.2.2.2.2.2.2.2.1) R21 (LI10.2.2.2.2.2.2.2.2.2.2.1.same (sA_c LI10.1 J18 LI10.2.2.1 (by decide +kernel)) (sF_c LI10.1 J18 LI10.2.2.1 (by decide +kernel))) (LI10.2.2.2.2.2.2.2.2.2.2.2.1.same (sA_c LI10.1 J18 LI10.2.2.1 (by decide +kernel)) (sF_c LI10.1 J18 LI10.2.2.1 (by decide +kernel))) (LI10.2.2.2.2.2.2.2.2.2.2.2.2.1.same (sA_c LI10.1 J18 LI10.2.2.1 (by decide +kernel)) (sF_c LI10.1 J18 LI10.2.2.1 (by decide +kernel))) (LI10.2.2.2.2.2.2.2.2.2.2.2.2.2.same (sA_c LI10.1 J18 LI10.2.2.1 (by decide +kernel)) (sF_c LI10.1 J18 LI10.2.2.1 (by decide +kernel)))
  have k11 := lx_Kkeep LI10 J18 (lx_ok (by decide)) k1
  refine mv_pop2_2 d_TrustDeskLaw_law_1415 rfl ?_
  refine mv_goto (tgt := 1481) d_TrustDeskLaw_law_1416 (by decide) ?_
  exact mv_less (by omega) (by omega) (kk _ _ _ _ LI20 k11)
theorem d_TrustDeskLaw_law_1419 : decode kY_TrustDeskLaw_law.2.1 1419 = .ok (.aload_n 1, 1) := by decide +kernel
theorem d_TrustDeskLaw_law_1420 : decode kY_TrustDeskLaw_law.2.1 1420 = .ok (.aload_n 0, 1) := by decide +kernel
theorem d_TrustDeskLaw_law_1421 : decode kY_TrustDeskLaw_law.2.1 1421 = .ok (.iload 4, 2) := by decide +kernel
theorem d_TrustDeskLaw_law_1423 : decode kY_TrustDeskLaw_law.2.1 1423 = .ok (.iconst 1, 1) := by decide +kernel
theorem d_TrustDeskLaw_law_1424 : decode kY_TrustDeskLaw_law.2.1 1424 = .ok (.iadd, 1) := by decide +kernel
theorem d_TrustDeskLaw_law_1425 : decode kY_TrustDeskLaw_law.2.1 1425 = .ok (.iaload, 1) := by decide +kernel
theorem d_TrustDeskLaw_law_1426 : decode kY_TrustDeskLaw_law.2.1 1426 = .ok (.aload_n 0, 1) := by decide +kernel
theorem d_TrustDeskLaw_law_1427 : decode kY_TrustDeskLaw_law.2.1 1427 = .ok (.iload 4, 2) := by decide +kernel
theorem d_TrustDeskLaw_law_1429 : decode kY_TrustDeskLaw_law.2.1 1429 = .ok (.iconst 2, 1) := by decide +kernel
theorem d_TrustDeskLaw_law_1430 : decode kY_TrustDeskLaw_law.2.1 1430 = .ok (.iadd, 1) := by decide +kernel
theorem d_TrustDeskLaw_law_1431 : decode kY_TrustDeskLaw_law.2.1 1431 = .ok (.iaload, 1) := by decide +kernel
theorem d_TrustDeskLaw_law_1432 : decode kY_TrustDeskLaw_law.2.1 1432 = .ok (.invokevirtual 158, 3) := by decide +kernel
theorem lV_TrustDeskLaw_158 : mj_lV "TrustDeskLaw" 158 kY_TrustDesk_account 2 := ⟨⟨(mj_in1 (List.mem_of_getElem? (i := 1286) (by decide +kernel)) rfl), (mj_in1 (List.mem_of_getElem? (i := 1) (by decide +kernel)) rfl), (mj_in1 (List.mem_of_getElem? (i := 1289) (by decide +kernel)) rfl), by decide, rfl, by decide⟩, (mj_in1 (List.mem_of_getElem? (i := 1287) (by decide +kernel)) rfl), (mj_in1 (List.mem_of_getElem? (i := 1288) (by decide +kernel)) rfl)⟩
theorem d_TrustDeskLaw_law_1435 : decode kY_TrustDeskLaw_law.2.1 1435 = .ok (.pop, 1) := by decide +kernel
theorem d_TrustDeskLaw_law_1436 : decode kY_TrustDeskLaw_law.2.1 1436 = .ok (.aload_n 2, 1) := by decide +kernel
theorem d_TrustDeskLaw_law_1437 : decode kY_TrustDeskLaw_law.2.1 1437 = .ok (.aload_n 0, 1) := by decide +kernel
theorem d_TrustDeskLaw_law_1438 : decode kY_TrustDeskLaw_law.2.1 1438 = .ok (.iload 4, 2) := by decide +kernel
theorem d_TrustDeskLaw_law_1440 : decode kY_TrustDeskLaw_law.2.1 1440 = .ok (.iconst 1, 1) := by decide +kernel
theorem d_TrustDeskLaw_law_1441 : decode kY_TrustDeskLaw_law.2.1 1441 = .ok (.iadd, 1) := by decide +kernel
theorem d_TrustDeskLaw_law_1442 : decode kY_TrustDeskLaw_law.2.1 1442 = .ok (.iaload, 1) := by decide +kernel
theorem d_TrustDeskLaw_law_1443 : decode kY_TrustDeskLaw_law.2.1 1443 = .ok (.aload_n 0, 1) := by decide +kernel
theorem d_TrustDeskLaw_law_1444 : decode kY_TrustDeskLaw_law.2.1 1444 = .ok (.iload 4, 2) := by decide +kernel
theorem d_TrustDeskLaw_law_1446 : decode kY_TrustDeskLaw_law.2.1 1446 = .ok (.iconst 2, 1) := by decide +kernel
theorem d_TrustDeskLaw_law_1447 : decode kY_TrustDeskLaw_law.2.1 1447 = .ok (.iadd, 1) := by decide +kernel
theorem d_TrustDeskLaw_law_1448 : decode kY_TrustDeskLaw_law.2.1 1448 = .ok (.iaload, 1) := by decide +kernel
theorem d_TrustDeskLaw_law_1449 : decode kY_TrustDeskLaw_law.2.1 1449 = .ok (.invokevirtual 161, 3) := by decide +kernel
theorem lV_TrustDeskLaw_161 : mj_lV "TrustDeskLaw" 161 kY_TrustDeskModel_account 2 := ⟨⟨(mj_in1 (List.mem_of_getElem? (i := 2049) (by decide +kernel)) rfl), (mj_in1 (List.mem_of_getElem? (i := 10) (by decide +kernel)) rfl), (mj_in1 (List.mem_of_getElem? (i := 2052) (by decide +kernel)) rfl), by decide, rfl, by decide⟩, (mj_in1 (List.mem_of_getElem? (i := 2050) (by decide +kernel)) rfl), (mj_in1 (List.mem_of_getElem? (i := 2051) (by decide +kernel)) rfl)⟩
theorem d_TrustDeskLaw_law_1452 : decode kY_TrustDeskLaw_law.2.1 1452 = .ok (.pop, 1) := by decide +kernel
theorem d_TrustDeskLaw_law_1453 : decode kY_TrustDeskLaw_law.2.1 1453 = .ok (.goto 28, 3) := by decide +kernel
set_option maxHeartbeats 4000000 in
theorem lx_case_32 {g : mj_G} {l : Launch} {d n Lf kc ks : Nat} {T : tm_H} {M : mj_M} {i t : Int32} (hlt : l.stackTraces = false) (h0 : 0 ≤ i.toInt) (hi : i.toInt + 6 ≤ (mj_L g : Int)) (hL : mj_L g ≤ 3072) (LI : lx_I T M n Lf t t) (k0 : lx_K T M n t) (kk : ∀ (T1 : tm_H) (M1 : mj_M) (n1 : Nat) (t1 : Int32), lx_I T1 M1 n1 Lf t1 t1 → lx_K T1 M1 n1 t1 → mj_V g l kY_TrustDeskLaw_law (d + 28) 1481 (lx_lv i) [] M1 n1 kc ks lx_Q) : mj_V g l kY_TrustDeskLaw_law (d + 28) 1419 (lx_lv i) [] M n (kc + 1100) (ks + 14000) lx_Q := by
  refine mv_aload_n d_TrustDeskLaw_law_1419 rfl rfl ?_
  refine lx_ld (k := 1) (c := 1) h0 hi hL (by decide) (by decide) d_TrustDeskLaw_law_1420 d_TrustDeskLaw_law_1421 (mv_iconst d_TrustDeskLaw_law_1423 (by decide)) d_TrustDeskLaw_law_1424 d_TrustDeskLaw_law_1425 ?_
  refine lx_ld (k := 2) (c := 2) h0 hi hL (by decide) (by decide) d_TrustDeskLaw_law_1426 d_TrustDeskLaw_law_1427 (mv_iconst d_TrustDeskLaw_law_1429 (by decide)) d_TrustDeskLaw_law_1430 d_TrustDeskLaw_law_1431 ?_
  obtain ⟨_, b2, -⟩ := LI.1.1 _ _ LI.2.1
  refine mv_callV (kc' := kc + 1100) (ks' := ks + 14000) (As := [.int (mj_xs g (i.toNatClampNeg + 1)), .int (mj_xs g (i.toNatClampNeg + 2))]) (st9 := [.int (mj_xs g (i.toNatClampNeg + 2)), .int (mj_xs g (i.toNatClampNeg + 1)), .ref 64]) d_TrustDeskLaw_law_1432 lV_TrustDeskLaw_158 b2 rfl (tc_TrustDesk_account (d := d + 23) (x9 := 0) (o0 := 64) (x1 := (mj_xs g (i.toNatClampNeg + 1))) (x2 := (mj_xs g (i.toNatClampNeg + 2))) LI.2.1 LI.1.start) rfl (Nat.le_of_ble_eq_true rfl) (by omega) (by omega) (hst := rfl) (fun r3 M4 n5 h6 => ?_)
  obtain ⟨T7, J8, v9, rfl⟩ := h6
  have LI10 := LI.desk J8 (lx_ok (by decide))
  have k1 := lx_Kkeep LI J8 (lx_ok (by decide)) k0
  refine mv_pop d_TrustDeskLaw_law_1435 rfl ?_
  refine mv_aload_n d_TrustDeskLaw_law_1436 rfl rfl ?_
  refine lx_ld (k := 1) (c := 1) h0 hi hL (by decide) (by decide) d_TrustDeskLaw_law_1437 d_TrustDeskLaw_law_1438 (mv_iconst d_TrustDeskLaw_law_1440 (by decide)) d_TrustDeskLaw_law_1441 d_TrustDeskLaw_law_1442 ?_
  refine lx_ld (k := 2) (c := 2) h0 hi hL (by decide) (by decide) d_TrustDeskLaw_law_1443 d_TrustDeskLaw_law_1444 (mv_iconst d_TrustDeskLaw_law_1446 (by decide)) d_TrustDeskLaw_law_1447 d_TrustDeskLaw_law_1448 ?_
  obtain ⟨_, b12, -⟩ := LI10.1.1 _ _ LI10.2.2.1
  refine mv_callV (kc' := kc + 1100) (ks' := ks + 14000) (As := [.int (mj_xs g (i.toNatClampNeg + 1)), .int (mj_xs g (i.toNatClampNeg + 2))]) (st9 := [.int (mj_xs g (i.toNatClampNeg + 2)), .int (mj_xs g (i.toNatClampNeg + 1)), .ref 99]) d_TrustDeskLaw_law_1449 lV_TrustDeskLaw_161 b12 rfl (tc_TrustDeskModel_account_x (d := d + 25) (x9 := 0) (o0 := 99) (x1 := (mj_xs g (i.toNatClampNeg + 1))) (x2 := (mj_xs g (i.toNatClampNeg + 2))) LI10.2.2.1 LI10.2.2.2.2.2.2.2.2.2.1 LI10.2.2.2.2.2.2.2.2.2.2.1.2.2.1 LI10.1.start) rfl (Nat.le_of_ble_eq_true rfl) (by omega) (by omega) (hst := rfl) (fun r13 M14 n15 h16 => ?_)
  obtain ⟨T17, J18, v19, rfl, R21⟩ := h16
  have LI20 := LI10.ref J18 (lx_ok (by decide)) (J18.keep LI10.2.2.1 rfl LI10.2.2.2.2.2.2.2.1) R21 (LI10.2.2.2.2.2.2.2.2.2.2.1.same (sA_c LI10.1 J18 LI10.2.2.1 (by decide +kernel)) (sF_c LI10.1 J18 LI10.2.2.1 (by decide +kernel))) (LI10.2.2.2.2.2.2.2.2.2.2.2.1.same (sA_c LI10.1 J18 LI10.2.2.1 (by decide +kernel)) (sF_c LI10.1 J18 LI10.2.2.1 (by decide +kernel))) (LI10.2.2.2.2.2.2.2.2.2.2.2.2.1.same (sA_c LI10.1 J18 LI10.2.2.1 (by decide +kernel)) (sF_c LI10.1 J18 LI10.2.2.1 (by decide +kernel))) (LI10.2.2.2.2.2.2.2.2.2.2.2.2.2.same (sA_c LI10.1 J18 LI10.2.2.1 (by decide +kernel)) (sF_c LI10.1 J18 LI10.2.2.1 (by decide +kernel)))
  have k11 := lx_Kkeep LI10 J18 (lx_ok (by decide)) k1
  refine mv_pop d_TrustDeskLaw_law_1452 rfl ?_
  refine mv_goto (tgt := 1481) d_TrustDeskLaw_law_1453 (by decide) ?_
  exact mv_less (by omega) (by omega) (kk _ _ _ _ LI20 k11)
theorem d_TrustDeskLaw_law_1456 : decode kY_TrustDeskLaw_law.2.1 1456 = .ok (.aload_n 1, 1) := by decide +kernel
theorem d_TrustDeskLaw_law_1457 : decode kY_TrustDeskLaw_law.2.1 1457 = .ok (.aload_n 0, 1) := by decide +kernel
theorem d_TrustDeskLaw_law_1458 : decode kY_TrustDeskLaw_law.2.1 1458 = .ok (.iload 4, 2) := by decide +kernel
theorem d_TrustDeskLaw_law_1460 : decode kY_TrustDeskLaw_law.2.1 1460 = .ok (.iconst 1, 1) := by decide +kernel
theorem d_TrustDeskLaw_law_1461 : decode kY_TrustDeskLaw_law.2.1 1461 = .ok (.iadd, 1) := by decide +kernel
theorem d_TrustDeskLaw_law_1462 : decode kY_TrustDeskLaw_law.2.1 1462 = .ok (.iaload, 1) := by decide +kernel
theorem d_TrustDeskLaw_law_1463 : decode kY_TrustDeskLaw_law.2.1 1463 = .ok (.invokevirtual 162, 3) := by decide +kernel
theorem lV_TrustDeskLaw_162 : mj_lV "TrustDeskLaw" 162 kY_TrustDesk_count 1 := ⟨⟨(mj_in1 (List.mem_of_getElem? (i := 1294) (by decide +kernel)) rfl), (mj_in1 (List.mem_of_getElem? (i := 1) (by decide +kernel)) rfl), (mj_in1 (List.mem_of_getElem? (i := 1297) (by decide +kernel)) rfl), by decide, rfl, by decide⟩, (mj_in1 (List.mem_of_getElem? (i := 1295) (by decide +kernel)) rfl), (mj_in1 (List.mem_of_getElem? (i := 1296) (by decide +kernel)) rfl)⟩
theorem d_TrustDeskLaw_law_1466 : decode kY_TrustDeskLaw_law.2.1 1466 = .ok (.pop, 1) := by decide +kernel
theorem d_TrustDeskLaw_law_1467 : decode kY_TrustDeskLaw_law.2.1 1467 = .ok (.aload_n 2, 1) := by decide +kernel
theorem d_TrustDeskLaw_law_1468 : decode kY_TrustDeskLaw_law.2.1 1468 = .ok (.aload_n 0, 1) := by decide +kernel
theorem d_TrustDeskLaw_law_1469 : decode kY_TrustDeskLaw_law.2.1 1469 = .ok (.iload 4, 2) := by decide +kernel
theorem d_TrustDeskLaw_law_1471 : decode kY_TrustDeskLaw_law.2.1 1471 = .ok (.iconst 1, 1) := by decide +kernel
theorem d_TrustDeskLaw_law_1472 : decode kY_TrustDeskLaw_law.2.1 1472 = .ok (.iadd, 1) := by decide +kernel
theorem d_TrustDeskLaw_law_1473 : decode kY_TrustDeskLaw_law.2.1 1473 = .ok (.iaload, 1) := by decide +kernel
theorem d_TrustDeskLaw_law_1474 : decode kY_TrustDeskLaw_law.2.1 1474 = .ok (.invokevirtual 165, 3) := by decide +kernel
theorem lV_TrustDeskLaw_165 : mj_lV "TrustDeskLaw" 165 kY_TrustDeskModel_count 1 := ⟨⟨(mj_in1 (List.mem_of_getElem? (i := 2082) (by decide +kernel)) rfl), (mj_in1 (List.mem_of_getElem? (i := 10) (by decide +kernel)) rfl), (mj_in1 (List.mem_of_getElem? (i := 2085) (by decide +kernel)) rfl), by decide, rfl, by decide⟩, (mj_in1 (List.mem_of_getElem? (i := 2083) (by decide +kernel)) rfl), (mj_in1 (List.mem_of_getElem? (i := 2084) (by decide +kernel)) rfl)⟩
theorem d_TrustDeskLaw_law_1477 : decode kY_TrustDeskLaw_law.2.1 1477 = .ok (.pop, 1) := by decide +kernel
theorem d_TrustDeskLaw_law_1478 : decode kY_TrustDeskLaw_law.2.1 1478 = .ok (.goto 3, 3) := by decide +kernel
set_option maxHeartbeats 4000000 in
theorem lx_case_33 {g : mj_G} {l : Launch} {d n Lf kc ks : Nat} {T : tm_H} {M : mj_M} {i t : Int32} (hlt : l.stackTraces = false) (h0 : 0 ≤ i.toInt) (hi : i.toInt + 6 ≤ (mj_L g : Int)) (hL : mj_L g ≤ 3072) (LI : lx_I T M n Lf t t) (k0 : lx_K T M n t) (kk : ∀ (T1 : tm_H) (M1 : mj_M) (n1 : Nat) (t1 : Int32), lx_I T1 M1 n1 Lf t1 t1 → lx_K T1 M1 n1 t1 → mj_V g l kY_TrustDeskLaw_law (d + 28) 1481 (lx_lv i) [] M1 n1 kc ks lx_Q) : mj_V g l kY_TrustDeskLaw_law (d + 28) 1456 (lx_lv i) [] M n (kc + 1100) (ks + 14000) lx_Q := by
  refine mv_aload_n d_TrustDeskLaw_law_1456 rfl rfl ?_
  refine lx_ld (k := 1) (c := 1) h0 hi hL (by decide) (by decide) d_TrustDeskLaw_law_1457 d_TrustDeskLaw_law_1458 (mv_iconst d_TrustDeskLaw_law_1460 (by decide)) d_TrustDeskLaw_law_1461 d_TrustDeskLaw_law_1462 ?_
  obtain ⟨_, b2, -⟩ := LI.1.1 _ _ LI.2.1
  refine mv_callV (kc' := kc + 1100) (ks' := ks + 14000) (As := [.int (mj_xs g (i.toNatClampNeg + 1))]) (st9 := [.int (mj_xs g (i.toNatClampNeg + 1)), .ref 64]) d_TrustDeskLaw_law_1463 lV_TrustDeskLaw_162 b2 rfl (tc_TrustDesk_count (d := d + 23) (x9 := 0) (o0 := 64) (x1 := (mj_xs g (i.toNatClampNeg + 1))) LI.2.1 LI.1.start) rfl (Nat.le_of_ble_eq_true rfl) (by omega) (by omega) (hst := rfl) (fun r3 M4 n5 h6 => ?_)
  obtain ⟨T7, J8, v9, rfl⟩ := h6
  have LI10 := LI.desk J8 (lx_ok (by decide))
  have k1 := lx_Kkeep LI J8 (lx_ok (by decide)) k0
  refine mv_pop d_TrustDeskLaw_law_1466 rfl ?_
  refine mv_aload_n d_TrustDeskLaw_law_1467 rfl rfl ?_
  refine lx_ld (k := 1) (c := 1) h0 hi hL (by decide) (by decide) d_TrustDeskLaw_law_1468 d_TrustDeskLaw_law_1469 (mv_iconst d_TrustDeskLaw_law_1471 (by decide)) d_TrustDeskLaw_law_1472 d_TrustDeskLaw_law_1473 ?_
  obtain ⟨_, b12, -⟩ := LI10.1.1 _ _ LI10.2.2.1
  refine mv_callV (kc' := kc + 1100) (ks' := ks + 14000) (As := [.int (mj_xs g (i.toNatClampNeg + 1))]) (st9 := [.int (mj_xs g (i.toNatClampNeg + 1)), .ref 99]) d_TrustDeskLaw_law_1474 lV_TrustDeskLaw_165 b12 rfl (tc_TrustDeskModel_count_x (d := d + 26) (x9 := 0) (o0 := 99) (x1 := (mj_xs g (i.toNatClampNeg + 1))) LI10.2.2.1 LI10.2.2.2.2.2.2.2.2.2.1 LI10.1.start) rfl (Nat.le_of_ble_eq_true rfl) (by omega) (by omega) (hst := rfl) (fun r13 M14 n15 h16 => ?_)
  obtain ⟨T17, J18, v19, rfl, R21⟩ := h16
  have LI20 := LI10.ref J18 (lx_ok (by decide)) (J18.keep LI10.2.2.1 rfl LI10.2.2.2.2.2.2.2.1) R21 (LI10.2.2.2.2.2.2.2.2.2.2.1.same (sA_c LI10.1 J18 LI10.2.2.1 (by decide +kernel)) (sF_c LI10.1 J18 LI10.2.2.1 (by decide +kernel))) (LI10.2.2.2.2.2.2.2.2.2.2.2.1.same (sA_c LI10.1 J18 LI10.2.2.1 (by decide +kernel)) (sF_c LI10.1 J18 LI10.2.2.1 (by decide +kernel))) (LI10.2.2.2.2.2.2.2.2.2.2.2.2.1.same (sA_c LI10.1 J18 LI10.2.2.1 (by decide +kernel)) (sF_c LI10.1 J18 LI10.2.2.1 (by decide +kernel))) (LI10.2.2.2.2.2.2.2.2.2.2.2.2.2.same (sA_c LI10.1 J18 LI10.2.2.1 (by decide +kernel)) (sF_c LI10.1 J18 LI10.2.2.1 (by decide +kernel)))
  have k11 := lx_Kkeep LI10 J18 (lx_ok (by decide)) k1
  refine mv_pop d_TrustDeskLaw_law_1477 rfl ?_
  refine mv_goto (tgt := 1481) d_TrustDeskLaw_law_1478 (by decide) ?_
  exact mv_less (by omega) (by omega) (kk _ _ _ _ LI20 k11)
