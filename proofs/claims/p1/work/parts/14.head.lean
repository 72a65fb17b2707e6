theorem d_TrustDeskLaw_law_837 : decode kY_TrustDeskLaw_law.2.1 837 = .ok (.aload_n 1, 1) := by decide +kernel
theorem d_TrustDeskLaw_law_838 : decode kY_TrustDeskLaw_law.2.1 838 = .ok (.aload_n 0, 1) := by decide +kernel
theorem d_TrustDeskLaw_law_839 : decode kY_TrustDeskLaw_law.2.1 839 = .ok (.iload 4, 2) := by decide +kernel
theorem d_TrustDeskLaw_law_841 : decode kY_TrustDeskLaw_law.2.1 841 = .ok (.iconst 1, 1) := by decide +kernel
theorem d_TrustDeskLaw_law_842 : decode kY_TrustDeskLaw_law.2.1 842 = .ok (.iadd, 1) := by decide +kernel
theorem d_TrustDeskLaw_law_843 : decode kY_TrustDeskLaw_law.2.1 843 = .ok (.iaload, 1) := by decide +kernel
theorem d_TrustDeskLaw_law_844 : decode kY_TrustDeskLaw_law.2.1 844 = .ok (.aload_n 0, 1) := by decide +kernel
theorem d_TrustDeskLaw_law_845 : decode kY_TrustDeskLaw_law.2.1 845 = .ok (.iload 4, 2) := by decide +kernel
theorem d_TrustDeskLaw_law_847 : decode kY_TrustDeskLaw_law.2.1 847 = .ok (.iconst 2, 1) := by decide +kernel
theorem d_TrustDeskLaw_law_848 : decode kY_TrustDeskLaw_law.2.1 848 = .ok (.iadd, 1) := by decide +kernel
theorem d_TrustDeskLaw_law_849 : decode kY_TrustDeskLaw_law.2.1 849 = .ok (.iaload, 1) := by decide +kernel
theorem d_TrustDeskLaw_law_850 : decode kY_TrustDeskLaw_law.2.1 850 = .ok (.aload_n 3, 1) := by decide +kernel
theorem d_TrustDeskLaw_law_851 : decode kY_TrustDeskLaw_law.2.1 851 = .ok (.invokestatic 94, 3) := by decide +kernel
theorem d_TrustDeskLaw_law_854 : decode kY_TrustDeskLaw_law.2.1 854 = .ok (.istore 5, 2) := by decide +kernel
theorem d_TrustDeskLaw_law_856 : decode kY_TrustDeskLaw_law.2.1 856 = .ok (.aload_n 2, 1) := by decide +kernel
theorem d_TrustDeskLaw_law_857 : decode kY_TrustDeskLaw_law.2.1 857 = .ok (.aload_n 0, 1) := by decide +kernel
theorem d_TrustDeskLaw_law_858 : decode kY_TrustDeskLaw_law.2.1 858 = .ok (.iload 4, 2) := by decide +kernel
theorem d_TrustDeskLaw_law_860 : decode kY_TrustDeskLaw_law.2.1 860 = .ok (.iconst 1, 1) := by decide +kernel
theorem d_TrustDeskLaw_law_861 : decode kY_TrustDeskLaw_law.2.1 861 = .ok (.iadd, 1) := by decide +kernel
theorem d_TrustDeskLaw_law_862 : decode kY_TrustDeskLaw_law.2.1 862 = .ok (.iaload, 1) := by decide +kernel
theorem d_TrustDeskLaw_law_863 : decode kY_TrustDeskLaw_law.2.1 863 = .ok (.aload_n 0, 1) := by decide +kernel
theorem d_TrustDeskLaw_law_864 : decode kY_TrustDeskLaw_law.2.1 864 = .ok (.iload 4, 2) := by decide +kernel
theorem d_TrustDeskLaw_law_866 : decode kY_TrustDeskLaw_law.2.1 866 = .ok (.iconst 2, 1) := by decide +kernel
theorem d_TrustDeskLaw_law_867 : decode kY_TrustDeskLaw_law.2.1 867 = .ok (.iadd, 1) := by decide +kernel
theorem d_TrustDeskLaw_law_868 : decode kY_TrustDeskLaw_law.2.1 868 = .ok (.iaload, 1) := by decide +kernel
theorem d_TrustDeskLaw_law_869 : decode kY_TrustDeskLaw_law.2.1 869 = .ok (.invokevirtual 99, 3) := by decide +kernel
theorem lV_TrustDeskLaw_99 : mj_lV "TrustDeskLaw" 99 kY_TrustDeskModel_fundOf 2 := ⟨⟨(mj_in1 (List.mem_of_getElem? (i := 2057) (by decide +kernel)) rfl), (mj_in1 (List.mem_of_getElem? (i := 10) (by decide +kernel)) rfl), (mj_in1 (List.mem_of_getElem? (i := 2060) (by decide +kernel)) rfl), by decide, rfl, by decide⟩, (mj_in1 (List.mem_of_getElem? (i := 2058) (by decide +kernel)) rfl), (mj_in1 (List.mem_of_getElem? (i := 2059) (by decide +kernel)) rfl)⟩
theorem d_TrustDeskLaw_law_872 : decode kY_TrustDeskLaw_law.2.1 872 = .ok (.istore 6, 2) := by decide +kernel
theorem d_TrustDeskLaw_law_874 : decode kY_TrustDeskLaw_law.2.1 874 = .ok (.aload_n 2, 1) := by decide +kernel
theorem d_TrustDeskLaw_law_875 : decode kY_TrustDeskLaw_law.2.1 875 = .ok (.invokevirtual 100, 3) := by decide +kernel
theorem lV_TrustDeskLaw_100 : mj_lV "TrustDeskLaw" 100 kY_TrustDeskModel_thrown 0 := ⟨⟨(mj_in1 (List.mem_of_getElem? (i := 1380) (by decide +kernel)) rfl), (mj_in1 (List.mem_of_getElem? (i := 10) (by decide +kernel)) rfl), (mj_in1 (List.mem_of_getElem? (i := 1383) (by decide +kernel)) rfl), by decide, rfl, by decide⟩, (mj_in1 (List.mem_of_getElem? (i := 1381) (by decide +kernel)) rfl), (mj_in1 (List.mem_of_getElem? (i := 1382) (by decide +kernel)) rfl)⟩
theorem d_TrustDeskLaw_law_878 : decode kY_TrustDeskLaw_law.2.1 878 = .ok (.iload 5, 2) := by decide +kernel
theorem d_TrustDeskLaw_law_880 : decode kY_TrustDeskLaw_law.2.1 880 = .ok (.if_icmp .eq 5, 3) := by decide +kernel
theorem d_TrustDeskLaw_law_885 : decode kY_TrustDeskLaw_law.2.1 885 = .ok (.iload 5, 2) := by decide +kernel
theorem d_TrustDeskLaw_law_887 : decode kY_TrustDeskLaw_law.2.1 887 = .ok (.ifCond .ne 15, 3) := by decide +kernel
theorem d_TrustDeskLaw_law_902 : decode kY_TrustDeskLaw_law.2.1 902 = .ok (.goto 611, 3) := by decide +kernel
theorem lw_case_17 {g : mj_G} {l : Launch} {d nx : Nat} {M : mj_M} (h_64 : M 64 = some (.inr (12, [.ref 65, .ref 70, .ref 77, .ref 80, .ref 90, .ref 94, .ref 95, .ref 96, .ref 97, .ref 98, .int 0, .int 0, .int 0]))) (h_95 : M 95 = some (.inr (0, [.int 0, .ref 0, .int 0]))) (h_99 : M 99 = some (.inr (13, [.int 0, .int 0, .int 0, .ref 100, .ref 101, .ref 102, .ref 103, .ref 104, .ref 105, .ref 106, .ref 107, .ref 108, .ref 109, .ref 110, .int 0, .int 0, .int 0, .int 0, .int 0, .int 0, .int 0, .int (-1), .int 0, .int 0, .int 0, .ref 111, .ref 112, .int 0, .ref 113, .ref 114, .ref 115, .int 0, .int 0, .ref 116, .ref 117, .ref 118, .ref 119, .ref 120, .ref 121, .ref 122, .ref 123, .ref 124, .ref 125, .ref 126, .ref 127, .ref 128, .ref 129, .ref 130, .ref 131, .int 0, .ref 132, .int 0, .ref 133, .int 0, .ref 134, .ref 135, .ref 136, .ref 137, .ref 138, .ref 139, .ref 140, .ref 141, .ref 142, .ref 143, .ref 144, .ref 145, .ref 146, .int 0, .long 0, .int 0, .int 0, .ref 147]))) (hlt : l.stackTraces = false) (hL : mj_L g = 6) : mj_V g l kY_TrustDeskLaw_law (d + 9) 837 [(4, .int 0), (3, .ref 148), (2, .ref 99), (1, .ref 64), (0, .ref 50)] [] M 149 6 241 (fun r _ _ => r = some (.int 1)) := by
  refine mv_aload_n d_TrustDeskLaw_law_837 rfl rfl ?_
  refine mv_aload_n d_TrustDeskLaw_law_838 rfl rfl ?_
  refine mv_iload d_TrustDeskLaw_law_839 rfl ?_
  refine mv_iconst (v := 1) d_TrustDeskLaw_law_841 (by decide) ?_
  refine mv_iaddv (v := 1) d_TrustDeskLaw_law_842 (by decide) ?_
  refine mv_sld (v := (mj_xs g 1)) d_TrustDeskLaw_law_843 (by rw [hL]; unfold vp_in; decide) rfl ?_
  refine mv_aload_n d_TrustDeskLaw_law_844 rfl rfl ?_
  refine mv_iload d_TrustDeskLaw_law_845 rfl ?_
  refine mv_iconst (v := 2) d_TrustDeskLaw_law_847 (by decide) ?_
  refine mv_iaddv (v := 2) d_TrustDeskLaw_law_848 (by decide) ?_
  refine mv_sld (v := (mj_xs g 2)) d_TrustDeskLaw_law_849 (by rw [hL]; unfold vp_in; decide) rfl ?_
  refine mv_aload_n d_TrustDeskLaw_law_850 rfl rfl ?_
  refine mv_callFO (kc' := 5) (ks' := 235) (d := d + 1) hlt rfl h_64 h_95 d_TrustDeskLaw_law_851 (Nat.le_of_ble_eq_true rfl) (Nat.le_of_ble_eq_true rfl) (Nat.le_of_ble_eq_true rfl) (fun nx1 => ?_)
  refine mv_istore (lv' := [(5, .int 1), (4, .int 0), (3, .ref 148), (2, .ref 99), (1, .ref 64), (0, .ref 50)]) d_TrustDeskLaw_law_854 (by decide) rfl ?_
  refine mv_aload_n d_TrustDeskLaw_law_856 rfl rfl ?_
  refine mv_aload_n d_TrustDeskLaw_law_857 rfl rfl ?_
  refine mv_iload d_TrustDeskLaw_law_858 rfl ?_
  refine mv_iconst (v := 1) d_TrustDeskLaw_law_860 (by decide) ?_
  refine mv_iaddv (v := 1) d_TrustDeskLaw_law_861 (by decide) ?_
  refine mv_sld (v := (mj_xs g 1)) d_TrustDeskLaw_law_862 (by rw [hL]; unfold vp_in; decide) rfl ?_
  refine mv_aload_n d_TrustDeskLaw_law_863 rfl rfl ?_
  refine mv_iload d_TrustDeskLaw_law_864 rfl ?_
  refine mv_iconst (v := 2) d_TrustDeskLaw_law_866 (by decide) ?_
  refine mv_iaddv (v := 2) d_TrustDeskLaw_law_867 (by decide) ?_
  refine mv_sld (v := (mj_xs g 2)) d_TrustDeskLaw_law_868 (by rw [hL]; unfold vp_in; decide) rfl ?_
  refine mv_callV_s (kc' := 5) (ks' := 235) [.int (mj_xs g 1), .int (mj_xs g 2)] [.int (mj_xs g 2), .int (mj_xs g 1), .ref 99] d_TrustDeskLaw_law_869 lV_TrustDeskLaw_99 h_99 rfl (c_TrustDeskModel_fundOf_0 (d := (d + 7)) (x1 := (mj_xs g 1)) (x2 := (mj_xs g 2)) (h_99 := h_99)) rfl (Nat.le_of_ble_eq_true rfl) (Nat.le_of_ble_eq_true rfl) (Nat.le_of_ble_eq_true rfl) rfl ?_
  refine mv_istore (lv' := [(6, .int 0), (5, .int 1), (4, .int 0), (3, .ref 148), (2, .ref 99), (1, .ref 64), (0, .ref 50)]) d_TrustDeskLaw_law_872 (by decide) rfl ?_
  refine mv_aload_n d_TrustDeskLaw_law_874 rfl rfl ?_
  refine mv_callV_s (kc' := 5) (ks' := 235) [] [.ref 99] d_TrustDeskLaw_law_875 lV_TrustDeskLaw_100 (mj_up_self _ _ _) rfl (c_TrustDeskModel_thrown_0 (d := (d + 8)) (h_99 := (mj_up_self _ _ _))) rfl (Nat.le_of_ble_eq_true rfl) (Nat.le_of_ble_eq_true rfl) (Nat.le_of_ble_eq_true rfl) rfl ?_
  refine mv_iload d_TrustDeskLaw_law_878 rfl ?_
  refine mv_icmp_eq_t (tgt := 885) d_TrustDeskLaw_law_880 (by decide) (by decide) ?_
  refine mv_iload d_TrustDeskLaw_law_885 rfl ?_
  refine mv_if_ne_t (tgt := 902) d_TrustDeskLaw_law_887 (by decide) (by decide) ?_
  refine mv_goto (tgt := 1513) d_TrustDeskLaw_law_902 (by decide) ?_
  refine mv_iinc (v := 6) (lv' := [(4, .int 6), (6, .int 0), (5, .int 1), (3, .ref 148), (2, .ref 99), (1, .ref 64), (0, .ref 50)]) d_TrustDeskLaw_law_1513 rfl (by decide) (by decide) rfl ?_
  refine mv_goto (tgt := 23) d_TrustDeskLaw_law_1516 (by decide) ?_
  refine mv_iload d_TrustDeskLaw_law_23 rfl ?_
  refine mv_aload_n d_TrustDeskLaw_law_25 rfl rfl ?_
  refine mv_slen (v := 6) d_TrustDeskLaw_law_26 (by rw [hL]; rfl) ?_
  refine mv_bipush (v := 6) d_TrustDeskLaw_law_27 (by decide) ?_
  refine mv_isubv (v := 0) d_TrustDeskLaw_law_29 (by decide) ?_
  refine mv_icmp_gt_t (tgt := 1519) d_TrustDeskLaw_law_30 (by decide) (by decide) ?_
  refine mv_iconst (v := 1) d_TrustDeskLaw_law_1519 (by decide) ?_
  exact mv_iret d_TrustDeskLaw_law_1520 rfl (by first | rfl | decide) rfl
theorem lw_head_0 {g : mj_G} {l : Launch} {d nx : Nat} {M : mj_M} (hL : mj_L g = 0) : mj_V g l kY_TrustDeskLaw_law (d + 9) 23 [(4, .int 0), (3, .ref 148), (2, .ref 99), (1, .ref 64), (0, .ref 50)] [] M 149 6 241 (fun r _ _ => r = some (.int 1)) := by
  refine mv_iload d_TrustDeskLaw_law_23 rfl ?_
  refine mv_aload_n d_TrustDeskLaw_law_25 rfl rfl ?_
  refine mv_slen (v := 0) d_TrustDeskLaw_law_26 (by rw [hL]; rfl) ?_
  refine mv_bipush (v := 6) d_TrustDeskLaw_law_27 (by decide) ?_
  refine mv_isubv (v := (-6)) d_TrustDeskLaw_law_29 (by decide) ?_
  refine mv_icmp_gt_t (tgt := 1519) d_TrustDeskLaw_law_30 (by decide) (by decide) ?_
  refine mv_iconst (v := 1) d_TrustDeskLaw_law_1519 (by decide) ?_
  exact mv_iret d_TrustDeskLaw_law_1520 rfl (by first | rfl | decide) rfl
theorem lw_head_1 {g : mj_G} {l : Launch} {d nx : Nat} {M : mj_M} (hL : mj_L g = 1) : mj_V g l kY_TrustDeskLaw_law (d + 9) 23 [(4, .int 0), (3, .ref 148), (2, .ref 99), (1, .ref 64), (0, .ref 50)] [] M 149 6 241 (fun r _ _ => r = some (.int 1)) := by
  refine mv_iload d_TrustDeskLaw_law_23 rfl ?_
  refine mv_aload_n d_TrustDeskLaw_law_25 rfl rfl ?_
  refine mv_slen (v := 1) d_TrustDeskLaw_law_26 (by rw [hL]; rfl) ?_
  refine mv_bipush (v := 6) d_TrustDeskLaw_law_27 (by decide) ?_
  refine mv_isubv (v := (-5)) d_TrustDeskLaw_law_29 (by decide) ?_
  refine mv_icmp_gt_t (tgt := 1519) d_TrustDeskLaw_law_30 (by decide) (by decide) ?_
  refine mv_iconst (v := 1) d_TrustDeskLaw_law_1519 (by decide) ?_
  exact mv_iret d_TrustDeskLaw_law_1520 rfl (by first | rfl | decide) rfl
theorem lw_head_2 {g : mj_G} {l : Launch} {d nx : Nat} {M : mj_M} (hL : mj_L g = 2) : mj_V g l kY_TrustDeskLaw_law (d + 9) 23 [(4, .int 0), (3, .ref 148), (2, .ref 99), (1, .ref 64), (0, .ref 50)] [] M 149 6 241 (fun r _ _ => r = some (.int 1)) := by
  refine mv_iload d_TrustDeskLaw_law_23 rfl ?_
  refine mv_aload_n d_TrustDeskLaw_law_25 rfl rfl ?_
  refine mv_slen (v := 2) d_TrustDeskLaw_law_26 (by rw [hL]; rfl) ?_
  refine mv_bipush (v := 6) d_TrustDeskLaw_law_27 (by decide) ?_
  refine mv_isubv (v := (-4)) d_TrustDeskLaw_law_29 (by decide) ?_
  refine mv_icmp_gt_t (tgt := 1519) d_TrustDeskLaw_law_30 (by decide) (by decide) ?_
  refine mv_iconst (v := 1) d_TrustDeskLaw_law_1519 (by decide) ?_
  exact mv_iret d_TrustDeskLaw_law_1520 rfl (by first | rfl | decide) rfl
theorem lw_head_3 {g : mj_G} {l : Launch} {d nx : Nat} {M : mj_M} (hL : mj_L g = 3) : mj_V g l kY_TrustDeskLaw_law (d + 9) 23 [(4, .int 0), (3, .ref 148), (2, .ref 99), (1, .ref 64), (0, .ref 50)] [] M 149 6 241 (fun r _ _ => r = some (.int 1)) := by
  refine mv_iload d_TrustDeskLaw_law_23 rfl ?_
  refine mv_aload_n d_TrustDeskLaw_law_25 rfl rfl ?_
  refine mv_slen (v := 3) d_TrustDeskLaw_law_26 (by rw [hL]; rfl) ?_
  refine mv_bipush (v := 6) d_TrustDeskLaw_law_27 (by decide) ?_
  refine mv_isubv (v := (-3)) d_TrustDeskLaw_law_29 (by decide) ?_
  refine mv_icmp_gt_t (tgt := 1519) d_TrustDeskLaw_law_30 (by decide) (by decide) ?_
  refine mv_iconst (v := 1) d_TrustDeskLaw_law_1519 (by decide) ?_
  exact mv_iret d_TrustDeskLaw_law_1520 rfl (by first | rfl | decide) rfl
theorem lw_head_4 {g : mj_G} {l : Launch} {d nx : Nat} {M : mj_M} (hL : mj_L g = 4) : mj_V g l kY_TrustDeskLaw_law (d + 9) 23 [(4, .int 0), (3, .ref 148), (2, .ref 99), (1, .ref 64), (0, .ref 50)] [] M 149 6 241 (fun r _ _ => r = some (.int 1)) := by
  refine mv_iload d_TrustDeskLaw_law_23 rfl ?_
  refine mv_aload_n d_TrustDeskLaw_law_25 rfl rfl ?_
  refine mv_slen (v := 4) d_TrustDeskLaw_law_26 (by rw [hL]; rfl) ?_
  refine mv_bipush (v := 6) d_TrustDeskLaw_law_27 (by decide) ?_
  refine mv_isubv (v := (-2)) d_TrustDeskLaw_law_29 (by decide) ?_
  refine mv_icmp_gt_t (tgt := 1519) d_TrustDeskLaw_law_30 (by decide) (by decide) ?_
  refine mv_iconst (v := 1) d_TrustDeskLaw_law_1519 (by decide) ?_
  exact mv_iret d_TrustDeskLaw_law_1520 rfl (by first | rfl | decide) rfl
theorem lw_head_5 {g : mj_G} {l : Launch} {d nx : Nat} {M : mj_M} (hL : mj_L g = 5) : mj_V g l kY_TrustDeskLaw_law (d + 9) 23 [(4, .int 0), (3, .ref 148), (2, .ref 99), (1, .ref 64), (0, .ref 50)] [] M 149 6 241 (fun r _ _ => r = some (.int 1)) := by
  refine mv_iload d_TrustDeskLaw_law_23 rfl ?_
  refine mv_aload_n d_TrustDeskLaw_law_25 rfl rfl ?_
  refine mv_slen (v := 5) d_TrustDeskLaw_law_26 (by rw [hL]; rfl) ?_
  refine mv_bipush (v := 6) d_TrustDeskLaw_law_27 (by decide) ?_
  refine mv_isubv (v := (-1)) d_TrustDeskLaw_law_29 (by decide) ?_
  refine mv_icmp_gt_t (tgt := 1519) d_TrustDeskLaw_law_30 (by decide) (by decide) ?_
  refine mv_iconst (v := 1) d_TrustDeskLaw_law_1519 (by decide) ?_
  exact mv_iret d_TrustDeskLaw_law_1520 rfl (by first | rfl | decide) rfl
theorem d_TrustDeskLaw_law_33 : decode kY_TrustDeskLaw_law.2.1 33 = .ok (.aload_n 0, 1) := by decide +kernel
theorem d_TrustDeskLaw_law_34 : decode kY_TrustDeskLaw_law.2.1 34 = .ok (.iload 4, 2) := by decide +kernel
theorem d_TrustDeskLaw_law_36 : decode kY_TrustDeskLaw_law.2.1 36 = .ok (.iaload, 1) := by decide +kernel
theorem d_TrustDeskLaw_law_37 : decode kY_TrustDeskLaw_law.2.1 37 = .ok (.bipush 63, 2) := by decide +kernel
theorem d_TrustDeskLaw_law_39 : decode kY_TrustDeskLaw_law.2.1 39 = .ok (.iand, 1) := by decide +kernel
theorem d_TrustDeskLaw_law_40 : decode kY_TrustDeskLaw_law.2.1 40 = .ok (.tableswitch 1473 0 33 #[152, 201, 250, 323, 348, 373, 410, 447, 472, 485, 510, 547, 596, 633, 670, 735, 760, 797, 865, 891, 940, 977, 1003, 1052, 1113, 1174, 1211, 1236, 1285, 1311, 1348, 1385, 1411, 1448], 152) := by decide +kernel
theorem lw_head_6 {g : mj_G} {l : Launch} {d nx : Nat} {M : mj_M} (h_64 : M 64 = some (.inr (12, [.ref 65, .ref 70, .ref 77, .ref 80, .ref 90, .ref 94, .ref 95, .ref 96, .ref 97, .ref 98, .int 0, .int 0, .int 0]))) (h_65 : M 65 = some (.inr (5, [.ref 66, .ref 67, .ref 68, .ref 69, .int 0]))) (h_66 : M 66 = some (.inl (0, 300, .inl (fun _ => 0)))) (h_67 : M 67 = some (.inl (0, 300, .inl (fun _ => 0)))) (h_68 : M 68 = some (.inl (0, 300, .inl (fun _ => 0)))) (h_69 : M 69 = some (.inl (0, 300, .inl (fun _ => 0)))) (h_70 : M 70 = some (.inr (9, [.int 0, .int 0, .int (-1), .ref 71, .ref 72, .ref 73, .ref 74, .ref 75, .int 0, .int 0, .int 0, .int 0, .int 0, .int 0, .int 0, .int 0, .int 0, .ref 76, .int 0]))) (h_71 : M 71 = some (.inl (0, 400, .inl (fun _ => 0)))) (h_77 : M 77 = some (.inr (10, [.ref 78, .int (-1), .ref 79, .int 0, .int 0]))) (h_78 : M 78 = some (.inl (1, 13, .inr (.inl (fun _ => 0))))) (h_90 : M 90 = some (.inr (1, [.int 0, .int 0, .ref 91, .ref 92, .ref 93]))) (h_92 : M 92 = some (.inl (0, 6, .inl mj_rwf))) (h_94 : M 94 = some (.inr (0, [.int 0, .ref 0, .int 0]))) (h_95 : M 95 = some (.inr (0, [.int 0, .ref 0, .int 0]))) (h_96 : M 96 = some (.inr (0, [.int 0, .ref 0, .int 0]))) (h_97 : M 97 = some (.inr (0, [.int 0, .ref 0, .int 0]))) (h_99 : M 99 = some (.inr (13, [.int 0, .int 0, .int 0, .ref 100, .ref 101, .ref 102, .ref 103, .ref 104, .ref 105, .ref 106, .ref 107, .ref 108, .ref 109, .ref 110, .int 0, .int 0, .int 0, .int 0, .int 0, .int 0, .int 0, .int (-1), .int 0, .int 0, .int 0, .ref 111, .ref 112, .int 0, .ref 113, .ref 114, .ref 115, .int 0, .int 0, .ref 116, .ref 117, .ref 118, .ref 119, .ref 120, .ref 121, .ref 122, .ref 123, .ref 124, .ref 125, .ref 126, .ref 127, .ref 128, .ref 129, .ref 130, .ref 131, .int 0, .ref 132, .int 0, .ref 133, .int 0, .ref 134, .ref 135, .ref 136, .ref 137, .ref 138, .ref 139, .ref 140, .ref 141, .ref 142, .ref 143, .ref 144, .ref 145, .ref 146, .int 0, .long 0, .int 0, .int 0, .ref 147]))) (h_100 : M 100 = some (.inl (0, 1200, .inl (fun _ => 0)))) (h_102 : M 102 = some (.inl (0, 45, .inl (fun _ => 0)))) (h_103 : M 103 = some (.inl (0, 45, .inl (fun _ => 0)))) (h_110 : M 110 = some (.inl (3, 400, .inl (fun _ => 0)))) (h_113 : M 113 = some (.inl (0, 20, .inl (fun _ => 0)))) (h_116 : M 116 = some (.inl (0, 12, .inl (fun _ => 0)))) (h_117 : M 117 = some (.inl (0, 12, .inl (fun _ => 0)))) (h_118 : M 118 = some (.inl (1, 12, .inr (.inl (fun _ => 0))))) (h_119 : M 119 = some (.inl (0, 12, .inl (fun _ => 0)))) (h_120 : M 120 = some (.inl (0, 12, .inl (fun _ => 0)))) (h_121 : M 121 = some (.inl (0, 12, .inl (fun _ => 0)))) (h_122 : M 122 = some (.inl (0, 12, .inl (fun _ => 0)))) (h_124 : M 124 = some (.inl (0, 144, .inl (fun _ => 0)))) (hlt : l.stackTraces = false) (hL : mj_L g = 6) : mj_V g l kY_TrustDeskLaw_law (d + 9) 23 [(4, .int 0), (3, .ref 148), (2, .ref 99), (1, .ref 64), (0, .ref 50)] [] M 149 6 241 (fun r _ _ => r = some (.int 1)) := by
  refine mv_iload d_TrustDeskLaw_law_23 rfl ?_
  refine mv_aload_n d_TrustDeskLaw_law_25 rfl rfl ?_
  refine mv_slen (v := 6) d_TrustDeskLaw_law_26 (by rw [hL]; rfl) ?_
  refine mv_bipush (v := 6) d_TrustDeskLaw_law_27 (by decide) ?_
  refine mv_isubv (v := 0) d_TrustDeskLaw_law_29 (by decide) ?_
  refine mv_icmp_gt_f (tgt := 1519) d_TrustDeskLaw_law_30 (by decide) (by decide) ?_
  refine mv_aload_n d_TrustDeskLaw_law_33 rfl rfl ?_
  refine mv_iload d_TrustDeskLaw_law_34 rfl ?_
  refine mv_sld (v := (mj_xs g 0)) d_TrustDeskLaw_law_36 (by rw [hL]; unfold vp_in; decide) rfl ?_
  refine mv_bipush (v := 63) d_TrustDeskLaw_law_37 (by decide) ?_
  refine mv_iand d_TrustDeskLaw_law_39 ?_
  have b1 : 0 ≤ ((mj_xs g 0) &&& 63).toInt ∧ ((mj_xs g 0) &&& 63).toInt ≤ 63 := mz_mask63 _
  rcases (show (((mj_xs g 0) &&& 63).toInt < 0 ∨ 33 < ((mj_xs g 0) &&& 63).toInt) ∨ ((mj_xs g 0) &&& 63).toInt = 0 ∨ ((mj_xs g 0) &&& 63).toInt = 1 ∨ ((mj_xs g 0) &&& 63).toInt = 2 ∨ ((mj_xs g 0) &&& 63).toInt = 3 ∨ ((mj_xs g 0) &&& 63).toInt = 4 ∨ ((mj_xs g 0) &&& 63).toInt = 5 ∨ ((mj_xs g 0) &&& 63).toInt = 6 ∨ ((mj_xs g 0) &&& 63).toInt = 7 ∨ ((mj_xs g 0) &&& 63).toInt = 8 ∨ ((mj_xs g 0) &&& 63).toInt = 9 ∨ ((mj_xs g 0) &&& 63).toInt = 10 ∨ ((mj_xs g 0) &&& 63).toInt = 11 ∨ ((mj_xs g 0) &&& 63).toInt = 12 ∨ ((mj_xs g 0) &&& 63).toInt = 13 ∨ ((mj_xs g 0) &&& 63).toInt = 14 ∨ ((mj_xs g 0) &&& 63).toInt = 15 ∨ ((mj_xs g 0) &&& 63).toInt = 16 ∨ ((mj_xs g 0) &&& 63).toInt = 17 ∨ ((mj_xs g 0) &&& 63).toInt = 18 ∨ ((mj_xs g 0) &&& 63).toInt = 19 ∨ ((mj_xs g 0) &&& 63).toInt = 20 ∨ ((mj_xs g 0) &&& 63).toInt = 21 ∨ ((mj_xs g 0) &&& 63).toInt = 22 ∨ ((mj_xs g 0) &&& 63).toInt = 23 ∨ ((mj_xs g 0) &&& 63).toInt = 24 ∨ ((mj_xs g 0) &&& 63).toInt = 25 ∨ ((mj_xs g 0) &&& 63).toInt = 26 ∨ ((mj_xs g 0) &&& 63).toInt = 27 ∨ ((mj_xs g 0) &&& 63).toInt = 28 ∨ ((mj_xs g 0) &&& 63).toInt = 29 ∨ ((mj_xs g 0) &&& 63).toInt = 30 ∨ ((mj_xs g 0) &&& 63).toInt = 31 ∨ ((mj_xs g 0) &&& 63).toInt = 32 ∨ ((mj_xs g 0) &&& 63).toInt = 33 by omega) with b2 | b2 | b2 | b2 | b2 | b2 | b2 | b2 | b2 | b2 | b2 | b2 | b2 | b2 | b2 | b2 | b2 | b2 | b2 | b2 | b2 | b2 | b2 | b2 | b2 | b2 | b2 | b2 | b2 | b2 | b2 | b2 | b2 | b2 | b2
  · refine mv_tableOut (tgt := 1513) d_TrustDeskLaw_law_40 b2 (by decide) ?_
    refine mv_iinc (v := 6) (lv' := [(4, .int 6), (3, .ref 148), (2, .ref 99), (1, .ref 64), (0, .ref 50)]) d_TrustDeskLaw_law_1513 rfl (by decide) (by decide) rfl ?_
    refine mv_goto (tgt := 23) d_TrustDeskLaw_law_1516 (by decide) ?_
    refine mv_iload d_TrustDeskLaw_law_23 rfl ?_
    refine mv_aload_n d_TrustDeskLaw_law_25 rfl rfl ?_
    refine mv_slen (v := 6) d_TrustDeskLaw_law_26 (by rw [hL]; rfl) ?_
    refine mv_bipush (v := 6) d_TrustDeskLaw_law_27 (by decide) ?_
    refine mv_isubv (v := 0) d_TrustDeskLaw_law_29 (by decide) ?_
    refine mv_icmp_gt_t (tgt := 1519) d_TrustDeskLaw_law_30 (by decide) (by decide) ?_
    refine mv_iconst (v := 1) d_TrustDeskLaw_law_1519 (by decide) ?_
    exact mv_iret d_TrustDeskLaw_law_1520 rfl (by first | rfl | decide) rfl
  · refine mv_tableIn (tgt := 192) (off := 152) d_TrustDeskLaw_law_40 (by omega) (by omega) (by rw [b2]; rfl) (by decide) ?_
    refine mv_aload_n d_TrustDeskLaw_law_192 rfl rfl ?_
    refine mv_aload_n d_TrustDeskLaw_law_193 rfl rfl ?_
    refine mv_iload d_TrustDeskLaw_law_194 rfl ?_
    refine mv_iconst (v := 1) d_TrustDeskLaw_law_196 (by decide) ?_
    refine mv_iaddv (v := 1) d_TrustDeskLaw_law_197 (by decide) ?_
    refine mv_sld (v := (mj_xs g 1)) d_TrustDeskLaw_law_198 (by rw [hL]; unfold vp_in; decide) rfl ?_
    refine mv_aload_n d_TrustDeskLaw_law_199 rfl rfl ?_
    refine mv_iload d_TrustDeskLaw_law_200 rfl ?_
    refine mv_iconst (v := 2) d_TrustDeskLaw_law_202 (by decide) ?_
    refine mv_iaddv (v := 2) d_TrustDeskLaw_law_203 (by decide) ?_
    refine mv_sld (v := (mj_xs g 2)) d_TrustDeskLaw_law_204 (by rw [hL]; unfold vp_in; decide) rfl ?_
    refine mv_aload_n d_TrustDeskLaw_law_205 rfl rfl ?_
    refine mv_iload d_TrustDeskLaw_law_206 rfl ?_
    refine mv_iconst (v := 3) d_TrustDeskLaw_law_208 (by decide) ?_
    refine mv_iaddv (v := 3) d_TrustDeskLaw_law_209 (by decide) ?_
    refine mv_sld (v := (mj_xs g 3)) d_TrustDeskLaw_law_210 (by rw [hL]; unfold vp_in; decide) rfl ?_
    refine mv_callV (kc' := 6) (ks' := 241) (As := [.int (mj_xs g 1), .int (mj_xs g 2), .int (mj_xs g 3)]) (st9 := [.int (mj_xs g 3), .int (mj_xs g 2), .int (mj_xs g 1), .ref 64]) d_TrustDeskLaw_law_211 lV_TrustDeskLaw_19 h_64 rfl (c_TrustDesk_fact_0 (d := (d + 7)) (x1 := (mj_xs g 1)) (x2 := (mj_xs g 2)) (x3 := (mj_xs g 3)) (h_64 := h_64) (h_65 := h_65) (h_66 := h_66) (h_67 := h_67) (h_68 := h_68) (h_69 := h_69)) rfl (Nat.le_of_ble_eq_true rfl) (Nat.le_of_ble_eq_true rfl) (Nat.le_of_ble_eq_true rfl) (hst := rfl) (fun b3r b3M b3n b3 => ?_)
    obtain ⟨rfl, b3⟩ := b3
    refine mv_aload_n d_TrustDeskLaw_law_214 rfl rfl ?_
    refine mv_aload_n d_TrustDeskLaw_law_215 rfl rfl ?_
    refine mv_iload d_TrustDeskLaw_law_216 rfl ?_
    refine mv_iconst (v := 1) d_TrustDeskLaw_law_218 (by decide) ?_
    refine mv_iaddv (v := 1) d_TrustDeskLaw_law_219 (by decide) ?_
    refine mv_sld (v := (mj_xs g 1)) d_TrustDeskLaw_law_220 (by rw [hL]; unfold vp_in; decide) rfl ?_
    refine mv_aload_n d_TrustDeskLaw_law_221 rfl rfl ?_
    refine mv_iload d_TrustDeskLaw_law_222 rfl ?_
    refine mv_iconst (v := 2) d_TrustDeskLaw_law_224 (by decide) ?_
    refine mv_iaddv (v := 2) d_TrustDeskLaw_law_225 (by decide) ?_
    refine mv_sld (v := (mj_xs g 2)) d_TrustDeskLaw_law_226 (by rw [hL]; unfold vp_in; decide) rfl ?_
    refine mv_aload_n d_TrustDeskLaw_law_227 rfl rfl ?_
    refine mv_iload d_TrustDeskLaw_law_228 rfl ?_
    refine mv_iconst (v := 3) d_TrustDeskLaw_law_230 (by decide) ?_
    refine mv_iaddv (v := 3) d_TrustDeskLaw_law_231 (by decide) ?_
    refine mv_sld (v := (mj_xs g 3)) d_TrustDeskLaw_law_232 (by rw [hL]; unfold vp_in; decide) rfl ?_
    refine mv_callV (kc' := 6) (ks' := 241) (As := [.int (mj_xs g 1), .int (mj_xs g 2), .int (mj_xs g 3)]) (st9 := [.int (mj_xs g 3), .int (mj_xs g 2), .int (mj_xs g 1), .ref 99, .int (e_fact (mj_xs g 1) (mj_xs g 2) (mj_xs g 3))]) d_TrustDeskLaw_law_233 lV_TrustDeskLaw_23 ((b3 99 (by decide) (by decide)).trans h_99) rfl (c_TrustDeskModel_fact_0 (d := (d + 7)) (x1 := (mj_xs g 1)) (x2 := (mj_xs g 2)) (x3 := (mj_xs g 3)) (h_99 := ((b3 99 (by decide) (by decide)).trans h_99)) (h_100 := ((b3 100 (by decide) (by decide)).trans h_100))) rfl (Nat.le_of_ble_eq_true rfl) (Nat.le_of_ble_eq_true rfl) (Nat.le_of_ble_eq_true rfl) (hst := rfl) (fun b4r b4M b4n b4 => ?_)
    obtain ⟨rfl, b4⟩ := b4
    refine mv_icmp_eq_t (tgt := 1513) d_TrustDeskLaw_law_236 (by decide) rfl ?_
    refine mv_iinc (v := 6) (lv' := [(4, .int 6), (3, .ref 148), (2, .ref 99), (1, .ref 64), (0, .ref 50)]) d_TrustDeskLaw_law_1513 rfl (by decide) (by decide) rfl ?_
    refine mv_goto (tgt := 23) d_TrustDeskLaw_law_1516 (by decide) ?_
    refine mv_iload d_TrustDeskLaw_law_23 rfl ?_
    refine mv_aload_n d_TrustDeskLaw_law_25 rfl rfl ?_
    refine mv_slen (v := 6) d_TrustDeskLaw_law_26 (by rw [hL]; rfl) ?_
    refine mv_bipush (v := 6) d_TrustDeskLaw_law_27 (by decide) ?_
    refine mv_isubv (v := 0) d_TrustDeskLaw_law_29 (by decide) ?_
    refine mv_icmp_gt_t (tgt := 1519) d_TrustDeskLaw_law_30 (by decide) (by decide) ?_
    refine mv_iconst (v := 1) d_TrustDeskLaw_law_1519 (by decide) ?_
    exact mv_iret d_TrustDeskLaw_law_1520 rfl (by first | rfl | decide) rfl
  · refine mv_tableIn (tgt := 241) (off := 201) d_TrustDeskLaw_law_40 (by omega) (by omega) (by rw [b2]; rfl) (by decide) ?_
    refine mv_aload_n d_TrustDeskLaw_law_241 rfl rfl ?_
    refine mv_aload_n d_TrustDeskLaw_law_242 rfl rfl ?_
    refine mv_iload d_TrustDeskLaw_law_243 rfl ?_
    refine mv_iconst (v := 1) d_TrustDeskLaw_law_245 (by decide) ?_
    refine mv_iaddv (v := 1) d_TrustDeskLaw_law_246 (by decide) ?_
    refine mv_sld (v := (mj_xs g 1)) d_TrustDeskLaw_law_247 (by rw [hL]; unfold vp_in; decide) rfl ?_
    refine mv_aload_n d_TrustDeskLaw_law_248 rfl rfl ?_
    refine mv_iload d_TrustDeskLaw_law_249 rfl ?_
    refine mv_iconst (v := 2) d_TrustDeskLaw_law_251 (by decide) ?_
    refine mv_iaddv (v := 2) d_TrustDeskLaw_law_252 (by decide) ?_
    refine mv_sld (v := (mj_xs g 2)) d_TrustDeskLaw_law_253 (by rw [hL]; unfold vp_in; decide) rfl ?_
    refine mv_aload_n d_TrustDeskLaw_law_254 rfl rfl ?_
    refine mv_iload d_TrustDeskLaw_law_255 rfl ?_
    refine mv_iconst (v := 3) d_TrustDeskLaw_law_257 (by decide) ?_
    refine mv_iaddv (v := 3) d_TrustDeskLaw_law_258 (by decide) ?_
    refine mv_sld (v := (mj_xs g 3)) d_TrustDeskLaw_law_259 (by rw [hL]; unfold vp_in; decide) rfl ?_
    refine mv_callV (kc' := 6) (ks' := 241) (As := [.int (mj_xs g 1), .int (mj_xs g 2), .int (mj_xs g 3)]) (st9 := [.int (mj_xs g 3), .int (mj_xs g 2), .int (mj_xs g 1), .ref 64]) d_TrustDeskLaw_law_260 lV_TrustDeskLaw_24 h_64 rfl (c_TrustDesk_factOf_0 (d := (d + 7)) (x1 := (mj_xs g 1)) (x2 := (mj_xs g 2)) (x3 := (mj_xs g 3)) (h_64 := h_64) (h_65 := h_65)) rfl (Nat.le_of_ble_eq_true rfl) (Nat.le_of_ble_eq_true rfl) (Nat.le_of_ble_eq_true rfl) (hst := rfl) (fun b5r b5M b5n b5 => ?_)
    obtain ⟨rfl, b5⟩ := b5
    refine mv_aload_n d_TrustDeskLaw_law_263 rfl rfl ?_
    refine mv_aload_n d_TrustDeskLaw_law_264 rfl rfl ?_
    refine mv_iload d_TrustDeskLaw_law_265 rfl ?_
    refine mv_iconst (v := 1) d_TrustDeskLaw_law_267 (by decide) ?_
    refine mv_iaddv (v := 1) d_TrustDeskLaw_law_268 (by decide) ?_
    refine mv_sld (v := (mj_xs g 1)) d_TrustDeskLaw_law_269 (by rw [hL]; unfold vp_in; decide) rfl ?_
    refine mv_aload_n d_TrustDeskLaw_law_270 rfl rfl ?_
    refine mv_iload d_TrustDeskLaw_law_271 rfl ?_
    refine mv_iconst (v := 2) d_TrustDeskLaw_law_273 (by decide) ?_
    refine mv_iaddv (v := 2) d_TrustDeskLaw_law_274 (by decide) ?_
    refine mv_sld (v := (mj_xs g 2)) d_TrustDeskLaw_law_275 (by rw [hL]; unfold vp_in; decide) rfl ?_
    refine mv_aload_n d_TrustDeskLaw_law_276 rfl rfl ?_
    refine mv_iload d_TrustDeskLaw_law_277 rfl ?_
    refine mv_iconst (v := 3) d_TrustDeskLaw_law_279 (by decide) ?_
    refine mv_iaddv (v := 3) d_TrustDeskLaw_law_280 (by decide) ?_
    refine mv_sld (v := (mj_xs g 3)) d_TrustDeskLaw_law_281 (by rw [hL]; unfold vp_in; decide) rfl ?_
    refine mv_callV (kc' := 6) (ks' := 241) (As := [.int (mj_xs g 1), .int (mj_xs g 2), .int (mj_xs g 3)]) (st9 := [.int (mj_xs g 3), .int (mj_xs g 2), .int (mj_xs g 1), .ref 99, .int (e_factOf (mj_xs g 1) (mj_xs g 2) (mj_xs g 3))]) d_TrustDeskLaw_law_282 lV_TrustDeskLaw_28 ((b5 99 (by decide) (by decide)).trans h_99) rfl (c_TrustDeskModel_factOf_0 (d := (d + 7)) (x1 := (mj_xs g 1)) (x2 := (mj_xs g 2)) (x3 := (mj_xs g 3)) (h_99 := ((b5 99 (by decide) (by decide)).trans h_99))) rfl (Nat.le_of_ble_eq_true rfl) (Nat.le_of_ble_eq_true rfl) (Nat.le_of_ble_eq_true rfl) (hst := rfl) (fun b6r b6M b6n b6 => ?_)
    obtain ⟨rfl, b6⟩ := b6
    refine mv_icmp_eq_t (tgt := 1513) d_TrustDeskLaw_law_285 (by decide) rfl ?_
    refine mv_iinc (v := 6) (lv' := [(4, .int 6), (3, .ref 148), (2, .ref 99), (1, .ref 64), (0, .ref 50)]) d_TrustDeskLaw_law_1513 rfl (by decide) (by decide) rfl ?_
    refine mv_goto (tgt := 23) d_TrustDeskLaw_law_1516 (by decide) ?_
    refine mv_iload d_TrustDeskLaw_law_23 rfl ?_
    refine mv_aload_n d_TrustDeskLaw_law_25 rfl rfl ?_
    refine mv_slen (v := 6) d_TrustDeskLaw_law_26 (by rw [hL]; rfl) ?_
    refine mv_bipush (v := 6) d_TrustDeskLaw_law_27 (by decide) ?_
    refine mv_isubv (v := 0) d_TrustDeskLaw_law_29 (by decide) ?_
    refine mv_icmp_gt_t (tgt := 1519) d_TrustDeskLaw_law_30 (by decide) (by decide) ?_
    refine mv_iconst (v := 1) d_TrustDeskLaw_law_1519 (by decide) ?_
    exact mv_iret d_TrustDeskLaw_law_1520 rfl (by first | rfl | decide) rfl
  · refine mv_tableIn (tgt := 290) (off := 250) d_TrustDeskLaw_law_40 (by omega) (by omega) (by rw [b2]; rfl) (by decide) ?_
    refine mv_aload_n d_TrustDeskLaw_law_290 rfl rfl ?_
    refine mv_aload_n d_TrustDeskLaw_law_291 rfl rfl ?_
    refine mv_iload d_TrustDeskLaw_law_292 rfl ?_
    refine mv_iconst (v := 1) d_TrustDeskLaw_law_294 (by decide) ?_
    refine mv_iaddv (v := 1) d_TrustDeskLaw_law_295 (by decide) ?_
    refine mv_sld (v := (mj_xs g 1)) d_TrustDeskLaw_law_296 (by rw [hL]; unfold vp_in; decide) rfl ?_
    refine mv_aload_n d_TrustDeskLaw_law_297 rfl rfl ?_
    refine mv_iload d_TrustDeskLaw_law_298 rfl ?_
    refine mv_iconst (v := 2) d_TrustDeskLaw_law_300 (by decide) ?_
    refine mv_iaddv (v := 2) d_TrustDeskLaw_law_301 (by decide) ?_
    refine mv_sld (v := (mj_xs g 2)) d_TrustDeskLaw_law_302 (by rw [hL]; unfold vp_in; decide) rfl ?_
    refine mv_aload_n d_TrustDeskLaw_law_303 rfl rfl ?_
    refine mv_iload d_TrustDeskLaw_law_304 rfl ?_
    refine mv_iconst (v := 3) d_TrustDeskLaw_law_306 (by decide) ?_
    refine mv_iaddv (v := 3) d_TrustDeskLaw_law_307 (by decide) ?_
    refine mv_sld (v := (mj_xs g 3)) d_TrustDeskLaw_law_308 (by rw [hL]; unfold vp_in; decide) rfl ?_
    refine mv_aload_n d_TrustDeskLaw_law_309 rfl rfl ?_
    refine mv_iload d_TrustDeskLaw_law_310 rfl ?_
    refine mv_iconst (v := 4) d_TrustDeskLaw_law_312 (by decide) ?_
    refine mv_iaddv (v := 4) d_TrustDeskLaw_law_313 (by decide) ?_
    refine mv_sld (v := (mj_xs g 4)) d_TrustDeskLaw_law_314 (by rw [hL]; unfold vp_in; decide) rfl ?_
    refine mv_aload_n d_TrustDeskLaw_law_315 rfl rfl ?_
    refine mv_iload d_TrustDeskLaw_law_316 rfl ?_
    refine mv_iconst (v := 5) d_TrustDeskLaw_law_318 (by decide) ?_
    refine mv_iaddv (v := 5) d_TrustDeskLaw_law_319 (by decide) ?_
    refine mv_sld (v := (mj_xs g 5)) d_TrustDeskLaw_law_320 (by rw [hL]; unfold vp_in; decide) rfl ?_
    refine mv_callV_s (kc' := 6) (ks' := 241) [.int (mj_xs g 1), .int (mj_xs g 2), .int (mj_xs g 3), .int (mj_xs g 4), .int (mj_xs g 5)] [.int (mj_xs g 5), .int (mj_xs g 4), .int (mj_xs g 3), .int (mj_xs g 2), .int (mj_xs g 1), .ref 64] d_TrustDeskLaw_law_321 lV_TrustDeskLaw_29 h_64 rfl (c_TrustDesk_feed_0 (d := (d + 7)) (x1 := (mj_xs g 1)) (x2 := (mj_xs g 2)) (x3 := (mj_xs g 3)) (x4 := (mj_xs g 4)) (x5 := (mj_xs g 5)) (h_64 := h_64) (h_70 := h_70) (h_71 := h_71)) rfl (Nat.le_of_ble_eq_true rfl) (Nat.le_of_ble_eq_true rfl) (Nat.le_of_ble_eq_true rfl) rfl ?_
    refine mv_aload_n d_TrustDeskLaw_law_324 rfl rfl ?_
    refine mv_aload_n d_TrustDeskLaw_law_325 rfl rfl ?_
    refine mv_iload d_TrustDeskLaw_law_326 rfl ?_
    refine mv_iconst (v := 1) d_TrustDeskLaw_law_328 (by decide) ?_
    refine mv_iaddv (v := 1) d_TrustDeskLaw_law_329 (by decide) ?_
    refine mv_sld (v := (mj_xs g 1)) d_TrustDeskLaw_law_330 (by rw [hL]; unfold vp_in; decide) rfl ?_
    refine mv_aload_n d_TrustDeskLaw_law_331 rfl rfl ?_
    refine mv_iload d_TrustDeskLaw_law_332 rfl ?_
    refine mv_iconst (v := 2) d_TrustDeskLaw_law_334 (by decide) ?_
    refine mv_iaddv (v := 2) d_TrustDeskLaw_law_335 (by decide) ?_
    refine mv_sld (v := (mj_xs g 2)) d_TrustDeskLaw_law_336 (by rw [hL]; unfold vp_in; decide) rfl ?_
    refine mv_aload_n d_TrustDeskLaw_law_337 rfl rfl ?_
    refine mv_iload d_TrustDeskLaw_law_338 rfl ?_
    refine mv_iconst (v := 3) d_TrustDeskLaw_law_340 (by decide) ?_
    refine mv_iaddv (v := 3) d_TrustDeskLaw_law_341 (by decide) ?_
    refine mv_sld (v := (mj_xs g 3)) d_TrustDeskLaw_law_342 (by rw [hL]; unfold vp_in; decide) rfl ?_
    refine mv_aload_n d_TrustDeskLaw_law_343 rfl rfl ?_
    refine mv_iload d_TrustDeskLaw_law_344 rfl ?_
    refine mv_iconst (v := 4) d_TrustDeskLaw_law_346 (by decide) ?_
    refine mv_iaddv (v := 4) d_TrustDeskLaw_law_347 (by decide) ?_
    refine mv_sld (v := (mj_xs g 4)) d_TrustDeskLaw_law_348 (by rw [hL]; unfold vp_in; decide) rfl ?_
    refine mv_aload_n d_TrustDeskLaw_law_349 rfl rfl ?_
    refine mv_iload d_TrustDeskLaw_law_350 rfl ?_
    refine mv_iconst (v := 5) d_TrustDeskLaw_law_352 (by decide) ?_
    refine mv_iaddv (v := 5) d_TrustDeskLaw_law_353 (by decide) ?_
    refine mv_sld (v := (mj_xs g 5)) d_TrustDeskLaw_law_354 (by rw [hL]; unfold vp_in; decide) rfl ?_
    refine mv_callV_s (kc' := 6) (ks' := 241) [.int (mj_xs g 1), .int (mj_xs g 2), .int (mj_xs g 3), .int (mj_xs g 4), .int (mj_xs g 5)] [.int (mj_xs g 5), .int (mj_xs g 4), .int (mj_xs g 3), .int (mj_xs g 2), .int (mj_xs g 1), .ref 99, .int 20] d_TrustDeskLaw_law_355 lV_TrustDeskLaw_33 ((mj_up_ne _ _ (Nat.ne_of_beq_eq_false rfl)).trans ((mj_up_ne _ _ (Nat.ne_of_beq_eq_false rfl)).trans ((mj_up_ne _ _ (Nat.ne_of_beq_eq_false rfl)).trans ((mj_up_ne _ _ (Nat.ne_of_beq_eq_false rfl)).trans ((mj_up_ne _ _ (Nat.ne_of_beq_eq_false rfl)).trans ((mj_up_ne _ _ (Nat.ne_of_beq_eq_false rfl)).trans ((mj_up_ne _ _ (Nat.ne_of_beq_eq_false rfl)).trans ((mj_up_ne _ _ (Nat.ne_of_beq_eq_false rfl)).trans ((mj_up_ne _ _ (Nat.ne_of_beq_eq_false rfl)).trans ((mj_up_ne _ _ (Nat.ne_of_beq_eq_false rfl)).trans ((mj_up_ne _ _ (Nat.ne_of_beq_eq_false rfl)).trans ((mj_up_ne _ _ (Nat.ne_of_beq_eq_false rfl)).trans ((mj_up_ne _ _ (Nat.ne_of_beq_eq_false rfl)).trans ((mj_up_ne _ _ (Nat.ne_of_beq_eq_false rfl)).trans ((mj_up_ne _ _ (Nat.ne_of_beq_eq_false rfl)).trans ((mj_up_ne _ _ (Nat.ne_of_beq_eq_false rfl)).trans ((mj_up_ne _ _ (Nat.ne_of_beq_eq_false rfl)).trans ((mj_up_ne _ _ (Nat.ne_of_beq_eq_false rfl)).trans ((mj_up_ne _ _ (Nat.ne_of_beq_eq_false rfl)).trans ((mj_up_ne _ _ (Nat.ne_of_beq_eq_false rfl)).trans ((mj_up_ne _ _ (Nat.ne_of_beq_eq_false rfl)).trans ((mj_up_ne _ _ (Nat.ne_of_beq_eq_false rfl)).trans ((mj_up_ne _ _ (Nat.ne_of_beq_eq_false rfl)).trans ((mj_up_ne _ _ (Nat.ne_of_beq_eq_false rfl)).trans ((mj_up_ne _ _ (Nat.ne_of_beq_eq_false rfl)).trans ((mj_up_ne _ _ (Nat.ne_of_beq_eq_false rfl)).trans ((mj_up_ne _ _ (Nat.ne_of_beq_eq_false rfl)).trans ((mj_up_ne _ _ (Nat.ne_of_beq_eq_false rfl)).trans ((mj_up_ne _ _ (Nat.ne_of_beq_eq_false rfl)).trans ((mj_up_ne _ _ (Nat.ne_of_beq_eq_false rfl)).trans ((mj_up_ne _ _ (Nat.ne_of_beq_eq_false rfl)).trans ((mj_up_ne _ _ (Nat.ne_of_beq_eq_false rfl)).trans ((mj_up_ne _ _ (Nat.ne_of_beq_eq_false rfl)).trans ((mj_up_ne _ _ (Nat.ne_of_beq_eq_false rfl)).trans ((mj_up_ne _ _ (Nat.ne_of_beq_eq_false rfl)).trans ((mj_up_ne _ _ (Nat.ne_of_beq_eq_false rfl)).trans ((mj_up_ne _ _ (Nat.ne_of_beq_eq_false rfl)).trans ((mj_up_ne _ _ (Nat.ne_of_beq_eq_false rfl)).trans ((mj_up_ne _ _ (Nat.ne_of_beq_eq_false rfl)).trans ((mj_up_ne _ _ (Nat.ne_of_beq_eq_false rfl)).trans h_99)))))))))))))))))))))))))))))))))))))))) rfl (c_TrustDeskModel_feed_0 (d := (d + 8)) (x1 := (mj_xs g 1)) (x2 := (mj_xs g 2)) (x3 := (mj_xs g 3)) (x4 := (mj_xs g 4)) (x5 := (mj_xs g 5)) (h_99 := ((mj_up_ne _ _ (Nat.ne_of_beq_eq_false rfl)).trans ((mj_up_ne _ _ (Nat.ne_of_beq_eq_false rfl)).trans ((mj_up_ne _ _ (Nat.ne_of_beq_eq_false rfl)).trans ((mj_up_ne _ _ (Nat.ne_of_beq_eq_false rfl)).trans ((mj_up_ne _ _ (Nat.ne_of_beq_eq_false rfl)).trans ((mj_up_ne _ _ (Nat.ne_of_beq_eq_false rfl)).trans ((mj_up_ne _ _ (Nat.ne_of_beq_eq_false rfl)).trans ((mj_up_ne _ _ (Nat.ne_of_beq_eq_false rfl)).trans ((mj_up_ne _ _ (Nat.ne_of_beq_eq_false rfl)).trans ((mj_up_ne _ _ (Nat.ne_of_beq_eq_false rfl)).trans ((mj_up_ne _ _ (Nat.ne_of_beq_eq_false rfl)).trans ((mj_up_ne _ _ (Nat.ne_of_beq_eq_false rfl)).trans ((mj_up_ne _ _ (Nat.ne_of_beq_eq_false rfl)).trans ((mj_up_ne _ _ (Nat.ne_of_beq_eq_false rfl)).trans ((mj_up_ne _ _ (Nat.ne_of_beq_eq_false rfl)).trans ((mj_up_ne _ _ (Nat.ne_of_beq_eq_false rfl)).trans ((mj_up_ne _ _ (Nat.ne_of_beq_eq_false rfl)).trans ((mj_up_ne _ _ (Nat.ne_of_beq_eq_false rfl)).trans ((mj_up_ne _ _ (Nat.ne_of_beq_eq_false rfl)).trans ((mj_up_ne _ _ (Nat.ne_of_beq_eq_false rfl)).trans ((mj_up_ne _ _ (Nat.ne_of_beq_eq_false rfl)).trans ((mj_up_ne _ _ (Nat.ne_of_beq_eq_false rfl)).trans ((mj_up_ne _ _ (Nat.ne_of_beq_eq_false rfl)).trans ((mj_up_ne _ _ (Nat.ne_of_beq_eq_false rfl)).trans ((mj_up_ne _ _ (Nat.ne_of_beq_eq_false rfl)).trans ((mj_up_ne _ _ (Nat.ne_of_beq_eq_false rfl)).trans ((mj_up_ne _ _ (Nat.ne_of_beq_eq_false rfl)).trans ((mj_up_ne _ _ (Nat.ne_of_beq_eq_false rfl)).trans ((mj_up_ne _ _ (Nat.ne_of_beq_eq_false rfl)).trans ((mj_up_ne _ _ (Nat.ne_of_beq_eq_false rfl)).trans ((mj_up_ne _ _ (Nat.ne_of_beq_eq_false rfl)).trans ((mj_up_ne _ _ (Nat.ne_of_beq_eq_false rfl)).trans ((mj_up_ne _ _ (Nat.ne_of_beq_eq_false rfl)).trans ((mj_up_ne _ _ (Nat.ne_of_beq_eq_false rfl)).trans ((mj_up_ne _ _ (Nat.ne_of_beq_eq_false rfl)).trans ((mj_up_ne _ _ (Nat.ne_of_beq_eq_false rfl)).trans ((mj_up_ne _ _ (Nat.ne_of_beq_eq_false rfl)).trans ((mj_up_ne _ _ (Nat.ne_of_beq_eq_false rfl)).trans ((mj_up_ne _ _ (Nat.ne_of_beq_eq_false rfl)).trans ((mj_up_ne _ _ (Nat.ne_of_beq_eq_false rfl)).trans h_99))))))))))))))))))))))))))))))))))))))))) (h_110 := ((mj_up_ne _ _ (Nat.ne_of_beq_eq_false rfl)).trans ((mj_up_ne _ _ (Nat.ne_of_beq_eq_false rfl)).trans ((mj_up_ne _ _ (Nat.ne_of_beq_eq_false rfl)).trans ((mj_up_ne _ _ (Nat.ne_of_beq_eq_false rfl)).trans ((mj_up_ne _ _ (Nat.ne_of_beq_eq_false rfl)).trans ((mj_up_ne _ _ (Nat.ne_of_beq_eq_false rfl)).trans ((mj_up_ne _ _ (Nat.ne_of_beq_eq_false rfl)).trans ((mj_up_ne _ _ (Nat.ne_of_beq_eq_false rfl)).trans ((mj_up_ne _ _ (Nat.ne_of_beq_eq_false rfl)).trans ((mj_up_ne _ _ (Nat.ne_of_beq_eq_false rfl)).trans ((mj_up_ne _ _ (Nat.ne_of_beq_eq_false rfl)).trans ((mj_up_ne _ _ (Nat.ne_of_beq_eq_false rfl)).trans ((mj_up_ne _ _ (Nat.ne_of_beq_eq_false rfl)).trans ((mj_up_ne _ _ (Nat.ne_of_beq_eq_false rfl)).trans ((mj_up_ne _ _ (Nat.ne_of_beq_eq_false rfl)).trans ((mj_up_ne _ _ (Nat.ne_of_beq_eq_false rfl)).trans ((mj_up_ne _ _ (Nat.ne_of_beq_eq_false rfl)).trans ((mj_up_ne _ _ (Nat.ne_of_beq_eq_false rfl)).trans ((mj_up_ne _ _ (Nat.ne_of_beq_eq_false rfl)).trans ((mj_up_ne _ _ (Nat.ne_of_beq_eq_false rfl)).trans ((mj_up_ne _ _ (Nat.ne_of_beq_eq_false rfl)).trans ((mj_up_ne _ _ (Nat.ne_of_beq_eq_false rfl)).trans ((mj_up_ne _ _ (Nat.ne_of_beq_eq_false rfl)).trans ((mj_up_ne _ _ (Nat.ne_of_beq_eq_false rfl)).trans ((mj_up_ne _ _ (Nat.ne_of_beq_eq_false rfl)).trans ((mj_up_ne _ _ (Nat.ne_of_beq_eq_false rfl)).trans ((mj_up_ne _ _ (Nat.ne_of_beq_eq_false rfl)).trans ((mj_up_ne _ _ (Nat.ne_of_beq_eq_false rfl)).trans ((mj_up_ne _ _ (Nat.ne_of_beq_eq_false rfl)).trans ((mj_up_ne _ _ (Nat.ne_of_beq_eq_false rfl)).trans ((mj_up_ne _ _ (Nat.ne_of_beq_eq_false rfl)).trans ((mj_up_ne _ _ (Nat.ne_of_beq_eq_false rfl)).trans ((mj_up_ne _ _ (Nat.ne_of_beq_eq_false rfl)).trans ((mj_up_ne _ _ (Nat.ne_of_beq_eq_false rfl)).trans ((mj_up_ne _ _ (Nat.ne_of_beq_eq_false rfl)).trans ((mj_up_ne _ _ (Nat.ne_of_beq_eq_false rfl)).trans ((mj_up_ne _ _ (Nat.ne_of_beq_eq_false rfl)).trans ((mj_up_ne _ _ (Nat.ne_of_beq_eq_false rfl)).trans ((mj_up_ne _ _ (Nat.ne_of_beq_eq_false rfl)).trans ((mj_up_ne _ _ (Nat.ne_of_beq_eq_false rfl)).trans h_110)))))))))))))))))))))))))))))))))))))))))) rfl (Nat.le_of_ble_eq_true rfl) (Nat.le_of_ble_eq_true rfl) (Nat.le_of_ble_eq_true rfl) rfl ?_
    refine mv_icmp_eq_t (tgt := 1513) d_TrustDeskLaw_law_358 (by decide) (by decide) ?_
    refine mv_iinc (v := 6) (lv' := [(4, .int 6), (3, .ref 148), (2, .ref 99), (1, .ref 64), (0, .ref 50)]) d_TrustDeskLaw_law_1513 rfl (by decide) (by decide) rfl ?_
    refine mv_goto (tgt := 23) d_TrustDeskLaw_law_1516 (by decide) ?_
    refine mv_iload d_TrustDeskLaw_law_23 rfl ?_
    refine mv_aload_n d_TrustDeskLaw_law_25 rfl rfl ?_
    refine mv_slen (v := 6) d_TrustDeskLaw_law_26 (by rw [hL]; rfl) ?_
    refine mv_bipush (v := 6) d_TrustDeskLaw_law_27 (by decide) ?_
    refine mv_isubv (v := 0) d_TrustDeskLaw_law_29 (by decide) ?_
    refine mv_icmp_gt_t (tgt := 1519) d_TrustDeskLaw_law_30 (by decide) (by decide) ?_
    refine mv_iconst (v := 1) d_TrustDeskLaw_law_1519 (by decide) ?_
    exact mv_iret d_TrustDeskLaw_law_1520 rfl (by first | rfl | decide) rfl
  · refine mv_tableIn (tgt := 363) (off := 323) d_TrustDeskLaw_law_40 (by omega) (by omega) (by rw [b2]; rfl) (by decide) ?_
    refine mv_aload_n d_TrustDeskLaw_law_363 rfl rfl ?_
    refine mv_aload_n d_TrustDeskLaw_law_364 rfl rfl ?_
    refine mv_iload d_TrustDeskLaw_law_365 rfl ?_
    refine mv_iconst (v := 1) d_TrustDeskLaw_law_367 (by decide) ?_
    refine mv_iaddv (v := 1) d_TrustDeskLaw_law_368 (by decide) ?_
    refine mv_sld (v := (mj_xs g 1)) d_TrustDeskLaw_law_369 (by rw [hL]; unfold vp_in; decide) rfl ?_
    refine mv_callV (kc' := 6) (ks' := 241) (As := [.int (mj_xs g 1)]) (st9 := [.int (mj_xs g 1), .ref 64]) d_TrustDeskLaw_law_370 lV_TrustDeskLaw_34 h_64 rfl (c_TrustDesk_end_0 (d := (d + 8)) (x1 := (mj_xs g 1)) (h_64 := h_64) (h_70 := h_70)) rfl (Nat.le_of_ble_eq_true rfl) (Nat.le_of_ble_eq_true rfl) (Nat.le_of_ble_eq_true rfl) (hst := rfl) (fun b7r b7M b7n b7 => ?_)
    obtain ⟨rfl, b7⟩ := b7
    refine mv_aload_n d_TrustDeskLaw_law_373 rfl rfl ?_
    refine mv_aload_n d_TrustDeskLaw_law_374 rfl rfl ?_
    refine mv_iload d_TrustDeskLaw_law_375 rfl ?_
    refine mv_iconst (v := 1) d_TrustDeskLaw_law_377 (by decide) ?_
    refine mv_iaddv (v := 1) d_TrustDeskLaw_law_378 (by decide) ?_
    refine mv_sld (v := (mj_xs g 1)) d_TrustDeskLaw_law_379 (by rw [hL]; unfold vp_in; decide) rfl ?_
    refine mv_callV (kc' := 6) (ks' := 241) (As := [.int (mj_xs g 1)]) (st9 := [.int (mj_xs g 1), .ref 99, .int (e_end (mj_xs g 1))]) d_TrustDeskLaw_law_380 lV_TrustDeskLaw_38 ((b7 99 (by decide) (by decide)).trans h_99) rfl (c_TrustDeskModel_end_0 (d := (d + 8)) (x1 := (mj_xs g 1)) (h_99 := ((b7 99 (by decide) (by decide)).trans h_99))) rfl (Nat.le_of_ble_eq_true rfl) (Nat.le_of_ble_eq_true rfl) (Nat.le_of_ble_eq_true rfl) (hst := rfl) (fun b8r b8M b8n b8 => ?_)
    obtain ⟨rfl, b8⟩ := b8
    refine mv_icmp_eq_t (tgt := 1513) d_TrustDeskLaw_law_383 (by decide) rfl ?_
    refine mv_iinc (v := 6) (lv' := [(4, .int 6), (3, .ref 148), (2, .ref 99), (1, .ref 64), (0, .ref 50)]) d_TrustDeskLaw_law_1513 rfl (by decide) (by decide) rfl ?_
    refine mv_goto (tgt := 23) d_TrustDeskLaw_law_1516 (by decide) ?_
    refine mv_iload d_TrustDeskLaw_law_23 rfl ?_
    refine mv_aload_n d_TrustDeskLaw_law_25 rfl rfl ?_
    refine mv_slen (v := 6) d_TrustDeskLaw_law_26 (by rw [hL]; rfl) ?_
    refine mv_bipush (v := 6) d_TrustDeskLaw_law_27 (by decide) ?_
    refine mv_isubv (v := 0) d_TrustDeskLaw_law_29 (by decide) ?_
    refine mv_icmp_gt_t (tgt := 1519) d_TrustDeskLaw_law_30 (by decide) (by decide) ?_
    refine mv_iconst (v := 1) d_TrustDeskLaw_law_1519 (by decide) ?_
    exact mv_iret d_TrustDeskLaw_law_1520 rfl (by first | rfl | decide) rfl
  · refine mv_tableIn (tgt := 388) (off := 348) d_TrustDeskLaw_law_40 (by omega) (by omega) (by rw [b2]; rfl) (by decide) ?_
    refine mv_aload_n d_TrustDeskLaw_law_388 rfl rfl ?_
    refine mv_aload_n d_TrustDeskLaw_law_389 rfl rfl ?_
    refine mv_iload d_TrustDeskLaw_law_390 rfl ?_
    refine mv_iconst (v := 1) d_TrustDeskLaw_law_392 (by decide) ?_
    refine mv_iaddv (v := 1) d_TrustDeskLaw_law_393 (by decide) ?_
    refine mv_sld (v := (mj_xs g 1)) d_TrustDeskLaw_law_394 (by rw [hL]; unfold vp_in; decide) rfl ?_
    refine mv_callV (kc' := 1) (ks' := 197) (As := [.int (mj_xs g 1)]) (st9 := [.int (mj_xs g 1), .ref 64]) d_TrustDeskLaw_law_395 lV_TrustDeskLaw_39 h_64 rfl (c_TrustDesk_act_0 (d := (d + 3)) (x1 := (mj_xs g 1)) (h_64 := h_64) (h_70 := h_70) (h_94 := h_94)) rfl (Nat.le_of_ble_eq_true rfl) (Nat.le_of_ble_eq_true rfl) (Nat.le_of_ble_eq_true rfl) (hst := rfl) (fun b9r b9M b9n b9 => ?_)
    obtain ⟨rfl, b9⟩ := b9
    refine mv_aload_n d_TrustDeskLaw_law_398 rfl rfl ?_
    refine mv_aload_n d_TrustDeskLaw_law_399 rfl rfl ?_
    refine mv_iload d_TrustDeskLaw_law_400 rfl ?_
    refine mv_iconst (v := 1) d_TrustDeskLaw_law_402 (by decide) ?_
    refine mv_iaddv (v := 1) d_TrustDeskLaw_law_403 (by decide) ?_
    refine mv_sld (v := (mj_xs g 1)) d_TrustDeskLaw_law_404 (by rw [hL]; unfold vp_in; decide) rfl ?_
    refine mv_callV (kc' := 1) (ks' := 197) (As := [.int (mj_xs g 1)]) (st9 := [.int (mj_xs g 1), .ref 99, .int (e_act (mj_xs g 1))]) d_TrustDeskLaw_law_405 lV_TrustDeskLaw_42 ((b9 99 (by decide) (by decide)).trans h_99) rfl (c_TrustDeskModel_act_0 (d := (d + 6)) (x1 := (mj_xs g 1)) (h_99 := ((b9 99 (by decide) (by decide)).trans h_99)) (h_102 := ((b9 102 (by decide) (by decide)).trans h_102)) (h_103 := ((b9 103 (by decide) (by decide)).trans h_103)) (h_113 := ((b9 113 (by decide) (by decide)).trans h_113))) rfl (Nat.le_of_ble_eq_true rfl) (Nat.le_of_ble_eq_true rfl) (Nat.le_of_ble_eq_true rfl) (hst := rfl) (fun b10r b10M b10n b10 => ?_)
    obtain ⟨rfl, b10⟩ := b10
    refine mv_icmp_eq_t (tgt := 1513) d_TrustDeskLaw_law_408 (by decide) rfl ?_
    refine mv_iinc (v := 6) (lv' := [(4, .int 6), (3, .ref 148), (2, .ref 99), (1, .ref 64), (0, .ref 50)]) d_TrustDeskLaw_law_1513 rfl (by decide) (by decide) rfl ?_
    refine mv_goto (tgt := 23) d_TrustDeskLaw_law_1516 (by decide) ?_
    refine mv_iload d_TrustDeskLaw_law_23 rfl ?_
    refine mv_aload_n d_TrustDeskLaw_law_25 rfl rfl ?_
    refine mv_slen (v := 6) d_TrustDeskLaw_law_26 (by rw [hL]; rfl) ?_
    refine mv_bipush (v := 6) d_TrustDeskLaw_law_27 (by decide) ?_
    refine mv_isubv (v := 0) d_TrustDeskLaw_law_29 (by decide) ?_
    refine mv_icmp_gt_t (tgt := 1519) d_TrustDeskLaw_law_30 (by decide) (by decide) ?_
    refine mv_iconst (v := 1) d_TrustDeskLaw_law_1519 (by decide) ?_
    exact mv_iret d_TrustDeskLaw_law_1520 rfl (by first | rfl | decide) rfl
  · refine mv_tableIn (tgt := 413) (off := 373) d_TrustDeskLaw_law_40 (by omega) (by omega) (by rw [b2]; rfl) (by decide) ?_
    refine mv_aload_n d_TrustDeskLaw_law_413 rfl rfl ?_
    refine mv_aload_n d_TrustDeskLaw_law_414 rfl rfl ?_
    refine mv_iload d_TrustDeskLaw_law_415 rfl ?_
    refine mv_iconst (v := 1) d_TrustDeskLaw_law_417 (by decide) ?_
    refine mv_iaddv (v := 1) d_TrustDeskLaw_law_418 (by decide) ?_
    refine mv_sld (v := (mj_xs g 1)) d_TrustDeskLaw_law_419 (by rw [hL]; unfold vp_in; decide) rfl ?_
    refine mv_aload_n d_TrustDeskLaw_law_420 rfl rfl ?_
    refine mv_iload d_TrustDeskLaw_law_421 rfl ?_
    refine mv_iconst (v := 2) d_TrustDeskLaw_law_423 (by decide) ?_
    refine mv_iaddv (v := 2) d_TrustDeskLaw_law_424 (by decide) ?_
    refine mv_sld (v := (mj_xs g 2)) d_TrustDeskLaw_law_425 (by rw [hL]; unfold vp_in; decide) rfl ?_
    refine mv_callV (kc' := 6) (ks' := 241) (As := [.int (mj_xs g 1), .int (mj_xs g 2)]) (st9 := [.int (mj_xs g 2), .int (mj_xs g 1), .ref 64]) d_TrustDeskLaw_law_426 lV_TrustDeskLaw_43 h_64 rfl (c_TrustDesk_holds_0 (d := (d + 6)) (x1 := (mj_xs g 1)) (x2 := (mj_xs g 2)) (h_64 := h_64) (h_90 := h_90) (h_92 := h_92) (h_94 := h_94)) rfl (Nat.le_of_ble_eq_true rfl) (Nat.le_of_ble_eq_true rfl) (Nat.le_of_ble_eq_true rfl) (hst := rfl) (fun b11r b11M b11n b11 => ?_)
    obtain ⟨rfl, b11⟩ := b11
    refine mv_aload_n d_TrustDeskLaw_law_429 rfl rfl ?_
    refine mv_aload_n d_TrustDeskLaw_law_430 rfl rfl ?_
    refine mv_iload d_TrustDeskLaw_law_431 rfl ?_
    refine mv_iconst (v := 1) d_TrustDeskLaw_law_433 (by decide) ?_
    refine mv_iaddv (v := 1) d_TrustDeskLaw_law_434 (by decide) ?_
    refine mv_sld (v := (mj_xs g 1)) d_TrustDeskLaw_law_435 (by rw [hL]; unfold vp_in; decide) rfl ?_
    refine mv_aload_n d_TrustDeskLaw_law_436 rfl rfl ?_
    refine mv_iload d_TrustDeskLaw_law_437 rfl ?_
    refine mv_iconst (v := 2) d_TrustDeskLaw_law_439 (by decide) ?_
    refine mv_iaddv (v := 2) d_TrustDeskLaw_law_440 (by decide) ?_
    refine mv_sld (v := (mj_xs g 2)) d_TrustDeskLaw_law_441 (by rw [hL]; unfold vp_in; decide) rfl ?_
    refine mv_callV (kc' := 6) (ks' := 241) (As := [.int (mj_xs g 1), .int (mj_xs g 2)]) (st9 := [.int (mj_xs g 2), .int (mj_xs g 1), .ref 99, .int (e_holds (mj_xs g 1) (mj_xs g 2))]) d_TrustDeskLaw_law_442 lV_TrustDeskLaw_46 ((b11 99 (by decide) (by decide)).trans h_99) rfl (c_TrustDeskModel_holds_0 (d := (d + 6)) (x1 := (mj_xs g 1)) (x2 := (mj_xs g 2)) (h_99 := ((b11 99 (by decide) (by decide)).trans h_99))) rfl (Nat.le_of_ble_eq_true rfl) (Nat.le_of_ble_eq_true rfl) (Nat.le_of_ble_eq_true rfl) (hst := rfl) (fun b12r b12M b12n b12 => ?_)
    obtain ⟨rfl, b12⟩ := b12
    refine mv_icmp_eq_t (tgt := 1513) d_TrustDeskLaw_law_445 (by decide) rfl ?_
    refine mv_iinc (v := 6) (lv' := [(4, .int 6), (3, .ref 148), (2, .ref 99), (1, .ref 64), (0, .ref 50)]) d_TrustDeskLaw_law_1513 rfl (by decide) (by decide) rfl ?_
    refine mv_goto (tgt := 23) d_TrustDeskLaw_law_1516 (by decide) ?_
    refine mv_iload d_TrustDeskLaw_law_23 rfl ?_
    refine mv_aload_n d_TrustDeskLaw_law_25 rfl rfl ?_
    refine mv_slen (v := 6) d_TrustDeskLaw_law_26 (by rw [hL]; rfl) ?_
    refine mv_bipush (v := 6) d_TrustDeskLaw_law_27 (by decide) ?_
    refine mv_isubv (v := 0) d_TrustDeskLaw_law_29 (by decide) ?_
    refine mv_icmp_gt_t (tgt := 1519) d_TrustDeskLaw_law_30 (by decide) (by decide) ?_
    refine mv_iconst (v := 1) d_TrustDeskLaw_law_1519 (by decide) ?_
    exact mv_iret d_TrustDeskLaw_law_1520 rfl (by first | rfl | decide) rfl
  · refine mv_tableIn (tgt := 450) (off := 410) d_TrustDeskLaw_law_40 (by omega) (by omega) (by rw [b2]; rfl) (by decide) ?_
    refine mv_aload_n d_TrustDeskLaw_law_450 rfl rfl ?_
    refine mv_aload_n d_TrustDeskLaw_law_451 rfl rfl ?_
    refine mv_iload d_TrustDeskLaw_law_452 rfl ?_
    refine mv_iconst (v := 1) d_TrustDeskLaw_law_454 (by decide) ?_
    refine mv_iaddv (v := 1) d_TrustDeskLaw_law_455 (by decide) ?_
    refine mv_sld (v := (mj_xs g 1)) d_TrustDeskLaw_law_456 (by rw [hL]; unfold vp_in; decide) rfl ?_
    refine mv_aload_n d_TrustDeskLaw_law_457 rfl rfl ?_
    refine mv_iload d_TrustDeskLaw_law_458 rfl ?_
    refine mv_iconst (v := 2) d_TrustDeskLaw_law_460 (by decide) ?_
    refine mv_iaddv (v := 2) d_TrustDeskLaw_law_461 (by decide) ?_
    refine mv_sld (v := (mj_xs g 2)) d_TrustDeskLaw_law_462 (by rw [hL]; unfold vp_in; decide) rfl ?_
    refine mv_callV (kc' := 0) (ks' := 0) (As := [.int (mj_xs g 1), .int (mj_xs g 2)]) (st9 := [.int (mj_xs g 2), .int (mj_xs g 1), .ref 64]) d_TrustDeskLaw_law_463 lV_TrustDeskLaw_47 h_64 rfl (c_TrustDesk_fund_0 (d := (d + 3)) (x1 := (mj_xs g 1)) (x2 := (mj_xs g 2)) (h_64 := h_64) (h_70 := h_70) (h_95 := h_95)) rfl (Nat.le_of_ble_eq_true rfl) (Nat.le_of_ble_eq_true rfl) (Nat.le_of_ble_eq_true rfl) (hst := rfl) (fun b13r b13M b13n b13 => ?_)
    obtain ⟨rfl, b13⟩ := b13
    refine mv_aload_n d_TrustDeskLaw_law_466 rfl rfl ?_
    refine mv_aload_n d_TrustDeskLaw_law_467 rfl rfl ?_
    refine mv_iload d_TrustDeskLaw_law_468 rfl ?_
    refine mv_iconst (v := 1) d_TrustDeskLaw_law_470 (by decide) ?_
    refine mv_iaddv (v := 1) d_TrustDeskLaw_law_471 (by decide) ?_
    refine mv_sld (v := (mj_xs g 1)) d_TrustDeskLaw_law_472 (by rw [hL]; unfold vp_in; decide) rfl ?_
    refine mv_aload_n d_TrustDeskLaw_law_473 rfl rfl ?_
    refine mv_iload d_TrustDeskLaw_law_474 rfl ?_
    refine mv_iconst (v := 2) d_TrustDeskLaw_law_476 (by decide) ?_
    refine mv_iaddv (v := 2) d_TrustDeskLaw_law_477 (by decide) ?_
    refine mv_sld (v := (mj_xs g 2)) d_TrustDeskLaw_law_478 (by rw [hL]; unfold vp_in; decide) rfl ?_
    refine mv_callV (kc' := 0) (ks' := 0) (As := [.int (mj_xs g 1), .int (mj_xs g 2)]) (st9 := [.int (mj_xs g 2), .int (mj_xs g 1), .ref 99, .int (e_fund (mj_xs g 1) (mj_xs g 2))]) d_TrustDeskLaw_law_479 lV_TrustDeskLaw_50 ((b13 99 (by decide) (by decide)).trans h_99) rfl (c_TrustDeskModel_fund_0 (d := (d + 6)) (x1 := (mj_xs g 1)) (x2 := (mj_xs g 2)) (h_99 := ((b13 99 (by decide) (by decide)).trans h_99)) (h_102 := ((b13 102 (by decide) (by decide)).trans h_102)) (h_103 := ((b13 103 (by decide) (by decide)).trans h_103)) (h_116 := ((b13 116 (by decide) (by decide)).trans h_116)) (h_117 := ((b13 117 (by decide) (by decide)).trans h_117)) (h_118 := ((b13 118 (by decide) (by decide)).trans h_118)) (h_119 := ((b13 119 (by decide) (by decide)).trans h_119)) (h_120 := ((b13 120 (by decide) (by decide)).trans h_120)) (h_121 := ((b13 121 (by decide) (by decide)).trans h_121)) (h_122 := ((b13 122 (by decide) (by decide)).trans h_122)) (h_124 := ((b13 124 (by decide) (by decide)).trans h_124))) rfl (Nat.le_of_ble_eq_true rfl) (Nat.le_of_ble_eq_true rfl) (Nat.le_of_ble_eq_true rfl) (hst := rfl) (fun b14r b14M b14n b14 => ?_)
    obtain ⟨rfl, b14⟩ := b14
    refine mv_icmp_eq_t (tgt := 1513) d_TrustDeskLaw_law_482 (by decide) rfl ?_
    refine mv_iinc (v := 6) (lv' := [(4, .int 6), (3, .ref 148), (2, .ref 99), (1, .ref 64), (0, .ref 50)]) d_TrustDeskLaw_law_1513 rfl (by decide) (by decide) rfl ?_
    refine mv_goto (tgt := 23) d_TrustDeskLaw_law_1516 (by decide) ?_
    refine mv_iload d_TrustDeskLaw_law_23 rfl ?_
    refine mv_aload_n d_TrustDeskLaw_law_25 rfl rfl ?_
    refine mv_slen (v := 6) d_TrustDeskLaw_law_26 (by rw [hL]; rfl) ?_
    refine mv_bipush (v := 6) d_TrustDeskLaw_law_27 (by decide) ?_
    refine mv_isubv (v := 0) d_TrustDeskLaw_law_29 (by decide) ?_
    refine mv_icmp_gt_t (tgt := 1519) d_TrustDeskLaw_law_30 (by decide) (by decide) ?_
    refine mv_iconst (v := 1) d_TrustDeskLaw_law_1519 (by decide) ?_
    exact mv_iret d_TrustDeskLaw_law_1520 rfl (by first | rfl | decide) rfl
  · refine mv_tableIn (tgt := 487) (off := 447) d_TrustDeskLaw_law_40 (by omega) (by omega) (by rw [b2]; rfl) (by decide) ?_
    refine mv_aload_n d_TrustDeskLaw_law_487 rfl rfl ?_
    refine mv_aload_n d_TrustDeskLaw_law_488 rfl rfl ?_
    refine mv_iload d_TrustDeskLaw_law_489 rfl ?_
    refine mv_iconst (v := 1) d_TrustDeskLaw_law_491 (by decide) ?_
    refine mv_iaddv (v := 1) d_TrustDeskLaw_law_492 (by decide) ?_
    refine mv_sld (v := (mj_xs g 1)) d_TrustDeskLaw_law_493 (by rw [hL]; unfold vp_in; decide) rfl ?_
    refine mv_callV (kc' := 6) (ks' := 241) (As := [.int (mj_xs g 1)]) (st9 := [.int (mj_xs g 1), .ref 64]) d_TrustDeskLaw_law_494 lV_TrustDeskLaw_51 h_64 rfl (c_TrustDesk_near_0 (d := (d + 5)) (x1 := (mj_xs g 1)) (h_64 := h_64) (h_70 := h_70) (h_96 := h_96)) rfl (Nat.le_of_ble_eq_true rfl) (Nat.le_of_ble_eq_true rfl) (Nat.le_of_ble_eq_true rfl) (hst := rfl) (fun b15r b15M b15n b15 => ?_)
    obtain ⟨rfl, b15⟩ := b15
    refine mv_aload_n d_TrustDeskLaw_law_497 rfl rfl ?_
    refine mv_aload_n d_TrustDeskLaw_law_498 rfl rfl ?_
    refine mv_iload d_TrustDeskLaw_law_499 rfl ?_
    refine mv_iconst (v := 1) d_TrustDeskLaw_law_501 (by decide) ?_
    refine mv_iaddv (v := 1) d_TrustDeskLaw_law_502 (by decide) ?_
    refine mv_sld (v := (mj_xs g 1)) d_TrustDeskLaw_law_503 (by rw [hL]; unfold vp_in; decide) rfl ?_
    refine mv_callV (kc' := 6) (ks' := 241) (As := [.int (mj_xs g 1)]) (st9 := [.int (mj_xs g 1), .ref 99, .int (e_near (mj_xs g 1))]) d_TrustDeskLaw_law_504 lV_TrustDeskLaw_54 ((b15 99 (by decide) (by decide)).trans h_99) rfl (c_TrustDeskModel_near_0 (d := (d + 6)) (x1 := (mj_xs g 1)) (h_99 := ((b15 99 (by decide) (by decide)).trans h_99)) (h_102 := ((b15 102 (by decide) (by decide)).trans h_102)) (h_103 := ((b15 103 (by decide) (by decide)).trans h_103))) rfl (Nat.le_of_ble_eq_true rfl) (Nat.le_of_ble_eq_true rfl) (Nat.le_of_ble_eq_true rfl) (hst := rfl) (fun b16r b16M b16n b16 => ?_)
    obtain ⟨rfl, b16⟩ := b16
    refine mv_icmp_eq_t (tgt := 1513) d_TrustDeskLaw_law_507 (by decide) rfl ?_
    refine mv_iinc (v := 6) (lv' := [(4, .int 6), (3, .ref 148), (2, .ref 99), (1, .ref 64), (0, .ref 50)]) d_TrustDeskLaw_law_1513 rfl (by decide) (by decide) rfl ?_
    refine mv_goto (tgt := 23) d_TrustDeskLaw_law_1516 (by decide) ?_
    refine mv_iload d_TrustDeskLaw_law_23 rfl ?_
    refine mv_aload_n d_TrustDeskLaw_law_25 rfl rfl ?_
    refine mv_slen (v := 6) d_TrustDeskLaw_law_26 (by rw [hL]; rfl) ?_
    refine mv_bipush (v := 6) d_TrustDeskLaw_law_27 (by decide) ?_
    refine mv_isubv (v := 0) d_TrustDeskLaw_law_29 (by decide) ?_
    refine mv_icmp_gt_t (tgt := 1519) d_TrustDeskLaw_law_30 (by decide) (by decide) ?_
    refine mv_iconst (v := 1) d_TrustDeskLaw_law_1519 (by decide) ?_
    exact mv_iret d_TrustDeskLaw_law_1520 rfl (by first | rfl | decide) rfl
  · refine mv_tableIn (tgt := 512) (off := 472) d_TrustDeskLaw_law_40 (by omega) (by omega) (by rw [b2]; rfl) (by decide) ?_
    refine mv_aload_n d_TrustDeskLaw_law_512 rfl rfl ?_
    refine mv_callV_s (kc' := 6) (ks' := 241) [] [.ref 64] d_TrustDeskLaw_law_513 lV_TrustDeskLaw_55 h_64 rfl (c_TrustDesk_place_0 (d := (d + 8)) (h_64 := h_64) (h_70 := h_70)) rfl (Nat.le_of_ble_eq_true rfl) (Nat.le_of_ble_eq_true rfl) (Nat.le_of_ble_eq_true rfl) rfl ?_
    refine mv_aload_n d_TrustDeskLaw_law_516 rfl rfl ?_
    refine mv_callV_s (kc' := 6) (ks' := 241) [] [.ref 99, .int (-1)] d_TrustDeskLaw_law_517 lV_TrustDeskLaw_59 h_99 rfl (c_TrustDeskModel_place_0 (d := (d + 8)) (h_99 := h_99)) rfl (Nat.le_of_ble_eq_true rfl) (Nat.le_of_ble_eq_true rfl) (Nat.le_of_ble_eq_true rfl) rfl ?_
    refine mv_icmp_eq_t (tgt := 1513) d_TrustDeskLaw_law_520 (by decide) (by decide) ?_
    refine mv_iinc (v := 6) (lv' := [(4, .int 6), (3, .ref 148), (2, .ref 99), (1, .ref 64), (0, .ref 50)]) d_TrustDeskLaw_law_1513 rfl (by decide) (by decide) rfl ?_
    refine mv_goto (tgt := 23) d_TrustDeskLaw_law_1516 (by decide) ?_
    refine mv_iload d_TrustDeskLaw_law_23 rfl ?_
    refine mv_aload_n d_TrustDeskLaw_law_25 rfl rfl ?_
    refine mv_slen (v := 6) d_TrustDeskLaw_law_26 (by rw [hL]; rfl) ?_
    refine mv_bipush (v := 6) d_TrustDeskLaw_law_27 (by decide) ?_
    refine mv_isubv (v := 0) d_TrustDeskLaw_law_29 (by decide) ?_
    refine mv_icmp_gt_t (tgt := 1519) d_TrustDeskLaw_law_30 (by decide) (by decide) ?_
    refine mv_iconst (v := 1) d_TrustDeskLaw_law_1519 (by decide) ?_
    exact mv_iret d_TrustDeskLaw_law_1520 rfl (by first | rfl | decide) rfl
  · refine mv_tableIn (tgt := 525) (off := 485) d_TrustDeskLaw_law_40 (by omega) (by omega) (by rw [b2]; rfl) (by decide) ?_
    refine mv_aload_n d_TrustDeskLaw_law_525 rfl rfl ?_
    refine mv_aload_n d_TrustDeskLaw_law_526 rfl rfl ?_
    refine mv_iload d_TrustDeskLaw_law_527 rfl ?_
    refine mv_iconst (v := 1) d_TrustDeskLaw_law_529 (by decide) ?_
    refine mv_iaddv (v := 1) d_TrustDeskLaw_law_530 (by decide) ?_
    refine mv_sld (v := (mj_xs g 1)) d_TrustDeskLaw_law_531 (by rw [hL]; unfold vp_in; decide) rfl ?_
    refine mv_callV (kc' := 6) (ks' := 241) (As := [.int (mj_xs g 1)]) (st9 := [.int (mj_xs g 1), .ref 64]) d_TrustDeskLaw_law_532 lV_TrustDeskLaw_60 h_64 rfl (c_TrustDesk_days_0 (d := (d + 5)) (x1 := (mj_xs g 1)) (h_64 := h_64) (h_65 := h_65) (h_77 := h_77) (h_78 := h_78) (h_94 := h_94) (h_95 := h_95)) rfl (Nat.le_of_ble_eq_true rfl) (Nat.le_of_ble_eq_true rfl) (Nat.le_of_ble_eq_true rfl) (hst := rfl) (fun b17r b17M b17n b17 => ?_)
    obtain ⟨rfl, b17⟩ := b17
    refine mv_aload_n d_TrustDeskLaw_law_535 rfl rfl ?_
    refine mv_aload_n d_TrustDeskLaw_law_536 rfl rfl ?_
    refine mv_iload d_TrustDeskLaw_law_537 rfl ?_
    refine mv_iconst (v := 1) d_TrustDeskLaw_law_539 (by decide) ?_
    refine mv_iaddv (v := 1) d_TrustDeskLaw_law_540 (by decide) ?_
    refine mv_sld (v := (mj_xs g 1)) d_TrustDeskLaw_law_541 (by rw [hL]; unfold vp_in; decide) rfl ?_
    refine mv_callV (kc' := 6) (ks' := 241) (As := [.int (mj_xs g 1)]) (st9 := [.int (mj_xs g 1), .ref 99, .int (e_days (mj_xs g 1))]) d_TrustDeskLaw_law_542 lV_TrustDeskLaw_63 ((b17 99 (by decide) (by decide)).trans h_99) rfl (c_TrustDeskModel_days_0 (d := (d + 7)) (x1 := (mj_xs g 1)) (h_99 := ((b17 99 (by decide) (by decide)).trans h_99))) rfl (Nat.le_of_ble_eq_true rfl) (Nat.le_of_ble_eq_true rfl) (Nat.le_of_ble_eq_true rfl) (hst := rfl) (fun b18r b18M b18n b18 => ?_)
    obtain ⟨rfl, b18⟩ := b18
    refine mv_icmp_eq_t (tgt := 1513) d_TrustDeskLaw_law_545 (by decide) rfl ?_
    refine mv_iinc (v := 6) (lv' := [(4, .int 6), (3, .ref 148), (2, .ref 99), (1, .ref 64), (0, .ref 50)]) d_TrustDeskLaw_law_1513 rfl (by decide) (by decide) rfl ?_
    refine mv_goto (tgt := 23) d_TrustDeskLaw_law_1516 (by decide) ?_
    refine mv_iload d_TrustDeskLaw_law_23 rfl ?_
    refine mv_aload_n d_TrustDeskLaw_law_25 rfl rfl ?_
    refine mv_slen (v := 6) d_TrustDeskLaw_law_26 (by rw [hL]; rfl) ?_
    refine mv_bipush (v := 6) d_TrustDeskLaw_law_27 (by decide) ?_
    refine mv_isubv (v := 0) d_TrustDeskLaw_law_29 (by decide) ?_
    refine mv_icmp_gt_t (tgt := 1519) d_TrustDeskLaw_law_30 (by decide) (by decide) ?_
    refine mv_iconst (v := 1) d_TrustDeskLaw_law_1519 (by decide) ?_
    exact mv_iret d_TrustDeskLaw_law_1520 rfl (by first | rfl | decide) rfl
  · refine mv_tableIn (tgt := 550) (off := 510) d_TrustDeskLaw_law_40 (by omega) (by omega) (by rw [b2]; rfl) (by decide) ?_
    refine mv_aload_n d_TrustDeskLaw_law_550 rfl rfl ?_
    refine mv_aload_n d_TrustDeskLaw_law_551 rfl rfl ?_
    refine mv_iload d_TrustDeskLaw_law_552 rfl ?_
    refine mv_iconst (v := 1) d_TrustDeskLaw_law_554 (by decide) ?_
    refine mv_iaddv (v := 1) d_TrustDeskLaw_law_555 (by decide) ?_
    refine mv_sld (v := (mj_xs g 1)) d_TrustDeskLaw_law_556 (by rw [hL]; unfold vp_in; decide) rfl ?_
    refine mv_aload_n d_TrustDeskLaw_law_557 rfl rfl ?_
    refine mv_iload d_TrustDeskLaw_law_558 rfl ?_
    refine mv_iconst (v := 2) d_TrustDeskLaw_law_560 (by decide) ?_
    refine mv_iaddv (v := 2) d_TrustDeskLaw_law_561 (by decide) ?_
    refine mv_sld (v := (mj_xs g 2)) d_TrustDeskLaw_law_562 (by rw [hL]; unfold vp_in; decide) rfl ?_
    refine mv_callV_s (kc' := 6) (ks' := 241) [.int (mj_xs g 1), .int (mj_xs g 2)] [.int (mj_xs g 2), .int (mj_xs g 1), .ref 64] d_TrustDeskLaw_law_563 lV_TrustDeskLaw_64 h_64 rfl (c_TrustDesk_trustee_0 (d := (d + 6)) (x1 := (mj_xs g 1)) (x2 := (mj_xs g 2)) (h_64 := h_64) (h_95 := h_95)) rfl (Nat.le_of_ble_eq_true rfl) (Nat.le_of_ble_eq_true rfl) (Nat.le_of_ble_eq_true rfl) rfl ?_
    refine mv_aload_n d_TrustDeskLaw_law_566 rfl rfl ?_
    refine mv_aload_n d_TrustDeskLaw_law_567 rfl rfl ?_
    refine mv_iload d_TrustDeskLaw_law_568 rfl ?_
    refine mv_iconst (v := 1) d_TrustDeskLaw_law_570 (by decide) ?_
    refine mv_iaddv (v := 1) d_TrustDeskLaw_law_571 (by decide) ?_
    refine mv_sld (v := (mj_xs g 1)) d_TrustDeskLaw_law_572 (by rw [hL]; unfold vp_in; decide) rfl ?_
    refine mv_aload_n d_TrustDeskLaw_law_573 rfl rfl ?_
    refine mv_iload d_TrustDeskLaw_law_574 rfl ?_
    refine mv_iconst (v := 2) d_TrustDeskLaw_law_576 (by decide) ?_
    refine mv_iaddv (v := 2) d_TrustDeskLaw_law_577 (by decide) ?_
    refine mv_sld (v := (mj_xs g 2)) d_TrustDeskLaw_law_578 (by rw [hL]; unfold vp_in; decide) rfl ?_
    refine mv_callV_s (kc' := 6) (ks' := 241) [.int (mj_xs g 1), .int (mj_xs g 2)] [.int (mj_xs g 2), .int (mj_xs g 1), .ref 99, .int 0] d_TrustDeskLaw_law_579 lV_TrustDeskLaw_68 h_99 rfl (c_TrustDeskModel_trustee_0 (d := (d + 6)) (x1 := (mj_xs g 1)) (x2 := (mj_xs g 2)) (h_99 := h_99)) rfl (Nat.le_of_ble_eq_true rfl) (Nat.le_of_ble_eq_true rfl) (Nat.le_of_ble_eq_true rfl) rfl ?_
    refine mv_icmp_eq_t (tgt := 1513) d_TrustDeskLaw_law_582 (by decide) (by decide) ?_
    refine mv_iinc (v := 6) (lv' := [(4, .int 6), (3, .ref 148), (2, .ref 99), (1, .ref 64), (0, .ref 50)]) d_TrustDeskLaw_law_1513 rfl (by decide) (by decide) rfl ?_
    refine mv_goto (tgt := 23) d_TrustDeskLaw_law_1516 (by decide) ?_
    refine mv_iload d_TrustDeskLaw_law_23 rfl ?_
    refine mv_aload_n d_TrustDeskLaw_law_25 rfl rfl ?_
    refine mv_slen (v := 6) d_TrustDeskLaw_law_26 (by rw [hL]; rfl) ?_
    refine mv_bipush (v := 6) d_TrustDeskLaw_law_27 (by decide) ?_
    refine mv_isubv (v := 0) d_TrustDeskLaw_law_29 (by decide) ?_
    refine mv_icmp_gt_t (tgt := 1519) d_TrustDeskLaw_law_30 (by decide) (by decide) ?_
    refine mv_iconst (v := 1) d_TrustDeskLaw_law_1519 (by decide) ?_
    exact mv_iret d_TrustDeskLaw_law_1520 rfl (by first | rfl | decide) rfl
  · refine mv_tableIn (tgt := 587) (off := 547) d_TrustDeskLaw_law_40 (by omega) (by omega) (by rw [b2]; rfl) (by decide) ?_
    refine mv_aload_n d_TrustDeskLaw_law_587 rfl rfl ?_
    refine mv_aload_n d_TrustDeskLaw_law_588 rfl rfl ?_
    refine mv_iload d_TrustDeskLaw_law_589 rfl ?_
    refine mv_iconst (v := 1) d_TrustDeskLaw_law_591 (by decide) ?_
    refine mv_iaddv (v := 1) d_TrustDeskLaw_law_592 (by decide) ?_
    refine mv_sld (v := (mj_xs g 1)) d_TrustDeskLaw_law_593 (by rw [hL]; unfold vp_in; decide) rfl ?_
    refine mv_aload_n d_TrustDeskLaw_law_594 rfl rfl ?_
    refine mv_iload d_TrustDeskLaw_law_595 rfl ?_
    refine mv_iconst (v := 2) d_TrustDeskLaw_law_597 (by decide) ?_
    refine mv_iaddv (v := 2) d_TrustDeskLaw_law_598 (by decide) ?_
    refine mv_sld (v := (mj_xs g 2)) d_TrustDeskLaw_law_599 (by rw [hL]; unfold vp_in; decide) rfl ?_
    refine mv_aload_n d_TrustDeskLaw_law_600 rfl rfl ?_
    refine mv_iload d_TrustDeskLaw_law_601 rfl ?_
    refine mv_iconst (v := 3) d_TrustDeskLaw_law_603 (by decide) ?_
    refine mv_iaddv (v := 3) d_TrustDeskLaw_law_604 (by decide) ?_
    refine mv_sld (v := (mj_xs g 3)) d_TrustDeskLaw_law_605 (by rw [hL]; unfold vp_in; decide) rfl ?_
    refine mv_callV_s (kc' := 6) (ks' := 241) [.int (mj_xs g 1), .int (mj_xs g 2), .int (mj_xs g 3)] [.int (mj_xs g 3), .int (mj_xs g 2), .int (mj_xs g 1), .ref 64] d_TrustDeskLaw_law_606 lV_TrustDeskLaw_69 h_64 rfl (c_TrustDesk_propose_0 (d := (d + 6)) (x1 := (mj_xs g 1)) (x2 := (mj_xs g 2)) (x3 := (mj_xs g 3)) (h_64 := h_64) (h_95 := h_95)) rfl (Nat.le_of_ble_eq_true rfl) (Nat.le_of_ble_eq_true rfl) (Nat.le_of_ble_eq_true rfl) rfl ?_
    refine mv_aload_n d_TrustDeskLaw_law_609 rfl rfl ?_
    refine mv_aload_n d_TrustDeskLaw_law_610 rfl rfl ?_
    refine mv_iload d_TrustDeskLaw_law_611 rfl ?_
    refine mv_iconst (v := 1) d_TrustDeskLaw_law_613 (by decide) ?_
    refine mv_iaddv (v := 1) d_TrustDeskLaw_law_614 (by decide) ?_
    refine mv_sld (v := (mj_xs g 1)) d_TrustDeskLaw_law_615 (by rw [hL]; unfold vp_in; decide) rfl ?_
    refine mv_aload_n d_TrustDeskLaw_law_616 rfl rfl ?_
    refine mv_iload d_TrustDeskLaw_law_617 rfl ?_
    refine mv_iconst (v := 2) d_TrustDeskLaw_law_619 (by decide) ?_
    refine mv_iaddv (v := 2) d_TrustDeskLaw_law_620 (by decide) ?_
    refine mv_sld (v := (mj_xs g 2)) d_TrustDeskLaw_law_621 (by rw [hL]; unfold vp_in; decide) rfl ?_
    refine mv_aload_n d_TrustDeskLaw_law_622 rfl rfl ?_
    refine mv_iload d_TrustDeskLaw_law_623 rfl ?_
    refine mv_iconst (v := 3) d_TrustDeskLaw_law_625 (by decide) ?_
    refine mv_iaddv (v := 3) d_TrustDeskLaw_law_626 (by decide) ?_
    refine mv_sld (v := (mj_xs g 3)) d_TrustDeskLaw_law_627 (by rw [hL]; unfold vp_in; decide) rfl ?_
    refine mv_callV_s (kc' := 6) (ks' := 241) [.int (mj_xs g 1), .int (mj_xs g 2), .int (mj_xs g 3)] [.int (mj_xs g 3), .int (mj_xs g 2), .int (mj_xs g 1), .ref 99, .int (-1)] d_TrustDeskLaw_law_628 lV_TrustDeskLaw_72 h_99 rfl (c_TrustDeskModel_propose_0 (d := (d + 7)) (x1 := (mj_xs g 1)) (x2 := (mj_xs g 2)) (x3 := (mj_xs g 3)) (h_99 := h_99)) rfl (Nat.le_of_ble_eq_true rfl) (Nat.le_of_ble_eq_true rfl) (Nat.le_of_ble_eq_true rfl) rfl ?_
    refine mv_icmp_eq_t (tgt := 1513) d_TrustDeskLaw_law_631 (by decide) (by decide) ?_
    refine mv_iinc (v := 6) (lv' := [(4, .int 6), (3, .ref 148), (2, .ref 99), (1, .ref 64), (0, .ref 50)]) d_TrustDeskLaw_law_1513 rfl (by decide) (by decide) rfl ?_
    refine mv_goto (tgt := 23) d_TrustDeskLaw_law_1516 (by decide) ?_
    refine mv_iload d_TrustDeskLaw_law_23 rfl ?_
    refine mv_aload_n d_TrustDeskLaw_law_25 rfl rfl ?_
    refine mv_slen (v := 6) d_TrustDeskLaw_law_26 (by rw [hL]; rfl) ?_
    refine mv_bipush (v := 6) d_TrustDeskLaw_law_27 (by decide) ?_
    refine mv_isubv (v := 0) d_TrustDeskLaw_law_29 (by decide) ?_
    refine mv_icmp_gt_t (tgt := 1519) d_TrustDeskLaw_law_30 (by decide) (by decide) ?_
    refine mv_iconst (v := 1) d_TrustDeskLaw_law_1519 (by decide) ?_
    exact mv_iret d_TrustDeskLaw_law_1520 rfl (by first | rfl | decide) rfl
  · refine mv_tableIn (tgt := 636) (off := 596) d_TrustDeskLaw_law_40 (by omega) (by omega) (by rw [b2]; rfl) (by decide) ?_
    refine mv_aload_n d_TrustDeskLaw_law_636 rfl rfl ?_
    refine mv_aload_n d_TrustDeskLaw_law_637 rfl rfl ?_
    refine mv_iload d_TrustDeskLaw_law_638 rfl ?_
    refine mv_iconst (v := 1) d_TrustDeskLaw_law_640 (by decide) ?_
    refine mv_iaddv (v := 1) d_TrustDeskLaw_law_641 (by decide) ?_
    refine mv_sld (v := (mj_xs g 1)) d_TrustDeskLaw_law_642 (by rw [hL]; unfold vp_in; decide) rfl ?_
    refine mv_aload_n d_TrustDeskLaw_law_643 rfl rfl ?_
    refine mv_iload d_TrustDeskLaw_law_644 rfl ?_
    refine mv_iconst (v := 2) d_TrustDeskLaw_law_646 (by decide) ?_
    refine mv_iaddv (v := 2) d_TrustDeskLaw_law_647 (by decide) ?_
    refine mv_sld (v := (mj_xs g 2)) d_TrustDeskLaw_law_648 (by rw [hL]; unfold vp_in; decide) rfl ?_
    refine mv_callV_s (kc' := 6) (ks' := 241) [.int (mj_xs g 1), .int (mj_xs g 2)] [.int (mj_xs g 2), .int (mj_xs g 1), .ref 64] d_TrustDeskLaw_law_649 lV_TrustDeskLaw_73 h_64 rfl (c_TrustDesk_objects_0 (d := (d + 6)) (x1 := (mj_xs g 1)) (x2 := (mj_xs g 2)) (h_64 := h_64) (h_97 := h_97)) rfl (Nat.le_of_ble_eq_true rfl) (Nat.le_of_ble_eq_true rfl) (Nat.le_of_ble_eq_true rfl) rfl ?_
    refine mv_aload_n d_TrustDeskLaw_law_652 rfl rfl ?_
    refine mv_aload_n d_TrustDeskLaw_law_653 rfl rfl ?_
    refine mv_iload d_TrustDeskLaw_law_654 rfl ?_
    refine mv_iconst (v := 1) d_TrustDeskLaw_law_656 (by decide) ?_
    refine mv_iaddv (v := 1) d_TrustDeskLaw_law_657 (by decide) ?_
    refine mv_sld (v := (mj_xs g 1)) d_TrustDeskLaw_law_658 (by rw [hL]; unfold vp_in; decide) rfl ?_
    refine mv_aload_n d_TrustDeskLaw_law_659 rfl rfl ?_
    refine mv_iload d_TrustDeskLaw_law_660 rfl ?_
    refine mv_iconst (v := 2) d_TrustDeskLaw_law_662 (by decide) ?_
    refine mv_iaddv (v := 2) d_TrustDeskLaw_law_663 (by decide) ?_
    refine mv_sld (v := (mj_xs g 2)) d_TrustDeskLaw_law_664 (by rw [hL]; unfold vp_in; decide) rfl ?_
    refine mv_callV_s (kc' := 6) (ks' := 241) [.int (mj_xs g 1), .int (mj_xs g 2)] [.int (mj_xs g 2), .int (mj_xs g 1), .ref 99, .int 0] d_TrustDeskLaw_law_665 lV_TrustDeskLaw_76 h_99 rfl (c_TrustDeskModel_objects_0 (d := (d + 7)) (x1 := (mj_xs g 1)) (x2 := (mj_xs g 2)) (h_99 := h_99)) rfl (Nat.le_of_ble_eq_true rfl) (Nat.le_of_ble_eq_true rfl) (Nat.le_of_ble_eq_true rfl) rfl ?_
    refine mv_icmp_eq_t (tgt := 1513) d_TrustDeskLaw_law_668 (by decide) (by decide) ?_
    refine mv_iinc (v := 6) (lv' := [(4, .int 6), (3, .ref 148), (2, .ref 99), (1, .ref 64), (0, .ref 50)]) d_TrustDeskLaw_law_1513 rfl (by decide) (by decide) rfl ?_
    refine mv_goto (tgt := 23) d_TrustDeskLaw_law_1516 (by decide) ?_
    refine mv_iload d_TrustDeskLaw_law_23 rfl ?_
    refine mv_aload_n d_TrustDeskLaw_law_25 rfl rfl ?_
    refine mv_slen (v := 6) d_TrustDeskLaw_law_26 (by rw [hL]; rfl) ?_
    refine mv_bipush (v := 6) d_TrustDeskLaw_law_27 (by decide) ?_
    refine mv_isubv (v := 0) d_TrustDeskLaw_law_29 (by decide) ?_
    refine mv_icmp_gt_t (tgt := 1519) d_TrustDeskLaw_law_30 (by decide) (by decide) ?_
    refine mv_iconst (v := 1) d_TrustDeskLaw_law_1519 (by decide) ?_
    exact mv_iret d_TrustDeskLaw_law_1520 rfl (by first | rfl | decide) rfl
  · refine mv_tableIn (tgt := 673) (off := 633) d_TrustDeskLaw_law_40 (by omega) (by omega) (by rw [b2]; rfl) (by decide) ?_
    refine mv_aload_n d_TrustDeskLaw_law_673 rfl rfl ?_
    refine mv_aload_n d_TrustDeskLaw_law_674 rfl rfl ?_
    refine mv_iload d_TrustDeskLaw_law_675 rfl ?_
    refine mv_iconst (v := 1) d_TrustDeskLaw_law_677 (by decide) ?_
    refine mv_iaddv (v := 1) d_TrustDeskLaw_law_678 (by decide) ?_
    refine mv_sld (v := (mj_xs g 1)) d_TrustDeskLaw_law_679 (by rw [hL]; unfold vp_in; decide) rfl ?_
    refine mv_aload_n d_TrustDeskLaw_law_680 rfl rfl ?_
    refine mv_iload d_TrustDeskLaw_law_681 rfl ?_
    refine mv_iconst (v := 2) d_TrustDeskLaw_law_683 (by decide) ?_
    refine mv_iaddv (v := 2) d_TrustDeskLaw_law_684 (by decide) ?_
    refine mv_sld (v := (mj_xs g 2)) d_TrustDeskLaw_law_685 (by rw [hL]; unfold vp_in; decide) rfl ?_
    refine mv_callV_s (kc' := 6) (ks' := 241) [.int (mj_xs g 1), .int (mj_xs g 2)] [.int (mj_xs g 2), .int (mj_xs g 1), .ref 64] d_TrustDeskLaw_law_686 lV_TrustDeskLaw_77 h_64 rfl (c_TrustDesk_withdraws_0 (d := (d + 6)) (x1 := (mj_xs g 1)) (x2 := (mj_xs g 2)) (h_64 := h_64) (h_97 := h_97)) rfl (Nat.le_of_ble_eq_true rfl) (Nat.le_of_ble_eq_true rfl) (Nat.le_of_ble_eq_true rfl) rfl ?_
    refine mv_aload_n d_TrustDeskLaw_law_689 rfl rfl ?_
    refine mv_aload_n d_TrustDeskLaw_law_690 rfl rfl ?_
    refine mv_iload d_TrustDeskLaw_law_691 rfl ?_
    refine mv_iconst (v := 1) d_TrustDeskLaw_law_693 (by decide) ?_
    refine mv_iaddv (v := 1) d_TrustDeskLaw_law_694 (by decide) ?_
    refine mv_sld (v := (mj_xs g 1)) d_TrustDeskLaw_law_695 (by rw [hL]; unfold vp_in; decide) rfl ?_
    refine mv_aload_n d_TrustDeskLaw_law_696 rfl rfl ?_
    refine mv_iload d_TrustDeskLaw_law_697 rfl ?_
    refine mv_iconst (v := 2) d_TrustDeskLaw_law_699 (by decide) ?_
    refine mv_iaddv (v := 2) d_TrustDeskLaw_law_700 (by decide) ?_
    refine mv_sld (v := (mj_xs g 2)) d_TrustDeskLaw_law_701 (by rw [hL]; unfold vp_in; decide) rfl ?_
    refine mv_callV_s (kc' := 6) (ks' := 241) [.int (mj_xs g 1), .int (mj_xs g 2)] [.int (mj_xs g 2), .int (mj_xs g 1), .ref 99, .int 0] d_TrustDeskLaw_law_702 lV_TrustDeskLaw_80 h_99 rfl (c_TrustDeskModel_withdraws_0 (d := (d + 7)) (x1 := (mj_xs g 1)) (x2 := (mj_xs g 2)) (h_99 := h_99)) rfl (Nat.le_of_ble_eq_true rfl) (Nat.le_of_ble_eq_true rfl) (Nat.le_of_ble_eq_true rfl) rfl ?_
    refine mv_icmp_eq_t (tgt := 1513) d_TrustDeskLaw_law_705 (by decide) (by decide) ?_
    refine mv_iinc (v := 6) (lv' := [(4, .int 6), (3, .ref 148), (2, .ref 99), (1, .ref 64), (0, .ref 50)]) d_TrustDeskLaw_law_1513 rfl (by decide) (by decide) rfl ?_
    refine mv_goto (tgt := 23) d_TrustDeskLaw_law_1516 (by decide) ?_
    refine mv_iload d_TrustDeskLaw_law_23 rfl ?_
    refine mv_aload_n d_TrustDeskLaw_law_25 rfl rfl ?_
    refine mv_slen (v := 6) d_TrustDeskLaw_law_26 (by rw [hL]; rfl) ?_
    refine mv_bipush (v := 6) d_TrustDeskLaw_law_27 (by decide) ?_
    refine mv_isubv (v := 0) d_TrustDeskLaw_law_29 (by decide) ?_
    refine mv_icmp_gt_t (tgt := 1519) d_TrustDeskLaw_law_30 (by decide) (by decide) ?_
    refine mv_iconst (v := 1) d_TrustDeskLaw_law_1519 (by decide) ?_
    exact mv_iret d_TrustDeskLaw_law_1520 rfl (by first | rfl | decide) rfl
  · refine mv_tableIn (tgt := 710) (off := 670) d_TrustDeskLaw_law_40 (by omega) (by omega) (by rw [b2]; rfl) (by decide) ?_
    refine mv_aload_n d_TrustDeskLaw_law_710 rfl rfl ?_
    refine mv_aload_n d_TrustDeskLaw_law_711 rfl rfl ?_
    refine mv_iload d_TrustDeskLaw_law_712 rfl ?_
    refine mv_iconst (v := 1) d_TrustDeskLaw_law_714 (by decide) ?_
    refine mv_iaddv (v := 1) d_TrustDeskLaw_law_715 (by decide) ?_
    refine mv_sld (v := (mj_xs g 1)) d_TrustDeskLaw_law_716 (by rw [hL]; unfold vp_in; decide) rfl ?_
    refine mv_aload_n d_TrustDeskLaw_law_717 rfl rfl ?_
    refine mv_iload d_TrustDeskLaw_law_718 rfl ?_
    refine mv_iconst (v := 2) d_TrustDeskLaw_law_720 (by decide) ?_
    refine mv_iaddv (v := 2) d_TrustDeskLaw_law_721 (by decide) ?_
    refine mv_sld (v := (mj_xs g 2)) d_TrustDeskLaw_law_722 (by rw [hL]; unfold vp_in; decide) rfl ?_
    refine mv_aload_n d_TrustDeskLaw_law_723 rfl rfl ?_
    refine mv_iload d_TrustDeskLaw_law_724 rfl ?_
    refine mv_iconst (v := 3) d_TrustDeskLaw_law_726 (by decide) ?_
    refine mv_iaddv (v := 3) d_TrustDeskLaw_law_727 (by decide) ?_
    refine mv_sld (v := (mj_xs g 3)) d_TrustDeskLaw_law_728 (by rw [hL]; unfold vp_in; decide) rfl ?_
    refine mv_if_eqZ (tgt := 736) (a := (mj_xs g 3).toInt) d_TrustDeskLaw_law_729 (by decide) rfl (fun b19 => ?_) (fun b19 => ?_)
    · refine mv_iconst (v := 0) d_TrustDeskLaw_law_736 (by decide) ?_
      refine mv_callV_s (kc' := 6) (ks' := 241) [.int (mj_xs g 1), .int (mj_xs g 2), .int 0] [.int 0, .int (mj_xs g 2), .int (mj_xs g 1), .ref 64] d_TrustDeskLaw_law_737 lV_TrustDeskLaw_81 h_64 rfl (c_TrustDesk_vote_1 (d := (d + 6)) (x1 := (mj_xs g 1)) (x2 := (mj_xs g 2)) (h_64 := h_64) (h_97 := h_97)) rfl (Nat.le_of_ble_eq_true rfl) (Nat.le_of_ble_eq_true rfl) (Nat.le_of_ble_eq_true rfl) rfl ?_
      refine mv_aload_n d_TrustDeskLaw_law_740 rfl rfl ?_
      refine mv_aload_n d_TrustDeskLaw_law_741 rfl rfl ?_
      refine mv_iload d_TrustDeskLaw_law_742 rfl ?_
      refine mv_iconst (v := 1) d_TrustDeskLaw_law_744 (by decide) ?_
      refine mv_iaddv (v := 1) d_TrustDeskLaw_law_745 (by decide) ?_
      refine mv_sld (v := (mj_xs g 1)) d_TrustDeskLaw_law_746 (by rw [hL]; unfold vp_in; decide) rfl ?_
      refine mv_aload_n d_TrustDeskLaw_law_747 rfl rfl ?_
      refine mv_iload d_TrustDeskLaw_law_748 rfl ?_
      refine mv_iconst (v := 2) d_TrustDeskLaw_law_750 (by decide) ?_
      refine mv_iaddv (v := 2) d_TrustDeskLaw_law_751 (by decide) ?_
      refine mv_sld (v := (mj_xs g 2)) d_TrustDeskLaw_law_752 (by rw [hL]; unfold vp_in; decide) rfl ?_
      refine mv_aload_n d_TrustDeskLaw_law_753 rfl rfl ?_
      refine mv_iload d_TrustDeskLaw_law_754 rfl ?_
      refine mv_iconst (v := 3) d_TrustDeskLaw_law_756 (by decide) ?_
      refine mv_iaddv (v := 3) d_TrustDeskLaw_law_757 (by decide) ?_
      refine mv_sld (v := (mj_xs g 3)) d_TrustDeskLaw_law_758 (by rw [hL]; unfold vp_in; decide) rfl ?_
      refine mv_if_eqZ (tgt := 766) (a := (mj_xs g 3).toInt) d_TrustDeskLaw_law_759 (by decide) rfl (fun b20 => ?_) (fun b20 => absurd b20 (by omega))
      refine mv_iconst (v := 0) d_TrustDeskLaw_law_766 (by decide) ?_
      refine mv_callV_s (kc' := 6) (ks' := 241) [.int (mj_xs g 1), .int (mj_xs g 2), .int 0] [.int 0, .int (mj_xs g 2), .int (mj_xs g 1), .ref 99, .int 0] d_TrustDeskLaw_law_767 lV_TrustDeskLaw_85 h_99 rfl (c_TrustDeskModel_vote_1 (d := (d + 7)) (x1 := (mj_xs g 1)) (x2 := (mj_xs g 2)) (h_99 := h_99)) rfl (Nat.le_of_ble_eq_true rfl) (Nat.le_of_ble_eq_true rfl) (Nat.le_of_ble_eq_true rfl) rfl ?_
      refine mv_icmp_eq_t (tgt := 1513) d_TrustDeskLaw_law_770 (by decide) (by decide) ?_
      refine mv_iinc (v := 6) (lv' := [(4, .int 6), (3, .ref 148), (2, .ref 99), (1, .ref 64), (0, .ref 50)]) d_TrustDeskLaw_law_1513 rfl (by decide) (by decide) rfl ?_
      refine mv_goto (tgt := 23) d_TrustDeskLaw_law_1516 (by decide) ?_
      refine mv_iload d_TrustDeskLaw_law_23 rfl ?_
      refine mv_aload_n d_TrustDeskLaw_law_25 rfl rfl ?_
      refine mv_slen (v := 6) d_TrustDeskLaw_law_26 (by rw [hL]; rfl) ?_
      refine mv_bipush (v := 6) d_TrustDeskLaw_law_27 (by decide) ?_
      refine mv_isubv (v := 0) d_TrustDeskLaw_law_29 (by decide) ?_
      refine mv_icmp_gt_t (tgt := 1519) d_TrustDeskLaw_law_30 (by decide) (by decide) ?_
      refine mv_iconst (v := 1) d_TrustDeskLaw_law_1519 (by decide) ?_
      exact mv_iret d_TrustDeskLaw_law_1520 rfl (by first | rfl | decide) rfl
    · refine mv_iconst (v := 1) d_TrustDeskLaw_law_732 (by decide) ?_
      refine mv_goto (tgt := 737) d_TrustDeskLaw_law_733 (by decide) ?_
      refine mv_callV_s (kc' := 6) (ks' := 241) [.int (mj_xs g 1), .int (mj_xs g 2), .int 1] [.int 1, .int (mj_xs g 2), .int (mj_xs g 1), .ref 64] d_TrustDeskLaw_law_737 lV_TrustDeskLaw_81 h_64 rfl (c_TrustDesk_vote_2 (d := (d + 6)) (x1 := (mj_xs g 1)) (x2 := (mj_xs g 2)) (h_64 := h_64) (h_97 := h_97)) rfl (Nat.le_of_ble_eq_true rfl) (Nat.le_of_ble_eq_true rfl) (Nat.le_of_ble_eq_true rfl) rfl ?_
      refine mv_aload_n d_TrustDeskLaw_law_740 rfl rfl ?_
      refine mv_aload_n d_TrustDeskLaw_law_741 rfl rfl ?_
      refine mv_iload d_TrustDeskLaw_law_742 rfl ?_
      refine mv_iconst (v := 1) d_TrustDeskLaw_law_744 (by decide) ?_
      refine mv_iaddv (v := 1) d_TrustDeskLaw_law_745 (by decide) ?_
      refine mv_sld (v := (mj_xs g 1)) d_TrustDeskLaw_law_746 (by rw [hL]; unfold vp_in; decide) rfl ?_
      refine mv_aload_n d_TrustDeskLaw_law_747 rfl rfl ?_
      refine mv_iload d_TrustDeskLaw_law_748 rfl ?_
      refine mv_iconst (v := 2) d_TrustDeskLaw_law_750 (by decide) ?_
      refine mv_iaddv (v := 2) d_TrustDeskLaw_law_751 (by decide) ?_
      refine mv_sld (v := (mj_xs g 2)) d_TrustDeskLaw_law_752 (by rw [hL]; unfold vp_in; decide) rfl ?_
      refine mv_aload_n d_TrustDeskLaw_law_753 rfl rfl ?_
      refine mv_iload d_TrustDeskLaw_law_754 rfl ?_
      refine mv_iconst (v := 3) d_TrustDeskLaw_law_756 (by decide) ?_
      refine mv_iaddv (v := 3) d_TrustDeskLaw_law_757 (by decide) ?_
      refine mv_sld (v := (mj_xs g 3)) d_TrustDeskLaw_law_758 (by rw [hL]; unfold vp_in; decide) rfl ?_
      refine mv_if_eqZ (tgt := 766) (a := (mj_xs g 3).toInt) d_TrustDeskLaw_law_759 (by decide) rfl (fun b21 => ?_) (fun b21 => ?_)
      · refine mv_iconst (v := 0) d_TrustDeskLaw_law_766 (by decide) ?_
        refine mv_callV_s (kc' := 6) (ks' := 241) [.int (mj_xs g 1), .int (mj_xs g 2), .int 0] [.int 0, .int (mj_xs g 2), .int (mj_xs g 1), .ref 99, .int 0] d_TrustDeskLaw_law_767 lV_TrustDeskLaw_85 h_99 rfl (c_TrustDeskModel_vote_1 (d := (d + 7)) (x1 := (mj_xs g 1)) (x2 := (mj_xs g 2)) (h_99 := h_99)) rfl (Nat.le_of_ble_eq_true rfl) (Nat.le_of_ble_eq_true rfl) (Nat.le_of_ble_eq_true rfl) rfl ?_
        refine mv_icmp_eq_t (tgt := 1513) d_TrustDeskLaw_law_770 (by decide) (by decide) ?_
        refine mv_iinc (v := 6) (lv' := [(4, .int 6), (3, .ref 148), (2, .ref 99), (1, .ref 64), (0, .ref 50)]) d_TrustDeskLaw_law_1513 rfl (by decide) (by decide) rfl ?_
        refine mv_goto (tgt := 23) d_TrustDeskLaw_law_1516 (by decide) ?_
        refine mv_iload d_TrustDeskLaw_law_23 rfl ?_
        refine mv_aload_n d_TrustDeskLaw_law_25 rfl rfl ?_
        refine mv_slen (v := 6) d_TrustDeskLaw_law_26 (by rw [hL]; rfl) ?_
        refine mv_bipush (v := 6) d_TrustDeskLaw_law_27 (by decide) ?_
        refine mv_isubv (v := 0) d_TrustDeskLaw_law_29 (by decide) ?_
        refine mv_icmp_gt_t (tgt := 1519) d_TrustDeskLaw_law_30 (by decide) (by decide) ?_
        refine mv_iconst (v := 1) d_TrustDeskLaw_law_1519 (by decide) ?_
        exact mv_iret d_TrustDeskLaw_law_1520 rfl (by first | rfl | decide) rfl
      · refine mv_iconst (v := 1) d_TrustDeskLaw_law_762 (by decide) ?_
        refine mv_goto (tgt := 767) d_TrustDeskLaw_law_763 (by decide) ?_
        refine mv_callV_s (kc' := 6) (ks' := 241) [.int (mj_xs g 1), .int (mj_xs g 2), .int 1] [.int 1, .int (mj_xs g 2), .int (mj_xs g 1), .ref 99, .int 0] d_TrustDeskLaw_law_767 lV_TrustDeskLaw_85 h_99 rfl (c_TrustDeskModel_vote_2 (d := (d + 7)) (x1 := (mj_xs g 1)) (x2 := (mj_xs g 2)) (h_99 := h_99)) rfl (Nat.le_of_ble_eq_true rfl) (Nat.le_of_ble_eq_true rfl) (Nat.le_of_ble_eq_true rfl) rfl ?_
        refine mv_icmp_eq_t (tgt := 1513) d_TrustDeskLaw_law_770 (by decide) (by decide) ?_
        refine mv_iinc (v := 6) (lv' := [(4, .int 6), (3, .ref 148), (2, .ref 99), (1, .ref 64), (0, .ref 50)]) d_TrustDeskLaw_law_1513 rfl (by decide) (by decide) rfl ?_
        refine mv_goto (tgt := 23) d_TrustDeskLaw_law_1516 (by decide) ?_
        refine mv_iload d_TrustDeskLaw_law_23 rfl ?_
        refine mv_aload_n d_TrustDeskLaw_law_25 rfl rfl ?_
        refine mv_slen (v := 6) d_TrustDeskLaw_law_26 (by rw [hL]; rfl) ?_
        refine mv_bipush (v := 6) d_TrustDeskLaw_law_27 (by decide) ?_
        refine mv_isubv (v := 0) d_TrustDeskLaw_law_29 (by decide) ?_
        refine mv_icmp_gt_t (tgt := 1519) d_TrustDeskLaw_law_30 (by decide) (by decide) ?_
        refine mv_iconst (v := 1) d_TrustDeskLaw_law_1519 (by decide) ?_
        exact mv_iret d_TrustDeskLaw_law_1520 rfl (by first | rfl | decide) rfl
  · refine mv_tableIn (tgt := 775) (off := 735) d_TrustDeskLaw_law_40 (by omega) (by omega) (by rw [b2]; rfl) (by decide) ?_
    refine mv_aload_n d_TrustDeskLaw_law_775 rfl rfl ?_
    refine mv_aload_n d_TrustDeskLaw_law_776 rfl rfl ?_
    refine mv_iload d_TrustDeskLaw_law_777 rfl ?_
    refine mv_iconst (v := 1) d_TrustDeskLaw_law_779 (by decide) ?_
    refine mv_iaddv (v := 1) d_TrustDeskLaw_law_780 (by decide) ?_
    refine mv_sld (v := (mj_xs g 1)) d_TrustDeskLaw_law_781 (by rw [hL]; unfold vp_in; decide) rfl ?_
    refine mv_callV_s (kc' := 6) (ks' := 241) [.int (mj_xs g 1)] [.int (mj_xs g 1), .ref 64] d_TrustDeskLaw_law_782 lV_TrustDeskLaw_86 h_64 rfl (c_TrustDesk_settle_0 (d := (d + 6)) (x1 := (mj_xs g 1)) (h_64 := h_64) (h_97 := h_97)) rfl (Nat.le_of_ble_eq_true rfl) (Nat.le_of_ble_eq_true rfl) (Nat.le_of_ble_eq_true rfl) rfl ?_
    refine mv_aload_n d_TrustDeskLaw_law_785 rfl rfl ?_
    refine mv_aload_n d_TrustDeskLaw_law_786 rfl rfl ?_
    refine mv_iload d_TrustDeskLaw_law_787 rfl ?_
    refine mv_iconst (v := 1) d_TrustDeskLaw_law_789 (by decide) ?_
    refine mv_iaddv (v := 1) d_TrustDeskLaw_law_790 (by decide) ?_
    refine mv_sld (v := (mj_xs g 1)) d_TrustDeskLaw_law_791 (by rw [hL]; unfold vp_in; decide) rfl ?_
    refine mv_callV_s (kc' := 6) (ks' := 241) [.int (mj_xs g 1)] [.int (mj_xs g 1), .ref 99, .int (-1)] d_TrustDeskLaw_law_792 lV_TrustDeskLaw_89 h_99 rfl (c_TrustDeskModel_settle_0 (d := (d + 7)) (x1 := (mj_xs g 1)) (h_99 := h_99)) rfl (Nat.le_of_ble_eq_true rfl) (Nat.le_of_ble_eq_true rfl) (Nat.le_of_ble_eq_true rfl) rfl ?_
    refine mv_icmp_eq_t (tgt := 1513) d_TrustDeskLaw_law_795 (by decide) (by decide) ?_
    refine mv_iinc (v := 6) (lv' := [(4, .int 6), (3, .ref 148), (2, .ref 99), (1, .ref 64), (0, .ref 50)]) d_TrustDeskLaw_law_1513 rfl (by decide) (by decide) rfl ?_
    refine mv_goto (tgt := 23) d_TrustDeskLaw_law_1516 (by decide) ?_
    refine mv_iload d_TrustDeskLaw_law_23 rfl ?_
    refine mv_aload_n d_TrustDeskLaw_law_25 rfl rfl ?_
    refine mv_slen (v := 6) d_TrustDeskLaw_law_26 (by rw [hL]; rfl) ?_
    refine mv_bipush (v := 6) d_TrustDeskLaw_law_27 (by decide) ?_
    refine mv_isubv (v := 0) d_TrustDeskLaw_law_29 (by decide) ?_
    refine mv_icmp_gt_t (tgt := 1519) d_TrustDeskLaw_law_30 (by decide) (by decide) ?_
    refine mv_iconst (v := 1) d_TrustDeskLaw_law_1519 (by decide) ?_
    exact mv_iret d_TrustDeskLaw_law_1520 rfl (by first | rfl | decide) rfl
  · refine mv_tableIn (tgt := 800) (off := 760) d_TrustDeskLaw_law_40 (by omega) (by omega) (by rw [b2]; rfl) (by decide) ?_
    refine mv_aload_n d_TrustDeskLaw_law_800 rfl rfl ?_
    refine mv_aload_n d_TrustDeskLaw_law_801 rfl rfl ?_
    refine mv_iload d_TrustDeskLaw_law_802 rfl ?_
    refine mv_iconst (v := 1) d_TrustDeskLaw_law_804 (by decide) ?_
    refine mv_iaddv (v := 1) d_TrustDeskLaw_law_805 (by decide) ?_
    refine mv_sld (v := (mj_xs g 1)) d_TrustDeskLaw_law_806 (by rw [hL]; unfold vp_in; decide) rfl ?_
    refine mv_aload_n d_TrustDeskLaw_law_807 rfl rfl ?_
    refine mv_iload d_TrustDeskLaw_law_808 rfl ?_
    refine mv_iconst (v := 2) d_TrustDeskLaw_law_810 (by decide) ?_
    refine mv_iaddv (v := 2) d_TrustDeskLaw_law_811 (by decide) ?_
    refine mv_sld (v := (mj_xs g 2)) d_TrustDeskLaw_law_812 (by rw [hL]; unfold vp_in; decide) rfl ?_
    refine mv_callV_s (kc' := 6) (ks' := 241) [.int (mj_xs g 1), .int (mj_xs g 2)] [.int (mj_xs g 2), .int (mj_xs g 1), .ref 64] d_TrustDeskLaw_law_813 lV_TrustDeskLaw_90 h_64 rfl (c_TrustDesk_scheme_0 (d := (d + 6)) (x1 := (mj_xs g 1)) (x2 := (mj_xs g 2)) (h_64 := h_64) (h_97 := h_97)) rfl (Nat.le_of_ble_eq_true rfl) (Nat.le_of_ble_eq_true rfl) (Nat.le_of_ble_eq_true rfl) rfl ?_
    refine mv_aload_n d_TrustDeskLaw_law_816 rfl rfl ?_
    refine mv_aload_n d_TrustDeskLaw_law_817 rfl rfl ?_
    refine mv_iload d_TrustDeskLaw_law_818 rfl ?_
    refine mv_iconst (v := 1) d_TrustDeskLaw_law_820 (by decide) ?_
    refine mv_iaddv (v := 1) d_TrustDeskLaw_law_821 (by decide) ?_
    refine mv_sld (v := (mj_xs g 1)) d_TrustDeskLaw_law_822 (by rw [hL]; unfold vp_in; decide) rfl ?_
    refine mv_aload_n d_TrustDeskLaw_law_823 rfl rfl ?_
    refine mv_iload d_TrustDeskLaw_law_824 rfl ?_
    refine mv_iconst (v := 2) d_TrustDeskLaw_law_826 (by decide) ?_
    refine mv_iaddv (v := 2) d_TrustDeskLaw_law_827 (by decide) ?_
    refine mv_sld (v := (mj_xs g 2)) d_TrustDeskLaw_law_828 (by rw [hL]; unfold vp_in; decide) rfl ?_
    refine mv_callV_s (kc' := 6) (ks' := 241) [.int (mj_xs g 1), .int (mj_xs g 2)] [.int (mj_xs g 2), .int (mj_xs g 1), .ref 99, .int (-1)] d_TrustDeskLaw_law_829 lV_TrustDeskLaw_93 h_99 rfl (c_TrustDeskModel_scheme_0 (d := (d + 7)) (x1 := (mj_xs g 1)) (x2 := (mj_xs g 2)) (h_99 := h_99)) rfl (Nat.le_of_ble_eq_true rfl) (Nat.le_of_ble_eq_true rfl) (Nat.le_of_ble_eq_true rfl) rfl ?_
    refine mv_icmp_eq_t (tgt := 1513) d_TrustDeskLaw_law_832 (by decide) (by decide) ?_
    refine mv_iinc (v := 6) (lv' := [(4, .int 6), (3, .ref 148), (2, .ref 99), (1, .ref 64), (0, .ref 50)]) d_TrustDeskLaw_law_1513 rfl (by decide) (by decide) rfl ?_
    refine mv_goto (tgt := 23) d_TrustDeskLaw_law_1516 (by decide) ?_
    refine mv_iload d_TrustDeskLaw_law_23 rfl ?_
    refine mv_aload_n d_TrustDeskLaw_law_25 rfl rfl ?_
    refine mv_slen (v := 6) d_TrustDeskLaw_law_26 (by rw [hL]; rfl) ?_
    refine mv_bipush (v := 6) d_TrustDeskLaw_law_27 (by decide) ?_
    refine mv_isubv (v := 0) d_TrustDeskLaw_law_29 (by decide) ?_
    refine mv_icmp_gt_t (tgt := 1519) d_TrustDeskLaw_law_30 (by decide) (by decide) ?_
    refine mv_iconst (v := 1) d_TrustDeskLaw_law_1519 (by decide) ?_
    exact mv_iret d_TrustDeskLaw_law_1520 rfl (by first | rfl | decide) rfl
  · refine mv_tableIn (tgt := 837) (off := 797) d_TrustDeskLaw_law_40 (by omega) (by omega) (by rw [b2]; rfl) (by decide) ?_
    refine mv_aload_n d_TrustDeskLaw_law_837 rfl rfl ?_
    refine mv_aload_n d_TrustDeskLaw_law_838 rfl rfl ?_
    refine mv_iload d_TrustDeskLaw_law_839 rfl ?_
    refine mv_iconst (v := 1) d_TrustDeskLaw_law_841 (by decide) ?_
    refine mv_iaddv (v := 1) d_TrustDeskLaw_law_842 (by decide) ?_
    refine mv_sld (v := (mj_xs g 1)) d_TrustDeskLaw_law_843 (by rw [hL]; unfold vp_in; decide) rfl ?_
    refine mv_aload_n d_TrustDeskLaw_law_844 rfl rfl ?_
    refine mv_iload d_TrustDeskLaw_law_845 rfl ?_
    refine mv_iconst (v := 2) d_TrustDeskLaw_law_847 (by decide) ?_
    refine mv_iaddv (v := 2) d_TrustDeskLaw_law_848 (by decide) ?_
    refine mv_sld (v := (mj_xs g 2)) d_TrustDeskLaw_law_849 (by rw [hL]; unfold vp_in; decide) rfl ?_
    refine mv_aload_n d_TrustDeskLaw_law_850 rfl rfl ?_
    refine mv_callFO (kc' := 5) (ks' := 235) (d := d + 1) hlt rfl h_64 h_95 d_TrustDeskLaw_law_851 (Nat.le_of_ble_eq_true rfl) (Nat.le_of_ble_eq_true rfl) (Nat.le_of_ble_eq_true rfl) (fun nx1 => ?_)
    refine mv_istore (lv' := [(5, .int 1), (4, .int 0), (3, .ref 148), (2, .ref 99), (1, .ref 64), (0, .ref 50)]) d_TrustDeskLaw_law_854 (by decide) rfl ?_
    refine mv_aload_n d_TrustDeskLaw_law_856 rfl rfl ?_
    refine mv_aload_n d_TrustDeskLaw_law_857 rfl rfl ?_
    refine mv_iload d_TrustDeskLaw_law_858 rfl ?_
    refine mv_iconst (v := 1) d_TrustDeskLaw_law_860 (by decide) ?_
    refine mv_iaddv (v := 1) d_TrustDeskLaw_law_861 (by decide) ?_
    refine mv_sld (v := (mj_xs g 1)) d_TrustDeskLaw_law_862 (by rw [hL]; unfold vp_in; decide) rfl ?_
    refine mv_aload_n d_TrustDeskLaw_law_863 rfl rfl ?_
    refine mv_iload d_TrustDeskLaw_law_864 rfl ?_
    refine mv_iconst (v := 2) d_TrustDeskLaw_law_866 (by decide) ?_
    refine mv_iaddv (v := 2) d_TrustDeskLaw_law_867 (by decide) ?_
    refine mv_sld (v := (mj_xs g 2)) d_TrustDeskLaw_law_868 (by rw [hL]; unfold vp_in; decide) rfl ?_
    refine mv_callV_s (kc' := 5) (ks' := 235) [.int (mj_xs g 1), .int (mj_xs g 2)] [.int (mj_xs g 2), .int (mj_xs g 1), .ref 99] d_TrustDeskLaw_law_869 lV_TrustDeskLaw_99 h_99 rfl (c_TrustDeskModel_fundOf_0 (d := (d + 7)) (x1 := (mj_xs g 1)) (x2 := (mj_xs g 2)) (h_99 := h_99)) rfl (Nat.le_of_ble_eq_true rfl) (Nat.le_of_ble_eq_true rfl) (Nat.le_of_ble_eq_true rfl) rfl ?_
    refine mv_istore (lv' := [(6, .int 0), (5, .int 1), (4, .int 0), (3, .ref 148), (2, .ref 99), (1, .ref 64), (0, .ref 50)]) d_TrustDeskLaw_law_872 (by decide) rfl ?_
    refine mv_aload_n d_TrustDeskLaw_law_874 rfl rfl ?_
    refine mv_callV_s (kc' := 5) (ks' := 235) [] [.ref 99] d_TrustDeskLaw_law_875 lV_TrustDeskLaw_100 (mj_up_self _ _ _) rfl (c_TrustDeskModel_thrown_0 (d := (d + 8)) (h_99 := (mj_up_self _ _ _))) rfl (Nat.le_of_ble_eq_true rfl) (Nat.le_of_ble_eq_true rfl) (Nat.le_of_ble_eq_true rfl) rfl ?_
    refine mv_iload d_TrustDeskLaw_law_878 rfl ?_
    refine mv_icmp_eq_t (tgt := 885) d_TrustDeskLaw_law_880 (by decide) (by decide) ?_
    refine mv_iload d_TrustDeskLaw_law_885 rfl ?_
    refine mv_if_ne_t (tgt := 902) d_TrustDeskLaw_law_887 (by decide) (by decide) ?_
    refine mv_goto (tgt := 1513) d_TrustDeskLaw_law_902 (by decide) ?_
    refine mv_iinc (v := 6) (lv' := [(4, .int 6), (6, .int 0), (5, .int 1), (3, .ref 148), (2, .ref 99), (1, .ref 64), (0, .ref 50)]) d_TrustDeskLaw_law_1513 rfl (by decide) (by decide) rfl ?_
    refine mv_goto (tgt := 23) d_TrustDeskLaw_law_1516 (by decide) ?_
    refine mv_iload d_TrustDeskLaw_law_23 rfl ?_
    refine mv_aload_n d_TrustDeskLaw_law_25 rfl rfl ?_
    refine mv_slen (v := 6) d_TrustDeskLaw_law_26 (by rw [hL]; rfl) ?_
    refine mv_bipush (v := 6) d_TrustDeskLaw_law_27 (by decide) ?_
    refine mv_isubv (v := 0) d_TrustDeskLaw_law_29 (by decide) ?_
    refine mv_icmp_gt_t (tgt := 1519) d_TrustDeskLaw_law_30 (by decide) (by decide) ?_
    refine mv_iconst (v := 1) d_TrustDeskLaw_law_1519 (by decide) ?_
    exact mv_iret d_TrustDeskLaw_law_1520 rfl (by first | rfl | decide) rfl
  · refine mv_tableIn (tgt := 905) (off := 865) d_TrustDeskLaw_law_40 (by omega) (by omega) (by rw [b2]; rfl) (by decide) ?_
    refine mv_aload_n d_TrustDeskLaw_law_905 rfl rfl ?_
    refine mv_aload_n d_TrustDeskLaw_law_906 rfl rfl ?_
    refine mv_iload d_TrustDeskLaw_law_907 rfl ?_
    refine mv_iconst (v := 1) d_TrustDeskLaw_law_909 (by decide) ?_
    refine mv_iaddv (v := 1) d_TrustDeskLaw_law_910 (by decide) ?_
    refine mv_sld (v := (mj_xs g 1)) d_TrustDeskLaw_law_911 (by rw [hL]; unfold vp_in; decide) rfl ?_
    refine mv_callV_s (kc' := 6) (ks' := 241) [.int (mj_xs g 1)] [.int (mj_xs g 1), .ref 64] d_TrustDeskLaw_law_912 lV_TrustDeskLaw_103 h_64 rfl (c_TrustDesk_coin_0 (d := (d + 6)) (x1 := (mj_xs g 1)) (h_64 := h_64) (h_95 := h_95)) rfl (Nat.le_of_ble_eq_true rfl) (Nat.le_of_ble_eq_true rfl) (Nat.le_of_ble_eq_true rfl) rfl ?_
    refine mv_aload_n d_TrustDeskLaw_law_915 rfl rfl ?_
    refine mv_aload_n d_TrustDeskLaw_law_916 rfl rfl ?_
    refine mv_iload d_TrustDeskLaw_law_917 rfl ?_
    refine mv_iconst (v := 1) d_TrustDeskLaw_law_919 (by decide) ?_
    refine mv_iaddv (v := 1) d_TrustDeskLaw_law_920 (by decide) ?_
    refine mv_sld (v := (mj_xs g 1)) d_TrustDeskLaw_law_921 (by rw [hL]; unfold vp_in; decide) rfl ?_
    refine mv_callV_s (kc' := 6) (ks' := 241) [.int (mj_xs g 1)] [.int (mj_xs g 1), .ref 99, .long (-1)] d_TrustDeskLaw_law_922 lV_TrustDeskLaw_107 h_99 rfl (c_TrustDeskModel_coin_0 (d := (d + 7)) (x1 := (mj_xs g 1)) (h_99 := h_99)) rfl (Nat.le_of_ble_eq_true rfl) (Nat.le_of_ble_eq_true rfl) (Nat.le_of_ble_eq_true rfl) rfl ?_
    refine mv_leq_t (tgt := 1513) d_TrustDeskLaw_law_925 d_TrustDeskLaw_law_926 (by decide) ?_
    refine mv_iinc (v := 6) (lv' := [(4, .int 6), (3, .ref 148), (2, .ref 99), (1, .ref 64), (0, .ref 50)]) d_TrustDeskLaw_law_1513 rfl (by decide) (by decide) rfl ?_
    refine mv_goto (tgt := 23) d_TrustDeskLaw_law_1516 (by decide) ?_
    refine mv_iload d_TrustDeskLaw_law_23 rfl ?_
    refine mv_aload_n d_TrustDeskLaw_law_25 rfl rfl ?_
    refine mv_slen (v := 6) d_TrustDeskLaw_law_26 (by rw [hL]; rfl) ?_
    refine mv_bipush (v := 6) d_TrustDeskLaw_law_27 (by decide) ?_
    refine mv_isubv (v := 0) d_TrustDeskLaw_law_29 (by decide) ?_
    refine mv_icmp_gt_t (tgt := 1519) d_TrustDeskLaw_law_30 (by decide) (by decide) ?_
    refine mv_iconst (v := 1) d_TrustDeskLaw_law_1519 (by decide) ?_
    exact mv_iret d_TrustDeskLaw_law_1520 rfl (by first | rfl | decide) rfl
  · refine mv_tableIn (tgt := 931) (off := 891) d_TrustDeskLaw_law_40 (by omega) (by omega) (by rw [b2]; rfl) (by decide) ?_
    refine mv_aload_n d_TrustDeskLaw_law_931 rfl rfl ?_
    refine mv_aload_n d_TrustDeskLaw_law_932 rfl rfl ?_
    refine mv_iload d_TrustDeskLaw_law_933 rfl ?_
    refine mv_iconst (v := 1) d_TrustDeskLaw_law_935 (by decide) ?_
    refine mv_iaddv (v := 1) d_TrustDeskLaw_law_936 (by decide) ?_
    refine mv_sld (v := (mj_xs g 1)) d_TrustDeskLaw_law_937 (by rw [hL]; unfold vp_in; decide) rfl ?_
    refine mv_aload_n d_TrustDeskLaw_law_938 rfl rfl ?_
    refine mv_iload d_TrustDeskLaw_law_939 rfl ?_
    refine mv_iconst (v := 2) d_TrustDeskLaw_law_941 (by decide) ?_
    refine mv_iaddv (v := 2) d_TrustDeskLaw_law_942 (by decide) ?_
    refine mv_sld (v := (mj_xs g 2)) d_TrustDeskLaw_law_943 (by rw [hL]; unfold vp_in; decide) rfl ?_
    refine mv_aload_n d_TrustDeskLaw_law_944 rfl rfl ?_
    refine mv_iload d_TrustDeskLaw_law_945 rfl ?_
    refine mv_iconst (v := 3) d_TrustDeskLaw_law_947 (by decide) ?_
    refine mv_iaddv (v := 3) d_TrustDeskLaw_law_948 (by decide) ?_
    refine mv_sld (v := (mj_xs g 3)) d_TrustDeskLaw_law_949 (by rw [hL]; unfold vp_in; decide) rfl ?_
    refine mv_callV_s (kc' := 6) (ks' := 241) [.int (mj_xs g 1), .int (mj_xs g 2), .int (mj_xs g 3)] [.int (mj_xs g 3), .int (mj_xs g 2), .int (mj_xs g 1), .ref 64] d_TrustDeskLaw_law_950 lV_TrustDeskLaw_108 h_64 rfl (c_TrustDesk_income_0 (d := (d + 6)) (x1 := (mj_xs g 1)) (x2 := (mj_xs g 2)) (x3 := (mj_xs g 3)) (h_64 := h_64) (h_95 := h_95)) rfl (Nat.le_of_ble_eq_true rfl) (Nat.le_of_ble_eq_true rfl) (Nat.le_of_ble_eq_true rfl) rfl ?_
    refine mv_aload_n d_TrustDeskLaw_law_953 rfl rfl ?_
    refine mv_aload_n d_TrustDeskLaw_law_954 rfl rfl ?_
    refine mv_iload d_TrustDeskLaw_law_955 rfl ?_
    refine mv_iconst (v := 1) d_TrustDeskLaw_law_957 (by decide) ?_
    refine mv_iaddv (v := 1) d_TrustDeskLaw_law_958 (by decide) ?_
    refine mv_sld (v := (mj_xs g 1)) d_TrustDeskLaw_law_959 (by rw [hL]; unfold vp_in; decide) rfl ?_
    refine mv_aload_n d_TrustDeskLaw_law_960 rfl rfl ?_
    refine mv_iload d_TrustDeskLaw_law_961 rfl ?_
    refine mv_iconst (v := 2) d_TrustDeskLaw_law_963 (by decide) ?_
    refine mv_iaddv (v := 2) d_TrustDeskLaw_law_964 (by decide) ?_
    refine mv_sld (v := (mj_xs g 2)) d_TrustDeskLaw_law_965 (by rw [hL]; unfold vp_in; decide) rfl ?_
    refine mv_aload_n d_TrustDeskLaw_law_966 rfl rfl ?_
    refine mv_iload d_TrustDeskLaw_law_967 rfl ?_
    refine mv_iconst (v := 3) d_TrustDeskLaw_law_969 (by decide) ?_
    refine mv_iaddv (v := 3) d_TrustDeskLaw_law_970 (by decide) ?_
    refine mv_sld (v := (mj_xs g 3)) d_TrustDeskLaw_law_971 (by rw [hL]; unfold vp_in; decide) rfl ?_
    refine mv_callV_s (kc' := 6) (ks' := 241) [.int (mj_xs g 1), .int (mj_xs g 2), .int (mj_xs g 3)] [.int (mj_xs g 3), .int (mj_xs g 2), .int (mj_xs g 1), .ref 99, .int (-1)] d_TrustDeskLaw_law_972 lV_TrustDeskLaw_111 h_99 rfl (c_TrustDeskModel_income_0 (d := (d + 7)) (x1 := (mj_xs g 1)) (x2 := (mj_xs g 2)) (x3 := (mj_xs g 3)) (h_99 := h_99)) rfl (Nat.le_of_ble_eq_true rfl) (Nat.le_of_ble_eq_true rfl) (Nat.le_of_ble_eq_true rfl) rfl ?_
    refine mv_icmp_eq_t (tgt := 1513) d_TrustDeskLaw_law_975 (by decide) (by decide) ?_
    refine mv_iinc (v := 6) (lv' := [(4, .int 6), (3, .ref 148), (2, .ref 99), (1, .ref 64), (0, .ref 50)]) d_TrustDeskLaw_law_1513 rfl (by decide) (by decide) rfl ?_
    refine mv_goto (tgt := 23) d_TrustDeskLaw_law_1516 (by decide) ?_
    refine mv_iload d_TrustDeskLaw_law_23 rfl ?_
    refine mv_aload_n d_TrustDeskLaw_law_25 rfl rfl ?_
    refine mv_slen (v := 6) d_TrustDeskLaw_law_26 (by rw [hL]; rfl) ?_
    refine mv_bipush (v := 6) d_TrustDeskLaw_law_27 (by decide) ?_
    refine mv_isubv (v := 0) d_TrustDeskLaw_law_29 (by decide) ?_
    refine mv_icmp_gt_t (tgt := 1519) d_TrustDeskLaw_law_30 (by decide) (by decide) ?_
    refine mv_iconst (v := 1) d_TrustDeskLaw_law_1519 (by decide) ?_
    exact mv_iret d_TrustDeskLaw_law_1520 rfl (by first | rfl | decide) rfl
  · refine mv_tableIn (tgt := 980) (off := 940) d_TrustDeskLaw_law_40 (by omega) (by omega) (by rw [b2]; rfl) (by decide) ?_
    refine mv_aload_n d_TrustDeskLaw_law_980 rfl rfl ?_
    refine mv_aload_n d_TrustDeskLaw_law_981 rfl rfl ?_
    refine mv_iload d_TrustDeskLaw_law_982 rfl ?_
    refine mv_iconst (v := 1) d_TrustDeskLaw_law_984 (by decide) ?_
    refine mv_iaddv (v := 1) d_TrustDeskLaw_law_985 (by decide) ?_
    refine mv_sld (v := (mj_xs g 1)) d_TrustDeskLaw_law_986 (by rw [hL]; unfold vp_in; decide) rfl ?_
    refine mv_aload_n d_TrustDeskLaw_law_987 rfl rfl ?_
    refine mv_iload d_TrustDeskLaw_law_988 rfl ?_
    refine mv_iconst (v := 2) d_TrustDeskLaw_law_990 (by decide) ?_
    refine mv_iaddv (v := 2) d_TrustDeskLaw_law_991 (by decide) ?_
    refine mv_sld (v := (mj_xs g 2)) d_TrustDeskLaw_law_992 (by rw [hL]; unfold vp_in; decide) rfl ?_
    refine mv_callV_s (kc' := 6) (ks' := 241) [.int (mj_xs g 1), .int (mj_xs g 2)] [.int (mj_xs g 2), .int (mj_xs g 1), .ref 64] d_TrustDeskLaw_law_993 lV_TrustDeskLaw_112 h_64 rfl (c_TrustDesk_part_0 (d := (d + 6)) (x1 := (mj_xs g 1)) (x2 := (mj_xs g 2)) (h_64 := h_64) (h_95 := h_95)) rfl (Nat.le_of_ble_eq_true rfl) (Nat.le_of_ble_eq_true rfl) (Nat.le_of_ble_eq_true rfl) rfl ?_
    refine mv_aload_n d_TrustDeskLaw_law_996 rfl rfl ?_
    refine mv_aload_n d_TrustDeskLaw_law_997 rfl rfl ?_
    refine mv_iload d_TrustDeskLaw_law_998 rfl ?_
    refine mv_iconst (v := 1) d_TrustDeskLaw_law_1000 (by decide) ?_
    refine mv_iaddv (v := 1) d_TrustDeskLaw_law_1001 (by decide) ?_
    refine mv_sld (v := (mj_xs g 1)) d_TrustDeskLaw_law_1002 (by rw [hL]; unfold vp_in; decide) rfl ?_
    refine mv_aload_n d_TrustDeskLaw_law_1003 rfl rfl ?_
    refine mv_iload d_TrustDeskLaw_law_1004 rfl ?_
    refine mv_iconst (v := 2) d_TrustDeskLaw_law_1006 (by decide) ?_
    refine mv_iaddv (v := 2) d_TrustDeskLaw_law_1007 (by decide) ?_
    refine mv_sld (v := (mj_xs g 2)) d_TrustDeskLaw_law_1008 (by rw [hL]; unfold vp_in; decide) rfl ?_
    refine mv_callV_s (kc' := 6) (ks' := 241) [.int (mj_xs g 1), .int (mj_xs g 2)] [.int (mj_xs g 2), .int (mj_xs g 1), .ref 99, .int (-1)] d_TrustDeskLaw_law_1009 lV_TrustDeskLaw_115 h_99 rfl (c_TrustDeskModel_part_1_0 (d := (d + 7)) (x1 := (mj_xs g 1)) (x2 := (mj_xs g 2)) (h_99 := h_99)) rfl (Nat.le_of_ble_eq_true rfl) (Nat.le_of_ble_eq_true rfl) (Nat.le_of_ble_eq_true rfl) rfl ?_
    refine mv_icmp_eq_t (tgt := 1513) d_TrustDeskLaw_law_1012 (by decide) (by decide) ?_
    refine mv_iinc (v := 6) (lv' := [(4, .int 6), (3, .ref 148), (2, .ref 99), (1, .ref 64), (0, .ref 50)]) d_TrustDeskLaw_law_1513 rfl (by decide) (by decide) rfl ?_
    refine mv_goto (tgt := 23) d_TrustDeskLaw_law_1516 (by decide) ?_
    refine mv_iload d_TrustDeskLaw_law_23 rfl ?_
    refine mv_aload_n d_TrustDeskLaw_law_25 rfl rfl ?_
    refine mv_slen (v := 6) d_TrustDeskLaw_law_26 (by rw [hL]; rfl) ?_
    refine mv_bipush (v := 6) d_TrustDeskLaw_law_27 (by decide) ?_
    refine mv_isubv (v := 0) d_TrustDeskLaw_law_29 (by decide) ?_
    refine mv_icmp_gt_t (tgt := 1519) d_TrustDeskLaw_law_30 (by decide) (by decide) ?_
    refine mv_iconst (v := 1) d_TrustDeskLaw_law_1519 (by decide) ?_
    exact mv_iret d_TrustDeskLaw_law_1520 rfl (by first | rfl | decide) rfl
  · refine mv_tableIn (tgt := 1017) (off := 977) d_TrustDeskLaw_law_40 (by omega) (by omega) (by rw [b2]; rfl) (by decide) ?_
    refine mv_aload_n d_TrustDeskLaw_law_1017 rfl rfl ?_
    refine mv_aload_n d_TrustDeskLaw_law_1018 rfl rfl ?_
    refine mv_iload d_TrustDeskLaw_law_1019 rfl ?_
    refine mv_iconst (v := 1) d_TrustDeskLaw_law_1021 (by decide) ?_
    refine mv_iaddv (v := 1) d_TrustDeskLaw_law_1022 (by decide) ?_
    refine mv_sld (v := (mj_xs g 1)) d_TrustDeskLaw_law_1023 (by rw [hL]; unfold vp_in; decide) rfl ?_
    refine mv_callV_s (kc' := 6) (ks' := 241) [.int (mj_xs g 1)] [.int (mj_xs g 1), .ref 64] d_TrustDeskLaw_law_1024 lV_TrustDeskLaw_116 h_64 rfl (c_TrustDesk_paid_0 (d := (d + 6)) (x1 := (mj_xs g 1)) (h_64 := h_64) (h_95 := h_95)) rfl (Nat.le_of_ble_eq_true rfl) (Nat.le_of_ble_eq_true rfl) (Nat.le_of_ble_eq_true rfl) rfl ?_
    refine mv_aload_n d_TrustDeskLaw_law_1027 rfl rfl ?_
    refine mv_aload_n d_TrustDeskLaw_law_1028 rfl rfl ?_
    refine mv_iload d_TrustDeskLaw_law_1029 rfl ?_
    refine mv_iconst (v := 1) d_TrustDeskLaw_law_1031 (by decide) ?_
    refine mv_iaddv (v := 1) d_TrustDeskLaw_law_1032 (by decide) ?_
    refine mv_sld (v := (mj_xs g 1)) d_TrustDeskLaw_law_1033 (by rw [hL]; unfold vp_in; decide) rfl ?_
    refine mv_callV_s (kc' := 6) (ks' := 241) [.int (mj_xs g 1)] [.int (mj_xs g 1), .ref 99, .long (-1)] d_TrustDeskLaw_law_1034 lV_TrustDeskLaw_119 h_99 rfl (c_TrustDeskModel_paid_0 (d := (d + 7)) (x1 := (mj_xs g 1)) (h_99 := h_99)) rfl (Nat.le_of_ble_eq_true rfl) (Nat.le_of_ble_eq_true rfl) (Nat.le_of_ble_eq_true rfl) rfl ?_
    refine mv_leq_t (tgt := 1513) d_TrustDeskLaw_law_1037 d_TrustDeskLaw_law_1038 (by decide) ?_
    refine mv_iinc (v := 6) (lv' := [(4, .int 6), (3, .ref 148), (2, .ref 99), (1, .ref 64), (0, .ref 50)]) d_TrustDeskLaw_law_1513 rfl (by decide) (by decide) rfl ?_
    refine mv_goto (tgt := 23) d_TrustDeskLaw_law_1516 (by decide) ?_
    refine mv_iload d_TrustDeskLaw_law_23 rfl ?_
    refine mv_aload_n d_TrustDeskLaw_law_25 rfl rfl ?_
    refine mv_slen (v := 6) d_TrustDeskLaw_law_26 (by rw [hL]; rfl) ?_
    refine mv_bipush (v := 6) d_TrustDeskLaw_law_27 (by decide) ?_
    refine mv_isubv (v := 0) d_TrustDeskLaw_law_29 (by decide) ?_
    refine mv_icmp_gt_t (tgt := 1519) d_TrustDeskLaw_law_30 (by decide) (by decide) ?_
    refine mv_iconst (v := 1) d_TrustDeskLaw_law_1519 (by decide) ?_
    exact mv_iret d_TrustDeskLaw_law_1520 rfl (by first | rfl | decide) rfl
  · refine mv_tableIn (tgt := 1043) (off := 1003) d_TrustDeskLaw_law_40 (by omega) (by omega) (by rw [b2]; rfl) (by decide) ?_
    refine mv_aload_n d_TrustDeskLaw_law_1043 rfl rfl ?_
    refine mv_aload_n d_TrustDeskLaw_law_1044 rfl rfl ?_
    refine mv_iload d_TrustDeskLaw_law_1045 rfl ?_
    refine mv_iconst (v := 1) d_TrustDeskLaw_law_1047 (by decide) ?_
    refine mv_iaddv (v := 1) d_TrustDeskLaw_law_1048 (by decide) ?_
    refine mv_sld (v := (mj_xs g 1)) d_TrustDeskLaw_law_1049 (by rw [hL]; unfold vp_in; decide) rfl ?_
    refine mv_aload_n d_TrustDeskLaw_law_1050 rfl rfl ?_
    refine mv_iload d_TrustDeskLaw_law_1051 rfl ?_
    refine mv_iconst (v := 2) d_TrustDeskLaw_law_1053 (by decide) ?_
    refine mv_iaddv (v := 2) d_TrustDeskLaw_law_1054 (by decide) ?_
    refine mv_sld (v := (mj_xs g 2)) d_TrustDeskLaw_law_1055 (by rw [hL]; unfold vp_in; decide) rfl ?_
    refine mv_aload_n d_TrustDeskLaw_law_1056 rfl rfl ?_
    refine mv_iload d_TrustDeskLaw_law_1057 rfl ?_
    refine mv_iconst (v := 3) d_TrustDeskLaw_law_1059 (by decide) ?_
    refine mv_iaddv (v := 3) d_TrustDeskLaw_law_1060 (by decide) ?_
    refine mv_sld (v := (mj_xs g 3)) d_TrustDeskLaw_law_1061 (by rw [hL]; unfold vp_in; decide) rfl ?_
    refine mv_callV_s (kc' := 6) (ks' := 241) [.int (mj_xs g 1), .int (mj_xs g 2), .int (mj_xs g 3)] [.int (mj_xs g 3), .int (mj_xs g 2), .int (mj_xs g 1), .ref 64] d_TrustDeskLaw_law_1062 lV_TrustDeskLaw_120 h_64 rfl (c_TrustDesk_endOf_0 (d := (d + 5)) (x1 := (mj_xs g 1)) (x2 := (mj_xs g 2)) (x3 := (mj_xs g 3)) (h_64 := h_64) (h_95 := h_95)) rfl (Nat.le_of_ble_eq_true rfl) (Nat.le_of_ble_eq_true rfl) (Nat.le_of_ble_eq_true rfl) rfl ?_
    refine mv_aload_n d_TrustDeskLaw_law_1065 rfl rfl ?_
    refine mv_aload_n d_TrustDeskLaw_law_1066 rfl rfl ?_
    refine mv_iload d_TrustDeskLaw_law_1067 rfl ?_
    refine mv_iconst (v := 1) d_TrustDeskLaw_law_1069 (by decide) ?_
    refine mv_iaddv (v := 1) d_TrustDeskLaw_law_1070 (by decide) ?_
    refine mv_sld (v := (mj_xs g 1)) d_TrustDeskLaw_law_1071 (by rw [hL]; unfold vp_in; decide) rfl ?_
    refine mv_aload_n d_TrustDeskLaw_law_1072 rfl rfl ?_
    refine mv_iload d_TrustDeskLaw_law_1073 rfl ?_
    refine mv_iconst (v := 2) d_TrustDeskLaw_law_1075 (by decide) ?_
    refine mv_iaddv (v := 2) d_TrustDeskLaw_law_1076 (by decide) ?_
    refine mv_sld (v := (mj_xs g 2)) d_TrustDeskLaw_law_1077 (by rw [hL]; unfold vp_in; decide) rfl ?_
    refine mv_aload_n d_TrustDeskLaw_law_1078 rfl rfl ?_
    refine mv_iload d_TrustDeskLaw_law_1079 rfl ?_
    refine mv_iconst (v := 3) d_TrustDeskLaw_law_1081 (by decide) ?_
    refine mv_iaddv (v := 3) d_TrustDeskLaw_law_1082 (by decide) ?_
    refine mv_sld (v := (mj_xs g 3)) d_TrustDeskLaw_law_1083 (by rw [hL]; unfold vp_in; decide) rfl ?_
    refine mv_callV_s (kc' := 6) (ks' := 241) [.int (mj_xs g 1), .int (mj_xs g 2), .int (mj_xs g 3)] [.int (mj_xs g 3), .int (mj_xs g 2), .int (mj_xs g 1), .ref 99, .int (-1)] d_TrustDeskLaw_law_1084 lV_TrustDeskLaw_123 h_99 rfl (c_TrustDeskModel_endOf_0 (d := (d + 6)) (x1 := (mj_xs g 1)) (x2 := (mj_xs g 2)) (x3 := (mj_xs g 3)) (h_99 := h_99)) rfl (Nat.le_of_ble_eq_true rfl) (Nat.le_of_ble_eq_true rfl) (Nat.le_of_ble_eq_true rfl) rfl ?_
    refine mv_icmp_eq_t (tgt := 1513) d_TrustDeskLaw_law_1087 (by decide) (by decide) ?_
    refine mv_iinc (v := 6) (lv' := [(4, .int 6), (3, .ref 148), (2, .ref 99), (1, .ref 64), (0, .ref 50)]) d_TrustDeskLaw_law_1513 rfl (by decide) (by decide) rfl ?_
    refine mv_goto (tgt := 23) d_TrustDeskLaw_law_1516 (by decide) ?_
    refine mv_iload d_TrustDeskLaw_law_23 rfl ?_
    refine mv_aload_n d_TrustDeskLaw_law_25 rfl rfl ?_
    refine mv_slen (v := 6) d_TrustDeskLaw_law_26 (by rw [hL]; rfl) ?_
    refine mv_bipush (v := 6) d_TrustDeskLaw_law_27 (by decide) ?_
    refine mv_isubv (v := 0) d_TrustDeskLaw_law_29 (by decide) ?_
    refine mv_icmp_gt_t (tgt := 1519) d_TrustDeskLaw_law_30 (by decide) (by decide) ?_
    refine mv_iconst (v := 1) d_TrustDeskLaw_law_1519 (by decide) ?_
    exact mv_iret d_TrustDeskLaw_law_1520 rfl (by first | rfl | decide) rfl
  · refine mv_tableIn (tgt := 1092) (off := 1052) d_TrustDeskLaw_law_40 (by omega) (by omega) (by rw [b2]; rfl) (by decide) ?_
    refine mv_aload_n d_TrustDeskLaw_law_1092 rfl rfl ?_
    refine mv_aload_n d_TrustDeskLaw_law_1093 rfl rfl ?_
    refine mv_iload d_TrustDeskLaw_law_1094 rfl ?_
    refine mv_iconst (v := 1) d_TrustDeskLaw_law_1096 (by decide) ?_
    refine mv_iaddv (v := 1) d_TrustDeskLaw_law_1097 (by decide) ?_
    refine mv_sld (v := (mj_xs g 1)) d_TrustDeskLaw_law_1098 (by rw [hL]; unfold vp_in; decide) rfl ?_
    refine mv_aload_n d_TrustDeskLaw_law_1099 rfl rfl ?_
    refine mv_iload d_TrustDeskLaw_law_1100 rfl ?_
    refine mv_iconst (v := 2) d_TrustDeskLaw_law_1102 (by decide) ?_
    refine mv_iaddv (v := 2) d_TrustDeskLaw_law_1103 (by decide) ?_
    refine mv_sld (v := (mj_xs g 2)) d_TrustDeskLaw_law_1104 (by rw [hL]; unfold vp_in; decide) rfl ?_
    refine mv_aload_n d_TrustDeskLaw_law_1105 rfl rfl ?_
    refine mv_iload d_TrustDeskLaw_law_1106 rfl ?_
    refine mv_iconst (v := 3) d_TrustDeskLaw_law_1108 (by decide) ?_
    refine mv_iaddv (v := 3) d_TrustDeskLaw_law_1109 (by decide) ?_
    refine mv_sld (v := (mj_xs g 3)) d_TrustDeskLaw_law_1110 (by rw [hL]; unfold vp_in; decide) rfl ?_
    refine mv_aload_n d_TrustDeskLaw_law_1111 rfl rfl ?_
    refine mv_iload d_TrustDeskLaw_law_1112 rfl ?_
    refine mv_iconst (v := 4) d_TrustDeskLaw_law_1114 (by decide) ?_
    refine mv_iaddv (v := 4) d_TrustDeskLaw_law_1115 (by decide) ?_
    refine mv_sld (v := (mj_xs g 4)) d_TrustDeskLaw_law_1116 (by rw [hL]; unfold vp_in; decide) rfl ?_
    refine mv_callV_s (kc' := 6) (ks' := 241) [.int (mj_xs g 1), .int (mj_xs g 2), .int (mj_xs g 3), .int (mj_xs g 4)] [.int (mj_xs g 4), .int (mj_xs g 3), .int (mj_xs g 2), .int (mj_xs g 1), .ref 64] d_TrustDeskLaw_law_1117 lV_TrustDeskLaw_124 h_64 rfl (c_TrustDesk_due_0 (d := (d + 5)) (x1 := (mj_xs g 1)) (x2 := (mj_xs g 2)) (x3 := (mj_xs g 3)) (x4 := (mj_xs g 4)) (h_64 := h_64) (h_95 := h_95)) rfl (Nat.le_of_ble_eq_true rfl) (Nat.le_of_ble_eq_true rfl) (Nat.le_of_ble_eq_true rfl) rfl ?_
    refine mv_aload_n d_TrustDeskLaw_law_1120 rfl rfl ?_
    refine mv_aload_n d_TrustDeskLaw_law_1121 rfl rfl ?_
    refine mv_iload d_TrustDeskLaw_law_1122 rfl ?_
    refine mv_iconst (v := 1) d_TrustDeskLaw_law_1124 (by decide) ?_
    refine mv_iaddv (v := 1) d_TrustDeskLaw_law_1125 (by decide) ?_
    refine mv_sld (v := (mj_xs g 1)) d_TrustDeskLaw_law_1126 (by rw [hL]; unfold vp_in; decide) rfl ?_
    refine mv_aload_n d_TrustDeskLaw_law_1127 rfl rfl ?_
    refine mv_iload d_TrustDeskLaw_law_1128 rfl ?_
    refine mv_iconst (v := 2) d_TrustDeskLaw_law_1130 (by decide) ?_
    refine mv_iaddv (v := 2) d_TrustDeskLaw_law_1131 (by decide) ?_
    refine mv_sld (v := (mj_xs g 2)) d_TrustDeskLaw_law_1132 (by rw [hL]; unfold vp_in; decide) rfl ?_
    refine mv_aload_n d_TrustDeskLaw_law_1133 rfl rfl ?_
    refine mv_iload d_TrustDeskLaw_law_1134 rfl ?_
    refine mv_iconst (v := 3) d_TrustDeskLaw_law_1136 (by decide) ?_
    refine mv_iaddv (v := 3) d_TrustDeskLaw_law_1137 (by decide) ?_
    refine mv_sld (v := (mj_xs g 3)) d_TrustDeskLaw_law_1138 (by rw [hL]; unfold vp_in; decide) rfl ?_
    refine mv_aload_n d_TrustDeskLaw_law_1139 rfl rfl ?_
    refine mv_iload d_TrustDeskLaw_law_1140 rfl ?_
    refine mv_iconst (v := 4) d_TrustDeskLaw_law_1142 (by decide) ?_
    refine mv_iaddv (v := 4) d_TrustDeskLaw_law_1143 (by decide) ?_
    refine mv_sld (v := (mj_xs g 4)) d_TrustDeskLaw_law_1144 (by rw [hL]; unfold vp_in; decide) rfl ?_
    refine mv_callV_s (kc' := 6) (ks' := 241) [.int (mj_xs g 1), .int (mj_xs g 2), .int (mj_xs g 3), .int (mj_xs g 4)] [.int (mj_xs g 4), .int (mj_xs g 3), .int (mj_xs g 2), .int (mj_xs g 1), .ref 99, .int (-1)] d_TrustDeskLaw_law_1145 lV_TrustDeskLaw_128 h_99 rfl (c_TrustDeskModel_due_0 (d := (d + 6)) (x1 := (mj_xs g 1)) (x2 := (mj_xs g 2)) (x3 := (mj_xs g 3)) (x4 := (mj_xs g 4)) (h_99 := h_99)) rfl (Nat.le_of_ble_eq_true rfl) (Nat.le_of_ble_eq_true rfl) (Nat.le_of_ble_eq_true rfl) rfl ?_
    refine mv_icmp_eq_t (tgt := 1513) d_TrustDeskLaw_law_1148 (by decide) (by decide) ?_
    refine mv_iinc (v := 6) (lv' := [(4, .int 6), (3, .ref 148), (2, .ref 99), (1, .ref 64), (0, .ref 50)]) d_TrustDeskLaw_law_1513 rfl (by decide) (by decide) rfl ?_
    refine mv_goto (tgt := 23) d_TrustDeskLaw_law_1516 (by decide) ?_
    refine mv_iload d_TrustDeskLaw_law_23 rfl ?_
    refine mv_aload_n d_TrustDeskLaw_law_25 rfl rfl ?_
    refine mv_slen (v := 6) d_TrustDeskLaw_law_26 (by rw [hL]; rfl) ?_
    refine mv_bipush (v := 6) d_TrustDeskLaw_law_27 (by decide) ?_
    refine mv_isubv (v := 0) d_TrustDeskLaw_law_29 (by decide) ?_
    refine mv_icmp_gt_t (tgt := 1519) d_TrustDeskLaw_law_30 (by decide) (by decide) ?_
    refine mv_iconst (v := 1) d_TrustDeskLaw_law_1519 (by decide) ?_
    exact mv_iret d_TrustDeskLaw_law_1520 rfl (by first | rfl | decide) rfl
  · refine mv_tableIn (tgt := 1153) (off := 1113) d_TrustDeskLaw_law_40 (by omega) (by omega) (by rw [b2]; rfl) (by decide) ?_
    refine mv_aload_n d_TrustDeskLaw_law_1153 rfl rfl ?_
    refine mv_aload_n d_TrustDeskLaw_law_1154 rfl rfl ?_
    refine mv_iload d_TrustDeskLaw_law_1155 rfl ?_
    refine mv_iconst (v := 1) d_TrustDeskLaw_law_1157 (by decide) ?_
    refine mv_iaddv (v := 1) d_TrustDeskLaw_law_1158 (by decide) ?_
    refine mv_sld (v := (mj_xs g 1)) d_TrustDeskLaw_law_1159 (by rw [hL]; unfold vp_in; decide) rfl ?_
    refine mv_aload_n d_TrustDeskLaw_law_1160 rfl rfl ?_
    refine mv_iload d_TrustDeskLaw_law_1161 rfl ?_
    refine mv_iconst (v := 2) d_TrustDeskLaw_law_1163 (by decide) ?_
    refine mv_iaddv (v := 2) d_TrustDeskLaw_law_1164 (by decide) ?_
    refine mv_sld (v := (mj_xs g 2)) d_TrustDeskLaw_law_1165 (by rw [hL]; unfold vp_in; decide) rfl ?_
    refine mv_aload_n d_TrustDeskLaw_law_1166 rfl rfl ?_
    refine mv_iload d_TrustDeskLaw_law_1167 rfl ?_
    refine mv_iconst (v := 3) d_TrustDeskLaw_law_1169 (by decide) ?_
    refine mv_iaddv (v := 3) d_TrustDeskLaw_law_1170 (by decide) ?_
    refine mv_sld (v := (mj_xs g 3)) d_TrustDeskLaw_law_1171 (by rw [hL]; unfold vp_in; decide) rfl ?_
    refine mv_aload_n d_TrustDeskLaw_law_1172 rfl rfl ?_
    refine mv_iload d_TrustDeskLaw_law_1173 rfl ?_
    refine mv_iconst (v := 4) d_TrustDeskLaw_law_1175 (by decide) ?_
    refine mv_iaddv (v := 4) d_TrustDeskLaw_law_1176 (by decide) ?_
    refine mv_sld (v := (mj_xs g 4)) d_TrustDeskLaw_law_1177 (by rw [hL]; unfold vp_in; decide) rfl ?_
    refine mv_callV_s (kc' := 6) (ks' := 241) [.int (mj_xs g 1), .int (mj_xs g 2), .int (mj_xs g 3), .int (mj_xs g 4)] [.int (mj_xs g 4), .int (mj_xs g 3), .int (mj_xs g 2), .int (mj_xs g 1), .ref 64] d_TrustDeskLaw_law_1178 lV_TrustDeskLaw_129 h_64 rfl (c_TrustDesk_why_0 (d := (d + 5)) (x1 := (mj_xs g 1)) (x2 := (mj_xs g 2)) (x3 := (mj_xs g 3)) (x4 := (mj_xs g 4)) (h_64 := h_64) (h_95 := h_95)) rfl (Nat.le_of_ble_eq_true rfl) (Nat.le_of_ble_eq_true rfl) (Nat.le_of_ble_eq_true rfl) rfl ?_
    refine mv_aload_n d_TrustDeskLaw_law_1181 rfl rfl ?_
    refine mv_aload_n d_TrustDeskLaw_law_1182 rfl rfl ?_
    refine mv_iload d_TrustDeskLaw_law_1183 rfl ?_
    refine mv_iconst (v := 1) d_TrustDeskLaw_law_1185 (by decide) ?_
    refine mv_iaddv (v := 1) d_TrustDeskLaw_law_1186 (by decide) ?_
    refine mv_sld (v := (mj_xs g 1)) d_TrustDeskLaw_law_1187 (by rw [hL]; unfold vp_in; decide) rfl ?_
    refine mv_aload_n d_TrustDeskLaw_law_1188 rfl rfl ?_
    refine mv_iload d_TrustDeskLaw_law_1189 rfl ?_
    refine mv_iconst (v := 2) d_TrustDeskLaw_law_1191 (by decide) ?_
    refine mv_iaddv (v := 2) d_TrustDeskLaw_law_1192 (by decide) ?_
    refine mv_sld (v := (mj_xs g 2)) d_TrustDeskLaw_law_1193 (by rw [hL]; unfold vp_in; decide) rfl ?_
    refine mv_aload_n d_TrustDeskLaw_law_1194 rfl rfl ?_
    refine mv_iload d_TrustDeskLaw_law_1195 rfl ?_
    refine mv_iconst (v := 3) d_TrustDeskLaw_law_1197 (by decide) ?_
    refine mv_iaddv (v := 3) d_TrustDeskLaw_law_1198 (by decide) ?_
    refine mv_sld (v := (mj_xs g 3)) d_TrustDeskLaw_law_1199 (by rw [hL]; unfold vp_in; decide) rfl ?_
    refine mv_aload_n d_TrustDeskLaw_law_1200 rfl rfl ?_
    refine mv_iload d_TrustDeskLaw_law_1201 rfl ?_
    refine mv_iconst (v := 4) d_TrustDeskLaw_law_1203 (by decide) ?_
    refine mv_iaddv (v := 4) d_TrustDeskLaw_law_1204 (by decide) ?_
    refine mv_sld (v := (mj_xs g 4)) d_TrustDeskLaw_law_1205 (by rw [hL]; unfold vp_in; decide) rfl ?_
    refine mv_callV_s (kc' := 6) (ks' := 241) [.int (mj_xs g 1), .int (mj_xs g 2), .int (mj_xs g 3), .int (mj_xs g 4)] [.int (mj_xs g 4), .int (mj_xs g 3), .int (mj_xs g 2), .int (mj_xs g 1), .ref 99, .int (-1)] d_TrustDeskLaw_law_1206 lV_TrustDeskLaw_132 h_99 rfl (c_TrustDeskModel_why_0 (d := (d + 6)) (x1 := (mj_xs g 1)) (x2 := (mj_xs g 2)) (x3 := (mj_xs g 3)) (x4 := (mj_xs g 4)) (h_99 := h_99)) rfl (Nat.le_of_ble_eq_true rfl) (Nat.le_of_ble_eq_true rfl) (Nat.le_of_ble_eq_true rfl) rfl ?_
    refine mv_icmp_eq_t (tgt := 1513) d_TrustDeskLaw_law_1209 (by decide) (by decide) ?_
    refine mv_iinc (v := 6) (lv' := [(4, .int 6), (3, .ref 148), (2, .ref 99), (1, .ref 64), (0, .ref 50)]) d_TrustDeskLaw_law_1513 rfl (by decide) (by decide) rfl ?_
    refine mv_goto (tgt := 23) d_TrustDeskLaw_law_1516 (by decide) ?_
    refine mv_iload d_TrustDeskLaw_law_23 rfl ?_
    refine mv_aload_n d_TrustDeskLaw_law_25 rfl rfl ?_
    refine mv_slen (v := 6) d_TrustDeskLaw_law_26 (by rw [hL]; rfl) ?_
    refine mv_bipush (v := 6) d_TrustDeskLaw_law_27 (by decide) ?_
    refine mv_isubv (v := 0) d_TrustDeskLaw_law_29 (by decide) ?_
    refine mv_icmp_gt_t (tgt := 1519) d_TrustDeskLaw_law_30 (by decide) (by decide) ?_
    refine mv_iconst (v := 1) d_TrustDeskLaw_law_1519 (by decide) ?_
    exact mv_iret d_TrustDeskLaw_law_1520 rfl (by first | rfl | decide) rfl
  · refine mv_tableIn (tgt := 1214) (off := 1174) d_TrustDeskLaw_law_40 (by omega) (by omega) (by rw [b2]; rfl) (by decide) ?_
    refine mv_aload_n d_TrustDeskLaw_law_1214 rfl rfl ?_
    refine mv_aload_n d_TrustDeskLaw_law_1215 rfl rfl ?_
    refine mv_iload d_TrustDeskLaw_law_1216 rfl ?_
    refine mv_iconst (v := 1) d_TrustDeskLaw_law_1218 (by decide) ?_
    refine mv_iaddv (v := 1) d_TrustDeskLaw_law_1219 (by decide) ?_
    refine mv_sld (v := (mj_xs g 1)) d_TrustDeskLaw_law_1220 (by rw [hL]; unfold vp_in; decide) rfl ?_
    refine mv_aload_n d_TrustDeskLaw_law_1221 rfl rfl ?_
    refine mv_iload d_TrustDeskLaw_law_1222 rfl ?_
    refine mv_iconst (v := 2) d_TrustDeskLaw_law_1224 (by decide) ?_
    refine mv_iaddv (v := 2) d_TrustDeskLaw_law_1225 (by decide) ?_
    refine mv_sld (v := (mj_xs g 2)) d_TrustDeskLaw_law_1226 (by rw [hL]; unfold vp_in; decide) rfl ?_
    refine mv_callV_s (kc' := 6) (ks' := 241) [.int (mj_xs g 1), .int (mj_xs g 2)] [.int (mj_xs g 2), .int (mj_xs g 1), .ref 64] d_TrustDeskLaw_law_1227 lV_TrustDeskLaw_133 h_64 rfl (c_TrustDesk_entry_0 (d := (d + 8)) (x1 := (mj_xs g 1)) (x2 := (mj_xs g 2)) (h_64 := h_64)) rfl (Nat.le_of_ble_eq_true rfl) (Nat.le_of_ble_eq_true rfl) (Nat.le_of_ble_eq_true rfl) rfl ?_
    refine mv_aload_n d_TrustDeskLaw_law_1230 rfl rfl ?_
    refine mv_aload_n d_TrustDeskLaw_law_1231 rfl rfl ?_
    refine mv_iload d_TrustDeskLaw_law_1232 rfl ?_
    refine mv_iconst (v := 1) d_TrustDeskLaw_law_1234 (by decide) ?_
    refine mv_iaddv (v := 1) d_TrustDeskLaw_law_1235 (by decide) ?_
    refine mv_sld (v := (mj_xs g 1)) d_TrustDeskLaw_law_1236 (by rw [hL]; unfold vp_in; decide) rfl ?_
    refine mv_aload_n d_TrustDeskLaw_law_1237 rfl rfl ?_
    refine mv_iload d_TrustDeskLaw_law_1238 rfl ?_
    refine mv_iconst (v := 2) d_TrustDeskLaw_law_1240 (by decide) ?_
    refine mv_iaddv (v := 2) d_TrustDeskLaw_law_1241 (by decide) ?_
    refine mv_sld (v := (mj_xs g 2)) d_TrustDeskLaw_law_1242 (by rw [hL]; unfold vp_in; decide) rfl ?_
    refine mv_callV_s (kc' := 6) (ks' := 241) [.int (mj_xs g 1), .int (mj_xs g 2)] [.int (mj_xs g 2), .int (mj_xs g 1), .ref 99, .int (-1)] d_TrustDeskLaw_law_1243 lV_TrustDeskLaw_136 h_99 rfl (c_TrustDeskModel_entry_0 (d := (d + 8)) (x1 := (mj_xs g 1)) (x2 := (mj_xs g 2)) (h_99 := h_99)) rfl (Nat.le_of_ble_eq_true rfl) (Nat.le_of_ble_eq_true rfl) (Nat.le_of_ble_eq_true rfl) rfl ?_
    refine mv_icmp_eq_t (tgt := 1513) d_TrustDeskLaw_law_1246 (by decide) (by decide) ?_
    refine mv_iinc (v := 6) (lv' := [(4, .int 6), (3, .ref 148), (2, .ref 99), (1, .ref 64), (0, .ref 50)]) d_TrustDeskLaw_law_1513 rfl (by decide) (by decide) rfl ?_
    refine mv_goto (tgt := 23) d_TrustDeskLaw_law_1516 (by decide) ?_
    refine mv_iload d_TrustDeskLaw_law_23 rfl ?_
    refine mv_aload_n d_TrustDeskLaw_law_25 rfl rfl ?_
    refine mv_slen (v := 6) d_TrustDeskLaw_law_26 (by rw [hL]; rfl) ?_
    refine mv_bipush (v := 6) d_TrustDeskLaw_law_27 (by decide) ?_
    refine mv_isubv (v := 0) d_TrustDeskLaw_law_29 (by decide) ?_
    refine mv_icmp_gt_t (tgt := 1519) d_TrustDeskLaw_law_30 (by decide) (by decide) ?_
    refine mv_iconst (v := 1) d_TrustDeskLaw_law_1519 (by decide) ?_
    exact mv_iret d_TrustDeskLaw_law_1520 rfl (by first | rfl | decide) rfl
  · refine mv_tableIn (tgt := 1251) (off := 1211) d_TrustDeskLaw_law_40 (by omega) (by omega) (by rw [b2]; rfl) (by decide) ?_
    refine mv_aload_n d_TrustDeskLaw_law_1251 rfl rfl ?_
    refine mv_aload_n d_TrustDeskLaw_law_1252 rfl rfl ?_
    refine mv_iload d_TrustDeskLaw_law_1253 rfl ?_
    refine mv_iconst (v := 1) d_TrustDeskLaw_law_1255 (by decide) ?_
    refine mv_iaddv (v := 1) d_TrustDeskLaw_law_1256 (by decide) ?_
    refine mv_sld (v := (mj_xs g 1)) d_TrustDeskLaw_law_1257 (by rw [hL]; unfold vp_in; decide) rfl ?_
    refine mv_callV_s (kc' := 6) (ks' := 241) [.int (mj_xs g 1)] [.int (mj_xs g 1), .ref 64] d_TrustDeskLaw_law_1258 lV_TrustDeskLaw_137 h_64 rfl (c_TrustDesk_nearest_0 (d := (d + 6)) (x1 := (mj_xs g 1)) (h_64 := h_64) (h_95 := h_95)) rfl (Nat.le_of_ble_eq_true rfl) (Nat.le_of_ble_eq_true rfl) (Nat.le_of_ble_eq_true rfl) rfl ?_
    refine mv_aload_n d_TrustDeskLaw_law_1261 rfl rfl ?_
    refine mv_aload_n d_TrustDeskLaw_law_1262 rfl rfl ?_
    refine mv_iload d_TrustDeskLaw_law_1263 rfl ?_
    refine mv_iconst (v := 1) d_TrustDeskLaw_law_1265 (by decide) ?_
    refine mv_iaddv (v := 1) d_TrustDeskLaw_law_1266 (by decide) ?_
    refine mv_sld (v := (mj_xs g 1)) d_TrustDeskLaw_law_1267 (by rw [hL]; unfold vp_in; decide) rfl ?_
    refine mv_callV_s (kc' := 6) (ks' := 241) [.int (mj_xs g 1)] [.int (mj_xs g 1), .ref 99, .int (-1)] d_TrustDeskLaw_law_1268 lV_TrustDeskLaw_140 h_99 rfl (c_TrustDeskModel_nearest_0 (d := (d + 6)) (x1 := (mj_xs g 1)) (h_99 := h_99)) rfl (Nat.le_of_ble_eq_true rfl) (Nat.le_of_ble_eq_true rfl) (Nat.le_of_ble_eq_true rfl) rfl ?_
    refine mv_icmp_eq_t (tgt := 1513) d_TrustDeskLaw_law_1271 (by decide) (by decide) ?_
    refine mv_iinc (v := 6) (lv' := [(4, .int 6), (3, .ref 148), (2, .ref 99), (1, .ref 64), (0, .ref 50)]) d_TrustDeskLaw_law_1513 rfl (by decide) (by decide) rfl ?_
    refine mv_goto (tgt := 23) d_TrustDeskLaw_law_1516 (by decide) ?_
    refine mv_iload d_TrustDeskLaw_law_23 rfl ?_
    refine mv_aload_n d_TrustDeskLaw_law_25 rfl rfl ?_
    refine mv_slen (v := 6) d_TrustDeskLaw_law_26 (by rw [hL]; rfl) ?_
    refine mv_bipush (v := 6) d_TrustDeskLaw_law_27 (by decide) ?_
    refine mv_isubv (v := 0) d_TrustDeskLaw_law_29 (by decide) ?_
    refine mv_icmp_gt_t (tgt := 1519) d_TrustDeskLaw_law_30 (by decide) (by decide) ?_
    refine mv_iconst (v := 1) d_TrustDeskLaw_law_1519 (by decide) ?_
    exact mv_iret d_TrustDeskLaw_law_1520 rfl (by first | rfl | decide) rfl
  · refine mv_tableIn (tgt := 1276) (off := 1236) d_TrustDeskLaw_law_40 (by omega) (by omega) (by rw [b2]; rfl) (by decide) ?_
    refine mv_aload_n d_TrustDeskLaw_law_1276 rfl rfl ?_
    refine mv_aload_n d_TrustDeskLaw_law_1277 rfl rfl ?_
    refine mv_iload d_TrustDeskLaw_law_1278 rfl ?_
    refine mv_iconst (v := 1) d_TrustDeskLaw_law_1280 (by decide) ?_
    refine mv_iaddv (v := 1) d_TrustDeskLaw_law_1281 (by decide) ?_
    refine mv_sld (v := (mj_xs g 1)) d_TrustDeskLaw_law_1282 (by rw [hL]; unfold vp_in; decide) rfl ?_
    refine mv_aload_n d_TrustDeskLaw_law_1283 rfl rfl ?_
    refine mv_iload d_TrustDeskLaw_law_1284 rfl ?_
    refine mv_iconst (v := 2) d_TrustDeskLaw_law_1286 (by decide) ?_
    refine mv_iaddv (v := 2) d_TrustDeskLaw_law_1287 (by decide) ?_
    refine mv_sld (v := (mj_xs g 2)) d_TrustDeskLaw_law_1288 (by rw [hL]; unfold vp_in; decide) rfl ?_
    refine mv_aload_n d_TrustDeskLaw_law_1289 rfl rfl ?_
    refine mv_iload d_TrustDeskLaw_law_1290 rfl ?_
    refine mv_iconst (v := 3) d_TrustDeskLaw_law_1292 (by decide) ?_
    refine mv_iaddv (v := 3) d_TrustDeskLaw_law_1293 (by decide) ?_
    refine mv_sld (v := (mj_xs g 3)) d_TrustDeskLaw_law_1294 (by rw [hL]; unfold vp_in; decide) rfl ?_
    refine mv_callV_s (kc' := 6) (ks' := 241) [.int (mj_xs g 1), .int (mj_xs g 2), .int (mj_xs g 3)] [.int (mj_xs g 3), .int (mj_xs g 2), .int (mj_xs g 1), .ref 64] d_TrustDeskLaw_law_1295 lV_TrustDeskLaw_141 h_64 rfl (c_TrustDesk_marks_0 (d := (d + 6)) (x1 := (mj_xs g 1)) (x2 := (mj_xs g 2)) (x3 := (mj_xs g 3)) (h_64 := h_64) (h_95 := h_95) (h_96 := h_96)) rfl (Nat.le_of_ble_eq_true rfl) (Nat.le_of_ble_eq_true rfl) (Nat.le_of_ble_eq_true rfl) rfl ?_
    refine mv_aload_n d_TrustDeskLaw_law_1298 rfl rfl ?_
    refine mv_aload_n d_TrustDeskLaw_law_1299 rfl rfl ?_
    refine mv_iload d_TrustDeskLaw_law_1300 rfl ?_
    refine mv_iconst (v := 1) d_TrustDeskLaw_law_1302 (by decide) ?_
    refine mv_iaddv (v := 1) d_TrustDeskLaw_law_1303 (by decide) ?_
    refine mv_sld (v := (mj_xs g 1)) d_TrustDeskLaw_law_1304 (by rw [hL]; unfold vp_in; decide) rfl ?_
    refine mv_aload_n d_TrustDeskLaw_law_1305 rfl rfl ?_
    refine mv_iload d_TrustDeskLaw_law_1306 rfl ?_
    refine mv_iconst (v := 2) d_TrustDeskLaw_law_1308 (by decide) ?_
    refine mv_iaddv (v := 2) d_TrustDeskLaw_law_1309 (by decide) ?_
    refine mv_sld (v := (mj_xs g 2)) d_TrustDeskLaw_law_1310 (by rw [hL]; unfold vp_in; decide) rfl ?_
    refine mv_aload_n d_TrustDeskLaw_law_1311 rfl rfl ?_
    refine mv_iload d_TrustDeskLaw_law_1312 rfl ?_
    refine mv_iconst (v := 3) d_TrustDeskLaw_law_1314 (by decide) ?_
    refine mv_iaddv (v := 3) d_TrustDeskLaw_law_1315 (by decide) ?_
    refine mv_sld (v := (mj_xs g 3)) d_TrustDeskLaw_law_1316 (by rw [hL]; unfold vp_in; decide) rfl ?_
    refine mv_callV_s (kc' := 6) (ks' := 241) [.int (mj_xs g 1), .int (mj_xs g 2), .int (mj_xs g 3)] [.int (mj_xs g 3), .int (mj_xs g 2), .int (mj_xs g 1), .ref 99, .int (-1)] d_TrustDeskLaw_law_1317 lV_TrustDeskLaw_144 h_99 rfl (c_TrustDeskModel_marks_0 (d := (d + 7)) (x1 := (mj_xs g 1)) (x2 := (mj_xs g 2)) (x3 := (mj_xs g 3)) (h_99 := h_99)) rfl (Nat.le_of_ble_eq_true rfl) (Nat.le_of_ble_eq_true rfl) (Nat.le_of_ble_eq_true rfl) rfl ?_
    refine mv_icmp_eq_t (tgt := 1513) d_TrustDeskLaw_law_1320 (by decide) (by decide) ?_
    refine mv_iinc (v := 6) (lv' := [(4, .int 6), (3, .ref 148), (2, .ref 99), (1, .ref 64), (0, .ref 50)]) d_TrustDeskLaw_law_1513 rfl (by decide) (by decide) rfl ?_
    refine mv_goto (tgt := 23) d_TrustDeskLaw_law_1516 (by decide) ?_
    refine mv_iload d_TrustDeskLaw_law_23 rfl ?_
    refine mv_aload_n d_TrustDeskLaw_law_25 rfl rfl ?_
    refine mv_slen (v := 6) d_TrustDeskLaw_law_26 (by rw [hL]; rfl) ?_
    refine mv_bipush (v := 6) d_TrustDeskLaw_law_27 (by decide) ?_
    refine mv_isubv (v := 0) d_TrustDeskLaw_law_29 (by decide) ?_
    refine mv_icmp_gt_t (tgt := 1519) d_TrustDeskLaw_law_30 (by decide) (by decide) ?_
    refine mv_iconst (v := 1) d_TrustDeskLaw_law_1519 (by decide) ?_
    exact mv_iret d_TrustDeskLaw_law_1520 rfl (by first | rfl | decide) rfl
  · refine mv_tableIn (tgt := 1325) (off := 1285) d_TrustDeskLaw_law_40 (by omega) (by omega) (by rw [b2]; rfl) (by decide) ?_
    refine mv_aload_n d_TrustDeskLaw_law_1325 rfl rfl ?_
    refine mv_aload_n d_TrustDeskLaw_law_1326 rfl rfl ?_
    refine mv_iload d_TrustDeskLaw_law_1327 rfl ?_
    refine mv_iconst (v := 1) d_TrustDeskLaw_law_1329 (by decide) ?_
    refine mv_iaddv (v := 1) d_TrustDeskLaw_law_1330 (by decide) ?_
    refine mv_sld (v := (mj_xs g 1)) d_TrustDeskLaw_law_1331 (by rw [hL]; unfold vp_in; decide) rfl ?_
    refine mv_callV_s (kc' := 6) (ks' := 241) [.int (mj_xs g 1)] [.int (mj_xs g 1), .ref 64] d_TrustDeskLaw_law_1332 lV_TrustDeskLaw_145 h_64 rfl (c_TrustDesk_group_0 (d := (d + 5)) (x1 := (mj_xs g 1)) (h_64 := h_64) (h_95 := h_95)) rfl (Nat.le_of_ble_eq_true rfl) (Nat.le_of_ble_eq_true rfl) (Nat.le_of_ble_eq_true rfl) rfl ?_
    refine mv_aload_n d_TrustDeskLaw_law_1335 rfl rfl ?_
    refine mv_aload_n d_TrustDeskLaw_law_1336 rfl rfl ?_
    refine mv_iload d_TrustDeskLaw_law_1337 rfl ?_
    refine mv_iconst (v := 1) d_TrustDeskLaw_law_1339 (by decide) ?_
    refine mv_iaddv (v := 1) d_TrustDeskLaw_law_1340 (by decide) ?_
    refine mv_sld (v := (mj_xs g 1)) d_TrustDeskLaw_law_1341 (by rw [hL]; unfold vp_in; decide) rfl ?_
    refine mv_callV_s (kc' := 6) (ks' := 241) [.int (mj_xs g 1)] [.int (mj_xs g 1), .ref 99, .long (-1)] d_TrustDeskLaw_law_1342 lV_TrustDeskLaw_148 h_99 rfl (c_TrustDeskModel_group_0 (d := (d + 4)) (x1 := (mj_xs g 1)) (h_99 := h_99)) rfl (Nat.le_of_ble_eq_true rfl) (Nat.le_of_ble_eq_true rfl) (Nat.le_of_ble_eq_true rfl) rfl ?_
    refine mv_leq_t (tgt := 1513) d_TrustDeskLaw_law_1345 d_TrustDeskLaw_law_1346 (by decide) ?_
    refine mv_iinc (v := 6) (lv' := [(4, .int 6), (3, .ref 148), (2, .ref 99), (1, .ref 64), (0, .ref 50)]) d_TrustDeskLaw_law_1513 rfl (by decide) (by decide) rfl ?_
    refine mv_goto (tgt := 23) d_TrustDeskLaw_law_1516 (by decide) ?_
    refine mv_iload d_TrustDeskLaw_law_23 rfl ?_
    refine mv_aload_n d_TrustDeskLaw_law_25 rfl rfl ?_
    refine mv_slen (v := 6) d_TrustDeskLaw_law_26 (by rw [hL]; rfl) ?_
    refine mv_bipush (v := 6) d_TrustDeskLaw_law_27 (by decide) ?_
    refine mv_isubv (v := 0) d_TrustDeskLaw_law_29 (by decide) ?_
    refine mv_icmp_gt_t (tgt := 1519) d_TrustDeskLaw_law_30 (by decide) (by decide) ?_
    refine mv_iconst (v := 1) d_TrustDeskLaw_law_1519 (by decide) ?_
    exact mv_iret d_TrustDeskLaw_law_1520 rfl (by first | rfl | decide) rfl
  · refine mv_tableIn (tgt := 1351) (off := 1311) d_TrustDeskLaw_law_40 (by omega) (by omega) (by rw [b2]; rfl) (by decide) ?_
    refine mv_aload_n d_TrustDeskLaw_law_1351 rfl rfl ?_
    refine mv_aload_n d_TrustDeskLaw_law_1352 rfl rfl ?_
    refine mv_iload d_TrustDeskLaw_law_1353 rfl ?_
    refine mv_iconst (v := 1) d_TrustDeskLaw_law_1355 (by decide) ?_
    refine mv_iaddv (v := 1) d_TrustDeskLaw_law_1356 (by decide) ?_
    refine mv_sld (v := (mj_xs g 1)) d_TrustDeskLaw_law_1357 (by rw [hL]; unfold vp_in; decide) rfl ?_
    refine mv_aload_n d_TrustDeskLaw_law_1358 rfl rfl ?_
    refine mv_iload d_TrustDeskLaw_law_1359 rfl ?_
    refine mv_iconst (v := 2) d_TrustDeskLaw_law_1361 (by decide) ?_
    refine mv_iaddv (v := 2) d_TrustDeskLaw_law_1362 (by decide) ?_
    refine mv_sld (v := (mj_xs g 2)) d_TrustDeskLaw_law_1363 (by rw [hL]; unfold vp_in; decide) rfl ?_
    refine mv_callV_s (kc' := 6) (ks' := 241) [.int (mj_xs g 1), .int (mj_xs g 2)] [.int (mj_xs g 2), .int (mj_xs g 1), .ref 64] d_TrustDeskLaw_law_1364 lV_TrustDeskLaw_149 h_64 rfl (c_TrustDesk_grouped_0 (d := (d + 6)) (x1 := (mj_xs g 1)) (x2 := (mj_xs g 2)) (h_64 := h_64) (h_95 := h_95)) rfl (Nat.le_of_ble_eq_true rfl) (Nat.le_of_ble_eq_true rfl) (Nat.le_of_ble_eq_true rfl) rfl ?_
    refine mv_aload_n d_TrustDeskLaw_law_1367 rfl rfl ?_
    refine mv_aload_n d_TrustDeskLaw_law_1368 rfl rfl ?_
    refine mv_iload d_TrustDeskLaw_law_1369 rfl ?_
    refine mv_iconst (v := 1) d_TrustDeskLaw_law_1371 (by decide) ?_
    refine mv_iaddv (v := 1) d_TrustDeskLaw_law_1372 (by decide) ?_
    refine mv_sld (v := (mj_xs g 1)) d_TrustDeskLaw_law_1373 (by rw [hL]; unfold vp_in; decide) rfl ?_
    refine mv_aload_n d_TrustDeskLaw_law_1374 rfl rfl ?_
    refine mv_iload d_TrustDeskLaw_law_1375 rfl ?_
    refine mv_iconst (v := 2) d_TrustDeskLaw_law_1377 (by decide) ?_
    refine mv_iaddv (v := 2) d_TrustDeskLaw_law_1378 (by decide) ?_
    refine mv_sld (v := (mj_xs g 2)) d_TrustDeskLaw_law_1379 (by rw [hL]; unfold vp_in; decide) rfl ?_
    refine mv_callV_s (kc' := 6) (ks' := 241) [.int (mj_xs g 1), .int (mj_xs g 2)] [.int (mj_xs g 2), .int (mj_xs g 1), .ref 99, .int (-1)] d_TrustDeskLaw_law_1380 lV_TrustDeskLaw_152 h_99 rfl (c_TrustDeskModel_grouped_0 (d := (d + 7)) (x1 := (mj_xs g 1)) (x2 := (mj_xs g 2)) (h_99 := h_99)) rfl (Nat.le_of_ble_eq_true rfl) (Nat.le_of_ble_eq_true rfl) (Nat.le_of_ble_eq_true rfl) rfl ?_
    refine mv_icmp_eq_t (tgt := 1513) d_TrustDeskLaw_law_1383 (by decide) (by decide) ?_
    refine mv_iinc (v := 6) (lv' := [(4, .int 6), (3, .ref 148), (2, .ref 99), (1, .ref 64), (0, .ref 50)]) d_TrustDeskLaw_law_1513 rfl (by decide) (by decide) rfl ?_
    refine mv_goto (tgt := 23) d_TrustDeskLaw_law_1516 (by decide) ?_
    refine mv_iload d_TrustDeskLaw_law_23 rfl ?_
    refine mv_aload_n d_TrustDeskLaw_law_25 rfl rfl ?_
    refine mv_slen (v := 6) d_TrustDeskLaw_law_26 (by rw [hL]; rfl) ?_
    refine mv_bipush (v := 6) d_TrustDeskLaw_law_27 (by decide) ?_
    refine mv_isubv (v := 0) d_TrustDeskLaw_law_29 (by decide) ?_
    refine mv_icmp_gt_t (tgt := 1519) d_TrustDeskLaw_law_30 (by decide) (by decide) ?_
    refine mv_iconst (v := 1) d_TrustDeskLaw_law_1519 (by decide) ?_
    exact mv_iret d_TrustDeskLaw_law_1520 rfl (by first | rfl | decide) rfl
  · refine mv_tableIn (tgt := 1388) (off := 1348) d_TrustDeskLaw_law_40 (by omega) (by omega) (by rw [b2]; rfl) (by decide) ?_
    refine mv_aload_n d_TrustDeskLaw_law_1388 rfl rfl ?_
    refine mv_aload_n d_TrustDeskLaw_law_1389 rfl rfl ?_
    refine mv_iload d_TrustDeskLaw_law_1390 rfl ?_
    refine mv_iconst (v := 1) d_TrustDeskLaw_law_1392 (by decide) ?_
    refine mv_iaddv (v := 1) d_TrustDeskLaw_law_1393 (by decide) ?_
    refine mv_sld (v := (mj_xs g 1)) d_TrustDeskLaw_law_1394 (by rw [hL]; unfold vp_in; decide) rfl ?_
    refine mv_aload_n d_TrustDeskLaw_law_1395 rfl rfl ?_
    refine mv_iload d_TrustDeskLaw_law_1396 rfl ?_
    refine mv_iconst (v := 2) d_TrustDeskLaw_law_1398 (by decide) ?_
    refine mv_iaddv (v := 2) d_TrustDeskLaw_law_1399 (by decide) ?_
    refine mv_sld (v := (mj_xs g 2)) d_TrustDeskLaw_law_1400 (by rw [hL]; unfold vp_in; decide) rfl ?_
    refine mv_callV_s (kc' := 6) (ks' := 241) [.int (mj_xs g 1), .int (mj_xs g 2)] [.int (mj_xs g 2), .int (mj_xs g 1), .ref 64] d_TrustDeskLaw_law_1401 lV_TrustDeskLaw_153 h_64 rfl (c_TrustDesk_lay_0 (d := (d + 6)) (x1 := (mj_xs g 1)) (x2 := (mj_xs g 2)) (h_64 := h_64) (h_95 := h_95)) rfl (Nat.le_of_ble_eq_true rfl) (Nat.le_of_ble_eq_true rfl) (Nat.le_of_ble_eq_true rfl) rfl ?_
    refine mv_aload_n d_TrustDeskLaw_law_1404 rfl rfl ?_
    refine mv_aload_n d_TrustDeskLaw_law_1405 rfl rfl ?_
    refine mv_iload d_TrustDeskLaw_law_1406 rfl ?_
    refine mv_iconst (v := 1) d_TrustDeskLaw_law_1408 (by decide) ?_
    refine mv_iaddv (v := 1) d_TrustDeskLaw_law_1409 (by decide) ?_
    refine mv_sld (v := (mj_xs g 1)) d_TrustDeskLaw_law_1410 (by rw [hL]; unfold vp_in; decide) rfl ?_
    refine mv_aload_n d_TrustDeskLaw_law_1411 rfl rfl ?_
    refine mv_iload d_TrustDeskLaw_law_1412 rfl ?_
    refine mv_iconst (v := 2) d_TrustDeskLaw_law_1414 (by decide) ?_
    refine mv_iaddv (v := 2) d_TrustDeskLaw_law_1415 (by decide) ?_
    refine mv_sld (v := (mj_xs g 2)) d_TrustDeskLaw_law_1416 (by rw [hL]; unfold vp_in; decide) rfl ?_
    refine mv_callV_s (kc' := 6) (ks' := 241) [.int (mj_xs g 1), .int (mj_xs g 2)] [.int (mj_xs g 2), .int (mj_xs g 1), .ref 99, .int 0] d_TrustDeskLaw_law_1417 lV_TrustDeskLaw_156 h_99 rfl (c_TrustDeskModel_lay_0 (d := (d + 7)) (x1 := (mj_xs g 1)) (x2 := (mj_xs g 2)) (h_99 := h_99)) rfl (Nat.le_of_ble_eq_true rfl) (Nat.le_of_ble_eq_true rfl) (Nat.le_of_ble_eq_true rfl) rfl ?_
    refine mv_icmp_eq_t (tgt := 1513) d_TrustDeskLaw_law_1420 (by decide) (by decide) ?_
    refine mv_iinc (v := 6) (lv' := [(4, .int 6), (3, .ref 148), (2, .ref 99), (1, .ref 64), (0, .ref 50)]) d_TrustDeskLaw_law_1513 rfl (by decide) (by decide) rfl ?_
    refine mv_goto (tgt := 23) d_TrustDeskLaw_law_1516 (by decide) ?_
    refine mv_iload d_TrustDeskLaw_law_23 rfl ?_
    refine mv_aload_n d_TrustDeskLaw_law_25 rfl rfl ?_
    refine mv_slen (v := 6) d_TrustDeskLaw_law_26 (by rw [hL]; rfl) ?_
    refine mv_bipush (v := 6) d_TrustDeskLaw_law_27 (by decide) ?_
    refine mv_isubv (v := 0) d_TrustDeskLaw_law_29 (by decide) ?_
    refine mv_icmp_gt_t (tgt := 1519) d_TrustDeskLaw_law_30 (by decide) (by decide) ?_
    refine mv_iconst (v := 1) d_TrustDeskLaw_law_1519 (by decide) ?_
    exact mv_iret d_TrustDeskLaw_law_1520 rfl (by first | rfl | decide) rfl
  · refine mv_tableIn (tgt := 1425) (off := 1385) d_TrustDeskLaw_law_40 (by omega) (by omega) (by rw [b2]; rfl) (by decide) ?_
    refine mv_aload_n d_TrustDeskLaw_law_1425 rfl rfl ?_
    refine mv_aload_n d_TrustDeskLaw_law_1426 rfl rfl ?_
    refine mv_iload d_TrustDeskLaw_law_1427 rfl ?_
    refine mv_iconst (v := 1) d_TrustDeskLaw_law_1429 (by decide) ?_
    refine mv_iaddv (v := 1) d_TrustDeskLaw_law_1430 (by decide) ?_
    refine mv_sld (v := (mj_xs g 1)) d_TrustDeskLaw_law_1431 (by rw [hL]; unfold vp_in; decide) rfl ?_
    refine mv_callV_s (kc' := 6) (ks' := 241) [.int (mj_xs g 1)] [.int (mj_xs g 1), .ref 64] d_TrustDeskLaw_law_1432 lV_TrustDeskLaw_157 h_64 rfl (c_TrustDesk_judge_0 (d := (d + 5)) (x1 := (mj_xs g 1)) (h_64 := h_64) (h_95 := h_95)) rfl (Nat.le_of_ble_eq_true rfl) (Nat.le_of_ble_eq_true rfl) (Nat.le_of_ble_eq_true rfl) rfl ?_
    refine mv_aload_n d_TrustDeskLaw_law_1435 rfl rfl ?_
    refine mv_aload_n d_TrustDeskLaw_law_1436 rfl rfl ?_
    refine mv_iload d_TrustDeskLaw_law_1437 rfl ?_
    refine mv_iconst (v := 1) d_TrustDeskLaw_law_1439 (by decide) ?_
    refine mv_iaddv (v := 1) d_TrustDeskLaw_law_1440 (by decide) ?_
    refine mv_sld (v := (mj_xs g 1)) d_TrustDeskLaw_law_1441 (by rw [hL]; unfold vp_in; decide) rfl ?_
    refine mv_callV_s (kc' := 6) (ks' := 241) [.int (mj_xs g 1)] [.int (mj_xs g 1), .ref 99, .long (-1)] d_TrustDeskLaw_law_1442 lV_TrustDeskLaw_160 h_99 rfl (c_TrustDeskModel_judge_0 (d := (d + 5)) (x1 := (mj_xs g 1)) (h_99 := h_99)) rfl (Nat.le_of_ble_eq_true rfl) (Nat.le_of_ble_eq_true rfl) (Nat.le_of_ble_eq_true rfl) rfl ?_
    refine mv_leq_t (tgt := 1513) d_TrustDeskLaw_law_1445 d_TrustDeskLaw_law_1446 (by decide) ?_
    refine mv_iinc (v := 6) (lv' := [(4, .int 6), (3, .ref 148), (2, .ref 99), (1, .ref 64), (0, .ref 50)]) d_TrustDeskLaw_law_1513 rfl (by decide) (by decide) rfl ?_
    refine mv_goto (tgt := 23) d_TrustDeskLaw_law_1516 (by decide) ?_
    refine mv_iload d_TrustDeskLaw_law_23 rfl ?_
    refine mv_aload_n d_TrustDeskLaw_law_25 rfl rfl ?_
    refine mv_slen (v := 6) d_TrustDeskLaw_law_26 (by rw [hL]; rfl) ?_
    refine mv_bipush (v := 6) d_TrustDeskLaw_law_27 (by decide) ?_
    refine mv_isubv (v := 0) d_TrustDeskLaw_law_29 (by decide) ?_
    refine mv_icmp_gt_t (tgt := 1519) d_TrustDeskLaw_law_30 (by decide) (by decide) ?_
    refine mv_iconst (v := 1) d_TrustDeskLaw_law_1519 (by decide) ?_
    exact mv_iret d_TrustDeskLaw_law_1520 rfl (by first | rfl | decide) rfl
  · refine mv_tableIn (tgt := 1451) (off := 1411) d_TrustDeskLaw_law_40 (by omega) (by omega) (by rw [b2]; rfl) (by decide) ?_
    refine mv_aload_n d_TrustDeskLaw_law_1451 rfl rfl ?_
    refine mv_aload_n d_TrustDeskLaw_law_1452 rfl rfl ?_
    refine mv_iload d_TrustDeskLaw_law_1453 rfl ?_
    refine mv_iconst (v := 1) d_TrustDeskLaw_law_1455 (by decide) ?_
    refine mv_iaddv (v := 1) d_TrustDeskLaw_law_1456 (by decide) ?_
    refine mv_sld (v := (mj_xs g 1)) d_TrustDeskLaw_law_1457 (by rw [hL]; unfold vp_in; decide) rfl ?_
    refine mv_aload_n d_TrustDeskLaw_law_1458 rfl rfl ?_
    refine mv_iload d_TrustDeskLaw_law_1459 rfl ?_
    refine mv_iconst (v := 2) d_TrustDeskLaw_law_1461 (by decide) ?_
    refine mv_iaddv (v := 2) d_TrustDeskLaw_law_1462 (by decide) ?_
    refine mv_sld (v := (mj_xs g 2)) d_TrustDeskLaw_law_1463 (by rw [hL]; unfold vp_in; decide) rfl ?_
    refine mv_callV_s (kc' := 6) (ks' := 241) [.int (mj_xs g 1), .int (mj_xs g 2)] [.int (mj_xs g 2), .int (mj_xs g 1), .ref 64] d_TrustDeskLaw_law_1464 lV_TrustDeskLaw_161 h_64 rfl (c_TrustDesk_account_0 (d := (d + 6)) (x1 := (mj_xs g 1)) (x2 := (mj_xs g 2)) (h_64 := h_64) (h_95 := h_95)) rfl (Nat.le_of_ble_eq_true rfl) (Nat.le_of_ble_eq_true rfl) (Nat.le_of_ble_eq_true rfl) rfl ?_
    refine mv_aload_n d_TrustDeskLaw_law_1467 rfl rfl ?_
    refine mv_aload_n d_TrustDeskLaw_law_1468 rfl rfl ?_
    refine mv_iload d_TrustDeskLaw_law_1469 rfl ?_
    refine mv_iconst (v := 1) d_TrustDeskLaw_law_1471 (by decide) ?_
    refine mv_iaddv (v := 1) d_TrustDeskLaw_law_1472 (by decide) ?_
    refine mv_sld (v := (mj_xs g 1)) d_TrustDeskLaw_law_1473 (by rw [hL]; unfold vp_in; decide) rfl ?_
    refine mv_aload_n d_TrustDeskLaw_law_1474 rfl rfl ?_
    refine mv_iload d_TrustDeskLaw_law_1475 rfl ?_
    refine mv_iconst (v := 2) d_TrustDeskLaw_law_1477 (by decide) ?_
    refine mv_iaddv (v := 2) d_TrustDeskLaw_law_1478 (by decide) ?_
    refine mv_sld (v := (mj_xs g 2)) d_TrustDeskLaw_law_1479 (by rw [hL]; unfold vp_in; decide) rfl ?_
    refine mv_callV_s (kc' := 6) (ks' := 241) [.int (mj_xs g 1), .int (mj_xs g 2)] [.int (mj_xs g 2), .int (mj_xs g 1), .ref 99, .int (-1)] d_TrustDeskLaw_law_1480 lV_TrustDeskLaw_164 h_99 rfl (c_TrustDeskModel_account_0 (d := (d + 7)) (x1 := (mj_xs g 1)) (x2 := (mj_xs g 2)) (h_99 := h_99)) rfl (Nat.le_of_ble_eq_true rfl) (Nat.le_of_ble_eq_true rfl) (Nat.le_of_ble_eq_true rfl) rfl ?_
    refine mv_icmp_eq_t (tgt := 1513) d_TrustDeskLaw_law_1483 (by decide) (by decide) ?_
    refine mv_iinc (v := 6) (lv' := [(4, .int 6), (3, .ref 148), (2, .ref 99), (1, .ref 64), (0, .ref 50)]) d_TrustDeskLaw_law_1513 rfl (by decide) (by decide) rfl ?_
    refine mv_goto (tgt := 23) d_TrustDeskLaw_law_1516 (by decide) ?_
    refine mv_iload d_TrustDeskLaw_law_23 rfl ?_
    refine mv_aload_n d_TrustDeskLaw_law_25 rfl rfl ?_
    refine mv_slen (v := 6) d_TrustDeskLaw_law_26 (by rw [hL]; rfl) ?_
    refine mv_bipush (v := 6) d_TrustDeskLaw_law_27 (by decide) ?_
    refine mv_isubv (v := 0) d_TrustDeskLaw_law_29 (by decide) ?_
    refine mv_icmp_gt_t (tgt := 1519) d_TrustDeskLaw_law_30 (by decide) (by decide) ?_
    refine mv_iconst (v := 1) d_TrustDeskLaw_law_1519 (by decide) ?_
    exact mv_iret d_TrustDeskLaw_law_1520 rfl (by first | rfl | decide) rfl
  · refine mv_tableIn (tgt := 1488) (off := 1448) d_TrustDeskLaw_law_40 (by omega) (by omega) (by rw [b2]; rfl) (by decide) ?_
    refine mv_aload_n d_TrustDeskLaw_law_1488 rfl rfl ?_
    refine mv_aload_n d_TrustDeskLaw_law_1489 rfl rfl ?_
    refine mv_iload d_TrustDeskLaw_law_1490 rfl ?_
    refine mv_iconst (v := 1) d_TrustDeskLaw_law_1492 (by decide) ?_
    refine mv_iaddv (v := 1) d_TrustDeskLaw_law_1493 (by decide) ?_
    refine mv_sld (v := (mj_xs g 1)) d_TrustDeskLaw_law_1494 (by rw [hL]; unfold vp_in; decide) rfl ?_
    refine mv_callV (kc' := 6) (ks' := 241) (As := [.int (mj_xs g 1)]) (st9 := [.int (mj_xs g 1), .ref 64]) d_TrustDeskLaw_law_1495 lV_TrustDeskLaw_165 h_64 rfl (c_TrustDesk_count_0 (d := (d + 6)) (x1 := (mj_xs g 1)) (h_64 := h_64) (h_65 := h_65) (h_70 := h_70) (h_94 := h_94) (h_95 := h_95) (h_96 := h_96) (h_97 := h_97)) rfl (Nat.le_of_ble_eq_true rfl) (Nat.le_of_ble_eq_true rfl) (Nat.le_of_ble_eq_true rfl) (hst := rfl) (fun b22r b22M b22n b22 => ?_)
    obtain ⟨rfl, b22⟩ := b22
    refine mv_aload_n d_TrustDeskLaw_law_1498 rfl rfl ?_
    refine mv_aload_n d_TrustDeskLaw_law_1499 rfl rfl ?_
    refine mv_iload d_TrustDeskLaw_law_1500 rfl ?_
    refine mv_iconst (v := 1) d_TrustDeskLaw_law_1502 (by decide) ?_
    refine mv_iaddv (v := 1) d_TrustDeskLaw_law_1503 (by decide) ?_
    refine mv_sld (v := (mj_xs g 1)) d_TrustDeskLaw_law_1504 (by rw [hL]; unfold vp_in; decide) rfl ?_
    refine mv_callV (kc' := 6) (ks' := 241) (As := [.int (mj_xs g 1)]) (st9 := [.int (mj_xs g 1), .ref 99, .int (e_count (mj_xs g 1))]) d_TrustDeskLaw_law_1505 lV_TrustDeskLaw_168 ((b22 99 (by decide) (by decide)).trans h_99) rfl (c_TrustDeskModel_count_0 (d := (d + 7)) (x1 := (mj_xs g 1)) (h_99 := ((b22 99 (by decide) (by decide)).trans h_99))) rfl (Nat.le_of_ble_eq_true rfl) (Nat.le_of_ble_eq_true rfl) (Nat.le_of_ble_eq_true rfl) (hst := rfl) (fun b23r b23M b23n b23 => ?_)
    obtain ⟨rfl, b23⟩ := b23
    refine mv_icmp_eq_t (tgt := 1513) d_TrustDeskLaw_law_1508 (by decide) rfl ?_
    refine mv_iinc (v := 6) (lv' := [(4, .int 6), (3, .ref 148), (2, .ref 99), (1, .ref 64), (0, .ref 50)]) d_TrustDeskLaw_law_1513 rfl (by decide) (by decide) rfl ?_
    refine mv_goto (tgt := 23) d_TrustDeskLaw_law_1516 (by decide) ?_
    refine mv_iload d_TrustDeskLaw_law_23 rfl ?_
    refine mv_aload_n d_TrustDeskLaw_law_25 rfl rfl ?_
    refine mv_slen (v := 6) d_TrustDeskLaw_law_26 (by rw [hL]; rfl) ?_
    refine mv_bipush (v := 6) d_TrustDeskLaw_law_27 (by decide) ?_
    refine mv_isubv (v := 0) d_TrustDeskLaw_law_29 (by decide) ?_
    refine mv_icmp_gt_t (tgt := 1519) d_TrustDeskLaw_law_30 (by decide) (by decide) ?_
    refine mv_iconst (v := 1) d_TrustDeskLaw_law_1519 (by decide) ?_
    exact mv_iret d_TrustDeskLaw_law_1520 rfl (by first | rfl | decide) rfl
theorem lw_head {g : mj_G} {l : Launch} {d nx : Nat} {M : mj_M} (h_64 : M 64 = some (.inr (12, [.ref 65, .ref 70, .ref 77, .ref 80, .ref 90, .ref 94, .ref 95, .ref 96, .ref 97, .ref 98, .int 0, .int 0, .int 0]))) (h_65 : M 65 = some (.inr (5, [.ref 66, .ref 67, .ref 68, .ref 69, .int 0]))) (h_66 : M 66 = some (.inl (0, 300, .inl (fun _ => 0)))) (h_67 : M 67 = some (.inl (0, 300, .inl (fun _ => 0)))) (h_68 : M 68 = some (.inl (0, 300, .inl (fun _ => 0)))) (h_69 : M 69 = some (.inl (0, 300, .inl (fun _ => 0)))) (h_70 : M 70 = some (.inr (9, [.int 0, .int 0, .int (-1), .ref 71, .ref 72, .ref 73, .ref 74, .ref 75, .int 0, .int 0, .int 0, .int 0, .int 0, .int 0, .int 0, .int 0, .int 0, .ref 76, .int 0]))) (h_71 : M 71 = some (.inl (0, 400, .inl (fun _ => 0)))) (h_77 : M 77 = some (.inr (10, [.ref 78, .int (-1), .ref 79, .int 0, .int 0]))) (h_78 : M 78 = some (.inl (1, 13, .inr (.inl (fun _ => 0))))) (h_90 : M 90 = some (.inr (1, [.int 0, .int 0, .ref 91, .ref 92, .ref 93]))) (h_92 : M 92 = some (.inl (0, 6, .inl mj_rwf))) (h_94 : M 94 = some (.inr (0, [.int 0, .ref 0, .int 0]))) (h_95 : M 95 = some (.inr (0, [.int 0, .ref 0, .int 0]))) (h_96 : M 96 = some (.inr (0, [.int 0, .ref 0, .int 0]))) (h_97 : M 97 = some (.inr (0, [.int 0, .ref 0, .int 0]))) (h_99 : M 99 = some (.inr (13, [.int 0, .int 0, .int 0, .ref 100, .ref 101, .ref 102, .ref 103, .ref 104, .ref 105, .ref 106, .ref 107, .ref 108, .ref 109, .ref 110, .int 0, .int 0, .int 0, .int 0, .int 0, .int 0, .int 0, .int (-1), .int 0, .int 0, .int 0, .ref 111, .ref 112, .int 0, .ref 113, .ref 114, .ref 115, .int 0, .int 0, .ref 116, .ref 117, .ref 118, .ref 119, .ref 120, .ref 121, .ref 122, .ref 123, .ref 124, .ref 125, .ref 126, .ref 127, .ref 128, .ref 129, .ref 130, .ref 131, .int 0, .ref 132, .int 0, .ref 133, .int 0, .ref 134, .ref 135, .ref 136, .ref 137, .ref 138, .ref 139, .ref 140, .ref 141, .ref 142, .ref 143, .ref 144, .ref 145, .ref 146, .int 0, .long 0, .int 0, .int 0, .ref 147]))) (h_100 : M 100 = some (.inl (0, 1200, .inl (fun _ => 0)))) (h_102 : M 102 = some (.inl (0, 45, .inl (fun _ => 0)))) (h_103 : M 103 = some (.inl (0, 45, .inl (fun _ => 0)))) (h_110 : M 110 = some (.inl (3, 400, .inl (fun _ => 0)))) (h_113 : M 113 = some (.inl (0, 20, .inl (fun _ => 0)))) (h_116 : M 116 = some (.inl (0, 12, .inl (fun _ => 0)))) (h_117 : M 117 = some (.inl (0, 12, .inl (fun _ => 0)))) (h_118 : M 118 = some (.inl (1, 12, .inr (.inl (fun _ => 0))))) (h_119 : M 119 = some (.inl (0, 12, .inl (fun _ => 0)))) (h_120 : M 120 = some (.inl (0, 12, .inl (fun _ => 0)))) (h_121 : M 121 = some (.inl (0, 12, .inl (fun _ => 0)))) (h_122 : M 122 = some (.inl (0, 12, .inl (fun _ => 0)))) (h_124 : M 124 = some (.inl (0, 144, .inl (fun _ => 0)))) (hlt : l.stackTraces = false) (hle : mj_L g ≤ 6) : mj_V g l kY_TrustDeskLaw_law (d + 9) 23 [(4, .int 0), (3, .ref 148), (2, .ref 99), (1, .ref 64), (0, .ref 50)] [] M 149 6 241 (fun r _ _ => r = some (.int 1)) := by
  rcases (show mj_L g = 0 ∨ mj_L g = 1 ∨ mj_L g = 2 ∨ mj_L g = 3 ∨ mj_L g = 4 ∨ mj_L g = 5 ∨ mj_L g = 6 by omega) with h | h | h | h | h | h | h
  · exact lw_head_0 h
  · exact lw_head_1 h
  · exact lw_head_2 h
  · exact lw_head_3 h
  · exact lw_head_4 h
  · exact lw_head_5 h
  · exact lw_head_6 h_64 h_65 h_66 h_67 h_68 h_69 h_70 h_71 h_77 h_78 h_90 h_92 h_94 h_95 h_96 h_97 h_99 h_100 h_102 h_103 h_110 h_113 h_116 h_117 h_118 h_119 h_120 h_121 h_122 h_124 hlt h
theorem d_TrustDeskLaw_law_0 : decode kY_TrustDeskLaw_law.2.1 0 = .ok (.new 8, 3) := by decide +kernel
theorem n_TrustDeskLaw_8 : mj_nw "TrustDeskLaw" 8 12 [.null, .null, .null, .null, .null, .null, .null, .null, .null, .null, .int 0, .int 0, .int 0] := ⟨kR_TrustDesk, kF_TrustDesk, 13, kt_TrustDesk, rfl, kg_12, kto_TrustDesk, (mj_in1 (List.mem_of_getElem? (i := 31) (by decide +kernel)) rfl), (mj_in1 (List.mem_of_getElem? (i := 32) (by decide +kernel)) rfl), (mj_in1 (List.mem_of_getElem? (i := 1) (by decide +kernel)) rfl), by decide +kernel, rfl, fun _ => rfl⟩
theorem d_TrustDeskLaw_law_3 : decode kY_TrustDeskLaw_law.2.1 3 = .ok (.dup, 1) := by decide +kernel
theorem d_TrustDeskLaw_law_4 : decode kY_TrustDeskLaw_law.2.1 4 = .ok (.invokespecial 15, 3) := by decide +kernel
theorem lI_TrustDeskLaw_15 : mj_lI "TrustDeskLaw" 15 kY_TrustDesk_init 0 := ⟨⟨(mj_in1 (List.mem_of_getElem? (i := 33) (by decide +kernel)) rfl), (mj_in1 (List.mem_of_getElem? (i := 1) (by decide +kernel)) rfl), (mj_in1 (List.mem_of_getElem? (i := 35) (by decide +kernel)) rfl), by decide, rfl, by decide⟩, rfl, (mj_in1 (List.mem_of_getElem? (i := 34) (by decide +kernel)) rfl), rfl⟩
theorem d_TrustDeskLaw_law_7 : decode kY_TrustDeskLaw_law.2.1 7 = .ok (.astore_n 1, 1) := by decide +kernel
theorem d_TrustDeskLaw_law_8 : decode kY_TrustDeskLaw_law.2.1 8 = .ok (.new 16, 3) := by decide +kernel
theorem n_TrustDeskLaw_16 : mj_nw "TrustDeskLaw" 16 13 [.int 0, .int 0, .int 0, .null, .null, .null, .null, .null, .null, .null, .null, .null, .null, .null, .int 0, .int 0, .int 0, .int 0, .int 0, .int 0, .int 0, .int 0, .int 0, .int 0, .int 0, .null, .null, .int 0, .null, .null, .null, .int 0, .int 0, .null, .null, .null, .null, .null, .null, .null, .null, .null, .null, .null, .null, .null, .null, .null, .null, .int 0, .null, .int 0, .null, .int 0, .null, .null, .null, .null, .null, .null, .null, .null, .null, .null, .null, .null, .null, .int 0, .long 0, .int 0, .int 0, .null] := ⟨kR_TrustDeskModel, kF_TrustDeskModel, 72, kt_TrustDeskModel, rfl, kg_13, kto_TrustDeskModel, (mj_in1 (List.mem_of_getElem? (i := 1384) (by decide +kernel)) rfl), (mj_in1 (List.mem_of_getElem? (i := 1385) (by decide +kernel)) rfl), (mj_in1 (List.mem_of_getElem? (i := 10) (by decide +kernel)) rfl), by decide +kernel, rfl, fun _ => rfl⟩
theorem d_TrustDeskLaw_law_11 : decode kY_TrustDeskLaw_law.2.1 11 = .ok (.dup, 1) := by decide +kernel
theorem d_TrustDeskLaw_law_12 : decode kY_TrustDeskLaw_law.2.1 12 = .ok (.invokespecial 18, 3) := by decide +kernel
theorem lI_TrustDeskLaw_18 : mj_lI "TrustDeskLaw" 18 kY_TrustDeskModel_init 0 := ⟨⟨(mj_in1 (List.mem_of_getElem? (i := 1386) (by decide +kernel)) rfl), (mj_in1 (List.mem_of_getElem? (i := 10) (by decide +kernel)) rfl), (mj_in1 (List.mem_of_getElem? (i := 1388) (by decide +kernel)) rfl), by decide, rfl, by decide⟩, rfl, (mj_in1 (List.mem_of_getElem? (i := 1387) (by decide +kernel)) rfl), rfl⟩
theorem d_TrustDeskLaw_law_15 : decode kY_TrustDeskLaw_law.2.1 15 = .ok (.astore_n 2, 1) := by decide +kernel
theorem d_TrustDeskLaw_law_16 : decode kY_TrustDeskLaw_law.2.1 16 = .ok (.iconst 1, 1) := by decide +kernel
theorem d_TrustDeskLaw_law_17 : decode kY_TrustDeskLaw_law.2.1 17 = .ok (.newarray .long, 2) := by decide +kernel
theorem d_TrustDeskLaw_law_19 : decode kY_TrustDeskLaw_law.2.1 19 = .ok (.astore_n 3, 1) := by decide +kernel
theorem d_TrustDeskLaw_law_20 : decode kY_TrustDeskLaw_law.2.1 20 = .ok (.iconst 0, 1) := by decide +kernel
theorem d_TrustDeskLaw_law_21 : decode kY_TrustDeskLaw_law.2.1 21 = .ok (.istore 4, 2) := by decide +kernel
set_option maxRecDepth 100000 in
theorem lw_all3 {g : mj_G} {l : Launch} {d : Nat} {M : mj_M} (h_64 : M 64 = some (.inr (12, [.ref 65, .ref 70, .ref 77, .ref 80, .ref 90, .ref 94, .ref 95, .ref 96, .ref 97, .ref 98, .int 0, .int 0, .int 0]))) (h_65 : M 65 = some (.inr (5, [.ref 66, .ref 67, .ref 68, .ref 69, .int 0]))) (h_66 : M 66 = some (.inl (0, 300, .inl (fun _ => 0)))) (h_67 : M 67 = some (.inl (0, 300, .inl (fun _ => 0)))) (h_68 : M 68 = some (.inl (0, 300, .inl (fun _ => 0)))) (h_69 : M 69 = some (.inl (0, 300, .inl (fun _ => 0)))) (h_70 : M 70 = some (.inr (9, [.int 0, .int 0, .int (-1), .ref 71, .ref 72, .ref 73, .ref 74, .ref 75, .int 0, .int 0, .int 0, .int 0, .int 0, .int 0, .int 0, .int 0, .int 0, .ref 76, .int 0]))) (h_71 : M 71 = some (.inl (0, 400, .inl (fun _ => 0)))) (h_72 : M 72 = some (.inl (0, 400, .inl (fun _ => 0)))) (h_73 : M 73 = some (.inl (0, 400, .inl (fun _ => 0)))) (h_74 : M 74 = some (.inl (0, 400, .inl (fun _ => 0)))) (h_75 : M 75 = some (.inl (0, 400, .inl (fun _ => 0)))) (h_76 : M 76 = some (.inl (0, 400, .inl (fun _ => 0)))) (h_77 : M 77 = some (.inr (10, [.ref 78, .int (-1), .ref 79, .int 0, .int 0]))) (h_78 : M 78 = some (.inl (1, 13, .inr (.inl (fun _ => 0))))) (h_79 : M 79 = some (.inl (1, 64, .inr (.inl (fun _ => 0))))) (h_80 : M 80 = some (.inr (7, [.long 0, .int 0, .int 0, .int 0, .ref 81, .ref 82, .ref 83, .ref 84, .ref 85, .ref 86, .ref 87, .ref 88, .ref 89, .long 0]))) (h_81 : M 81 = some (.inl (0, 8, .inl (fun _ => 0)))) (h_82 : M 82 = some (.inl (1, 8, .inr (.inl (fun _ => 0))))) (h_83 : M 83 = some (.inl (0, 8, .inl (fun _ => 0)))) (h_84 : M 84 = some (.inl (0, 8, .inl (fun _ => 0)))) (h_85 : M 85 = some (.inl (0, 8, .inl (fun _ => 0)))) (h_86 : M 86 = some (.inl (0, 8, .inl (fun _ => 0)))) (h_87 : M 87 = some (.inl (0, 8, .inl (fun _ => 0)))) (h_88 : M 88 = some (.inl (1, 8, .inr (.inl (fun _ => 0))))) (h_89 : M 89 = some (.inl (1, 9, .inr (.inl (fun _ => 0))))) (h_90 : M 90 = some (.inr (1, [.int 0, .int 0, .ref 91, .ref 92, .ref 93]))) (h_91 : M 91 = some (.inr (0, [.int 0, .ref 0, .int 0]))) (h_92 : M 92 = some (.inl (0, 6, .inl mj_rwf))) (h_93 : M 93 = some (.inl (0, 20, .inl (fun _ => 0)))) (h_94 : M 94 = some (.inr (0, [.int 0, .ref 0, .int 0]))) (h_95 : M 95 = some (.inr (0, [.int 0, .ref 0, .int 0]))) (h_96 : M 96 = some (.inr (0, [.int 0, .ref 0, .int 0]))) (h_97 : M 97 = some (.inr (0, [.int 0, .ref 0, .int 0]))) (h_98 : M 98 = some (.inl (0, 2400, .inl (fun _ => 0)))) (h_99 : M 99 = some (.inr (13, [.int 0, .int 0, .int 0, .ref 100, .ref 101, .ref 102, .ref 103, .ref 104, .ref 105, .ref 106, .ref 107, .ref 108, .ref 109, .ref 110, .int 0, .int 0, .int 0, .int 0, .int 0, .int 0, .int 0, .int (-1), .int 0, .int 0, .int 0, .ref 111, .ref 112, .int 0, .ref 113, .ref 114, .ref 115, .int 0, .int 0, .ref 116, .ref 117, .ref 118, .ref 119, .ref 120, .ref 121, .ref 122, .ref 123, .ref 124, .ref 125, .ref 126, .ref 127, .ref 128, .ref 129, .ref 130, .ref 131, .int 0, .ref 132, .int 0, .ref 133, .int 0, .ref 134, .ref 135, .ref 136, .ref 137, .ref 138, .ref 139, .ref 140, .ref 141, .ref 142, .ref 143, .ref 144, .ref 145, .ref 146, .int 0, .long 0, .int 0, .int 0, .ref 147]))) (h_100 : M 100 = some (.inl (0, 1200, .inl (fun _ => 0)))) (h_101 : M 101 = some (.inl (0, 18900, .inl (fun _ => 0)))) (h_102 : M 102 = some (.inl (0, 45, .inl (fun _ => 0)))) (h_103 : M 103 = some (.inl (0, 45, .inl (fun _ => 0)))) (h_104 : M 104 = some (.inl (0, 900, .inl (fun _ => 0)))) (h_105 : M 105 = some (.inl (0, 900, .inl (fun _ => 0)))) (h_106 : M 106 = some (.inl (0, 900, .inl (fun _ => 0)))) (h_107 : M 107 = some (.inl (0, 900, .inl (fun _ => 0)))) (h_108 : M 108 = some (.inl (0, 900, .inl (fun _ => 0)))) (h_109 : M 109 = some (.inl (0, 900, .inl (fun _ => 0)))) (h_110 : M 110 = some (.inl (3, 400, .inl (fun _ => 0)))) (h_111 : M 111 = some (.inl (0, 6, .inl (fun _ => 0)))) (h_112 : M 112 = some (.inl (0, 6, .inl (fun _ => 0)))) (h_113 : M 113 = some (.inl (0, 20, .inl (fun _ => 0)))) (h_114 : M 114 = some (.inl (0, 13, .inl (fun _ => 0)))) (h_115 : M 115 = some (.inl (0, 420, .inl (fun _ => 0)))) (h_116 : M 116 = some (.inl (0, 12, .inl (fun _ => 0)))) (h_117 : M 117 = some (.inl (0, 12, .inl (fun _ => 0)))) (h_118 : M 118 = some (.inl (1, 12, .inr (.inl (fun _ => 0))))) (h_119 : M 119 = some (.inl (0, 12, .inl (fun _ => 0)))) (h_120 : M 120 = some (.inl (0, 12, .inl (fun _ => 0)))) (h_121 : M 121 = some (.inl (0, 12, .inl (fun _ => 0)))) (h_122 : M 122 = some (.inl (0, 12, .inl (fun _ => 0)))) (h_123 : M 123 = some (.inl (2, 1200, .inl (fun _ => 0)))) (h_124 : M 124 = some (.inl (0, 144, .inl (fun _ => 0)))) (h_125 : M 125 = some (.inl (1, 12, .inr (.inl (fun _ => 0))))) (h_126 : M 126 = some (.inl (0, 12, .inl (fun _ => 0)))) (h_127 : M 127 = some (.inl (0, 960, .inl (fun _ => 0)))) (h_128 : M 128 = some (.inl (0, 960, .inl (fun _ => 0)))) (h_129 : M 129 = some (.inl (0, 960, .inl (fun _ => 0)))) (h_130 : M 130 = some (.inl (0, 960, .inl (fun _ => 0)))) (h_131 : M 131 = some (.inl (0, 960, .inl (fun _ => 0)))) (h_132 : M 132 = some (.inl (0, 12, .inl (fun _ => 0)))) (h_133 : M 133 = some (.inl (0, 2400, .inl (fun _ => 0)))) (h_134 : M 134 = some (.inl (0, 40, .inl (fun _ => 0)))) (h_135 : M 135 = some (.inl (0, 40, .inl (fun _ => 0)))) (h_136 : M 136 = some (.inl (0, 40, .inl (fun _ => 0)))) (h_137 : M 137 = some (.inl (0, 40, .inl (fun _ => 0)))) (h_138 : M 138 = some (.inl (0, 40, .inl (fun _ => 0)))) (h_139 : M 139 = some (.inl (0, 40, .inl (fun _ => 0)))) (h_140 : M 140 = some (.inl (0, 40, .inl (fun _ => 0)))) (h_141 : M 141 = some (.inl (2, 4000, .inl (fun _ => 0)))) (h_142 : M 142 = some (.inl (0, 4000, .inl (fun _ => 0)))) (h_143 : M 143 = some (.inl (1, 12, .inr (.inl (fun _ => 0))))) (h_144 : M 144 = some (.inl (0, 12, .inl (fun _ => 0)))) (h_145 : M 145 = some (.inl (0, 12, .inl (fun _ => 0)))) (h_146 : M 146 = some (.inl (0, 12, .inl (fun _ => 0)))) (h_147 : M 147 = some (.inl (2, 1212, .inl (fun _ => 0)))) (hlt : l.stackTraces = false) (hle : mj_L g ≤ 6) : mj_V g l kY_TrustDeskLaw_law (d + 9) 16 [(2, .ref 99), (1, .ref 64), (0, .ref 50)] [] M 148 7 242 (fun r _ _ => r = some (.int 1)) := by
  refine mv_iconst (v := 1) d_TrustDeskLaw_law_16 (by decide) ?_
  refine mv_newa_long (N := 1) (kc' := 6) (ks' := 241) d_TrustDeskLaw_law_17 (by decide) (by decide) (Nat.le_of_ble_eq_true rfl) (Nat.le_of_ble_eq_true rfl) (Nat.le_of_ble_eq_true rfl) ?_
  refine mv_astore_n (lv' := [(3, .ref 148), (2, .ref 99), (1, .ref 64), (0, .ref 50)]) d_TrustDeskLaw_law_19 rfl (by decide) rfl ?_
  refine mv_iconst (v := 0) d_TrustDeskLaw_law_20 (by decide) ?_
  refine mv_istore (lv' := [(4, .int 0), (3, .ref 148), (2, .ref 99), (1, .ref 64), (0, .ref 50)]) d_TrustDeskLaw_law_21 (by decide) rfl ?_
  exact lw_head h_64 h_65 h_66 h_67 h_68 h_69 h_70 h_71 h_77 h_78 h_90 h_92 h_94 h_95 h_96 h_97 h_99 h_100 h_102 h_103 h_110 h_113 h_116 h_117 h_118 h_119 h_120 h_121 h_122 h_124 hlt hle
set_option maxRecDepth 100000 in
theorem lw_all2 {g : mj_G} {l : Launch} {d : Nat} {M : mj_M} (h_64 : M 64 = some (.inr (12, [.ref 65, .ref 70, .ref 77, .ref 80, .ref 90, .ref 94, .ref 95, .ref 96, .ref 97, .ref 98, .int 0, .int 0, .int 0]))) (h_65 : M 65 = some (.inr (5, [.ref 66, .ref 67, .ref 68, .ref 69, .int 0]))) (h_66 : M 66 = some (.inl (0, 300, .inl (fun _ => 0)))) (h_67 : M 67 = some (.inl (0, 300, .inl (fun _ => 0)))) (h_68 : M 68 = some (.inl (0, 300, .inl (fun _ => 0)))) (h_69 : M 69 = some (.inl (0, 300, .inl (fun _ => 0)))) (h_70 : M 70 = some (.inr (9, [.int 0, .int 0, .int (-1), .ref 71, .ref 72, .ref 73, .ref 74, .ref 75, .int 0, .int 0, .int 0, .int 0, .int 0, .int 0, .int 0, .int 0, .int 0, .ref 76, .int 0]))) (h_71 : M 71 = some (.inl (0, 400, .inl (fun _ => 0)))) (h_72 : M 72 = some (.inl (0, 400, .inl (fun _ => 0)))) (h_73 : M 73 = some (.inl (0, 400, .inl (fun _ => 0)))) (h_74 : M 74 = some (.inl (0, 400, .inl (fun _ => 0)))) (h_75 : M 75 = some (.inl (0, 400, .inl (fun _ => 0)))) (h_76 : M 76 = some (.inl (0, 400, .inl (fun _ => 0)))) (h_77 : M 77 = some (.inr (10, [.ref 78, .int (-1), .ref 79, .int 0, .int 0]))) (h_78 : M 78 = some (.inl (1, 13, .inr (.inl (fun _ => 0))))) (h_79 : M 79 = some (.inl (1, 64, .inr (.inl (fun _ => 0))))) (h_80 : M 80 = some (.inr (7, [.long 0, .int 0, .int 0, .int 0, .ref 81, .ref 82, .ref 83, .ref 84, .ref 85, .ref 86, .ref 87, .ref 88, .ref 89, .long 0]))) (h_81 : M 81 = some (.inl (0, 8, .inl (fun _ => 0)))) (h_82 : M 82 = some (.inl (1, 8, .inr (.inl (fun _ => 0))))) (h_83 : M 83 = some (.inl (0, 8, .inl (fun _ => 0)))) (h_84 : M 84 = some (.inl (0, 8, .inl (fun _ => 0)))) (h_85 : M 85 = some (.inl (0, 8, .inl (fun _ => 0)))) (h_86 : M 86 = some (.inl (0, 8, .inl (fun _ => 0)))) (h_87 : M 87 = some (.inl (0, 8, .inl (fun _ => 0)))) (h_88 : M 88 = some (.inl (1, 8, .inr (.inl (fun _ => 0))))) (h_89 : M 89 = some (.inl (1, 9, .inr (.inl (fun _ => 0))))) (h_90 : M 90 = some (.inr (1, [.int 0, .int 0, .ref 91, .ref 92, .ref 93]))) (h_91 : M 91 = some (.inr (0, [.int 0, .ref 0, .int 0]))) (h_92 : M 92 = some (.inl (0, 6, .inl mj_rwf))) (h_93 : M 93 = some (.inl (0, 20, .inl (fun _ => 0)))) (h_94 : M 94 = some (.inr (0, [.int 0, .ref 0, .int 0]))) (h_95 : M 95 = some (.inr (0, [.int 0, .ref 0, .int 0]))) (h_96 : M 96 = some (.inr (0, [.int 0, .ref 0, .int 0]))) (h_97 : M 97 = some (.inr (0, [.int 0, .ref 0, .int 0]))) (h_98 : M 98 = some (.inl (0, 2400, .inl (fun _ => 0)))) (hlt : l.stackTraces = false) (hle : mj_L g ≤ 6) : mj_V g l kY_TrustDeskLaw_law (d + 9) 8 [(1, .ref 64), (0, .ref 50)] [] M 99 56 44973 (fun r _ _ => r = some (.int 1)) := by
  refine mv_new (kc' := 55) (ks' := 44901) d_TrustDeskLaw_law_8 n_TrustDeskLaw_16 (Nat.le_of_ble_eq_true rfl) (Nat.le_of_ble_eq_true rfl) ?_
  refine mv_dup d_TrustDeskLaw_law_11 rfl ?_
  refine mv_callI_n (kc' := 7) (ks' := 242) [] [.ref 99, .ref 99] d_TrustDeskLaw_law_12 lI_TrustDeskLaw_18 (c_TrustDeskModel_init_0 (d := (d + 7)) (h_99 := (mj_up_self _ _ _))) rfl (Nat.le_of_ble_eq_true rfl) (Nat.le_of_ble_eq_true rfl) (Nat.le_of_ble_eq_true rfl) rfl ?_
  refine mv_astore_n (lv' := [(2, .ref 99), (1, .ref 64), (0, .ref 50)]) d_TrustDeskLaw_law_15 rfl (by decide) rfl ?_
  exact lw_all3 h_64 h_65 h_66 h_67 h_68 h_69 h_70 h_71 h_72 h_73 h_74 h_75 h_76 h_77 h_78 h_79 h_80 h_81 h_82 h_83 h_84 h_85 h_86 h_87 h_88 h_89 h_90 h_91 h_92 h_93 h_94 h_95 h_96 h_97 h_98 rfl rfl rfl rfl rfl rfl rfl rfl rfl rfl rfl rfl rfl rfl rfl rfl rfl rfl rfl rfl rfl rfl rfl rfl rfl rfl rfl rfl rfl rfl rfl rfl rfl rfl rfl rfl rfl rfl rfl rfl rfl rfl rfl rfl rfl rfl rfl rfl rfl hlt hle
set_option maxRecDepth 100000 in
theorem lw_all {g : mj_G} {l : Launch} {d : Nat} {M : mj_M} (hlt : l.stackTraces = false) (hle : mj_L g ≤ 6) : mj_V g l kY_TrustDeskLaw_law (d + 9) 0 [(0, .ref 50)] [] M 64 91 51225 (fun r _ _ => r = some (.int 1)) := by
  refine mv_new (kc' := 90) (ks' := 51212) d_TrustDeskLaw_law_0 n_TrustDeskLaw_8 (Nat.le_of_ble_eq_true rfl) (Nat.le_of_ble_eq_true rfl) ?_
  refine mv_dup d_TrustDeskLaw_law_3 rfl ?_
  refine mv_callI_n (kc' := 56) (ks' := 44973) [] [.ref 64, .ref 64] d_TrustDeskLaw_law_4 lI_TrustDeskLaw_15 (c_TrustDesk_init_0 (d := (d + 3)) (h_64 := (mj_up_self _ _ _))) rfl (Nat.le_of_ble_eq_true rfl) (Nat.le_of_ble_eq_true rfl) (Nat.le_of_ble_eq_true rfl) rfl ?_
  refine mv_astore_n (lv' := [(1, .ref 64), (0, .ref 50)]) d_TrustDeskLaw_law_7 rfl (by decide) rfl ?_
  exact lw_all2 rfl rfl rfl rfl rfl rfl rfl rfl rfl rfl rfl rfl rfl rfl rfl rfl rfl rfl rfl rfl rfl rfl rfl rfl rfl rfl rfl rfl rfl rfl rfl rfl rfl rfl rfl hlt hle
