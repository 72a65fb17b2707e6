theorem d_TrustDeskLaw_law_837 : decode kY_TrustDeskLaw_law.2.1 837 = .ok (.aload_n 1, 1) := by decide +kernel
theorem d_TrustDeskLaw_law_838 : decode kY_TrustDeskLaw_law.2.1 838 = .ok (.aload_n 0, 1) := by decide +kernel
theorem d_TrustDeskLaw_law_839 : decode kY_TrustDeskLaw_law.2.1 839 = .ok (.iload 4, 2) := by decide +kernel
theorem d_TrustDeskLaw_law_841 : decode kY_TrustDeskLaw_law.2.1 841 = .ok (.iconst 1, 1) := by decide +kernel
theorem d_TrustDeskLaw_law_842 : decode kY_TrustDeskLaw_law.2.1 842 = .ok (.iadd, 1) := by decide +kernel
theorem d_TrustDeskLaw_law_843 : decode kY_TrustDeskLaw_law.2.1 843 = .ok (.iaload, 1) := by decide +kernel
theorem d_TrustDeskLaw_law_844 : decode kY_TrustDeskLaw_law.2.1 844 = .ok (.aload_n 0, 1) := by decide +kernel
theorem d_TrustDeskLaw_law_845 : decode kY_TrustDeskLaw_law.2.1 845 = .ok (.iload 4, 2) := by decide +kernel
theorem d_TrustDeskLaw_law_847 : decode kY_TrustDeskLaw_law.2.1 847 = .ok (.iconst 2, 1) := by decide +kernel
theorem d_TrustDeskLaw_law_848 : decode kY_TrustDeskLaw_law.2.1 848 = .ok (.iadd, 1) := by decide +kernel
theorem d_TrustDeskLaw_law_849 : decode kY_TrustDeskLaw_law.2.1 849 = .ok (.iaload, 1) := by decide +kernel
theorem d_TrustDeskLaw_law_850 : decode kY_TrustDeskLaw_law.2.1 850 = .ok (.aload_n 3, 1) := by decide +kernel
theorem d_TrustDeskLaw_law_851 : decode kY_TrustDeskLaw_law.2.1 851 = .ok (.invokestatic 94, 3) := by decide +kernel
theorem d_TrustDeskLaw_law_854 : decode kY_TrustDeskLaw_law.2.1 854 = .ok (.istore 5, 2) := by decide +kernel
theorem d_TrustDeskLaw_law_856 : decode kY_TrustDeskLaw_law.2.1 856 = .ok (.aload_n 2, 1) := by decide +kernel
theorem d_TrustDeskLaw_law_857 : decode kY_TrustDeskLaw_law.2.1 857 = .ok (.aload_n 0, 1) := by decide +kernel
theorem d_TrustDeskLaw_law_858 : decode kY_TrustDeskLaw_law.2.1 858 = .ok (.iload 4, 2) := by decide +kernel
theorem d_TrustDeskLaw_law_860 : decode kY_TrustDeskLaw_law.2.1 860 = .ok (.iconst 1, 1) := by decide +kernel
theorem d_TrustDeskLaw_law_861 : decode kY_TrustDeskLaw_law.2.1 861 = .ok (.iadd, 1) := by decide +kernel
theorem d_TrustDeskLaw_law_862 : decode kY_TrustDeskLaw_law.2.1 862 = .ok (.iaload, 1) := by decide +kernel
theorem d_TrustDeskLaw_law_863 : decode kY_TrustDeskLaw_law.2.1 863 = .ok (.aload_n 0, 1) := by decide +kernel
theorem d_TrustDeskLaw_law_864 : decode kY_TrustDeskLaw_law.2.1 864 = .ok (.iload 4, 2) := by decide +kernel
theorem d_TrustDeskLaw_law_866 : decode kY_TrustDeskLaw_law.2.1 866 = .ok (.iconst 2, 1) := by decide +kernel
theorem d_TrustDeskLaw_law_867 : decode kY_TrustDeskLaw_law.2.1 867 = .ok (.iadd, 1) := by decide +kernel
theorem d_TrustDeskLaw_law_868 : decode kY_TrustDeskLaw_law.2.1 868 = .ok (.iaload, 1) := by decide +kernel
theorem d_TrustDeskLaw_law_869 : decode kY_TrustDeskLaw_law.2.1 869 = .ok (.invokevirtual 99, 3) := by decide +kernel
theorem lV_TrustDeskLaw_99 : mj_lV "TrustDeskLaw" 99 kY_TrustDeskModel_fundOf 2 := ⟨⟨(mj_in1 (List.mem_of_getElem? (i := 2057) (by decide +kernel)) rfl), (mj_in1 (List.mem_of_getElem? (i := 10) (by decide +kernel)) rfl), (mj_in1 (List.mem_of_getElem? (i := 2060) (by decide +kernel)) rfl), by decide, rfl, by decide⟩, (mj_in1 (List.mem_of_getElem? (i := 2058) (by decide +kernel)) rfl), (mj_in1 (List.mem_of_getElem? (i := 2059) (by decide +kernel)) rfl)⟩
theorem d_TrustDeskLaw_law_872 : decode kY_TrustDeskLaw_law.2.1 872 = .ok (.istore 6, 2) := by decide +kernel
theorem d_TrustDeskLaw_law_874 : decode kY_TrustDeskLaw_law.2.1 874 = .ok (.aload_n 2, 1) := by decide +kernel
theorem d_TrustDeskLaw_law_875 : decode kY_TrustDeskLaw_law.2.1 875 = .ok (.invokevirtual 100, 3) := by decide +kernel
theorem lV_TrustDeskLaw_100 : mj_lV "TrustDeskLaw" 100 kY_TrustDeskModel_thrown 0 := ⟨⟨(mj_in1 (List.mem_of_getElem? (i := 1380) (by decide +kernel)) rfl), (mj_in1 (List.mem_of_getElem? (i := 10) (by decide +kernel)) rfl), (mj_in1 (List.mem_of_getElem? (i := 1383) (by decide +kernel)) rfl), by decide, rfl, by decide⟩, (mj_in1 (List.mem_of_getElem? (i := 1381) (by decide +kernel)) rfl), (mj_in1 (List.mem_of_getElem? (i := 1382) (by decide +kernel)) rfl)⟩
theorem d_TrustDeskLaw_law_878 : decode kY_TrustDeskLaw_law.2.1 878 = .ok (.iload 5, 2) := by decide +kernel
theorem d_TrustDeskLaw_law_880 : decode kY_TrustDeskLaw_law.2.1 880 = .ok (.if_icmp .eq 5, 3) := by decide +kernel
theorem d_TrustDeskLaw_law_885 : decode kY_TrustDeskLaw_law.2.1 885 = .ok (.iload 5, 2) := by decide +kernel
theorem d_TrustDeskLaw_law_887 : decode kY_TrustDeskLaw_law.2.1 887 = .ok (.ifCond .ne 15, 3) := by decide +kernel
theorem d_TrustDeskLaw_law_902 : decode kY_TrustDeskLaw_law.2.1 902 = .ok (.goto 611, 3) := by decide +kernel
theorem lw_case_17 {g : mj_G} {l : Launch} {d nx : Nat} {M : mj_M} (h_64 : M 64 = some (.inr (12, [.ref 65, .ref 70, .ref 77, .ref 80, .ref 90, .ref 94, .ref 95, .ref 96, .ref 97, .ref 98, .int 0, .int 0, .int 0]))) (h_95 : M 95 = some (.inr (0, [.int 0, .ref 0, .int 0]))) (h_99 : M 99 = some (.inr (13, [.int 0, .int 0, .int 0, .ref 100, .ref 101, .ref 102, .ref 103, .ref 104, .ref 105, .ref 106, .ref 107, .ref 108, .ref 109, .ref 110, .int 0, .int 0, .int 0, .int 0, .int 0, .int 0, .int 0, .int (-1), .int 0, .int 0, .int 0, .ref 111, .ref 112, .int 0, .ref 113, .ref 114, .ref 115, .int 0, .int 0, .ref 116, .ref 117, .ref 118, .ref 119, .ref 120, .ref 121, .ref 122, .ref 123, .ref 124, .ref 125, .ref 126, .ref 127, .ref 128, .ref 129, .ref 130, .ref 131, .int 0, .ref 132, .int 0, .ref 133, .int 0, .ref 134, .ref 135, .ref 136, .ref 137, .ref 138, .ref 139, .ref 140, .ref 141, .ref 142, .ref 143, .ref 144, .ref 145, .ref 146, .int 0, .long 0, .int 0, .int 0, .ref 147]))) (hlt : l.stackTraces = false) (hL : mj_L g = 6) : mj_V g l kY_TrustDeskLaw_law (d + 9) 837 [(4, .int 0), (3, .ref 148), (2, .ref 99), (1, .ref 64), (0, .ref 50)] [] M 149 6 241 (fun r _ _ => r = some (.int 1)) := by
  refine mv_aload_n d_TrustDeskLaw_law_837 rfl rfl ?_
  refine mv_aload_n d_TrustDeskLaw_law_838 rfl rfl ?_
  refine mv_iload d_TrustDeskLaw_law_839 rfl ?_
  refine mv_iconst (v := 1) d_TrustDeskLaw_law_841 (by decide) ?_
  refine mv_iaddv (v := 1) d_TrustDeskLaw_law_842 (by decide) ?_
  refine mv_sld (v := (mj_xs g 1)) d_TrustDeskLaw_law_843 (by rw [hL]; unfold vp_in; decide) rfl ?_
  refine mv_aload_n d_TrustDeskLaw_law_844 rfl rfl ?_
  refine mv_iload d_TrustDeskLaw_law_845 rfl ?_
  refine mv_iconst (v := 2) d_TrustDeskLaw_law_847 (by decide) ?_
  refine mv_iaddv (v := 2) d_TrustDeskLaw_law_848 (by decide) ?_
  refine mv_sld (v := (mj_xs g 2)) d_TrustDeskLaw_law_849 (by rw [hL]; unfold vp_in; decide) rfl ?_
  refine mv_aload_n d_TrustDeskLaw_law_850 rfl rfl ?_
  refine mv_callFO (kc' := 5) (ks' := 235) (d := d + 1) hlt rfl h_64 h_95 d_TrustDeskLaw_law_851 (Nat.le_of_ble_eq_true rfl) (Nat.le_of_ble_eq_true rfl) (Nat.le_of_ble_eq_true rfl) (fun nx1 => ?_)
  refine mv_istore (lv' := [(5, .int 1), (4, .int 0), (3, .ref 148), (2, .ref 99), (1, .ref 64), (0, .ref 50)]) d_TrustDeskLaw_law_854 (by decide) rfl ?_
  refine mv_aload_n d_TrustDeskLaw_law_856 rfl rfl ?_
  refine mv_aload_n d_TrustDeskLaw_law_857 rfl rfl ?_
  refine mv_iload d_TrustDeskLaw_law_858 rfl ?_
  refine mv_iconst (v := 1) d_TrustDeskLaw_law_860 (by decide) ?_
  refine mv_iaddv (v := 1) d_TrustDeskLaw_law_861 (by decide) ?_
  refine mv_sld (v := (mj_xs g 1)) d_TrustDeskLaw_law_862 (by rw [hL]; unfold vp_in; decide) rfl ?_
  refine mv_aload_n d_TrustDeskLaw_law_863 rfl rfl ?_
  refine mv_iload d_TrustDeskLaw_law_864 rfl ?_
  refine mv_iconst (v := 2) d_TrustDeskLaw_law_866 (by decide) ?_
  refine mv_iaddv (v := 2) d_TrustDeskLaw_law_867 (by decide) ?_
  refine mv_sld (v := (mj_xs g 2)) d_TrustDeskLaw_law_868 (by rw [hL]; unfold vp_in; decide) rfl ?_
  refine mv_callV_s (kc' := 5) (ks' := 235) [.int (mj_xs g 1), .int (mj_xs g 2)] [.int (mj_xs g 2), .int (mj_xs g 1), .ref 99] d_TrustDeskLaw_law_869 lV_TrustDeskLaw_99 h_99 rfl (c_TrustDeskModel_fundOf_0 (d := (d + 7)) (x1 := (mj_xs g 1)) (x2 := (mj_xs g 2)) (h_99 := h_99)) rfl (Nat.le_of_ble_eq_true rfl) (Nat.le_of_ble_eq_true rfl) (Nat.le_of_ble_eq_true rfl) rfl ?_
  refine mv_istore (lv' := [(6, .int 0), (5, .int 1), (4, .int 0), (3, .ref 148), (2, .ref 99), (1, .ref 64), (0, .ref 50)]) d_TrustDeskLaw_law_872 (by decide) rfl ?_
  refine mv_aload_n d_TrustDeskLaw_law_874 rfl rfl ?_
  refine mv_callV_s (kc' := 5) (ks' := 235) [] [.ref 99] d_TrustDeskLaw_law_875 lV_TrustDeskLaw_100 (mj_up_self _ _ _) rfl (c_TrustDeskModel_thrown_0 (d := (d + 8)) (h_99 := (mj_up_self _ _ _))) rfl (Nat.le_of_ble_eq_true rfl) (Nat.le_of_ble_eq_true rfl) (Nat.le_of_ble_eq_true rfl) rfl ?_
  refine mv_iload d_TrustDeskLaw_law_878 rfl ?_
  refine mv_icmp_eq_t (tgt := 885) d_TrustDeskLaw_law_880 (by decide) (by decide) ?_
  refine mv_iload d_TrustDeskLaw_law_885 rfl ?_
  refine mv_if_ne_t (tgt := 902) d_TrustDeskLaw_law_887 (by decide) (by decide) ?_
  refine mv_goto (tgt := 1513) d_TrustDeskLaw_law_902 (by decide) ?_
  refine mv_iinc (v := 6) (lv' := [(4, .int 6), (6, .int 0), (5, .int 1), (3, .ref 148), (2, .ref 99), (1, .ref 64), (0, .ref 50)]) d_TrustDeskLaw_law_1513 rfl (by decide) (by decide) rfl ?_
  refine mv_goto (tgt := 23) d_TrustDeskLaw_law_1516 (by decide) ?_
  refine mv_iload d_TrustDeskLaw_law_23 rfl ?_
  refine mv_aload_n d_TrustDeskLaw_law_25 rfl rfl ?_
  refine mv_slen (v := 6) d_TrustDeskLaw_law_26 (by rw [hL]; rfl) ?_
  refine mv_bipush (v := 6) d_TrustDeskLaw_law_27 (by decide) ?_
  refine mv_isubv (v := 0) d_TrustDeskLaw_law_29 (by decide) ?_
  refine mv_icmp_gt_t (tgt := 1519) d_TrustDeskLaw_law_30 (by decide) (by decide) ?_
  refine mv_iconst (v := 1) d_TrustDeskLaw_law_1519 (by decide) ?_
  exact mv_iret d_TrustDeskLaw_law_1520 rfl (by first | rfl | decide) rfl
theorem lw_head_0 {g : mj_G} {l : Launch} {d nx : Nat} {M : mj_M} (hL : mj_L g = 0) : mj_V g l kY_TrustDeskLaw_law (d + 9) 23 [(4, .int 0), (3, .ref 148), (2, .ref 99), (1, .ref 64), (0, .ref 50)] [] M 149 6 241 (fun r _ _ => r = some (.int 1)) := by
  refine mv_iload d_TrustDeskLaw_law_23 rfl ?_
  refine mv_aload_n d_TrustDeskLaw_law_25 rfl rfl ?_
  refine mv_slen (v := 0) d_TrustDeskLaw_law_26 (by rw [hL]; rfl) ?_
  refine mv_bipush (v := 6) d_TrustDeskLaw_law_27 (by decide) ?_
  refine mv_isubv (v := (-6)) d_TrustDeskLaw_law_29 (by decide) ?_
  refine mv_icmp_gt_t (tgt := 1519) d_TrustDeskLaw_law_30 (by decide) (by decide) ?_
  refine mv_iconst (v := 1) d_TrustDeskLaw_law_1519 (by decide) ?_
  exact mv_iret d_TrustDeskLaw_law_1520 rfl (by first | rfl | decide) rfl
theorem lw_head_1 {g : mj_G} {l : Launch} {d nx : Nat} {M : mj_M} (hL : mj_L g = 1) : mj_V g l kY_TrustDeskLaw_law (d + 9) 23 [(4, .int 0), (3, .ref 148), (2, .ref 99), (1, .ref 64), (0, .ref 50)] [] M 149 6 241 (fun r _ _ => r = some (.int 1)) := by
  refine mv_iload d_TrustDeskLaw_law_23 rfl ?_
  refine mv_aload_n d_TrustDeskLaw_law_25 rfl rfl ?_
  refine mv_slen (v := 1) d_TrustDeskLaw_law_26 (by rw [hL]; rfl) ?_
  refine mv_bipush (v := 6) d_TrustDeskLaw_law_27 (by decide) ?_
  refine mv_isubv (v := (-5)) d_TrustDeskLaw_law_29 (by decide) ?_
  refine mv_icmp_gt_t (tgt := 1519) d_TrustDeskLaw_law_30 (by decide) (by decide) ?_
  refine mv_iconst (v := 1) d_TrustDeskLaw_law_1519 (by decide) ?_
  exact mv_iret d_TrustDeskLaw_law_1520 rfl (by first | rfl | decide) rfl
theorem lw_head_2 {g : mj_G} {l : Launch} {d nx : Nat} {M : mj_M} (hL : mj_L g = 2) : mj_V g l kY_TrustDeskLaw_law (d + 9) 23 [(4, .int 0), (3, .ref 148), (2, .ref 99), (1, .ref 64), (0, .ref 50)] [] M 149 6 241 (fun r _ _ => r = some (.int 1)) := by
  refine mv_iload d_TrustDeskLaw_law_23 rfl ?_
  refine mv_aload_n d_TrustDeskLaw_law_25 rfl rfl ?_
  refine mv_slen (v := 2) d_TrustDeskLaw_law_26 (by rw [hL]; rfl) ?_
  refine mv_bipush (v := 6) d_TrustDeskLaw_law_27 (by decide) ?_
  refine mv_isubv (v := (-4)) d_TrustDeskLaw_law_29 (by decide) ?_
  refine mv_icmp_gt_t (tgt := 1519) d_TrustDeskLaw_law_30 (by decide) (by decide) ?_
  refine mv_iconst (v := 1) d_TrustDeskLaw_law_1519 (by decide) ?_
  exact mv_iret d_TrustDeskLaw_law_1520 rfl (by first | rfl | decide) rfl
theorem lw_head_3 {g : mj_G} {l : Launch} {d nx : Nat} {M : mj_M} (hL : mj_L g = 3) : mj_V g l kY_TrustDeskLaw_law (d + 9) 23 [(4, .int 0), (3, .ref 148), (2, .ref 99), (1, .ref 64), (0, .ref 50)] [] M 149 6 241 (fun r _ _ => r = some (.int 1)) := by
  refine mv_iload d_TrustDeskLaw_law_23 rfl ?_
  refine mv_aload_n d_TrustDeskLaw_law_25 rfl rfl ?_
  refine mv_slen (v := 3) d_TrustDeskLaw_law_26 (by rw [hL]; rfl) ?_
  refine mv_bipush (v := 6) d_TrustDeskLaw_law_27 (by decide) ?_
  refine mv_isubv (v := (-3)) d_TrustDeskLaw_law_29 (by decide) ?_
  refine mv_icmp_gt_t (tgt := 1519) d_TrustDeskLaw_law_30 (by decide) (by decide) ?_
  refine mv_iconst (v := 1) d_TrustDeskLaw_law_1519 (by decide) ?_
  exact mv_iret d_TrustDeskLaw_law_1520 rfl (by first | rfl | decide) rfl
theorem lw_head_4 {g : mj_G} {l : Launch} {d nx : Nat} {M : mj_M} (hL : mj_L g = 4) : mj_V g l kY_TrustDeskLaw_law (d + 9) 23 [(4, .int 0), (3, .ref 148), (2, .ref 99), (1, .ref 64), (0, .ref 50)] [] M 149 6 241 (fun r _ _ => r = some (.int 1)) := by
  refine mv_iload d_TrustDeskLaw_law_23 rfl ?_
  refine mv_aload_n d_TrustDeskLaw_law_25 rfl rfl ?_
  refine mv_slen (v := 4) d_TrustDeskLaw_law_26 (by rw [hL]; rfl) ?_
  refine mv_bipush (v := 6) d_TrustDeskLaw_law_27 (by decide) ?_
  refine mv_isubv (v := (-2)) d_TrustDeskLaw_law_29 (by decide) ?_
  refine mv_icmp_gt_t (tgt := 1519) d_TrustDeskLaw_law_30 (by decide) (by decide) ?_
  refine mv_iconst (v := 1) d_TrustDeskLaw_law_1519 (by decide) ?_
  exact mv_iret d_TrustDeskLaw_law_1520 rfl (by first | rfl | decide) rfl
theorem lw_head_5 {g : mj_G} {l : Launch} {d nx : Nat} {M : mj_M} (hL : mj_L g = 5) : mj_V g l kY_TrustDeskLaw_law (d + 9) 23 [(4, .int 0), (3, .ref 148), (2, .ref 99), (1, .ref 64), (0, .ref 50)] [] M 149 6 241 (fun r _ _ => r = some (.int 1)) := by
  refine mv_iload d_TrustDeskLaw_law_23 rfl ?_
  refine mv_aload_n d_TrustDeskLaw_law_25 rfl rfl ?_
  refine mv_slen (v := 5) d_TrustDeskLaw_law_26 (by rw [hL]; rfl) ?_
  refine mv_bipush (v := 6) d_TrustDeskLaw_law_27 (by decide) ?_
  refine mv_isubv (v := (-1)) d_TrustDeskLaw_law_29 (by decide) ?_
  refine mv_icmp_gt_t (tgt := 1519) d_TrustDeskLaw_law_30 (by decide) (by decide) ?_
  refine mv_iconst (v := 1) d_TrustDeskLaw_law_1519 (by decide) ?_
  exact mv_iret d_TrustDeskLaw_law_1520 rfl (by first | rfl | decide) rfl
theorem d_TrustDeskLaw_law_33 : decode kY_TrustDeskLaw_law.2.1 33 = .ok (.aload_n 0, 1) := by decide +kernel
theorem d_TrustDeskLaw_law_34 : decode kY_TrustDeskLaw_law.2.1 34 = .ok (.iload 4, 2) := by decide +kernel
theorem d_TrustDeskLaw_law_36 : decode kY_TrustDeskLaw_law.2.1 36 = .ok (.iaload, 1) := by decide +kernel
theorem d_TrustDeskLaw_law_37 : decode kY_TrustDeskLaw_law.2.1 37 = .ok (.bipush 63, 2) := by decide +kernel
theorem d_TrustDeskLaw_law_39 : decode kY_TrustDeskLaw_law.2.1 39 = .ok (.iand, 1) := by decide +kernel
theorem d_TrustDeskLaw_law_40 : decode kY_TrustDeskLaw_law.2.1 40 = .ok (.tableswitch 1473 0 33 #[152, 201, 250, 323, 348, 373, 410, 447, 472, 485, 510, 547, 596, 633, 670, 735, 760, 797, 865, 891, 940, 977, 1003, 1052, 1113, 1174, 1211, 1236, 1285, 1311, 1348, 1385, 1411, 1448], 152) := by decide +kernel
theorem lw_head_6 {g : mj_G} {l : Launch} {d nx : Nat} {M : mj_M} (h_64 : M 64 = some (.inr (12, [.ref 65, .ref 70, .ref 77, .ref 80, .ref 90, .ref 94, .ref 95, .ref 96, .ref 97, .ref 98, .int 0, .int 0, .int 0]))) (h_65 : M 65 = some (.inr (5, [.ref 66, .ref 67, .ref 68, .ref 69, .int 0]))) (h_66 : M 66 = some (.inl (0, 300, .inl (fun _ => 0)))) (h_67 : M 67 = some (.inl (0, 300, .inl (fun _ => 0)))) (h_68 : M 68 = some (.inl (0, 300, .inl (fun _ => 0)))) (h_69 : M 69 = some (.inl (0, 300, .inl (fun _ => 0)))) (h_70 : M 70 = some (.inr (9, [.int 0, .int 0, .int (-1), .ref 71, .ref 72, .ref 73, .ref 74, .ref 75, .int 0, .int 0, .int 0, .int 0, .int 0, .int 0, .int 0, .int 0, .int 0, .ref 76, .int 0]))) (h_71 : M 71 = some (.inl (0, 400, .inl (fun _ => 0)))) (h_77 : M 77 = some (.inr (10, [.ref 78, .int (-1), .ref 79, .int 0, .int 0]))) (h_78 : M 78 = some (.inl (1, 13, .inr (.inl (fun _ => 0))))) (h_90 : M 90 = some (.inr (1, [.int 0, .int 0, .ref 91, .ref 92, .ref 93]))) (h_92 : M 92 = some (.inl (0, 6, .inl mj_rwf))) (h_94 : M 94 = some (.inr (0, [.int 0, .ref 0, .int 0]))) (h_95 : M 95 = some (.inr (0, [.int 0, .ref 0, .int 0]))) (h_96 : M 96 = some (.inr (0, [.int 0, .ref 0, .int 0]))) (h_97 : M 97 = some (.inr (0, [.int 0, .ref 0, .int 0]))) (h_99 : M 99 = some (.inr (13, [.int 0, .int 0, .int 0, .ref 100, .ref 101, .ref 102, .ref 103, .ref 104, .ref 105, .ref 106, .ref 107, .ref 108, .ref 109, .ref 110, .int 0, .int 0, .int 0, .int 0, .int 0, .int 0, .int 0, .int (-1), .int 0, .int 0, .int 0, .ref 111, .ref 112, .int 0, .ref 113, .ref 114, .ref 115, .int 0, .int 0, .ref 116, .ref 117, .ref 118, .ref 119, .ref 120, .ref 121, .ref 122, .ref 123, .ref 124, .ref 125, .ref 126, .ref 127, .ref 128, .ref 129, .ref 130, .ref 131, .int 0, .ref 132, .int 0, .ref 133, .int 0, .ref 134, .ref 135, .ref 136, .ref 137, .ref 138, .ref 139, .ref 140, .ref 141, .ref 142, .ref 143, .ref 144, .ref 145, .ref 146, .int 0, .long 0, .int 0, .int 0, .ref 147]))) (h_100 : M 100 = some (.inl (0, 1200, .inl (fun _ => 0)))) (h_102 : M 102 = some (.inl (0, 45, .inl (fun _ => 0)))) (h_103 : M 103 = some (.inl (0, 45, .inl (fun _ => 0)))) (h_110 : M 110 = some (.inl (3, 400, .inl (fun _ => 0)))) (h_113 : M 113 = some (.inl (0, 20, .inl (fun _ => 0)))) (h_116 : M 116 = some (.inl (0, 12, .inl (fun _ => 0)))) (h_117 : M 117 = some (.inl (0, 12, .inl (fun _ => 0)))) (h_118 : M 118 = some (.inl (1, 12, .inr (.inl (fun _ => 0))))) (h_119 : M 119 = some (.inl (0, 12, .inl (fun _ => 0)))) (h_120 : M 120 = some (.inl (0, 12, .inl (fun _ => 0)))) (h_121 : M 121 = some (.inl (0, 12, .inl (fun _ => 0)))) (h_122 : M 122 = some (.inl (0, 12, .inl (fun _ => 0)))) (h_124 : M 124 = some (.inl (0, 144, .inl (fun _ => 0)))) (hlt : l.stackTraces = false) (hL : mj_L g = 6) : mj_V g l kY_TrustDeskLaw_law (d + 9) 23 [(4, .int 0), (3, .ref 148), (2, .ref 99), (1, .ref 64), (0, .ref 50)] [] M 149 6 241 (fun r _ _ => r = some (.int 1)) := by
  refine mv_iload d_TrustDeskLaw_law_23 rfl ?_
  refine mv_aload_n d_TrustDeskLaw_law_25 rfl rfl ?_
  refine mv_slen (v := 6) d_TrustDeskLaw_law_26 (by rw [hL]; rfl) ?_
  refine mv_bipush (v := 6) d_TrustDeskLaw_law_27 (by decide) ?_
  refine mv_isubv (v := 0) d_TrustDeskLaw_law_29 (by decide) ?_
  refine mv_icmp_gt_f (tgt := 1519) d_TrustDeskLaw_law_30 (by decide) (by decide) ?_
  refine mv_aload_n d_TrustDeskLaw_law_33 rfl rfl ?_
  refine mv_iload d_TrustDeskLaw_law_34 rfl ?_
  refine mv_sld (v := (mj_xs g 0)) d_TrustDeskLaw_law_36 (by rw [hL]; unfold vp_in; decide) rfl ?_
  refine mv_bipush (v := 63) d_TrustDeskLaw_law_37 (by decide) ?_
  refine mv_iand d_TrustDeskLaw_law_39 ?_
  have b1 : 0 ≤ ((mj_xs g 0) &&& 63).toInt ∧ ((mj_xs g 0) &&& 63).toInt ≤ 63 := mz_mask63 _
  rcases (show (((mj_xs g 0) &&& 63).toInt < 0 ∨ 33 < ((mj_xs g 0) &&& 63).toInt) ∨ ((mj_xs g 0) &&& 63).toInt = 0 ∨ ((mj_xs g 0) &&& 63).toInt = 1 ∨ ((mj_xs g 0) &&& 63).toInt = 2 ∨ ((mj_xs g 0) &&& 63).toInt = 3 ∨ ((mj_xs g 0) &&& 63).toInt = 4 ∨ ((mj_xs g 0) &&& 63).toInt = 5 ∨ ((mj_xs g 0) &&& 63).toInt = 6 ∨ ((mj_xs g 0) &&& 63).toInt = 7 ∨ ((mj_xs g 0) &&& 63).toInt = 8 ∨ ((mj_xs g 0) &&& 63).toInt = 9 ∨ ((mj_xs g 0) &&& 63).toInt = 10 ∨ ((mj_xs g 0) &&& 63).toInt = 11 ∨ ((mj_xs g 0) &&& 63).toInt = 12 ∨ ((mj_xs g 0) &&& 63).toInt = 13 ∨ ((mj_xs g 0) &&& 63).toInt = 14 ∨ ((mj_xs g 0) &&& 63).toInt = 15 ∨ ((mj_xs g 0) &&& 63).toInt = 16 ∨ ((mj_xs g 0) &&& 63).toInt = 17 ∨ ((mj_xs g 0) &&& 63).toInt = 18 ∨ ((mj_xs g 0) &&& 63).toInt = 19 ∨ ((mj_xs g 0) &&& 63).toInt = 20 ∨ ((mj_xs g 0) &&& 63).toInt = 21 ∨ ((mj_xs g 0) &&& 63).toInt = 22 ∨ ((mj_xs g 0) &&& 63).toInt = 23 ∨ ((mj_xs g 0) &&& 63).toInt = 24 ∨ ((mj_xs g 0) &&& 63).toInt = 25 ∨ ((mj_xs g 0) &&& 63).toInt = 26 ∨ ((mj_xs g 0) &&& 63).toInt = 27 ∨ ((mj_xs g 0) &&& 63).toInt = 28 ∨ ((mj_xs g 0) &&& 63).toInt = 29 ∨ ((mj_xs g 0) &&& 63).toInt = 30 ∨ ((mj_xs g 0) &&& 63).toInt = 31 ∨ ((mj_xs g 0) &&& 63).toInt = 32 ∨ ((mj_xs g 0) &&& 63).toInt = 33 by omega) with b2 | b2 | b2 | b2 | b2 | b2 | b2 | b2 | b2 | b2 | b2 | b2 | b2 | b2 | b2 | b2 | b2 | b2 | b2 | b2 | b2 | b2 | b2 | b2 | b2 | b2 | b2 | b2 | b2 | b2 | b2 | b2 | b2 | b2 | b2
  · refine mv_tableOut (tgt := 1513) d_TrustDeskLaw_law_40 b2 (by decide) ?_
    refine mv_iinc (v := 6) (lv' := [(4, .int 6), (3, .ref 148), (2, .ref 99), (1, .ref 64), (0, .ref 50)]) d_TrustDeskLaw_law_1513 rfl (by decide) (by decide) rfl ?_
    refine mv_goto (tgt := 23) d_TrustDeskLaw_law_1516 (by decide) ?_
    refine mv_iload d_TrustDeskLaw_law_23 rfl ?_
    refine mv_aload_n d_TrustDeskLaw_law_25 rfl rfl ?_
    refine mv_slen (v := 6) d_TrustDeskLaw_law_26 (by rw [hL]; rfl) ?_
    refine mv_bipush (v := 6) d_TrustDeskLaw_law_27 (by decide) ?_
    refine mv_isubv (v := 0) d_TrustDeskLaw_law_29 (by decide) ?_
    refine mv_icmp_gt_t (tgt := 1519) d_TrustDeskLaw_law_30 (by decide) (by decide) ?_
    refine mv_iconst (v := 1) d_TrustDeskLaw_law_1519 (by decide) ?_
    exact mv_iret d_TrustDeskLaw_law_1520 rfl (by first | rfl | decide) rfl
  · refine mv_tableIn (tgt := 192) (off := 152) d_TrustDeskLaw_law_40 (by omega) (by omega) (by rw [b2]; rfl) (by decide) ?_
    exact lw_case_0 (nx := 0) h_64 h_65 h_66 h_67 h_68 h_69 h_99 h_100 hL
  · refine mv_tableIn (tgt := 241) (off := 201) d_TrustDeskLaw_law_40 (by omega) (by omega) (by rw [b2]; rfl) (by decide) ?_
    exact lw_case_1 (nx := 0) h_64 h_65 h_99 hL
  · refine mv_tableIn (tgt := 290) (off := 250) d_TrustDeskLaw_law_40 (by omega) (by omega) (by rw [b2]; rfl) (by decide) ?_
    exact lw_case_2 (nx := 0) h_64 h_70 h_71 h_99 h_110 hL
  · refine mv_tableIn (tgt := 363) (off := 323) d_TrustDeskLaw_law_40 (by omega) (by omega) (by rw [b2]; rfl) (by decide) ?_
    exact lw_case_3 (nx := 0) h_64 h_70 h_99 hL
  · refine mv_tableIn (tgt := 388) (off := 348) d_TrustDeskLaw_law_40 (by omega) (by omega) (by rw [b2]; rfl) (by decide) ?_
    exact lw_case_4 (nx := 0) h_64 h_70 h_94 h_99 h_102 h_103 h_113 hL
  · refine mv_tableIn (tgt := 413) (off := 373) d_TrustDeskLaw_law_40 (by omega) (by omega) (by rw [b2]; rfl) (by decide) ?_
    exact lw_case_5 (nx := 0) h_64 h_90 h_92 h_94 h_99 hL
  · refine mv_tableIn (tgt := 450) (off := 410) d_TrustDeskLaw_law_40 (by omega) (by omega) (by rw [b2]; rfl) (by decide) ?_
    exact lw_case_6 (nx := 0) h_64 h_70 h_95 h_99 h_102 h_103 h_116 h_117 h_118 h_119 h_120 h_121 h_122 h_124 hL
  · refine mv_tableIn (tgt := 487) (off := 447) d_TrustDeskLaw_law_40 (by omega) (by omega) (by rw [b2]; rfl) (by decide) ?_
    exact lw_case_7 (nx := 0) h_64 h_70 h_96 h_99 h_102 h_103 hL
  · refine mv_tableIn (tgt := 512) (off := 472) d_TrustDeskLaw_law_40 (by omega) (by omega) (by rw [b2]; rfl) (by decide) ?_
    exact lw_case_8 (nx := 0) h_64 h_70 h_99 hL
  · refine mv_tableIn (tgt := 525) (off := 485) d_TrustDeskLaw_law_40 (by omega) (by omega) (by rw [b2]; rfl) (by decide) ?_
    exact lw_case_9 (nx := 0) h_64 h_65 h_77 h_78 h_94 h_95 h_99 hL
  · refine mv_tableIn (tgt := 550) (off := 510) d_TrustDeskLaw_law_40 (by omega) (by omega) (by rw [b2]; rfl) (by decide) ?_
    exact lw_case_10 (nx := 0) h_64 h_95 h_99 hL
  · refine mv_tableIn (tgt := 587) (off := 547) d_TrustDeskLaw_law_40 (by omega) (by omega) (by rw [b2]; rfl) (by decide) ?_
    exact lw_case_11 (nx := 0) h_64 h_95 h_99 hL
  · refine mv_tableIn (tgt := 636) (off := 596) d_TrustDeskLaw_law_40 (by omega) (by omega) (by rw [b2]; rfl) (by decide) ?_
    exact lw_case_12 (nx := 0) h_64 h_97 h_99 hL
  · refine mv_tableIn (tgt := 673) (off := 633) d_TrustDeskLaw_law_40 (by omega) (by omega) (by rw [b2]; rfl) (by decide) ?_
    exact lw_case_13 (nx := 0) h_64 h_97 h_99 hL
  · refine mv_tableIn (tgt := 710) (off := 670) d_TrustDeskLaw_law_40 (by omega) (by omega) (by rw [b2]; rfl) (by decide) ?_
    exact lw_case_14 (nx := 0) h_64 h_97 h_99 hL
  · refine mv_tableIn (tgt := 775) (off := 735) d_TrustDeskLaw_law_40 (by omega) (by omega) (by rw [b2]; rfl) (by decide) ?_
    exact lw_case_15 (nx := 0) h_64 h_97 h_99 hL
  · refine mv_tableIn (tgt := 800) (off := 760) d_TrustDeskLaw_law_40 (by omega) (by omega) (by rw [b2]; rfl) (by decide) ?_
    exact lw_case_16 (nx := 0) h_64 h_97 h_99 hL
  · refine mv_tableIn (tgt := 837) (off := 797) d_TrustDeskLaw_law_40 (by omega) (by omega) (by rw [b2]; rfl) (by decide) ?_
    exact lw_case_17 (nx := 0) h_64 h_95 h_99 hlt hL
  · refine mv_tableIn (tgt := 905) (off := 865) d_TrustDeskLaw_law_40 (by omega) (by omega) (by rw [b2]; rfl) (by decide) ?_
    exact lw_case_18 (nx := 0) h_64 h_95 h_99 hL
  · refine mv_tableIn (tgt := 931) (off := 891) d_TrustDeskLaw_law_40 (by omega) (by omega) (by rw [b2]; rfl) (by decide) ?_
    exact lw_case_19 (nx := 0) h_64 h_95 h_99 hL
  · refine mv_tableIn (tgt := 980) (off := 940) d_TrustDeskLaw_law_40 (by omega) (by omega) (by rw [b2]; rfl) (by decide) ?_
    exact lw_case_20 (nx := 0) h_64 h_95 h_99 hL
  · refine mv_tableIn (tgt := 1017) (off := 977) d_TrustDeskLaw_law_40 (by omega) (by omega) (by rw [b2]; rfl) (by decide) ?_
    exact lw_case_21 (nx := 0) h_64 h_95 h_99 hL
  · refine mv_tableIn (tgt := 1043) (off := 1003) d_TrustDeskLaw_law_40 (by omega) (by omega) (by rw [b2]; rfl) (by decide) ?_
    exact lw_case_22 (nx := 0) h_64 h_95 h_99 hL
  · refine mv_tableIn (tgt := 1092) (off := 1052) d_TrustDeskLaw_law_40 (by omega) (by omega) (by rw [b2]; rfl) (by decide) ?_
    exact lw_case_23 (nx := 0) h_64 h_95 h_99 hL
  · refine mv_tableIn (tgt := 1153) (off := 1113) d_TrustDeskLaw_law_40 (by omega) (by omega) (by rw [b2]; rfl) (by decide) ?_
    exact lw_case_24 (nx := 0) h_64 h_95 h_99 hL
  · refine mv_tableIn (tgt := 1214) (off := 1174) d_TrustDeskLaw_law_40 (by omega) (by omega) (by rw [b2]; rfl) (by decide) ?_
    exact lw_case_25 (nx := 0) h_64 h_99 hL
  · refine mv_tableIn (tgt := 1251) (off := 1211) d_TrustDeskLaw_law_40 (by omega) (by omega) (by rw [b2]; rfl) (by decide) ?_
    exact lw_case_26 (nx := 0) h_64 h_95 h_99 hL
  · refine mv_tableIn (tgt := 1276) (off := 1236) d_TrustDeskLaw_law_40 (by omega) (by omega) (by rw [b2]; rfl) (by decide) ?_
    exact lw_case_27 (nx := 0) h_64 h_95 h_96 h_99 hL
  · refine mv_tableIn (tgt := 1325) (off := 1285) d_TrustDeskLaw_law_40 (by omega) (by omega) (by rw [b2]; rfl) (by decide) ?_
    exact lw_case_28 (nx := 0) h_64 h_95 h_99 hL
  · refine mv_tableIn (tgt := 1351) (off := 1311) d_TrustDeskLaw_law_40 (by omega) (by omega) (by rw [b2]; rfl) (by decide) ?_
    exact lw_case_29 (nx := 0) h_64 h_95 h_99 hL
  · refine mv_tableIn (tgt := 1388) (off := 1348) d_TrustDeskLaw_law_40 (by omega) (by omega) (by rw [b2]; rfl) (by decide) ?_
    exact lw_case_30 (nx := 0) h_64 h_95 h_99 hL
  · refine mv_tableIn (tgt := 1425) (off := 1385) d_TrustDeskLaw_law_40 (by omega) (by omega) (by rw [b2]; rfl) (by decide) ?_
    exact lw_case_31 (nx := 0) h_64 h_95 h_99 hL
  · refine mv_tableIn (tgt := 1451) (off := 1411) d_TrustDeskLaw_law_40 (by omega) (by omega) (by rw [b2]; rfl) (by decide) ?_
    exact lw_case_32 (nx := 0) h_64 h_95 h_99 hL
  · refine mv_tableIn (tgt := 1488) (off := 1448) d_TrustDeskLaw_law_40 (by omega) (by omega) (by rw [b2]; rfl) (by decide) ?_
    exact lw_case_33 (nx := 0) h_64 h_65 h_70 h_94 h_95 h_96 h_97 h_99 hL
theorem lw_head {g : mj_G} {l : Launch} {d nx : Nat} {M : mj_M} (h_64 : M 64 = some (.inr (12, [.ref 65, .ref 70, .ref 77, .ref 80, .ref 90, .ref 94, .ref 95, .ref 96, .ref 97, .ref 98, .int 0, .int 0, .int 0]))) (h_65 : M 65 = some (.inr (5, [.ref 66, .ref 67, .ref 68, .ref 69, .int 0]))) (h_66 : M 66 = some (.inl (0, 300, .inl (fun _ => 0)))) (h_67 : M 67 = some (.inl (0, 300, .inl (fun _ => 0)))) (h_68 : M 68 = some (.inl (0, 300, .inl (fun _ => 0)))) (h_69 : M 69 = some (.inl (0, 300, .inl (fun _ => 0)))) (h_70 : M 70 = some (.inr (9, [.int 0, .int 0, .int (-1), .ref 71, .ref 72, .ref 73, .ref 74, .ref 75, .int 0, .int 0, .int 0, .int 0, .int 0, .int 0, .int 0, .int 0, .int 0, .ref 76, .int 0]))) (h_71 : M 71 = some (.inl (0, 400, .inl (fun _ => 0)))) (h_77 : M 77 = some (.inr (10, [.ref 78, .int (-1), .ref 79, .int 0, .int 0]))) (h_78 : M 78 = some (.inl (1, 13, .inr (.inl (fun _ => 0))))) (h_90 : M 90 = some (.inr (1, [.int 0, .int 0, .ref 91, .ref 92, .ref 93]))) (h_92 : M 92 = some (.inl (0, 6, .inl mj_rwf))) (h_94 : M 94 = some (.inr (0, [.int 0, .ref 0, .int 0]))) (h_95 : M 95 = some (.inr (0, [.int 0, .ref 0, .int 0]))) (h_96 : M 96 = some (.inr (0, [.int 0, .ref 0, .int 0]))) (h_97 : M 97 = some (.inr (0, [.int 0, .ref 0, .int 0]))) (h_99 : M 99 = some (.inr (13, [.int 0, .int 0, .int 0, .ref 100, .ref 101, .ref 102, .ref 103, .ref 104, .ref 105, .ref 106, .ref 107, .ref 108, .ref 109, .ref 110, .int 0, .int 0, .int 0, .int 0, .int 0, .int 0, .int 0, .int (-1), .int 0, .int 0, .int 0, .ref 111, .ref 112, .int 0, .ref 113, .ref 114, .ref 115, .int 0, .int 0, .ref 116, .ref 117, .ref 118, .ref 119, .ref 120, .ref 121, .ref 122, .ref 123, .ref 124, .ref 125, .ref 126, .ref 127, .ref 128, .ref 129, .ref 130, .ref 131, .int 0, .ref 132, .int 0, .ref 133, .int 0, .ref 134, .ref 135, .ref 136, .ref 137, .ref 138, .ref 139, .ref 140, .ref 141, .ref 142, .ref 143, .ref 144, .ref 145, .ref 146, .int 0, .long 0, .int 0, .int 0, .ref 147]))) (h_100 : M 100 = some (.inl (0, 1200, .inl (fun _ => 0)))) (h_102 : M 102 = some (.inl (0, 45, .inl (fun _ => 0)))) (h_103 : M 103 = some (.inl (0, 45, .inl (fun _ => 0)))) (h_110 : M 110 = some (.inl (3, 400, .inl (fun _ => 0)))) (h_113 : M 113 = some (.inl (0, 20, .inl (fun _ => 0)))) (h_116 : M 116 = some (.inl (0, 12, .inl (fun _ => 0)))) (h_117 : M 117 = some (.inl (0, 12, .inl (fun _ => 0)))) (h_118 : M 118 = some (.inl (1, 12, .inr (.inl (fun _ => 0))))) (h_119 : M 119 = some (.inl (0, 12, .inl (fun _ => 0)))) (h_120 : M 120 = some (.inl (0, 12, .inl (fun _ => 0)))) (h_121 : M 121 = some (.inl (0, 12, .inl (fun _ => 0)))) (h_122 : M 122 = some (.inl (0, 12, .inl (fun _ => 0)))) (h_124 : M 124 = some (.inl (0, 144, .inl (fun _ => 0)))) (hlt : l.stackTraces = false) (hle : mj_L g ≤ 6) : mj_V g l kY_TrustDeskLaw_law (d + 9) 23 [(4, .int 0), (3, .ref 148), (2, .ref 99), (1, .ref 64), (0, .ref 50)] [] M 149 6 241 (fun r _ _ => r = some (.int 1)) := by
  rcases (show mj_L g = 0 ∨ mj_L g = 1 ∨ mj_L g = 2 ∨ mj_L g = 3 ∨ mj_L g = 4 ∨ mj_L g = 5 ∨ mj_L g = 6 by omega) with h | h | h | h | h | h | h
  · exact lw_head_0 (nx := 0) h
  · exact lw_head_1 (nx := 0) h
  · exact lw_head_2 (nx := 0) h
  · exact lw_head_3 (nx := 0) h
  · exact lw_head_4 (nx := 0) h
  · exact lw_head_5 (nx := 0) h
  · exact lw_head_6 (nx := 0) h_64 h_65 h_66 h_67 h_68 h_69 h_70 h_71 h_77 h_78 h_90 h_92 h_94 h_95 h_96 h_97 h_99 h_100 h_102 h_103 h_110 h_113 h_116 h_117 h_118 h_119 h_120 h_121 h_122 h_124 hlt h
theorem d_TrustDeskLaw_law_0 : decode kY_TrustDeskLaw_law.2.1 0 = .ok (.new 8, 3) := by decide +kernel
theorem n_TrustDeskLaw_8 : mj_nw "TrustDeskLaw" 8 12 [.null, .null, .null, .null, .null, .null, .null, .null, .null, .null, .int 0, .int 0, .int 0] := ⟨kR_TrustDesk, kF_TrustDesk, 13, kt_TrustDesk, rfl, kg_12, kto_TrustDesk, (mj_in1 (List.mem_of_getElem? (i := 31) (by decide +kernel)) rfl), (mj_in1 (List.mem_of_getElem? (i := 32) (by decide +kernel)) rfl), (mj_in1 (List.mem_of_getElem? (i := 1) (by decide +kernel)) rfl), by decide +kernel, rfl, fun _ => rfl⟩
theorem d_TrustDeskLaw_law_3 : decode kY_TrustDeskLaw_law.2.1 3 = .ok (.dup, 1) := by decide +kernel
theorem d_TrustDeskLaw_law_4 : decode kY_TrustDeskLaw_law.2.1 4 = .ok (.invokespecial 15, 3) := by decide +kernel
theorem lI_TrustDeskLaw_15 : mj_lI "TrustDeskLaw" 15 kY_TrustDesk_init 0 := ⟨⟨(mj_in1 (List.mem_of_getElem? (i := 33) (by decide +kernel)) rfl), (mj_in1 (List.mem_of_getElem? (i := 1) (by decide +kernel)) rfl), (mj_in1 (List.mem_of_getElem? (i := 35) (by decide +kernel)) rfl), by decide, rfl, by decide⟩, rfl, (mj_in1 (List.mem_of_getElem? (i := 34) (by decide +kernel)) rfl), rfl⟩
theorem d_TrustDeskLaw_law_7 : decode kY_TrustDeskLaw_law.2.1 7 = .ok (.astore_n 1, 1) := by decide +kernel
theorem d_TrustDeskLaw_law_8 : decode kY_TrustDeskLaw_law.2.1 8 = .ok (.new 16, 3) := by decide +kernel
theorem n_TrustDeskLaw_16 : mj_nw "TrustDeskLaw" 16 13 [.int 0, .int 0, .int 0, .null, .null, .null, .null, .null, .null, .null, .null, .null, .null, .null, .int 0, .int 0, .int 0, .int 0, .int 0, .int 0, .int 0, .int 0, .int 0, .int 0, .int 0, .null, .null, .int 0, .null, .null, .null, .int 0, .int 0, .null, .null, .null, .null, .null, .null, .null, .null, .null, .null, .null, .null, .null, .null, .null, .null, .int 0, .null, .int 0, .null, .int 0, .null, .null, .null, .null, .null, .null, .null, .null, .null, .null, .null, .null, .null, .int 0, .long 0, .int 0, .int 0, .null] := ⟨kR_TrustDeskModel, kF_TrustDeskModel, 72, kt_TrustDeskModel, rfl, kg_13, kto_TrustDeskModel, (mj_in1 (List.mem_of_getElem? (i := 1384) (by decide +kernel)) rfl), (mj_in1 (List.mem_of_getElem? (i := 1385) (by decide +kernel)) rfl), (mj_in1 (List.mem_of_getElem? (i := 10) (by decide +kernel)) rfl), by decide +kernel, rfl, fun _ => rfl⟩
theorem d_TrustDeskLaw_law_11 : decode kY_TrustDeskLaw_law.2.1 11 = .ok (.dup, 1) := by decide +kernel
theorem d_TrustDeskLaw_law_12 : decode kY_TrustDeskLaw_law.2.1 12 = .ok (.invokespecial 18, 3) := by decide +kernel
theorem lI_TrustDeskLaw_18 : mj_lI "TrustDeskLaw" 18 kY_TrustDeskModel_init 0 := ⟨⟨(mj_in1 (List.mem_of_getElem? (i := 1386) (by decide +kernel)) rfl), (mj_in1 (List.mem_of_getElem? (i := 10) (by decide +kernel)) rfl), (mj_in1 (List.mem_of_getElem? (i := 1388) (by decide +kernel)) rfl), by decide, rfl, by decide⟩, rfl, (mj_in1 (List.mem_of_getElem? (i := 1387) (by decide +kernel)) rfl), rfl⟩
theorem d_TrustDeskLaw_law_15 : decode kY_TrustDeskLaw_law.2.1 15 = .ok (.astore_n 2, 1) := by decide +kernel
theorem d_TrustDeskLaw_law_16 : decode kY_TrustDeskLaw_law.2.1 16 = .ok (.iconst 1, 1) := by decide +kernel
theorem d_TrustDeskLaw_law_17 : decode kY_TrustDeskLaw_law.2.1 17 = .ok (.newarray .long, 2) := by decide +kernel
theorem d_TrustDeskLaw_law_19 : decode kY_TrustDeskLaw_law.2.1 19 = .ok (.astore_n 3, 1) := by decide +kernel
theorem d_TrustDeskLaw_law_20 : decode kY_TrustDeskLaw_law.2.1 20 = .ok (.iconst 0, 1) := by decide +kernel
theorem d_TrustDeskLaw_law_21 : decode kY_TrustDeskLaw_law.2.1 21 = .ok (.istore 4, 2) := by decide +kernel
set_option maxRecDepth 100000 in
theorem lw_all3 {g : mj_G} {l : Launch} {d : Nat} {M : mj_M} (h_64 : M 64 = some (.inr (12, [.ref 65, .ref 70, .ref 77, .ref 80, .ref 90, .ref 94, .ref 95, .ref 96, .ref 97, .ref 98, .int 0, .int 0, .int 0]))) (h_65 : M 65 = some (.inr (5, [.ref 66, .ref 67, .ref 68, .ref 69, .int 0]))) (h_66 : M 66 = some (.inl (0, 300, .inl (fun _ => 0)))) (h_67 : M 67 = some (.inl (0, 300, .inl (fun _ => 0)))) (h_68 : M 68 = some (.inl (0, 300, .inl (fun _ => 0)))) (h_69 : M 69 = some (.inl (0, 300, .inl (fun _ => 0)))) (h_70 : M 70 = some (.inr (9, [.int 0, .int 0, .int (-1), .ref 71, .ref 72, .ref 73, .ref 74, .ref 75, .int 0, .int 0, .int 0, .int 0, .int 0, .int 0, .int 0, .int 0, .int 0, .ref 76, .int 0]))) (h_71 : M 71 = some (.inl (0, 400, .inl (fun _ => 0)))) (h_72 : M 72 = some (.inl (0, 400, .inl (fun _ => 0)))) (h_73 : M 73 = some (.inl (0, 400, .inl (fun _ => 0)))) (h_74 : M 74 = some (.inl (0, 400, .inl (fun _ => 0)))) (h_75 : M 75 = some (.inl (0, 400, .inl (fun _ => 0)))) (h_76 : M 76 = some (.inl (0, 400, .inl (fun _ => 0)))) (h_77 : M 77 = some (.inr (10, [.ref 78, .int (-1), .ref 79, .int 0, .int 0]))) (h_78 : M 78 = some (.inl (1, 13, .inr (.inl (fun _ => 0))))) (h_79 : M 79 = some (.inl (1, 64, .inr (.inl (fun _ => 0))))) (h_80 : M 80 = some (.inr (7, [.long 0, .int 0, .int 0, .int 0, .ref 81, .ref 82, .ref 83, .ref 84, .ref 85, .ref 86, .ref 87, .ref 88, .ref 89, .long 0]))) (h_81 : M 81 = some (.inl (0, 8, .inl (fun _ => 0)))) (h_82 : M 82 = some (.inl (1, 8, .inr (.inl (fun _ => 0))))) (h_83 : M 83 = some (.inl (0, 8, .inl (fun _ => 0)))) (h_84 : M 84 = some (.inl (0, 8, .inl (fun _ => 0)))) (h_85 : M 85 = some (.inl (0, 8, .inl (fun _ => 0)))) (h_86 : M 86 = some (.inl (0, 8, .inl (fun _ => 0)))) (h_87 : M 87 = some (.inl (0, 8, .inl (fun _ => 0)))) (h_88 : M 88 = some (.inl (1, 8, .inr (.inl (fun _ => 0))))) (h_89 : M 89 = some (.inl (1, 9, .inr (.inl (fun _ => 0))))) (h_90 : M 90 = some (.inr (1, [.int 0, .int 0, .ref 91, .ref 92, .ref 93]))) (h_91 : M 91 = some (.inr (0, [.int 0, .ref 0, .int 0]))) (h_92 : M 92 = some (.inl (0, 6, .inl mj_rwf))) (h_93 : M 93 = some (.inl (0, 20, .inl (fun _ => 0)))) (h_94 : M 94 = some (.inr (0, [.int 0, .ref 0, .int 0]))) (h_95 : M 95 = some (.inr (0, [.int 0, .ref 0, .int 0]))) (h_96 : M 96 = some (.inr (0, [.int 0, .ref 0, .int 0]))) (h_97 : M 97 = some (.inr (0, [.int 0, .ref 0, .int 0]))) (h_98 : M 98 = some (.inl (0, 2400, .inl (fun _ => 0)))) (h_99 : M 99 = some (.inr (13, [.int 0, .int 0, .int 0, .ref 100, .ref 101, .ref 102, .ref 103, .ref 104, .ref 105, .ref 106, .ref 107, .ref 108, .ref 109, .ref 110, .int 0, .int 0, .int 0, .int 0, .int 0, .int 0, .int 0, .int (-1), .int 0, .int 0, .int 0, .ref 111, .ref 112, .int 0, .ref 113, .ref 114, .ref 115, .int 0, .int 0, .ref 116, .ref 117, .ref 118, .ref 119, .ref 120, .ref 121, .ref 122, .ref 123, .ref 124, .ref 125, .ref 126, .ref 127, .ref 128, .ref 129, .ref 130, .ref 131, .int 0, .ref 132, .int 0, .ref 133, .int 0, .ref 134, .ref 135, .ref 136, .ref 137, .ref 138, .ref 139, .ref 140, .ref 141, .ref 142, .ref 143, .ref 144, .ref 145, .ref 146, .int 0, .long 0, .int 0, .int 0, .ref 147]))) (h_100 : M 100 = some (.inl (0, 1200, .inl (fun _ => 0)))) (h_101 : M 101 = some (.inl (0, 18900, .inl (fun _ => 0)))) (h_102 : M 102 = some (.inl (0, 45, .inl (fun _ => 0)))) (h_103 : M 103 = some (.inl (0, 45, .inl (fun _ => 0)))) (h_104 : M 104 = some (.inl (0, 900, .inl (fun _ => 0)))) (h_105 : M 105 = some (.inl (0, 900, .inl (fun _ => 0)))) (h_106 : M 106 = some (.inl (0, 900, .inl (fun _ => 0)))) (h_107 : M 107 = some (.inl (0, 900, .inl (fun _ => 0)))) (h_108 : M 108 = some (.inl (0, 900, .inl (fun _ => 0)))) (h_109 : M 109 = some (.inl (0, 900, .inl (fun _ => 0)))) (h_110 : M 110 = some (.inl (3, 400, .inl (fun _ => 0)))) (h_111 : M 111 = some (.inl (0, 6, .inl (fun _ => 0)))) (h_112 : M 112 = some (.inl (0, 6, .inl (fun _ => 0)))) (h_113 : M 113 = some (.inl (0, 20, .inl (fun _ => 0)))) (h_114 : M 114 = some (.inl (0, 13, .inl (fun _ => 0)))) (h_115 : M 115 = some (.inl (0, 420, .inl (fun _ => 0)))) (h_116 : M 116 = some (.inl (0, 12, .inl (fun _ => 0)))) (h_117 : M 117 = some (.inl (0, 12, .inl (fun _ => 0)))) (h_118 : M 118 = some (.inl (1, 12, .inr (.inl (fun _ => 0))))) (h_119 : M 119 = some (.inl (0, 12, .inl (fun _ => 0)))) (h_120 : M 120 = some (.inl (0, 12, .inl (fun _ => 0)))) (h_121 : M 121 = some (.inl (0, 12, .inl (fun _ => 0)))) (h_122 : M 122 = some (.inl (0, 12, .inl (fun _ => 0)))) (h_123 : M 123 = some (.inl (2, 1200, .inl (fun _ => 0)))) (h_124 : M 124 = some (.inl (0, 144, .inl (fun _ => 0)))) (h_125 : M 125 = some (.inl (1, 12, .inr (.inl (fun _ => 0))))) (h_126 : M 126 = some (.inl (0, 12, .inl (fun _ => 0)))) (h_127 : M 127 = some (.inl (0, 960, .inl (fun _ => 0)))) (h_128 : M 128 = some (.inl (0, 960, .inl (fun _ => 0)))) (h_129 : M 129 = some (.inl (0, 960, .inl (fun _ => 0)))) (h_130 : M 130 = some (.inl (0, 960, .inl (fun _ => 0)))) (h_131 : M 131 = some (.inl (0, 960, .inl (fun _ => 0)))) (h_132 : M 132 = some (.inl (0, 12, .inl (fun _ => 0)))) (h_133 : M 133 = some (.inl (0, 2400, .inl (fun _ => 0)))) (h_134 : M 134 = some (.inl (0, 40, .inl (fun _ => 0)))) (h_135 : M 135 = some (.inl (0, 40, .inl (fun _ => 0)))) (h_136 : M 136 = some (.inl (0, 40, .inl (fun _ => 0)))) (h_137 : M 137 = some (.inl (0, 40, .inl (fun _ => 0)))) (h_138 : M 138 = some (.inl (0, 40, .inl (fun _ => 0)))) (h_139 : M 139 = some (.inl (0, 40, .inl (fun _ => 0)))) (h_140 : M 140 = some (.inl (0, 40, .inl (fun _ => 0)))) (h_141 : M 141 = some (.inl (2, 4000, .inl (fun _ => 0)))) (h_142 : M 142 = some (.inl (0, 4000, .inl (fun _ => 0)))) (h_143 : M 143 = some (.inl (1, 12, .inr (.inl (fun _ => 0))))) (h_144 : M 144 = some (.inl (0, 12, .inl (fun _ => 0)))) (h_145 : M 145 = some (.inl (0, 12, .inl (fun _ => 0)))) (h_146 : M 146 = some (.inl (0, 12, .inl (fun _ => 0)))) (h_147 : M 147 = some (.inl (2, 1212, .inl (fun _ => 0)))) (hlt : l.stackTraces = false) (hle : mj_L g ≤ 6) : mj_V g l kY_TrustDeskLaw_law (d + 9) 16 [(2, .ref 99), (1, .ref 64), (0, .ref 50)] [] M 148 7 242 (fun r _ _ => r = some (.int 1)) := by
  refine mv_iconst (v := 1) d_TrustDeskLaw_law_16 (by decide) ?_
  refine mv_newa_long (N := 1) (kc' := 6) (ks' := 241) d_TrustDeskLaw_law_17 (by decide) (by decide) (Nat.le_of_ble_eq_true rfl) (Nat.le_of_ble_eq_true rfl) (Nat.le_of_ble_eq_true rfl) ?_
  refine mv_astore_n (lv' := [(3, .ref 148), (2, .ref 99), (1, .ref 64), (0, .ref 50)]) d_TrustDeskLaw_law_19 rfl (by decide) rfl ?_
  refine mv_iconst (v := 0) d_TrustDeskLaw_law_20 (by decide) ?_
  refine mv_istore (lv' := [(4, .int 0), (3, .ref 148), (2, .ref 99), (1, .ref 64), (0, .ref 50)]) d_TrustDeskLaw_law_21 (by decide) rfl ?_
  exact lw_head (nx := 0) h_64 h_65 h_66 h_67 h_68 h_69 h_70 h_71 h_77 h_78 h_90 h_92 h_94 h_95 h_96 h_97 h_99 h_100 h_102 h_103 h_110 h_113 h_116 h_117 h_118 h_119 h_120 h_121 h_122 h_124 hlt hle
set_option maxRecDepth 100000 in
theorem lw_all2 {g : mj_G} {l : Launch} {d : Nat} {M : mj_M} (h_64 : M 64 = some (.inr (12, [.ref 65, .ref 70, .ref 77, .ref 80, .ref 90, .ref 94, .ref 95, .ref 96, .ref 97, .ref 98, .int 0, .int 0, .int 0]))) (h_65 : M 65 = some (.inr (5, [.ref 66, .ref 67, .ref 68, .ref 69, .int 0]))) (h_66 : M 66 = some (.inl (0, 300, .inl (fun _ => 0)))) (h_67 : M 67 = some (.inl (0, 300, .inl (fun _ => 0)))) (h_68 : M 68 = some (.inl (0, 300, .inl (fun _ => 0)))) (h_69 : M 69 = some (.inl (0, 300, .inl (fun _ => 0)))) (h_70 : M 70 = some (.inr (9, [.int 0, .int 0, .int (-1), .ref 71, .ref 72, .ref 73, .ref 74, .ref 75, .int 0, .int 0, .int 0, .int 0, .int 0, .int 0, .int 0, .int 0, .int 0, .ref 76, .int 0]))) (h_71 : M 71 = some (.inl (0, 400, .inl (fun _ => 0)))) (h_72 : M 72 = some (.inl (0, 400, .inl (fun _ => 0)))) (h_73 : M 73 = some (.inl (0, 400, .inl (fun _ => 0)))) (h_74 : M 74 = some (.inl (0, 400, .inl (fun _ => 0)))) (h_75 : M 75 = some (.inl (0, 400, .inl (fun _ => 0)))) (h_76 : M 76 = some (.inl (0, 400, .inl (fun _ => 0)))) (h_77 : M 77 = some (.inr (10, [.ref 78, .int (-1), .ref 79, .int 0, .int 0]))) (h_78 : M 78 = some (.inl (1, 13, .inr (.inl (fun _ => 0))))) (h_79 : M 79 = some (.inl (1, 64, .inr (.inl (fun _ => 0))))) (h_80 : M 80 = some (.inr (7, [.long 0, .int 0, .int 0, .int 0, .ref 81, .ref 82, .ref 83, .ref 84, .ref 85, .ref 86, .ref 87, .ref 88, .ref 89, .long 0]))) (h_81 : M 81 = some (.inl (0, 8, .inl (fun _ => 0)))) (h_82 : M 82 = some (.inl (1, 8, .inr (.inl (fun _ => 0))))) (h_83 : M 83 = some (.inl (0, 8, .inl (fun _ => 0)))) (h_84 : M 84 = some (.inl (0, 8, .inl (fun _ => 0)))) (h_85 : M 85 = some (.inl (0, 8, .inl (fun _ => 0)))) (h_86 : M 86 = some (.inl (0, 8, .inl (fun _ => 0)))) (h_87 : M 87 = some (.inl (0, 8, .inl (fun _ => 0)))) (h_88 : M 88 = some (.inl (1, 8, .inr (.inl (fun _ => 0))))) (h_89 : M 89 = some (.inl (1, 9, .inr (.inl (fun _ => 0))))) (h_90 : M 90 = some (.inr (1, [.int 0, .int 0, .ref 91, .ref 92, .ref 93]))) (h_91 : M 91 = some (.inr (0, [.int 0, .ref 0, .int 0]))) (h_92 : M 92 = some (.inl (0, 6, .inl mj_rwf))) (h_93 : M 93 = some (.inl (0, 20, .inl (fun _ => 0)))) (h_94 : M 94 = some (.inr (0, [.int 0, .ref 0, .int 0]))) (h_95 : M 95 = some (.inr (0, [.int 0, .ref 0, .int 0]))) (h_96 : M 96 = some (.inr (0, [.int 0, .ref 0, .int 0]))) (h_97 : M 97 = some (.inr (0, [.int 0, .ref 0, .int 0]))) (h_98 : M 98 = some (.inl (0, 2400, .inl (fun _ => 0)))) (hlt : l.stackTraces = false) (hle : mj_L g ≤ 6) : mj_V g l kY_TrustDeskLaw_law (d + 9) 8 [(1, .ref 64), (0, .ref 50)] [] M 99 56 44973 (fun r _ _ => r = some (.int 1)) := by
  refine mv_new (kc' := 55) (ks' := 44901) d_TrustDeskLaw_law_8 n_TrustDeskLaw_16 (Nat.le_of_ble_eq_true rfl) (Nat.le_of_ble_eq_true rfl) ?_
  refine mv_dup d_TrustDeskLaw_law_11 rfl ?_
  refine mv_callI_n (kc' := 7) (ks' := 242) [] [.ref 99, .ref 99] d_TrustDeskLaw_law_12 lI_TrustDeskLaw_18 (c_TrustDeskModel_init_0 (d := (d + 7)) (h_99 := (mj_up_self _ _ _))) rfl (Nat.le_of_ble_eq_true rfl) (Nat.le_of_ble_eq_true rfl) (Nat.le_of_ble_eq_true rfl) rfl ?_
  refine mv_astore_n (lv' := [(2, .ref 99), (1, .ref 64), (0, .ref 50)]) d_TrustDeskLaw_law_15 rfl (by decide) rfl ?_
  exact lw_all3 h_64 h_65 h_66 h_67 h_68 h_69 h_70 h_71 h_72 h_73 h_74 h_75 h_76 h_77 h_78 h_79 h_80 h_81 h_82 h_83 h_84 h_85 h_86 h_87 h_88 h_89 h_90 h_91 h_92 h_93 h_94 h_95 h_96 h_97 h_98 rfl rfl rfl rfl rfl rfl rfl rfl rfl rfl rfl rfl rfl rfl rfl rfl rfl rfl rfl rfl rfl rfl rfl rfl rfl rfl rfl rfl rfl rfl rfl rfl rfl rfl rfl rfl rfl rfl rfl rfl rfl rfl rfl rfl rfl rfl rfl rfl rfl hlt hle
set_option maxRecDepth 100000 in
theorem lw_all {g : mj_G} {l : Launch} {d : Nat} {M : mj_M} (hlt : l.stackTraces = false) (hle : mj_L g ≤ 6) : mj_V g l kY_TrustDeskLaw_law (d + 9) 0 [(0, .ref 50)] [] M 64 91 51225 (fun r _ _ => r = some (.int 1)) := by
  refine mv_new (kc' := 90) (ks' := 51212) d_TrustDeskLaw_law_0 n_TrustDeskLaw_8 (Nat.le_of_ble_eq_true rfl) (Nat.le_of_ble_eq_true rfl) ?_
  refine mv_dup d_TrustDeskLaw_law_3 rfl ?_
  refine mv_callI_n (kc' := 56) (ks' := 44973) [] [.ref 64, .ref 64] d_TrustDeskLaw_law_4 lI_TrustDeskLaw_15 (c_TrustDesk_init_0 (d := (d + 3)) (h_64 := (mj_up_self _ _ _))) rfl (Nat.le_of_ble_eq_true rfl) (Nat.le_of_ble_eq_true rfl) (Nat.le_of_ble_eq_true rfl) rfl ?_
  refine mv_astore_n (lv' := [(1, .ref 64), (0, .ref 50)]) d_TrustDeskLaw_law_7 rfl (by decide) rfl ?_
  exact lw_all2 rfl rfl rfl rfl rfl rfl rfl rfl rfl rfl rfl rfl rfl rfl rfl rfl rfl rfl rfl rfl rfl rfl rfl rfl rfl rfl rfl rfl rfl rfl rfl rfl rfl rfl rfl hlt hle
