abbrev kY_TrustDesk_feed : mj_Y := (⟨"TrustDesk", "feed", "(IIIII)I"⟩, prog_1_method_4_code, 6, (Option.some Jvm.ClassFile.FieldType.int))
theorem d_TrustDesk_feed_0 : decode kY_TrustDesk_feed.2.1 0 = .ok (.aload_n 0, 1) := by decide +kernel
theorem d_TrustDesk_feed_1 : decode kY_TrustDesk_feed.2.1 1 = .ok (.getfield 19, 3) := by decide +kernel
theorem d_TrustDesk_feed_4 : decode kY_TrustDesk_feed.2.1 4 = .ok (.getfield 88, 3) := by decide +kernel
theorem d_TrustDesk_feed_7 : decode kY_TrustDesk_feed.2.1 7 = .ok (.sipush 380, 3) := by decide +kernel
theorem d_TrustDesk_feed_10 : decode kY_TrustDesk_feed.2.1 10 = .ok (.if_icmp .le 5, 3) := by decide +kernel
theorem d_TrustDesk_feed_15 : decode kY_TrustDesk_feed.2.1 15 = .ok (.aload_n 0, 1) := by decide +kernel
theorem d_TrustDesk_feed_16 : decode kY_TrustDesk_feed.2.1 16 = .ok (.getfield 19, 3) := by decide +kernel
theorem d_TrustDesk_feed_19 : decode kY_TrustDesk_feed.2.1 19 = .ok (.iload_n 1, 1) := by decide +kernel
theorem d_TrustDesk_feed_20 : decode kY_TrustDesk_feed.2.1 20 = .ok (.invokevirtual 91, 3) := by decide +kernel
abbrev kY_Reader_takeFour : mj_Y := (⟨"TrustDesk$Reader", "takeFour", "(I)V"⟩, prog_10_method_2_code, 3, (Option.none : Option Jvm.ClassFile.FieldType))
theorem d_Reader_takeFour_0 : decode kY_Reader_takeFour.2.1 0 = .ok (.bipush 24, 2) := by decide +kernel
theorem d_Reader_takeFour_2 : decode kY_Reader_takeFour.2.1 2 = .ok (.istore_n 2, 1) := by decide +kernel
theorem d_Reader_takeFour_3 : decode kY_Reader_takeFour.2.1 3 = .ok (.iload_n 2, 1) := by decide +kernel
theorem d_Reader_takeFour_4 : decode kY_Reader_takeFour.2.1 4 = .ok (.ifCond .lt 52, 3) := by decide +kernel
theorem d_Reader_takeFour_56 : decode kY_Reader_takeFour.2.1 56 = .ok (.return_, 1) := by decide +kernel
theorem d_Reader_takeFour_7 : decode kY_Reader_takeFour.2.1 7 = .ok (.aload_n 0, 1) := by decide +kernel
theorem d_Reader_takeFour_8 : decode kY_Reader_takeFour.2.1 8 = .ok (.getfield 34, 3) := by decide +kernel
theorem d_Reader_takeFour_11 : decode kY_Reader_takeFour.2.1 11 = .ok (.ifCond .lt 39, 3) := by decide +kernel
theorem d_Reader_takeFour_50 : decode kY_Reader_takeFour.2.1 50 = .ok (.iinc 2 (-8), 3) := by decide +kernel
theorem d_Reader_takeFour_53 : decode kY_Reader_takeFour.2.1 53 = .ok (.goto (-50), 3) := by decide +kernel
theorem d_Reader_takeFour_14 : decode kY_Reader_takeFour.2.1 14 = .ok (.aload_n 0, 1) := by decide +kernel
theorem d_Reader_takeFour_15 : decode kY_Reader_takeFour.2.1 15 = .ok (.getfield 34, 3) := by decide +kernel
theorem d_Reader_takeFour_18 : decode kY_Reader_takeFour.2.1 18 = .ok (.sipush 400, 3) := by decide +kernel
theorem d_Reader_takeFour_21 : decode kY_Reader_takeFour.2.1 21 = .ok (.if_icmp .ge 29, 3) := by decide +kernel
theorem d_Reader_takeFour_24 : decode kY_Reader_takeFour.2.1 24 = .ok (.aload_n 0, 1) := by decide +kernel
theorem d_Reader_takeFour_25 : decode kY_Reader_takeFour.2.1 25 = .ok (.getfield 15, 3) := by decide +kernel
theorem d_Reader_takeFour_28 : decode kY_Reader_takeFour.2.1 28 = .ok (.aload_n 0, 1) := by decide +kernel
theorem d_Reader_takeFour_29 : decode kY_Reader_takeFour.2.1 29 = .ok (.getfield 34, 3) := by decide +kernel
theorem d_Reader_takeFour_32 : decode kY_Reader_takeFour.2.1 32 = .ok (.iload_n 1, 1) := by decide +kernel
theorem d_Reader_takeFour_33 : decode kY_Reader_takeFour.2.1 33 = .ok (.iload_n 2, 1) := by decide +kernel
theorem d_Reader_takeFour_34 : decode kY_Reader_takeFour.2.1 34 = .ok (.iushr, 1) := by decide +kernel
theorem d_Reader_takeFour_35 : decode kY_Reader_takeFour.2.1 35 = .ok (.sipush 255, 3) := by decide +kernel
theorem d_Reader_takeFour_38 : decode kY_Reader_takeFour.2.1 38 = .ok (.iand, 1) := by decide +kernel
theorem d_Reader_takeFour_39 : decode kY_Reader_takeFour.2.1 39 = .ok (.iastore, 1) := by decide +kernel
theorem d_Reader_takeFour_40 : decode kY_Reader_takeFour.2.1 40 = .ok (.aload_n 0, 1) := by decide +kernel
theorem d_Reader_takeFour_41 : decode kY_Reader_takeFour.2.1 41 = .ok (.dup, 1) := by decide +kernel
theorem d_Reader_takeFour_42 : decode kY_Reader_takeFour.2.1 42 = .ok (.getfield 34, 3) := by decide +kernel
theorem d_Reader_takeFour_45 : decode kY_Reader_takeFour.2.1 45 = .ok (.iconst 1, 1) := by decide +kernel
theorem d_Reader_takeFour_46 : decode kY_Reader_takeFour.2.1 46 = .ok (.iadd, 1) := by decide +kernel
theorem d_Reader_takeFour_47 : decode kY_Reader_takeFour.2.1 47 = .ok (.putfield 34, 3) := by decide +kernel
theorem p_Reader_34_9 : mj_fp "TrustDesk$Reader" 34 9 0 (kt_Reader 0) false := ⟨kR_Reader, kF_Reader, 19, "TrustDesk$Reader", kt_Reader, rfl, kg_9, by decide, (mj_in1 (List.mem_of_getElem? (i := 69) (by decide +kernel)) rfl), Or.inl rfl, kto_Reader, kn_Reader, rfl, rfl, fun h => by cases h⟩
theorem lV_TrustDesk_91 : mj_lV "TrustDesk" 91 kY_Reader_takeFour 1 := ⟨⟨(mj_in1 (List.mem_of_getElem? (i := 337) (by decide +kernel)) rfl), (mj_in1 (List.mem_of_getElem? (i := 3) (by decide +kernel)) rfl), (mj_in1 (List.mem_of_getElem? (i := 340) (by decide +kernel)) rfl), by decide, rfl, by decide⟩, (mj_in1 (List.mem_of_getElem? (i := 338) (by decide +kernel)) rfl), (mj_in1 (List.mem_of_getElem? (i := 339) (by decide +kernel)) rfl)⟩
theorem d_TrustDesk_feed_23 : decode kY_TrustDesk_feed.2.1 23 = .ok (.aload_n 0, 1) := by decide +kernel
theorem d_TrustDesk_feed_24 : decode kY_TrustDesk_feed.2.1 24 = .ok (.getfield 19, 3) := by decide +kernel
theorem d_TrustDesk_feed_27 : decode kY_TrustDesk_feed.2.1 27 = .ok (.iload_n 2, 1) := by decide +kernel
theorem d_TrustDesk_feed_28 : decode kY_TrustDesk_feed.2.1 28 = .ok (.invokevirtual 91, 3) := by decide +kernel
theorem d_TrustDesk_feed_31 : decode kY_TrustDesk_feed.2.1 31 = .ok (.aload_n 0, 1) := by decide +kernel
theorem d_TrustDesk_feed_32 : decode kY_TrustDesk_feed.2.1 32 = .ok (.getfield 19, 3) := by decide +kernel
theorem d_TrustDesk_feed_35 : decode kY_TrustDesk_feed.2.1 35 = .ok (.iload_n 3, 1) := by decide +kernel
theorem d_TrustDesk_feed_36 : decode kY_TrustDesk_feed.2.1 36 = .ok (.invokevirtual 91, 3) := by decide +kernel
theorem d_TrustDesk_feed_39 : decode kY_TrustDesk_feed.2.1 39 = .ok (.aload_n 0, 1) := by decide +kernel
theorem d_TrustDesk_feed_40 : decode kY_TrustDesk_feed.2.1 40 = .ok (.getfield 19, 3) := by decide +kernel
theorem d_TrustDesk_feed_43 : decode kY_TrustDesk_feed.2.1 43 = .ok (.iload 4, 2) := by decide +kernel
theorem d_TrustDesk_feed_45 : decode kY_TrustDesk_feed.2.1 45 = .ok (.invokevirtual 91, 3) := by decide +kernel
theorem d_TrustDesk_feed_48 : decode kY_TrustDesk_feed.2.1 48 = .ok (.aload_n 0, 1) := by decide +kernel
theorem d_TrustDesk_feed_49 : decode kY_TrustDesk_feed.2.1 49 = .ok (.getfield 19, 3) := by decide +kernel
theorem d_TrustDesk_feed_52 : decode kY_TrustDesk_feed.2.1 52 = .ok (.iload 5, 2) := by decide +kernel
theorem d_TrustDesk_feed_54 : decode kY_TrustDesk_feed.2.1 54 = .ok (.invokevirtual 91, 3) := by decide +kernel
theorem d_TrustDesk_feed_57 : decode kY_TrustDesk_feed.2.1 57 = .ok (.aload_n 0, 1) := by decide +kernel
theorem d_TrustDesk_feed_58 : decode kY_TrustDesk_feed.2.1 58 = .ok (.getfield 19, 3) := by decide +kernel
theorem d_TrustDesk_feed_61 : decode kY_TrustDesk_feed.2.1 61 = .ok (.getfield 88, 3) := by decide +kernel
theorem d_TrustDesk_feed_64 : decode kY_TrustDesk_feed.2.1 64 = .ok (.ireturn, 1) := by decide +kernel
theorem d_TrustDesk_feed_13 : decode kY_TrustDesk_feed.2.1 13 = .ok (.iconst (-1), 1) := by decide +kernel
theorem d_TrustDesk_feed_14 : decode kY_TrustDesk_feed.2.1 14 = .ok (.ireturn, 1) := by decide +kernel
abbrev kY_TrustDesk_fund : mj_Y := (⟨"TrustDesk", "fund", "(II)I"⟩, prog_1_method_8_code, 5, (Option.some Jvm.ClassFile.FieldType.int))
theorem d_TrustDesk_fund_0 : decode kY_TrustDesk_fund.2.1 0 = .ok (.iload_n 1, 1) := by decide +kernel
theorem d_TrustDesk_fund_1 : decode kY_TrustDesk_fund.2.1 1 = .ok (.ifCond .lt 32, 3) := by decide +kernel
theorem d_TrustDesk_fund_33 : decode kY_TrustDesk_fund.2.1 33 = .ok (.iconst (-1), 1) := by decide +kernel
theorem d_TrustDesk_fund_34 : decode kY_TrustDesk_fund.2.1 34 = .ok (.ireturn, 1) := by decide +kernel
theorem d_TrustDesk_fund_4 : decode kY_TrustDesk_fund.2.1 4 = .ok (.iload_n 1, 1) := by decide +kernel
theorem d_TrustDesk_fund_5 : decode kY_TrustDesk_fund.2.1 5 = .ok (.sipush 999, 3) := by decide +kernel
theorem d_TrustDesk_fund_8 : decode kY_TrustDesk_fund.2.1 8 = .ok (.if_icmp .gt 25, 3) := by decide +kernel
theorem d_TrustDesk_fund_11 : decode kY_TrustDesk_fund.2.1 11 = .ok (.iload_n 2, 1) := by decide +kernel
theorem d_TrustDesk_fund_12 : decode kY_TrustDesk_fund.2.1 12 = .ok (.ifCond .lt 21, 3) := by decide +kernel
theorem d_TrustDesk_fund_15 : decode kY_TrustDesk_fund.2.1 15 = .ok (.iload_n 2, 1) := by decide +kernel
theorem d_TrustDesk_fund_16 : decode kY_TrustDesk_fund.2.1 16 = .ok (.ldc 122, 2) := by decide +kernel
theorem k_TrustDesk_122 : Cond.constant "TrustDesk" 122 99999 ∈ mj_T := (mj_in1 (List.mem_of_getElem? (i := 654) (by decide +kernel)) rfl)
theorem d_TrustDesk_fund_18 : decode kY_TrustDesk_fund.2.1 18 = .ok (.if_icmp .gt 15, 3) := by decide +kernel
theorem d_TrustDesk_fund_21 : decode kY_TrustDesk_fund.2.1 21 = .ok (.aload_n 0, 1) := by decide +kernel
theorem d_TrustDesk_fund_22 : decode kY_TrustDesk_fund.2.1 22 = .ok (.getfield 53, 3) := by decide +kernel
theorem d_TrustDesk_fund_25 : decode kY_TrustDesk_fund.2.1 25 = .ok (.invokevirtual 97, 3) := by decide +kernel
theorem d_TrustDesk_fund_28 : decode kY_TrustDesk_fund.2.1 28 = .ok (.bipush 12, 2) := by decide +kernel
theorem d_TrustDesk_fund_30 : decode kY_TrustDesk_fund.2.1 30 = .ok (.if_icmp .lt 5, 3) := by decide +kernel
theorem d_TrustDesk_fund_35 : decode kY_TrustDesk_fund.2.1 35 = .ok (.new 123, 3) := by decide +kernel
theorem n_TrustDesk_123 : mj_nw "TrustDesk" 123 6 [.int 0, .int 0, .int 0, .long 0, .int 0, .int 0, .int 0, .int 0, .int 0, .int 0, .long 0, .null, .null, .null, .null] := ⟨kR_Fund, kF_Fund, 15, kt_Fund, rfl, kg_6, kto_Fund, (mj_in1 (List.mem_of_getElem? (i := 655) (by decide +kernel)) rfl), (mj_in1 (List.mem_of_getElem? (i := 656) (by decide +kernel)) rfl), (mj_in1 (List.mem_of_getElem? (i := 21) (by decide +kernel)) rfl), by decide +kernel, rfl, fun _ => rfl⟩
theorem d_TrustDesk_fund_38 : decode kY_TrustDesk_fund.2.1 38 = .ok (.dup, 1) := by decide +kernel
theorem d_TrustDesk_fund_39 : decode kY_TrustDesk_fund.2.1 39 = .ok (.aload_n 0, 1) := by decide +kernel
theorem d_TrustDesk_fund_40 : decode kY_TrustDesk_fund.2.1 40 = .ok (.getfield 53, 3) := by decide +kernel
theorem d_TrustDesk_fund_43 : decode kY_TrustDesk_fund.2.1 43 = .ok (.invokevirtual 97, 3) := by decide +kernel
theorem d_TrustDesk_fund_46 : decode kY_TrustDesk_fund.2.1 46 = .ok (.iload_n 1, 1) := by decide +kernel
theorem d_TrustDesk_fund_47 : decode kY_TrustDesk_fund.2.1 47 = .ok (.iload_n 2, 1) := by decide +kernel
theorem d_TrustDesk_fund_48 : decode kY_TrustDesk_fund.2.1 48 = .ok (.invokespecial 125, 3) := by decide +kernel
abbrev kY_Fund_init : mj_Y := (⟨"TrustDesk$Fund", "<init>", "(III)V"⟩, prog_7_method_1_code, 4, (Option.none : Option Jvm.ClassFile.FieldType))
theorem d_Fund_init_0 : decode kY_Fund_init.2.1 0 = .ok (.aload_n 0, 1) := by decide +kernel
theorem d_Fund_init_1 : decode kY_Fund_init.2.1 1 = .ok (.invokespecial 3, 3) := by decide +kernel
theorem d_Fund_init_4 : decode kY_Fund_init.2.1 4 = .ok (.aload_n 0, 1) := by decide +kernel
theorem d_Fund_init_5 : decode kY_Fund_init.2.1 5 = .ok (.bipush 7, 2) := by decide +kernel
theorem d_Fund_init_7 : decode kY_Fund_init.2.1 7 = .ok (.putfield 9, 3) := by decide +kernel
theorem p_Fund_9_6 : mj_fp "TrustDesk$Fund" 9 6 5 (kt_Fund 5) false := ⟨kR_Fund, kF_Fund, 15, "TrustDesk$Fund", kt_Fund, rfl, kg_6, by decide, (mj_in1 (List.mem_of_getElem? (i := 676) (by decide +kernel)) rfl), Or.inl rfl, kto_Fund, kn_Fund, rfl, rfl, fun h => by cases h⟩
theorem d_Fund_init_10 : decode kY_Fund_init.2.1 10 = .ok (.aload_n 0, 1) := by decide +kernel
theorem d_Fund_init_11 : decode kY_Fund_init.2.1 11 = .ok (.iconst 1, 1) := by decide +kernel
theorem d_Fund_init_12 : decode kY_Fund_init.2.1 12 = .ok (.putfield 15, 3) := by decide +kernel
theorem p_Fund_15_6 : mj_fp "TrustDesk$Fund" 15 6 6 (kt_Fund 6) false := ⟨kR_Fund, kF_Fund, 15, "TrustDesk$Fund", kt_Fund, rfl, kg_6, by decide, (mj_in1 (List.mem_of_getElem? (i := 679) (by decide +kernel)) rfl), Or.inl rfl, kto_Fund, kn_Fund, rfl, rfl, fun h => by cases h⟩
theorem d_Fund_init_15 : decode kY_Fund_init.2.1 15 = .ok (.aload_n 0, 1) := by decide +kernel
theorem d_Fund_init_16 : decode kY_Fund_init.2.1 16 = .ok (.iconst (-1), 1) := by decide +kernel
theorem d_Fund_init_17 : decode kY_Fund_init.2.1 17 = .ok (.putfield 18, 3) := by decide +kernel
theorem p_Fund_18_6 : mj_fp "TrustDesk$Fund" 18 6 8 (kt_Fund 8) false := ⟨kR_Fund, kF_Fund, 15, "TrustDesk$Fund", kt_Fund, rfl, kg_6, by decide, (mj_in1 (List.mem_of_getElem? (i := 684) (by decide +kernel)) rfl), Or.inl rfl, kto_Fund, kn_Fund, rfl, rfl, fun h => by cases h⟩
theorem d_Fund_init_20 : decode kY_Fund_init.2.1 20 = .ok (.aload_n 0, 1) := by decide +kernel
theorem d_Fund_init_21 : decode kY_Fund_init.2.1 21 = .ok (.new 21, 3) := by decide +kernel
theorem n_Fund_21 : mj_nw "TrustDesk$Fund" 21 0 [.int 0, .null, .int 0] := ⟨kR_ArrayList, kF_ArrayList, 3, kt_ArrayList, rfl, kg_0, kto_ArrayList, (mj_in1 (List.mem_of_getElem? (i := 661) (by decide +kernel)) rfl), (mj_in1 (List.mem_of_getElem? (i := 212) (by decide +kernel)) rfl), (mj_in1 (List.mem_of_getElem? (i := 9) (by decide +kernel)) rfl), by decide +kernel, rfl, fun _ => rfl⟩
theorem d_Fund_init_24 : decode kY_Fund_init.2.1 24 = .ok (.dup, 1) := by decide +kernel
theorem d_Fund_init_25 : decode kY_Fund_init.2.1 25 = .ok (.invokespecial 23, 3) := by decide +kernel
theorem lI_Fund_23 : mj_lI "TrustDesk$Fund" 23 kY_ArrayList_init 0 := ⟨⟨(mj_in1 (List.mem_of_getElem? (i := 662) (by decide +kernel)) rfl), (mj_in1 (List.mem_of_getElem? (i := 9) (by decide +kernel)) rfl), (mj_in1 (List.mem_of_getElem? (i := 215) (by decide +kernel)) rfl), by decide, rfl, by decide⟩, rfl, (mj_in1 (List.mem_of_getElem? (i := 214) (by decide +kernel)) rfl), rfl⟩
theorem d_Fund_init_28 : decode kY_Fund_init.2.1 28 = .ok (.putfield 24, 3) := by decide +kernel
theorem p_Fund_24_6 : mj_fp "TrustDesk$Fund" 24 6 11 (kt_Fund 11) true := ⟨kR_Fund, kF_Fund, 15, "TrustDesk$Fund", kt_Fund, rfl, kg_6, by decide, (mj_in1 (List.mem_of_getElem? (i := 688) (by decide +kernel)) rfl), Or.inl rfl, kto_Fund, kn_Fund, rfl, rfl, fun _ => rfl⟩
theorem d_Fund_init_31 : decode kY_Fund_init.2.1 31 = .ok (.aload_n 0, 1) := by decide +kernel
theorem d_Fund_init_32 : decode kY_Fund_init.2.1 32 = .ok (.bipush 12, 2) := by decide +kernel
theorem d_Fund_init_34 : decode kY_Fund_init.2.1 34 = .ok (.newarray .int, 2) := by decide +kernel
theorem d_Fund_init_36 : decode kY_Fund_init.2.1 36 = .ok (.putfield 28, 3) := by decide +kernel
theorem p_Fund_28_6 : mj_fp "TrustDesk$Fund" 28 6 12 (kt_Fund 12) true := ⟨kR_Fund, kF_Fund, 15, "TrustDesk$Fund", kt_Fund, rfl, kg_6, by decide, (mj_in1 (List.mem_of_getElem? (i := 691) (by decide +kernel)) rfl), Or.inl rfl, kto_Fund, kn_Fund, rfl, rfl, fun _ => rfl⟩
theorem d_Fund_init_39 : decode kY_Fund_init.2.1 39 = .ok (.aload_n 0, 1) := by decide +kernel
theorem d_Fund_init_40 : decode kY_Fund_init.2.1 40 = .ok (.bipush 100, 2) := by decide +kernel
theorem d_Fund_init_42 : decode kY_Fund_init.2.1 42 = .ok (.newarray .boolean, 2) := by decide +kernel
theorem d_Fund_init_44 : decode kY_Fund_init.2.1 44 = .ok (.putfield 32, 3) := by decide +kernel
theorem p_Fund_32_6 : mj_fp "TrustDesk$Fund" 32 6 13 (kt_Fund 13) true := ⟨kR_Fund, kF_Fund, 15, "TrustDesk$Fund", kt_Fund, rfl, kg_6, by decide, (mj_in1 (List.mem_of_getElem? (i := 692) (by decide +kernel)) rfl), Or.inl rfl, kto_Fund, kn_Fund, rfl, rfl, fun _ => rfl⟩
theorem d_Fund_init_47 : decode kY_Fund_init.2.1 47 = .ok (.aload_n 0, 1) := by decide +kernel
theorem d_Fund_init_48 : decode kY_Fund_init.2.1 48 = .ok (.bipush 101, 2) := by decide +kernel
theorem d_Fund_init_50 : decode kY_Fund_init.2.1 50 = .ok (.newarray .boolean, 2) := by decide +kernel
theorem d_Fund_init_52 : decode kY_Fund_init.2.1 52 = .ok (.putfield 36, 3) := by decide +kernel
theorem p_Fund_36_6 : mj_fp "TrustDesk$Fund" 36 6 14 (kt_Fund 14) true := ⟨kR_Fund, kF_Fund, 15, "TrustDesk$Fund", kt_Fund, rfl, kg_6, by decide, (mj_in1 (List.mem_of_getElem? (i := 693) (by decide +kernel)) rfl), Or.inl rfl, kto_Fund, kn_Fund, rfl, rfl, fun _ => rfl⟩
theorem d_Fund_init_55 : decode kY_Fund_init.2.1 55 = .ok (.aload_n 0, 1) := by decide +kernel
theorem d_Fund_init_56 : decode kY_Fund_init.2.1 56 = .ok (.iload_n 1, 1) := by decide +kernel
theorem d_Fund_init_57 : decode kY_Fund_init.2.1 57 = .ok (.putfield 39, 3) := by decide +kernel
theorem p_Fund_39_6 : mj_fp "TrustDesk$Fund" 39 6 0 (kt_Fund 0) true := ⟨kR_Fund, kF_Fund, 15, "TrustDesk$Fund", kt_Fund, rfl, kg_6, by decide, (mj_in1 (List.mem_of_getElem? (i := 664) (by decide +kernel)) rfl), Or.inl rfl, kto_Fund, kn_Fund, rfl, rfl, fun _ => rfl⟩
theorem d_Fund_init_60 : decode kY_Fund_init.2.1 60 = .ok (.aload_n 0, 1) := by decide +kernel
theorem d_Fund_init_61 : decode kY_Fund_init.2.1 61 = .ok (.iload_n 2, 1) := by decide +kernel
theorem d_Fund_init_62 : decode kY_Fund_init.2.1 62 = .ok (.putfield 42, 3) := by decide +kernel
theorem p_Fund_42_6 : mj_fp "TrustDesk$Fund" 42 6 1 (kt_Fund 1) false := ⟨kR_Fund, kF_Fund, 15, "TrustDesk$Fund", kt_Fund, rfl, kg_6, by decide, (mj_in1 (List.mem_of_getElem? (i := 666) (by decide +kernel)) rfl), Or.inl rfl, kto_Fund, kn_Fund, rfl, rfl, fun h => by cases h⟩
theorem d_Fund_init_65 : decode kY_Fund_init.2.1 65 = .ok (.aload_n 0, 1) := by decide +kernel
theorem d_Fund_init_66 : decode kY_Fund_init.2.1 66 = .ok (.iload_n 3, 1) := by decide +kernel
theorem d_Fund_init_67 : decode kY_Fund_init.2.1 67 = .ok (.putfield 45, 3) := by decide +kernel
theorem p_Fund_45_6 : mj_fp "TrustDesk$Fund" 45 6 2 (kt_Fund 2) false := ⟨kR_Fund, kF_Fund, 15, "TrustDesk$Fund", kt_Fund, rfl, kg_6, by decide, (mj_in1 (List.mem_of_getElem? (i := 668) (by decide +kernel)) rfl), Or.inl rfl, kto_Fund, kn_Fund, rfl, rfl, fun h => by cases h⟩
theorem d_Fund_init_70 : decode kY_Fund_init.2.1 70 = .ok (.iload_n 1, 1) := by decide +kernel
theorem d_Fund_init_71 : decode kY_Fund_init.2.1 71 = .ok (.ifCond .lt 17, 3) := by decide +kernel
theorem d_Fund_init_88 : decode kY_Fund_init.2.1 88 = .ok (.return_, 1) := by decide +kernel
theorem d_Fund_init_74 : decode kY_Fund_init.2.1 74 = .ok (.iload_n 1, 1) := by decide +kernel
theorem d_Fund_init_75 : decode kY_Fund_init.2.1 75 = .ok (.bipush 12, 2) := by decide +kernel
theorem d_Fund_init_77 : decode kY_Fund_init.2.1 77 = .ok (.if_icmp .ge 11, 3) := by decide +kernel
theorem d_Fund_init_80 : decode kY_Fund_init.2.1 80 = .ok (.aload_n 0, 1) := by decide +kernel
theorem d_Fund_init_81 : decode kY_Fund_init.2.1 81 = .ok (.getfield 28, 3) := by decide +kernel
theorem d_Fund_init_84 : decode kY_Fund_init.2.1 84 = .ok (.iload_n 1, 1) := by decide +kernel
theorem d_Fund_init_85 : decode kY_Fund_init.2.1 85 = .ok (.ldc 48, 2) := by decide +kernel
theorem k_Fund_48 : Cond.constant "TrustDesk$Fund" 48 1000000 ∈ mj_T := (mj_in1 (List.mem_of_getElem? (i := 663) (by decide +kernel)) rfl)
theorem d_Fund_init_87 : decode kY_Fund_init.2.1 87 = .ok (.iastore, 1) := by decide +kernel
theorem lI_TrustDesk_125 : mj_lI "TrustDesk" 125 kY_Fund_init 3 := ⟨⟨(mj_in1 (List.mem_of_getElem? (i := 657) (by decide +kernel)) rfl), (mj_in1 (List.mem_of_getElem? (i := 21) (by decide +kernel)) rfl), (mj_in1 (List.mem_of_getElem? (i := 659) (by decide +kernel)) rfl), by decide, rfl, by decide⟩, rfl, (mj_in1 (List.mem_of_getElem? (i := 658) (by decide +kernel)) rfl), rfl⟩
theorem d_TrustDesk_fund_51 : decode kY_TrustDesk_fund.2.1 51 = .ok (.astore_n 3, 1) := by decide +kernel
theorem d_TrustDesk_fund_52 : decode kY_TrustDesk_fund.2.1 52 = .ok (.aload_n 0, 1) := by decide +kernel
theorem d_TrustDesk_fund_53 : decode kY_TrustDesk_fund.2.1 53 = .ok (.getfield 19, 3) := by decide +kernel
theorem d_TrustDesk_fund_56 : decode kY_TrustDesk_fund.2.1 56 = .ok (.aload_n 3, 1) := by decide +kernel
theorem d_TrustDesk_fund_57 : decode kY_TrustDesk_fund.2.1 57 = .ok (.invokevirtual 128, 3) := by decide +kernel
abbrev kY_Reader_readDeed : mj_Y := (⟨"TrustDesk$Reader", "readDeed", "(LTrustDesk$Fund;)Z"⟩, prog_10_method_4_code, 3, (Option.some Jvm.ClassFile.FieldType.boolean))
theorem d_Reader_readDeed_0 : decode kY_Reader_readDeed.2.1 0 = .ok (.aload_n 0, 1) := by decide +kernel
theorem d_Reader_readDeed_1 : decode kY_Reader_readDeed.2.1 1 = .ok (.bipush 10, 2) := by decide +kernel
theorem d_Reader_readDeed_3 : decode kY_Reader_readDeed.2.1 3 = .ok (.invokevirtual 37, 3) := by decide +kernel
theorem d_Reader_readDeed_6 : decode kY_Reader_readDeed.2.1 6 = .ok (.iconst 0, 1) := by decide +kernel
theorem d_Reader_readDeed_7 : decode kY_Reader_readDeed.2.1 7 = .ok (.istore_n 2, 1) := by decide +kernel
theorem d_Reader_readDeed_8 : decode kY_Reader_readDeed.2.1 8 = .ok (.iload_n 2, 1) := by decide +kernel
theorem d_Reader_readDeed_9 : decode kY_Reader_readDeed.2.1 9 = .ok (.bipush 12, 2) := by decide +kernel
theorem d_Reader_readDeed_11 : decode kY_Reader_readDeed.2.1 11 = .ok (.if_icmp .gt 27, 3) := by decide +kernel
theorem d_Reader_readDeed_38 : decode kY_Reader_readDeed.2.1 38 = .ok (.iconst 1, 1) := by decide +kernel
theorem d_Reader_readDeed_39 : decode kY_Reader_readDeed.2.1 39 = .ok (.ireturn, 1) := by decide +kernel
theorem d_Reader_readDeed_14 : decode kY_Reader_readDeed.2.1 14 = .ok (.aload_n 0, 1) := by decide +kernel
theorem d_Reader_readDeed_15 : decode kY_Reader_readDeed.2.1 15 = .ok (.getfield 41, 3) := by decide +kernel
theorem d_Reader_readDeed_18 : decode kY_Reader_readDeed.2.1 18 = .ok (.ifCond .eq 20, 3) := by decide +kernel
theorem d_Reader_readDeed_21 : decode kY_Reader_readDeed.2.1 21 = .ok (.aload_n 0, 1) := by decide +kernel
theorem d_Reader_readDeed_22 : decode kY_Reader_readDeed.2.1 22 = .ok (.aload_n 1, 1) := by decide +kernel
theorem d_Reader_readDeed_23 : decode kY_Reader_readDeed.2.1 23 = .ok (.iload_n 2, 1) := by decide +kernel
theorem d_Reader_readDeed_24 : decode kY_Reader_readDeed.2.1 24 = .ok (.invokevirtual 48, 3) := by decide +kernel
abbrev kY_Reader_clause : mj_Y := (⟨"TrustDesk$Reader", "clause", "(LTrustDesk$Fund;I)Z"⟩, prog_10_method_10_code, 6, (Option.some Jvm.ClassFile.FieldType.boolean))
theorem d_Reader_clause_0 : decode kY_Reader_clause.2.1 0 = .ok (.aload_n 0, 1) := by decide +kernel
theorem d_Reader_clause_1 : decode kY_Reader_clause.2.1 1 = .ok (.bipush 26, 2) := by decide +kernel
theorem d_Reader_clause_3 : decode kY_Reader_clause.2.1 3 = .ok (.invokevirtual 52, 3) := by decide +kernel
theorem d_Reader_clause_6 : decode kY_Reader_clause.2.1 6 = .ok (.istore_n 3, 1) := by decide +kernel
theorem d_Reader_clause_7 : decode kY_Reader_clause.2.1 7 = .ok (.aload_n 0, 1) := by decide +kernel
theorem d_Reader_clause_8 : decode kY_Reader_clause.2.1 8 = .ok (.bipush 24, 2) := by decide +kernel
theorem d_Reader_clause_10 : decode kY_Reader_clause.2.1 10 = .ok (.invokevirtual 52, 3) := by decide +kernel
theorem d_Reader_clause_13 : decode kY_Reader_clause.2.1 13 = .ok (.istore 4, 2) := by decide +kernel
theorem d_Reader_clause_15 : decode kY_Reader_clause.2.1 15 = .ok (.iload_n 3, 1) := by decide +kernel
theorem d_Reader_clause_16 : decode kY_Reader_clause.2.1 16 = .ok (.ifCond .ne 23, 3) := by decide +kernel
theorem d_Reader_clause_39 : decode kY_Reader_clause.2.1 39 = .ok (.iload_n 2, 1) := by decide +kernel
theorem d_Reader_clause_40 : decode kY_Reader_clause.2.1 40 = .ok (.bipush 12, 2) := by decide +kernel
theorem d_Reader_clause_42 : decode kY_Reader_clause.2.1 42 = .ok (.if_icmp .ge 19, 3) := by decide +kernel
theorem d_Reader_clause_61 : decode kY_Reader_clause.2.1 61 = .ok (.aload_n 0, 1) := by decide +kernel
theorem d_Reader_clause_62 : decode kY_Reader_clause.2.1 62 = .ok (.iconst 4, 1) := by decide +kernel
theorem d_Reader_clause_63 : decode kY_Reader_clause.2.1 63 = .ok (.invokevirtual 56, 3) := by decide +kernel
theorem d_Reader_clause_66 : decode kY_Reader_clause.2.1 66 = .ok (.ireturn, 1) := by decide +kernel
theorem d_Reader_clause_45 : decode kY_Reader_clause.2.1 45 = .ok (.iload_n 3, 1) := by decide +kernel
theorem d_Reader_clause_46 : decode kY_Reader_clause.2.1 46 = .ok (.ifCond .eq 21, 3) := by decide +kernel
theorem d_Reader_clause_67 : decode kY_Reader_clause.2.1 67 = .ok (.iload_n 3, 1) := by decide +kernel
theorem d_Reader_clause_68 : decode kY_Reader_clause.2.1 68 = .ok (.ifCond .eq 37, 3) := by decide +kernel
theorem d_Reader_clause_105 : decode kY_Reader_clause.2.1 105 = .ok (.iload 4, 2) := by decide +kernel
theorem d_Reader_clause_107 : decode kY_Reader_clause.2.1 107 = .ok (.ifCond .eq 14, 3) := by decide +kernel
theorem d_Reader_clause_121 : decode kY_Reader_clause.2.1 121 = .ok (.aload_n 0, 1) := by decide +kernel
theorem d_Reader_clause_122 : decode kY_Reader_clause.2.1 122 = .ok (.aload_n 1, 1) := by decide +kernel
theorem d_Reader_clause_123 : decode kY_Reader_clause.2.1 123 = .ok (.invokevirtual 160, 3) := by decide +kernel
abbrev kY_Reader_trustClause : mj_Y := (⟨"TrustDesk$Reader", "trustClause", "(LTrustDesk$Fund;)Z"⟩, prog_10_method_12_code, 3, (Option.some Jvm.ClassFile.FieldType.boolean))
theorem d_Reader_trustClause_0 : decode kY_Reader_trustClause.2.1 0 = .ok (.aload_n 0, 1) := by decide +kernel
theorem d_Reader_trustClause_1 : decode kY_Reader_trustClause.2.1 1 = .ok (.invokevirtual 82, 3) := by decide +kernel
theorem d_Reader_trustClause_4 : decode kY_Reader_trustClause.2.1 4 = .ok (.aload_n 0, 1) := by decide +kernel
theorem d_Reader_trustClause_5 : decode kY_Reader_trustClause.2.1 5 = .ok (.iconst 1, 1) := by decide +kernel
theorem d_Reader_trustClause_6 : decode kY_Reader_trustClause.2.1 6 = .ok (.bipush 7, 2) := by decide +kernel
theorem d_Reader_trustClause_8 : decode kY_Reader_trustClause.2.1 8 = .ok (.invokevirtual 107, 3) := by decide +kernel
theorem d_Reader_trustClause_11 : decode kY_Reader_trustClause.2.1 11 = .ok (.ifCond .ne 5, 3) := by decide +kernel
theorem d_Reader_trustClause_16 : decode kY_Reader_trustClause.2.1 16 = .ok (.aload_n 0, 1) := by decide +kernel
theorem d_Reader_trustClause_17 : decode kY_Reader_trustClause.2.1 17 = .ok (.getfield 111, 3) := by decide +kernel
theorem d_Reader_trustClause_20 : decode kY_Reader_trustClause.2.1 20 = .ok (.istore_n 2, 1) := by decide +kernel
theorem d_Reader_trustClause_21 : decode kY_Reader_trustClause.2.1 21 = .ok (.aload_n 0, 1) := by decide +kernel
theorem d_Reader_trustClause_22 : decode kY_Reader_trustClause.2.1 22 = .ok (.iconst 1, 1) := by decide +kernel
theorem d_Reader_trustClause_23 : decode kY_Reader_trustClause.2.1 23 = .ok (.iload_n 2, 1) := by decide +kernel
theorem d_Reader_trustClause_24 : decode kY_Reader_trustClause.2.1 24 = .ok (.invokevirtual 107, 3) := by decide +kernel
theorem d_Reader_trustClause_27 : decode kY_Reader_trustClause.2.1 27 = .ok (.ifCond .ne 5, 3) := by decide +kernel
theorem d_Reader_trustClause_32 : decode kY_Reader_trustClause.2.1 32 = .ok (.aload_n 1, 1) := by decide +kernel
theorem d_Reader_trustClause_33 : decode kY_Reader_trustClause.2.1 33 = .ok (.iload_n 2, 1) := by decide +kernel
theorem d_Reader_trustClause_34 : decode kY_Reader_trustClause.2.1 34 = .ok (.putfield 166, 3) := by decide +kernel
theorem p_Reader_166_6 : mj_fp "TrustDesk$Reader" 166 6 5 (kt_Fund 5) false := ⟨kR_Fund, kF_Fund, 15, "TrustDesk$Fund", kt_Fund, rfl, kg_6, by decide, (mj_in1 (List.mem_of_getElem? (i := 677) (by decide +kernel)) rfl), Or.inl rfl, kto_Fund, kn_Fund, rfl, rfl, fun h => by cases h⟩
theorem d_Reader_trustClause_37 : decode kY_Reader_trustClause.2.1 37 = .ok (.aload_n 1, 1) := by decide +kernel
theorem d_Reader_trustClause_38 : decode kY_Reader_trustClause.2.1 38 = .ok (.aload_n 0, 1) := by decide +kernel
theorem d_Reader_trustClause_39 : decode kY_Reader_trustClause.2.1 39 = .ok (.getfield 111, 3) := by decide +kernel
theorem d_Reader_trustClause_42 : decode kY_Reader_trustClause.2.1 42 = .ok (.putfield 169, 3) := by decide +kernel
theorem p_Reader_169_6 : mj_fp "TrustDesk$Reader" 169 6 6 (kt_Fund 6) false := ⟨kR_Fund, kF_Fund, 15, "TrustDesk$Fund", kt_Fund, rfl, kg_6, by decide, (mj_in1 (List.mem_of_getElem? (i := 680) (by decide +kernel)) rfl), Or.inl rfl, kto_Fund, kn_Fund, rfl, rfl, fun h => by cases h⟩
theorem d_Reader_trustClause_45 : decode kY_Reader_trustClause.2.1 45 = .ok (.iconst 1, 1) := by decide +kernel
theorem d_Reader_trustClause_46 : decode kY_Reader_trustClause.2.1 46 = .ok (.ireturn, 1) := by decide +kernel
theorem d_Reader_trustClause_30 : decode kY_Reader_trustClause.2.1 30 = .ok (.iconst 0, 1) := by decide +kernel
theorem d_Reader_trustClause_31 : decode kY_Reader_trustClause.2.1 31 = .ok (.ireturn, 1) := by decide +kernel
theorem d_Reader_trustClause_14 : decode kY_Reader_trustClause.2.1 14 = .ok (.iconst 0, 1) := by decide +kernel
theorem d_Reader_trustClause_15 : decode kY_Reader_trustClause.2.1 15 = .ok (.ireturn, 1) := by decide +kernel
theorem lV_Reader_160 : mj_lV "TrustDesk$Reader" 160 kY_Reader_trustClause 1 := ⟨⟨(mj_in1 (List.mem_of_getElem? (i := 809) (by decide +kernel)) rfl), (mj_in1 (List.mem_of_getElem? (i := 3) (by decide +kernel)) rfl), (mj_in1 (List.mem_of_getElem? (i := 812) (by decide +kernel)) rfl), by decide, rfl, by decide⟩, (mj_in1 (List.mem_of_getElem? (i := 811) (by decide +kernel)) rfl), (mj_in (List.mem_append_left _ (List.mem_of_getElem? (i := 39) (by decide +kernel))) rfl)⟩
theorem d_Reader_clause_126 : decode kY_Reader_clause.2.1 126 = .ok (.ifCond .ne 5, 3) := by decide +kernel
theorem d_Reader_clause_131 : decode kY_Reader_clause.2.1 131 = .ok (.aload_n 0, 1) := by decide +kernel
theorem d_Reader_clause_132 : decode kY_Reader_clause.2.1 132 = .ok (.bipush 59, 2) := by decide +kernel
theorem d_Reader_clause_134 : decode kY_Reader_clause.2.1 134 = .ok (.invokevirtual 63, 3) := by decide +kernel
theorem d_Reader_clause_137 : decode kY_Reader_clause.2.1 137 = .ok (.ireturn, 1) := by decide +kernel
theorem d_Reader_clause_129 : decode kY_Reader_clause.2.1 129 = .ok (.iconst 0, 1) := by decide +kernel
theorem d_Reader_clause_130 : decode kY_Reader_clause.2.1 130 = .ok (.ireturn, 1) := by decide +kernel
theorem d_Reader_clause_110 : decode kY_Reader_clause.2.1 110 = .ok (.aload_n 0, 1) := by decide +kernel
theorem d_Reader_clause_111 : decode kY_Reader_clause.2.1 111 = .ok (.aload_n 1, 1) := by decide +kernel
theorem d_Reader_clause_112 : decode kY_Reader_clause.2.1 112 = .ok (.invokevirtual 156, 3) := by decide +kernel
abbrev kY_Reader_markClause : mj_Y := (⟨"TrustDesk$Reader", "markClause", "(LTrustDesk$Fund;)Z"⟩, prog_10_method_11_code, 3, (Option.some Jvm.ClassFile.FieldType.boolean))
theorem d_Reader_markClause_0 : decode kY_Reader_markClause.2.1 0 = .ok (.aload_n 0, 1) := by decide +kernel
theorem d_Reader_markClause_1 : decode kY_Reader_markClause.2.1 1 = .ok (.invokevirtual 82, 3) := by decide +kernel
theorem d_Reader_markClause_4 : decode kY_Reader_markClause.2.1 4 = .ok (.aload_n 0, 1) := by decide +kernel
theorem d_Reader_markClause_5 : decode kY_Reader_markClause.2.1 5 = .ok (.iconst 0, 1) := by decide +kernel
theorem d_Reader_markClause_6 : decode kY_Reader_markClause.2.1 6 = .ok (.bipush 7, 2) := by decide +kernel
theorem d_Reader_markClause_8 : decode kY_Reader_markClause.2.1 8 = .ok (.invokevirtual 107, 3) := by decide +kernel
theorem d_Reader_markClause_11 : decode kY_Reader_markClause.2.1 11 = .ok (.ifCond .ne 5, 3) := by decide +kernel
theorem d_Reader_markClause_16 : decode kY_Reader_markClause.2.1 16 = .ok (.aload_n 1, 1) := by decide +kernel
theorem d_Reader_markClause_17 : decode kY_Reader_markClause.2.1 17 = .ok (.dup, 1) := by decide +kernel
theorem d_Reader_markClause_18 : decode kY_Reader_markClause.2.1 18 = .ok (.getfield 163, 3) := by decide +kernel
theorem f_Reader_163_6 : mj_fl "TrustDesk$Reader" 163 6 4 := ⟨kR_Fund, kF_Fund, 15, "TrustDesk$Fund", rfl, kg_6, by decide, (mj_in1 (List.mem_of_getElem? (i := 673) (by decide +kernel)) rfl), Or.inl rfl⟩
theorem d_Reader_markClause_21 : decode kY_Reader_markClause.2.1 21 = .ok (.iconst 1, 1) := by decide +kernel
theorem d_Reader_markClause_22 : decode kY_Reader_markClause.2.1 22 = .ok (.aload_n 0, 1) := by decide +kernel
theorem d_Reader_markClause_23 : decode kY_Reader_markClause.2.1 23 = .ok (.getfield 111, 3) := by decide +kernel
theorem d_Reader_markClause_26 : decode kY_Reader_markClause.2.1 26 = .ok (.ishl, 1) := by decide +kernel
theorem d_Reader_markClause_27 : decode kY_Reader_markClause.2.1 27 = .ok (.ior, 1) := by decide +kernel
theorem d_Reader_markClause_28 : decode kY_Reader_markClause.2.1 28 = .ok (.putfield 163, 3) := by decide +kernel
theorem p_Reader_163_6 : mj_fp "TrustDesk$Reader" 163 6 4 (kt_Fund 4) false := ⟨kR_Fund, kF_Fund, 15, "TrustDesk$Fund", kt_Fund, rfl, kg_6, by decide, (mj_in1 (List.mem_of_getElem? (i := 673) (by decide +kernel)) rfl), Or.inl rfl, kto_Fund, kn_Fund, rfl, rfl, fun h => by cases h⟩
theorem d_Reader_markClause_31 : decode kY_Reader_markClause.2.1 31 = .ok (.iconst 0, 1) := by decide +kernel
theorem d_Reader_markClause_32 : decode kY_Reader_markClause.2.1 32 = .ok (.istore_n 2, 1) := by decide +kernel
theorem d_Reader_markClause_33 : decode kY_Reader_markClause.2.1 33 = .ok (.iload_n 2, 1) := by decide +kernel
theorem d_Reader_markClause_34 : decode kY_Reader_markClause.2.1 34 = .ok (.sipush 400, 3) := by decide +kernel
theorem d_Reader_markClause_37 : decode kY_Reader_markClause.2.1 37 = .ok (.if_icmp .ge 44, 3) := by decide +kernel
theorem d_Reader_markClause_81 : decode kY_Reader_markClause.2.1 81 = .ok (.iconst 1, 1) := by decide +kernel
theorem d_Reader_markClause_82 : decode kY_Reader_markClause.2.1 82 = .ok (.ireturn, 1) := by decide +kernel
theorem d_Reader_markClause_40 : decode kY_Reader_markClause.2.1 40 = .ok (.aload_n 0, 1) := by decide +kernel
theorem d_Reader_markClause_41 : decode kY_Reader_markClause.2.1 41 = .ok (.getfield 41, 3) := by decide +kernel
theorem d_Reader_markClause_44 : decode kY_Reader_markClause.2.1 44 = .ok (.iconst 2, 1) := by decide +kernel
theorem d_Reader_markClause_45 : decode kY_Reader_markClause.2.1 45 = .ok (.if_icmp .ne 36, 3) := by decide +kernel
theorem d_Reader_markClause_48 : decode kY_Reader_markClause.2.1 48 = .ok (.aload_n 0, 1) := by decide +kernel
theorem d_Reader_markClause_49 : decode kY_Reader_markClause.2.1 49 = .ok (.iconst 0, 1) := by decide +kernel
theorem d_Reader_markClause_50 : decode kY_Reader_markClause.2.1 50 = .ok (.bipush 7, 2) := by decide +kernel
theorem d_Reader_markClause_52 : decode kY_Reader_markClause.2.1 52 = .ok (.invokevirtual 107, 3) := by decide +kernel
theorem d_Reader_markClause_55 : decode kY_Reader_markClause.2.1 55 = .ok (.ifCond .ne 5, 3) := by decide +kernel
theorem d_Reader_markClause_60 : decode kY_Reader_markClause.2.1 60 = .ok (.aload_n 1, 1) := by decide +kernel
theorem d_Reader_markClause_61 : decode kY_Reader_markClause.2.1 61 = .ok (.dup, 1) := by decide +kernel
theorem d_Reader_markClause_62 : decode kY_Reader_markClause.2.1 62 = .ok (.getfield 163, 3) := by decide +kernel
theorem d_Reader_markClause_65 : decode kY_Reader_markClause.2.1 65 = .ok (.iconst 1, 1) := by decide +kernel
theorem d_Reader_markClause_66 : decode kY_Reader_markClause.2.1 66 = .ok (.aload_n 0, 1) := by decide +kernel
theorem d_Reader_markClause_67 : decode kY_Reader_markClause.2.1 67 = .ok (.getfield 111, 3) := by decide +kernel
theorem d_Reader_markClause_70 : decode kY_Reader_markClause.2.1 70 = .ok (.ishl, 1) := by decide +kernel
theorem d_Reader_markClause_71 : decode kY_Reader_markClause.2.1 71 = .ok (.ior, 1) := by decide +kernel
theorem d_Reader_markClause_72 : decode kY_Reader_markClause.2.1 72 = .ok (.putfield 163, 3) := by decide +kernel
theorem d_Reader_markClause_75 : decode kY_Reader_markClause.2.1 75 = .ok (.iinc 2 1, 3) := by decide +kernel
theorem d_Reader_markClause_78 : decode kY_Reader_markClause.2.1 78 = .ok (.goto (-45), 3) := by decide +kernel
theorem d_Reader_markClause_58 : decode kY_Reader_markClause.2.1 58 = .ok (.iconst 0, 1) := by decide +kernel
theorem d_Reader_markClause_59 : decode kY_Reader_markClause.2.1 59 = .ok (.ireturn, 1) := by decide +kernel
theorem d_Reader_markClause_14 : decode kY_Reader_markClause.2.1 14 = .ok (.iconst 0, 1) := by decide +kernel
theorem d_Reader_markClause_15 : decode kY_Reader_markClause.2.1 15 = .ok (.ireturn, 1) := by decide +kernel
theorem lV_Reader_156 : mj_lV "TrustDesk$Reader" 156 kY_Reader_markClause 1 := ⟨⟨(mj_in1 (List.mem_of_getElem? (i := 805) (by decide +kernel)) rfl), (mj_in1 (List.mem_of_getElem? (i := 3) (by decide +kernel)) rfl), (mj_in1 (List.mem_of_getElem? (i := 808) (by decide +kernel)) rfl), by decide, rfl, by decide⟩, (mj_in1 (List.mem_of_getElem? (i := 807) (by decide +kernel)) rfl), (mj_in (List.mem_append_left _ (List.mem_of_getElem? (i := 38) (by decide +kernel))) rfl)⟩
theorem d_Reader_clause_115 : decode kY_Reader_clause.2.1 115 = .ok (.ifCond .eq 14, 3) := by decide +kernel
theorem d_Reader_clause_118 : decode kY_Reader_clause.2.1 118 = .ok (.goto 13, 3) := by decide +kernel
theorem d_Reader_clause_49 : decode kY_Reader_clause.2.1 49 = .ok (.aload_n 1, 1) := by decide +kernel
theorem d_Reader_clause_50 : decode kY_Reader_clause.2.1 50 = .ok (.getfield 136, 3) := by decide +kernel
theorem f_Reader_136_6 : mj_fl "TrustDesk$Reader" 136 6 11 := ⟨kR_Fund, kF_Fund, 15, "TrustDesk$Fund", rfl, kg_6, by decide, (mj_in1 (List.mem_of_getElem? (i := 689) (by decide +kernel)) rfl), Or.inl rfl⟩
theorem d_Reader_clause_53 : decode kY_Reader_clause.2.1 53 = .ok (.invokevirtual 142, 3) := by decide +kernel
theorem lV_Reader_142 : mj_lV "TrustDesk$Reader" 142 kY_ArrayList_size 0 := ⟨⟨(mj_in1 (List.mem_of_getElem? (i := 734) (by decide +kernel)) rfl), (mj_in1 (List.mem_of_getElem? (i := 9) (by decide +kernel)) rfl), (mj_in1 (List.mem_of_getElem? (i := 356) (by decide +kernel)) rfl), by decide, rfl, by decide⟩, (mj_in1 (List.mem_of_getElem? (i := 354) (by decide +kernel)) rfl), (mj_in1 (List.mem_of_getElem? (i := 355) (by decide +kernel)) rfl)⟩
theorem d_Reader_clause_56 : decode kY_Reader_clause.2.1 56 = .ok (.bipush 6, 2) := by decide +kernel
theorem d_Reader_clause_58 : decode kY_Reader_clause.2.1 58 = .ok (.if_icmp .lt 9, 3) := by decide +kernel
theorem d_Reader_clause_71 : decode kY_Reader_clause.2.1 71 = .ok (.aload_n 0, 1) := by decide +kernel
theorem d_Reader_clause_72 : decode kY_Reader_clause.2.1 72 = .ok (.aload_n 1, 1) := by decide +kernel
theorem d_Reader_clause_73 : decode kY_Reader_clause.2.1 73 = .ok (.invokevirtual 59, 3) := by decide +kernel
abbrev kY_Reader_endText : mj_Y := (⟨"TrustDesk$Reader", "endText", "(LTrustDesk$Fund;)LTrustDesk$EndText;"⟩, prog_10_method_13_code, 7, (Option.some (Jvm.ClassFile.FieldType.object "TrustDesk$EndText")))
theorem d_Reader_endText_0 : decode kY_Reader_endText.2.1 0 = .ok (.aload_n 0, 1) := by decide +kernel
theorem d_Reader_endText_1 : decode kY_Reader_endText.2.1 1 = .ok (.invokevirtual 82, 3) := by decide +kernel
theorem d_Reader_endText_4 : decode kY_Reader_endText.2.1 4 = .ok (.aload_n 0, 1) := by decide +kernel
theorem d_Reader_endText_5 : decode kY_Reader_endText.2.1 5 = .ok (.getfield 172, 3) := by decide +kernel
theorem f_Reader_172_9 : mj_fl "TrustDesk$Reader" 172 9 12 := ⟨kR_Reader, kF_Reader, 19, "TrustDesk$Reader", rfl, kg_9, by decide, (mj_in1 (List.mem_of_getElem? (i := 84) (by decide +kernel)) rfl), Or.inl rfl⟩
theorem d_Reader_endText_8 : decode kY_Reader_endText.2.1 8 = .ok (.aload_n 0, 1) := by decide +kernel
theorem d_Reader_endText_9 : decode kY_Reader_endText.2.1 9 = .ok (.getfield 175, 3) := by decide +kernel
theorem d_Reader_endText_12 : decode kY_Reader_endText.2.1 12 = .ok (.isub, 1) := by decide +kernel
theorem d_Reader_endText_13 : decode kY_Reader_endText.2.1 13 = .ok (.istore_n 2, 1) := by decide +kernel
theorem d_Reader_endText_14 : decode kY_Reader_endText.2.1 14 = .ok (.aload_n 0, 1) := by decide +kernel
theorem d_Reader_endText_15 : decode kY_Reader_endText.2.1 15 = .ok (.getfield 41, 3) := by decide +kernel
theorem d_Reader_endText_18 : decode kY_Reader_endText.2.1 18 = .ok (.iconst 1, 1) := by decide +kernel
theorem d_Reader_endText_19 : decode kY_Reader_endText.2.1 19 = .ok (.if_icmp .ne 9, 3) := by decide +kernel
theorem d_Reader_endText_28 : decode kY_Reader_endText.2.1 28 = .ok (.aload_n 0, 1) := by decide +kernel
theorem d_Reader_endText_29 : decode kY_Reader_endText.2.1 29 = .ok (.iconst 1, 1) := by decide +kernel
theorem d_Reader_endText_30 : decode kY_Reader_endText.2.1 30 = .ok (.invokevirtual 56, 3) := by decide +kernel
theorem d_Reader_endText_33 : decode kY_Reader_endText.2.1 33 = .ok (.pop, 1) := by decide +kernel
theorem d_Reader_endText_34 : decode kY_Reader_endText.2.1 34 = .ok (.aconst_null, 1) := by decide +kernel
theorem d_Reader_endText_35 : decode kY_Reader_endText.2.1 35 = .ok (.areturn, 1) := by decide +kernel
theorem d_Reader_endText_22 : decode kY_Reader_endText.2.1 22 = .ok (.iload_n 2, 1) := by decide +kernel
theorem d_Reader_endText_23 : decode kY_Reader_endText.2.1 23 = .ok (.bipush 8, 2) := by decide +kernel
theorem d_Reader_endText_25 : decode kY_Reader_endText.2.1 25 = .ok (.if_icmp .le 11, 3) := by decide +kernel
theorem d_Reader_endText_36 : decode kY_Reader_endText.2.1 36 = .ok (.aload_n 0, 1) := by decide +kernel
theorem d_Reader_endText_37 : decode kY_Reader_endText.2.1 37 = .ok (.invokevirtual 178, 3) := by decide +kernel
abbrev kY_Reader_wordAsNumber : mj_Y := (⟨"TrustDesk$Reader", "wordAsNumber", "()J"⟩, prog_10_method_14_code, 4, (Option.some Jvm.ClassFile.FieldType.long))
theorem d_Reader_wordAsNumber_0 : decode kY_Reader_wordAsNumber.2.1 0 = .ok (.lconst 0, 1) := by decide +kernel
theorem d_Reader_wordAsNumber_1 : decode kY_Reader_wordAsNumber.2.1 1 = .ok (.lstore_n 1, 1) := by decide +kernel
theorem d_Reader_wordAsNumber_2 : decode kY_Reader_wordAsNumber.2.1 2 = .ok (.aload_n 0, 1) := by decide +kernel
theorem d_Reader_wordAsNumber_3 : decode kY_Reader_wordAsNumber.2.1 3 = .ok (.getfield 175, 3) := by decide +kernel
theorem d_Reader_wordAsNumber_6 : decode kY_Reader_wordAsNumber.2.1 6 = .ok (.istore_n 3, 1) := by decide +kernel
theorem d_Reader_wordAsNumber_7 : decode kY_Reader_wordAsNumber.2.1 7 = .ok (.iload_n 3, 1) := by decide +kernel
theorem d_Reader_wordAsNumber_8 : decode kY_Reader_wordAsNumber.2.1 8 = .ok (.ifCond .lt 44, 3) := by decide +kernel
theorem d_Reader_wordAsNumber_52 : decode kY_Reader_wordAsNumber.2.1 52 = .ok (.lload_n 1, 1) := by decide +kernel
theorem d_Reader_wordAsNumber_53 : decode kY_Reader_wordAsNumber.2.1 53 = .ok (.lreturn, 1) := by decide +kernel
theorem d_Reader_wordAsNumber_11 : decode kY_Reader_wordAsNumber.2.1 11 = .ok (.iload_n 3, 1) := by decide +kernel
theorem d_Reader_wordAsNumber_12 : decode kY_Reader_wordAsNumber.2.1 12 = .ok (.aload_n 0, 1) := by decide +kernel
theorem d_Reader_wordAsNumber_13 : decode kY_Reader_wordAsNumber.2.1 13 = .ok (.getfield 172, 3) := by decide +kernel
theorem d_Reader_wordAsNumber_16 : decode kY_Reader_wordAsNumber.2.1 16 = .ok (.if_icmp .ge 36, 3) := by decide +kernel
theorem d_Reader_wordAsNumber_19 : decode kY_Reader_wordAsNumber.2.1 19 = .ok (.iload_n 3, 1) := by decide +kernel
theorem d_Reader_wordAsNumber_20 : decode kY_Reader_wordAsNumber.2.1 20 = .ok (.sipush 400, 3) := by decide +kernel
theorem d_Reader_wordAsNumber_23 : decode kY_Reader_wordAsNumber.2.1 23 = .ok (.if_icmp .ge 29, 3) := by decide +kernel
theorem d_Reader_wordAsNumber_26 : decode kY_Reader_wordAsNumber.2.1 26 = .ok (.lload_n 1, 1) := by decide +kernel
theorem d_Reader_wordAsNumber_27 : decode kY_Reader_wordAsNumber.2.1 27 = .ok (.ldc2_w 194, 3) := by decide +kernel
theorem k_Reader_194 : Cond.constantLong "TrustDesk$Reader" 194 32 ∈ mj_T := (mj_in1 (List.mem_of_getElem? (i := 743) (by decide +kernel)) rfl)
theorem d_Reader_wordAsNumber_30 : decode kY_Reader_wordAsNumber.2.1 30 = .ok (.lmul, 1) := by decide +kernel
theorem d_Reader_wordAsNumber_31 : decode kY_Reader_wordAsNumber.2.1 31 = .ok (.aload_n 0, 1) := by decide +kernel
theorem d_Reader_wordAsNumber_32 : decode kY_Reader_wordAsNumber.2.1 32 = .ok (.getfield 15, 3) := by decide +kernel
theorem d_Reader_wordAsNumber_35 : decode kY_Reader_wordAsNumber.2.1 35 = .ok (.iload_n 3, 1) := by decide +kernel
theorem d_Reader_wordAsNumber_36 : decode kY_Reader_wordAsNumber.2.1 36 = .ok (.iaload, 1) := by decide +kernel
theorem d_Reader_wordAsNumber_37 : decode kY_Reader_wordAsNumber.2.1 37 = .ok (.i2l, 1) := by decide +kernel
theorem d_Reader_wordAsNumber_38 : decode kY_Reader_wordAsNumber.2.1 38 = .ok (.ladd, 1) := by decide +kernel
theorem d_Reader_wordAsNumber_39 : decode kY_Reader_wordAsNumber.2.1 39 = .ok (.ldc2_w 196, 3) := by decide +kernel
theorem k_Reader_196 : Cond.constantLong "TrustDesk$Reader" 196 97 ∈ mj_T := (mj_in1 (List.mem_of_getElem? (i := 744) (by decide +kernel)) rfl)
theorem d_Reader_wordAsNumber_42 : decode kY_Reader_wordAsNumber.2.1 42 = .ok (.lsub, 1) := by decide +kernel
theorem d_Reader_wordAsNumber_43 : decode kY_Reader_wordAsNumber.2.1 43 = .ok (.lconst 1, 1) := by decide +kernel
theorem d_Reader_wordAsNumber_44 : decode kY_Reader_wordAsNumber.2.1 44 = .ok (.ladd, 1) := by decide +kernel
theorem d_Reader_wordAsNumber_45 : decode kY_Reader_wordAsNumber.2.1 45 = .ok (.lstore_n 1, 1) := by decide +kernel
theorem d_Reader_wordAsNumber_46 : decode kY_Reader_wordAsNumber.2.1 46 = .ok (.iinc 3 1, 3) := by decide +kernel
theorem d_Reader_wordAsNumber_49 : decode kY_Reader_wordAsNumber.2.1 49 = .ok (.goto (-42), 3) := by decide +kernel
theorem lV_Reader_178 : mj_lV "TrustDesk$Reader" 178 kY_Reader_wordAsNumber 0 := ⟨⟨(mj_in1 (List.mem_of_getElem? (i := 739) (by decide +kernel)) rfl), (mj_in1 (List.mem_of_getElem? (i := 3) (by decide +kernel)) rfl), (mj_in1 (List.mem_of_getElem? (i := 742) (by decide +kernel)) rfl), by decide, rfl, by decide⟩, (mj_in1 (List.mem_of_getElem? (i := 741) (by decide +kernel)) rfl), (mj_in (List.mem_append_left _ (List.mem_of_getElem? (i := 37) (by decide +kernel))) rfl)⟩
theorem d_Reader_endText_40 : decode kY_Reader_endText.2.1 40 = .ok (.lstore_n 3, 1) := by decide +kernel
theorem d_Reader_endText_41 : decode kY_Reader_endText.2.1 41 = .ok (.aload_n 1, 1) := by decide +kernel
theorem d_Reader_endText_42 : decode kY_Reader_endText.2.1 42 = .ok (.ifnull 19, 3) := by decide +kernel
theorem d_Reader_endText_45 : decode kY_Reader_endText.2.1 45 = .ok (.aload_n 1, 1) := by decide +kernel
theorem d_Reader_endText_46 : decode kY_Reader_endText.2.1 46 = .ok (.lload_n 3, 1) := by decide +kernel
theorem d_Reader_endText_47 : decode kY_Reader_endText.2.1 47 = .ok (.invokevirtual 182, 3) := by decide +kernel
abbrev kY_Fund_hasEnd : mj_Y := (⟨"TrustDesk$Fund", "hasEnd", "(J)Z"⟩, prog_7_method_7_code, 4, (Option.some Jvm.ClassFile.FieldType.boolean))
theorem d_Fund_hasEnd_0 : decode kY_Fund_hasEnd.2.1 0 = .ok (.iconst 0, 1) := by decide +kernel
theorem d_Fund_hasEnd_1 : decode kY_Fund_hasEnd.2.1 1 = .ok (.istore_n 3, 1) := by decide +kernel
theorem d_Fund_hasEnd_2 : decode kY_Fund_hasEnd.2.1 2 = .ok (.iload_n 3, 1) := by decide +kernel
theorem d_Fund_hasEnd_3 : decode kY_Fund_hasEnd.2.1 3 = .ok (.aload_n 0, 1) := by decide +kernel
theorem d_Fund_hasEnd_4 : decode kY_Fund_hasEnd.2.1 4 = .ok (.getfield 24, 3) := by decide +kernel
theorem d_Fund_hasEnd_7 : decode kY_Fund_hasEnd.2.1 7 = .ok (.invokevirtual 61, 3) := by decide +kernel
theorem d_Fund_hasEnd_10 : decode kY_Fund_hasEnd.2.1 10 = .ok (.if_icmp .ge 33, 3) := by decide +kernel
theorem d_Fund_hasEnd_43 : decode kY_Fund_hasEnd.2.1 43 = .ok (.iconst 0, 1) := by decide +kernel
theorem d_Fund_hasEnd_44 : decode kY_Fund_hasEnd.2.1 44 = .ok (.ireturn, 1) := by decide +kernel
theorem d_Fund_hasEnd_13 : decode kY_Fund_hasEnd.2.1 13 = .ok (.aload_n 0, 1) := by decide +kernel
theorem d_Fund_hasEnd_14 : decode kY_Fund_hasEnd.2.1 14 = .ok (.getfield 24, 3) := by decide +kernel
theorem d_Fund_hasEnd_17 : decode kY_Fund_hasEnd.2.1 17 = .ok (.iload_n 3, 1) := by decide +kernel
theorem d_Fund_hasEnd_18 : decode kY_Fund_hasEnd.2.1 18 = .ok (.invokevirtual 65, 3) := by decide +kernel
theorem d_Fund_hasEnd_21 : decode kY_Fund_hasEnd.2.1 21 = .ok (.checkcast 69, 3) := by decide +kernel
theorem d_Fund_hasEnd_24 : decode kY_Fund_hasEnd.2.1 24 = .ok (.getfield 71, 3) := by decide +kernel
theorem f_Fund_71_3 : mj_fl "TrustDesk$Fund" 71 3 0 := ⟨kR_End, kF_End, 4, "TrustDesk$End", rfl, kg_3, by decide, (mj_in1 (List.mem_of_getElem? (i := 786) (by decide +kernel)) rfl), Or.inl rfl⟩
theorem d_Fund_hasEnd_27 : decode kY_Fund_hasEnd.2.1 27 = .ok (.getfield 75, 3) := by decide +kernel
theorem f_Fund_75_4 : mj_fl "TrustDesk$Fund" 75 4 0 := ⟨kR_EndText, kF_EndText, 5, "TrustDesk$EndText", rfl, kg_4, by decide, (mj_in1 (List.mem_of_getElem? (i := 759) (by decide +kernel)) rfl), Or.inl rfl⟩
theorem d_Fund_hasEnd_30 : decode kY_Fund_hasEnd.2.1 30 = .ok (.lload_n 1, 1) := by decide +kernel
theorem d_Fund_hasEnd_31 : decode kY_Fund_hasEnd.2.1 31 = .ok (.lcmp, 1) := by decide +kernel
theorem d_Fund_hasEnd_32 : decode kY_Fund_hasEnd.2.1 32 = .ok (.ifCond .ne 5, 3) := by decide +kernel
theorem d_Fund_hasEnd_37 : decode kY_Fund_hasEnd.2.1 37 = .ok (.iinc 3 1, 3) := by decide +kernel
theorem d_Fund_hasEnd_40 : decode kY_Fund_hasEnd.2.1 40 = .ok (.goto (-38), 3) := by decide +kernel
theorem d_Fund_hasEnd_35 : decode kY_Fund_hasEnd.2.1 35 = .ok (.iconst 1, 1) := by decide +kernel
theorem d_Fund_hasEnd_36 : decode kY_Fund_hasEnd.2.1 36 = .ok (.ireturn, 1) := by decide +kernel
theorem lV_Reader_182 : mj_lV "TrustDesk$Reader" 182 kY_Fund_hasEnd 1 := ⟨⟨(mj_in1 (List.mem_of_getElem? (i := 745) (by decide +kernel)) rfl), (mj_in1 (List.mem_of_getElem? (i := 21) (by decide +kernel)) rfl), (mj_in1 (List.mem_of_getElem? (i := 748) (by decide +kernel)) rfl), by decide, rfl, by decide⟩, (mj_in1 (List.mem_of_getElem? (i := 746) (by decide +kernel)) rfl), (mj_in1 (List.mem_of_getElem? (i := 747) (by decide +kernel)) rfl)⟩
theorem d_Reader_endText_50 : decode kY_Reader_endText.2.1 50 = .ok (.ifCond .eq 11, 3) := by decide +kernel
theorem d_Reader_endText_61 : decode kY_Reader_endText.2.1 61 = .ok (.aload_n 0, 1) := by decide +kernel
theorem d_Reader_endText_62 : decode kY_Reader_endText.2.1 62 = .ok (.invokevirtual 82, 3) := by decide +kernel
theorem d_Reader_endText_65 : decode kY_Reader_endText.2.1 65 = .ok (.aload_n 0, 1) := by decide +kernel
theorem d_Reader_endText_66 : decode kY_Reader_endText.2.1 66 = .ok (.iconst 0, 1) := by decide +kernel
theorem d_Reader_endText_67 : decode kY_Reader_endText.2.1 67 = .ok (.putfield 118, 3) := by decide +kernel
theorem d_Reader_endText_70 : decode kY_Reader_endText.2.1 70 = .ok (.aload_n 0, 1) := by decide +kernel
theorem d_Reader_endText_71 : decode kY_Reader_endText.2.1 71 = .ok (.bipush 27, 2) := by decide +kernel
theorem d_Reader_endText_73 : decode kY_Reader_endText.2.1 73 = .ok (.invokevirtual 121, 3) := by decide +kernel
theorem d_Reader_endText_76 : decode kY_Reader_endText.2.1 76 = .ok (.ifCond .eq 10, 3) := by decide +kernel
theorem d_Reader_endText_86 : decode kY_Reader_endText.2.1 86 = .ok (.aconst_null, 1) := by decide +kernel
theorem d_Reader_endText_87 : decode kY_Reader_endText.2.1 87 = .ok (.areturn, 1) := by decide +kernel
theorem d_Reader_endText_79 : decode kY_Reader_endText.2.1 79 = .ok (.aload_n 0, 1) := by decide +kernel
theorem d_Reader_endText_80 : decode kY_Reader_endText.2.1 80 = .ok (.invokevirtual 186, 3) := by decide +kernel
theorem d_Reader_endText_83 : decode kY_Reader_endText.2.1 83 = .ok (.ifCond .ne 5, 3) := by decide +kernel
theorem d_Reader_endText_88 : decode kY_Reader_endText.2.1 88 = .ok (.aload_n 0, 1) := by decide +kernel
theorem d_Reader_endText_89 : decode kY_Reader_endText.2.1 89 = .ok (.invokevirtual 128, 3) := by decide +kernel
theorem d_Reader_endText_92 : decode kY_Reader_endText.2.1 92 = .ok (.astore 5, 2) := by decide +kernel
theorem d_Reader_endText_94 : decode kY_Reader_endText.2.1 94 = .ok (.aload_n 0, 1) := by decide +kernel
theorem d_Reader_endText_95 : decode kY_Reader_endText.2.1 95 = .ok (.iconst 0, 1) := by decide +kernel
theorem d_Reader_endText_96 : decode kY_Reader_endText.2.1 96 = .ok (.putfield 118, 3) := by decide +kernel
theorem d_Reader_endText_99 : decode kY_Reader_endText.2.1 99 = .ok (.aload_n 0, 1) := by decide +kernel
theorem d_Reader_endText_100 : decode kY_Reader_endText.2.1 100 = .ok (.bipush 28, 2) := by decide +kernel
theorem d_Reader_endText_102 : decode kY_Reader_endText.2.1 102 = .ok (.invokevirtual 121, 3) := by decide +kernel
theorem d_Reader_endText_105 : decode kY_Reader_endText.2.1 105 = .ok (.ifCond .eq 10, 3) := by decide +kernel
theorem d_Reader_endText_115 : decode kY_Reader_endText.2.1 115 = .ok (.aconst_null, 1) := by decide +kernel
theorem d_Reader_endText_116 : decode kY_Reader_endText.2.1 116 = .ok (.areturn, 1) := by decide +kernel
theorem d_Reader_endText_108 : decode kY_Reader_endText.2.1 108 = .ok (.aload_n 0, 1) := by decide +kernel
theorem d_Reader_endText_109 : decode kY_Reader_endText.2.1 109 = .ok (.invokevirtual 124, 3) := by decide +kernel
theorem d_Reader_endText_112 : decode kY_Reader_endText.2.1 112 = .ok (.ifCond .ne 5, 3) := by decide +kernel
theorem d_Reader_endText_117 : decode kY_Reader_endText.2.1 117 = .ok (.aload_n 0, 1) := by decide +kernel
theorem d_Reader_endText_118 : decode kY_Reader_endText.2.1 118 = .ok (.bipush 29, 2) := by decide +kernel
theorem d_Reader_endText_120 : decode kY_Reader_endText.2.1 120 = .ok (.invokevirtual 52, 3) := by decide +kernel
theorem d_Reader_endText_123 : decode kY_Reader_endText.2.1 123 = .ok (.istore 6, 2) := by decide +kernel
theorem d_Reader_endText_125 : decode kY_Reader_endText.2.1 125 = .ok (.iload 6, 2) := by decide +kernel
theorem d_Reader_endText_127 : decode kY_Reader_endText.2.1 127 = .ok (.ifCond .eq 7, 3) := by decide +kernel
theorem d_Reader_endText_134 : decode kY_Reader_endText.2.1 134 = .ok (.new 189, 3) := by decide +kernel
theorem n_Reader_189 : mj_nw "TrustDesk$Reader" 189 4 [.long 0, .int 0, .null, .null, .int 0] := ⟨kR_EndText, kF_EndText, 5, kt_EndText, rfl, kg_4, kto_EndText, (mj_in1 (List.mem_of_getElem? (i := 752) (by decide +kernel)) rfl), (mj_in1 (List.mem_of_getElem? (i := 753) (by decide +kernel)) rfl), (mj_in1 (List.mem_of_getElem? (i := 22) (by decide +kernel)) rfl), by decide +kernel, rfl, fun _ => rfl⟩
theorem d_Reader_endText_137 : decode kY_Reader_endText.2.1 137 = .ok (.dup, 1) := by decide +kernel
theorem d_Reader_endText_138 : decode kY_Reader_endText.2.1 138 = .ok (.lload_n 3, 1) := by decide +kernel
theorem d_Reader_endText_139 : decode kY_Reader_endText.2.1 139 = .ok (.iload_n 2, 1) := by decide +kernel
theorem d_Reader_endText_140 : decode kY_Reader_endText.2.1 140 = .ok (.aload 5, 2) := by decide +kernel
theorem d_Reader_endText_142 : decode kY_Reader_endText.2.1 142 = .ok (.aload_n 0, 1) := by decide +kernel
theorem d_Reader_endText_143 : decode kY_Reader_endText.2.1 143 = .ok (.invokevirtual 128, 3) := by decide +kernel
theorem d_Reader_endText_146 : decode kY_Reader_endText.2.1 146 = .ok (.iload 6, 2) := by decide +kernel
theorem d_Reader_endText_148 : decode kY_Reader_endText.2.1 148 = .ok (.invokespecial 191, 3) := by decide +kernel
abbrev kY_EndText_init : mj_Y := (⟨"TrustDesk$EndText", "<init>", "(JILTrustDesk$Code;LTrustDesk$Code;Z)V"⟩, prog_5_method_1_code, 7, (Option.none : Option Jvm.ClassFile.FieldType))
theorem d_EndText_init_0 : decode kY_EndText_init.2.1 0 = .ok (.aload_n 0, 1) := by decide +kernel
theorem d_EndText_init_1 : decode kY_EndText_init.2.1 1 = .ok (.invokespecial 1, 3) := by decide +kernel
theorem d_EndText_init_4 : decode kY_EndText_init.2.1 4 = .ok (.aload_n 0, 1) := by decide +kernel
theorem d_EndText_init_5 : decode kY_EndText_init.2.1 5 = .ok (.lload_n 1, 1) := by decide +kernel
theorem d_EndText_init_6 : decode kY_EndText_init.2.1 6 = .ok (.putfield 7, 3) := by decide +kernel
theorem p_EndText_7_4 : mj_fp "TrustDesk$EndText" 7 4 0 (kt_EndText 0) true := ⟨kR_EndText, kF_EndText, 5, "TrustDesk$EndText", kt_EndText, rfl, kg_4, by decide, (mj_in1 (List.mem_of_getElem? (i := 758) (by decide +kernel)) rfl), Or.inl rfl, kto_EndText, kn_EndText, rfl, rfl, fun _ => rfl⟩
theorem d_EndText_init_9 : decode kY_EndText_init.2.1 9 = .ok (.aload_n 0, 1) := by decide +kernel
theorem d_EndText_init_10 : decode kY_EndText_init.2.1 10 = .ok (.iload_n 3, 1) := by decide +kernel
theorem d_EndText_init_11 : decode kY_EndText_init.2.1 11 = .ok (.putfield 13, 3) := by decide +kernel
theorem p_EndText_13_4 : mj_fp "TrustDesk$EndText" 13 4 1 (kt_EndText 1) true := ⟨kR_EndText, kF_EndText, 5, "TrustDesk$EndText", kt_EndText, rfl, kg_4, by decide, (mj_in1 (List.mem_of_getElem? (i := 760) (by decide +kernel)) rfl), Or.inl rfl, kto_EndText, kn_EndText, rfl, rfl, fun _ => rfl⟩
theorem d_EndText_init_14 : decode kY_EndText_init.2.1 14 = .ok (.aload_n 0, 1) := by decide +kernel
theorem d_EndText_init_15 : decode kY_EndText_init.2.1 15 = .ok (.aload 4, 2) := by decide +kernel
theorem d_EndText_init_17 : decode kY_EndText_init.2.1 17 = .ok (.putfield 17, 3) := by decide +kernel
theorem p_EndText_17_4 : mj_fp "TrustDesk$EndText" 17 4 2 (kt_EndText 2) true := ⟨kR_EndText, kF_EndText, 5, "TrustDesk$EndText", kt_EndText, rfl, kg_4, by decide, (mj_in1 (List.mem_of_getElem? (i := 762) (by decide +kernel)) rfl), Or.inl rfl, kto_EndText, kn_EndText, rfl, rfl, fun _ => rfl⟩
theorem d_EndText_init_20 : decode kY_EndText_init.2.1 20 = .ok (.aload_n 0, 1) := by decide +kernel
theorem d_EndText_init_21 : decode kY_EndText_init.2.1 21 = .ok (.aload 5, 2) := by decide +kernel
theorem d_EndText_init_23 : decode kY_EndText_init.2.1 23 = .ok (.putfield 21, 3) := by decide +kernel
theorem p_EndText_21_4 : mj_fp "TrustDesk$EndText" 21 4 3 (kt_EndText 3) true := ⟨kR_EndText, kF_EndText, 5, "TrustDesk$EndText", kt_EndText, rfl, kg_4, by decide, (mj_in1 (List.mem_of_getElem? (i := 764) (by decide +kernel)) rfl), Or.inl rfl, kto_EndText, kn_EndText, rfl, rfl, fun _ => rfl⟩
theorem d_EndText_init_26 : decode kY_EndText_init.2.1 26 = .ok (.aload_n 0, 1) := by decide +kernel
theorem d_EndText_init_27 : decode kY_EndText_init.2.1 27 = .ok (.iload 6, 2) := by decide +kernel
theorem d_EndText_init_29 : decode kY_EndText_init.2.1 29 = .ok (.putfield 24, 3) := by decide +kernel
theorem p_EndText_24_4 : mj_fp "TrustDesk$EndText" 24 4 4 (kt_EndText 4) true := ⟨kR_EndText, kF_EndText, 5, "TrustDesk$EndText", kt_EndText, rfl, kg_4, by decide, (mj_in1 (List.mem_of_getElem? (i := 766) (by decide +kernel)) rfl), Or.inl rfl, kto_EndText, kn_EndText, rfl, rfl, fun _ => rfl⟩
theorem d_EndText_init_32 : decode kY_EndText_init.2.1 32 = .ok (.return_, 1) := by decide +kernel
def w_EndText_init : List Nat := []
theorem tc_EndText_init {g : mj_G} {l : Launch} {d : Nat} {T0 : tm_H} {M0 : mj_M} {n0 : Nat} {o0 : Nat} {x1 : Int64} {x2 : Int32} {o3 : Nat} {o4 : Nat} {x5 : Int32} (h_o0 : T0 o0 = some (5, 4, 0)) (h_o3 : T0 o3 = some (0, 2, 0)) (h_o4 : T0 o4 = some (0, 2, 0)) (hn0 : 0 ≤ x5.toInt ∧ x5.toInt ≤ 1) (m_o0 : M0 o0 = some (.inr (4, [.long 0, .int 0, .null, .null, .int 0]))) (I0 : tm_I tm_FT (tm_in w_EndText_init) o0 T0 M0 n0 T0 M0 n0) : mj_Met g l kY_EndText_init (d + 1) [.ref o0, .long x1, .int x2, .ref o3, .ref o4, .int x5] M0 n0 0 0 (tm_Q tm_FT (tm_in w_EndText_init) o0 T0 M0 n0 (fun r T M => r = none ∧ M o0 = some (.inr (4, [.long x1, .int x2, .ref o3, .ref o4, .int x5])))) := by
  refine mj_enter (by decide) (Nat.le_of_ble_eq_true rfl) ?_
  refine mv_aload_n d_EndText_init_0 rfl rfl ?_
  refine mv_oinit d_EndText_init_1 (mj_in1 (List.mem_of_getElem? (i := 757) (by decide +kernel)) rfl) (Nat.le_of_ble_eq_true rfl) ?_
  refine mv_aload_n d_EndText_init_4 rfl rfl ?_
  refine mv_lload_n d_EndText_init_5 rfl rfl ?_
  refine tr_putXF (k := 0) (fs' := [.long x1, .int 0, .null, .null, .int 0]) tm_okF I0 h_o0 (Or.inl rfl) m_o0 d_EndText_init_6 p_EndText_7_4 rfl (Nat.le_of_ble_eq_true rfl) rfl rfl rfl (fun M1 I2 m3 K4 => ?_)
  refine mv_aload_n d_EndText_init_9 rfl rfl ?_
  refine mv_iload_n d_EndText_init_10 rfl rfl ?_
  refine tr_putXF (k := 1) (fs' := [.long x1, .int x2, .null, .null, .int 0]) tm_okF I2 h_o0 (Or.inl rfl) m3 d_EndText_init_11 p_EndText_13_4 rfl (Nat.le_of_ble_eq_true rfl) rfl rfl rfl (fun M5 I6 m7 K8 => ?_)
  refine mv_aload_n d_EndText_init_14 rfl rfl ?_
  refine mv_aload d_EndText_init_15 rfl ?_
  refine tr_putXF (k := 2) (fs' := [.long x1, .int x2, .ref o3, .null, .int 0]) tm_okF I6 h_o0 (Or.inl rfl) m7 d_EndText_init_17 p_EndText_17_4 rfl (Nat.le_of_ble_eq_true rfl) rfl rfl rfl (fun M9 I10 m11 K12 => ?_)
  refine mv_aload_n d_EndText_init_20 rfl rfl ?_
  refine mv_aload d_EndText_init_21 rfl ?_
  refine tr_putXF (k := 3) (fs' := [.long x1, .int x2, .ref o3, .ref o4, .int 0]) tm_okF I10 h_o0 (Or.inl rfl) m11 d_EndText_init_23 p_EndText_21_4 rfl (Nat.le_of_ble_eq_true rfl) rfl rfl rfl (fun M13 I14 m15 K16 => ?_)
  refine mv_aload_n d_EndText_init_26 rfl rfl ?_
  refine mv_iload d_EndText_init_27 rfl ?_
  refine tr_putXF (k := 4) (fs' := [.long x1, .int x2, .ref o3, .ref o4, .int x5]) tm_okF I14 h_o0 (Or.inl rfl) m15 d_EndText_init_29 p_EndText_24_4 rfl (Nat.le_of_ble_eq_true rfl) (mz_nb (by omega) (by omega)) (mz_fz (by omega) (by omega)) rfl (fun M17 I18 m19 K20 => ?_)
  exact mv_vret d_EndText_init_32 rfl ⟨_, I18, rfl, m19⟩
theorem lI_Reader_191 : mj_lI "TrustDesk$Reader" 191 kY_EndText_init 5 := ⟨⟨(mj_in1 (List.mem_of_getElem? (i := 754) (by decide +kernel)) rfl), (mj_in1 (List.mem_of_getElem? (i := 22) (by decide +kernel)) rfl), (mj_in1 (List.mem_of_getElem? (i := 756) (by decide +kernel)) rfl), by decide, rfl, by decide⟩, rfl, (mj_in1 (List.mem_of_getElem? (i := 755) (by decide +kernel)) rfl), rfl⟩
theorem d_Reader_endText_151 : decode kY_Reader_endText.2.1 151 = .ok (.areturn, 1) := by decide +kernel
theorem d_Reader_endText_130 : decode kY_Reader_endText.2.1 130 = .ok (.aload_n 0, 1) := by decide +kernel
theorem d_Reader_endText_131 : decode kY_Reader_endText.2.1 131 = .ok (.invokevirtual 82, 3) := by decide +kernel
theorem d_Reader_endText_53 : decode kY_Reader_endText.2.1 53 = .ok (.aload_n 0, 1) := by decide +kernel
theorem d_Reader_endText_54 : decode kY_Reader_endText.2.1 54 = .ok (.iconst 3, 1) := by decide +kernel
theorem d_Reader_endText_55 : decode kY_Reader_endText.2.1 55 = .ok (.invokevirtual 56, 3) := by decide +kernel
theorem d_Reader_endText_58 : decode kY_Reader_endText.2.1 58 = .ok (.pop, 1) := by decide +kernel
theorem d_Reader_endText_59 : decode kY_Reader_endText.2.1 59 = .ok (.aconst_null, 1) := by decide +kernel
theorem d_Reader_endText_60 : decode kY_Reader_endText.2.1 60 = .ok (.areturn, 1) := by decide +kernel
theorem lV_Reader_59 : mj_lV "TrustDesk$Reader" 59 kY_Reader_endText 1 := ⟨⟨(mj_in1 (List.mem_of_getElem? (i := 735) (by decide +kernel)) rfl), (mj_in1 (List.mem_of_getElem? (i := 3) (by decide +kernel)) rfl), (mj_in1 (List.mem_of_getElem? (i := 738) (by decide +kernel)) rfl), by decide, rfl, by decide⟩, (mj_in1 (List.mem_of_getElem? (i := 737) (by decide +kernel)) rfl), (mj_in (List.mem_append_left _ (List.mem_of_getElem? (i := 36) (by decide +kernel))) rfl)⟩
theorem d_Reader_clause_76 : decode kY_Reader_clause.2.1 76 = .ok (.astore 5, 2) := by decide +kernel
theorem d_Reader_clause_78 : decode kY_Reader_clause.2.1 78 = .ok (.aload 5, 2) := by decide +kernel
theorem d_Reader_clause_80 : decode kY_Reader_clause.2.1 80 = .ok (.ifnonnull 5, 3) := by decide +kernel
theorem d_Reader_clause_83 : decode kY_Reader_clause.2.1 83 = .ok (.iconst 0, 1) := by decide +kernel
theorem d_Reader_clause_84 : decode kY_Reader_clause.2.1 84 = .ok (.ireturn, 1) := by decide +kernel
theorem d_Reader_clause_85 : decode kY_Reader_clause.2.1 85 = .ok (.aload_n 1, 1) := by decide +kernel
theorem d_Reader_clause_86 : decode kY_Reader_clause.2.1 86 = .ok (.getfield 136, 3) := by decide +kernel
theorem d_Reader_clause_89 : decode kY_Reader_clause.2.1 89 = .ok (.new 147, 3) := by decide +kernel
theorem n_Reader_147 : mj_nw "TrustDesk$Reader" 147 3 [.null, .int 0, .int 0, .int 0] := ⟨kR_End, kF_End, 4, kt_End, rfl, kg_3, kto_End, (mj_in1 (List.mem_of_getElem? (i := 779) (by decide +kernel)) rfl), (mj_in1 (List.mem_of_getElem? (i := 780) (by decide +kernel)) rfl), (mj_in1 (List.mem_of_getElem? (i := 23) (by decide +kernel)) rfl), by decide +kernel, rfl, fun _ => rfl⟩
theorem d_Reader_clause_92 : decode kY_Reader_clause.2.1 92 = .ok (.dup, 1) := by decide +kernel
theorem d_Reader_clause_93 : decode kY_Reader_clause.2.1 93 = .ok (.aload 5, 2) := by decide +kernel
theorem d_Reader_clause_95 : decode kY_Reader_clause.2.1 95 = .ok (.invokespecial 149, 3) := by decide +kernel
abbrev kY_End_init : mj_Y := (⟨"TrustDesk$End", "<init>", "(LTrustDesk$EndText;)V"⟩, prog_4_method_1_code, 2, (Option.none : Option Jvm.ClassFile.FieldType))
theorem d_End_init_0 : decode kY_End_init.2.1 0 = .ok (.aload_n 0, 1) := by decide +kernel
theorem d_End_init_1 : decode kY_End_init.2.1 1 = .ok (.invokespecial 3, 3) := by decide +kernel
theorem d_End_init_4 : decode kY_End_init.2.1 4 = .ok (.aload_n 0, 1) := by decide +kernel
theorem d_End_init_5 : decode kY_End_init.2.1 5 = .ok (.iconst 0, 1) := by decide +kernel
theorem d_End_init_6 : decode kY_End_init.2.1 6 = .ok (.putfield 9, 3) := by decide +kernel
theorem d_End_init_9 : decode kY_End_init.2.1 9 = .ok (.aload_n 0, 1) := by decide +kernel
theorem d_End_init_10 : decode kY_End_init.2.1 10 = .ok (.iconst (-1), 1) := by decide +kernel
theorem d_End_init_11 : decode kY_End_init.2.1 11 = .ok (.putfield 15, 3) := by decide +kernel
theorem d_End_init_14 : decode kY_End_init.2.1 14 = .ok (.aload_n 0, 1) := by decide +kernel
theorem d_End_init_15 : decode kY_End_init.2.1 15 = .ok (.aload_n 1, 1) := by decide +kernel
theorem d_End_init_16 : decode kY_End_init.2.1 16 = .ok (.putfield 18, 3) := by decide +kernel
theorem d_End_init_19 : decode kY_End_init.2.1 19 = .ok (.return_, 1) := by decide +kernel
def w_End_init : List Nat := []
theorem tc_End_init {g : mj_G} {l : Launch} {d : Nat} {T0 : tm_H} {M0 : mj_M} {n0 : Nat} {o0 : Nat} {o1 : Nat} (h_o0 : T0 o0 = some (5, 3, 0)) (h_o1 : T0 o1 = some (0, 4, 0)) (m_o0 : M0 o0 = some (.inr (3, [.null, .int 0, .int 0, .int 0]))) (I0 : tm_I tm_FT (tm_in w_End_init) o0 T0 M0 n0 T0 M0 n0) : mj_Met g l kY_End_init (d + 1) [.ref o0, .ref o1] M0 n0 0 0 (tm_Q tm_FT (tm_in w_End_init) o0 T0 M0 n0 (fun r T M => r = none ∧ M o0 = some (.inr (3, [.ref o1, .int 0, .int 0, .int (-1)])))) := by
  refine mj_enter (by decide) (Nat.le_of_ble_eq_true rfl) ?_
  refine mv_aload_n d_End_init_0 rfl rfl ?_
  refine mv_oinit d_End_init_1 (mj_in1 (List.mem_of_getElem? (i := 784) (by decide +kernel)) rfl) (Nat.le_of_ble_eq_true rfl) ?_
  refine mv_aload_n d_End_init_4 rfl rfl ?_
  refine mv_iconst (v := 0) d_End_init_5 (by decide) ?_
  refine tr_putX (k := 1) (fs' := [.null, .int 0, .int 0, .int 0]) tm_okF I0 h_o0 (Or.inl rfl) m_o0 d_End_init_6 p_End_9_3 (Nat.le_of_ble_eq_true rfl) rfl rfl rfl (fun M1 I2 m3 K4 => ?_)
  refine mv_aload_n d_End_init_9 rfl rfl ?_
  refine mv_iconst (v := (-1)) d_End_init_10 (by decide) ?_
  refine tr_putX (k := 3) (fs' := [.null, .int 0, .int 0, .int (-1)]) tm_okF I2 h_o0 (Or.inl rfl) m3 d_End_init_11 p_End_15_3 (Nat.le_of_ble_eq_true rfl) rfl rfl rfl (fun M5 I6 m7 K8 => ?_)
  refine mv_aload_n d_End_init_14 rfl rfl ?_
  refine mv_aload_n d_End_init_15 rfl rfl ?_
  refine tr_putX (k := 0) (fs' := [.ref o1, .int 0, .int 0, .int (-1)]) tm_okF I6 h_o0 (Or.inl rfl) m7 d_End_init_16 p_End_18_3 (Nat.le_of_ble_eq_true rfl) rfl rfl rfl (fun M9 I10 m11 K12 => ?_)
  exact mv_vret d_End_init_19 rfl ⟨_, I10, rfl, m11⟩
theorem lI_Reader_149 : mj_lI "TrustDesk$Reader" 149 kY_End_init 1 := ⟨⟨(mj_in1 (List.mem_of_getElem? (i := 781) (by decide +kernel)) rfl), (mj_in1 (List.mem_of_getElem? (i := 23) (by decide +kernel)) rfl), (mj_in1 (List.mem_of_getElem? (i := 783) (by decide +kernel)) rfl), by decide, rfl, by decide⟩, rfl, (mj_in1 (List.mem_of_getElem? (i := 782) (by decide +kernel)) rfl), rfl⟩
theorem d_Reader_clause_98 : decode kY_Reader_clause.2.1 98 = .ok (.invokevirtual 152, 3) := by decide +kernel
theorem lV_Reader_152 : mj_lV "TrustDesk$Reader" 152 kY_ArrayList_add_0 1 := ⟨⟨(mj_in1 (List.mem_of_getElem? (i := 804) (by decide +kernel)) rfl), (mj_in1 (List.mem_of_getElem? (i := 9) (by decide +kernel)) rfl), (mj_in1 (List.mem_of_getElem? (i := 562) (by decide +kernel)) rfl), by decide, rfl, by decide⟩, (mj_in1 (List.mem_of_getElem? (i := 560) (by decide +kernel)) rfl), (mj_in1 (List.mem_of_getElem? (i := 561) (by decide +kernel)) rfl)⟩
theorem d_Reader_clause_101 : decode kY_Reader_clause.2.1 101 = .ok (.pop, 1) := by decide +kernel
theorem d_Reader_clause_102 : decode kY_Reader_clause.2.1 102 = .ok (.goto 29, 3) := by decide +kernel
theorem d_Reader_clause_19 : decode kY_Reader_clause.2.1 19 = .ok (.iload 4, 2) := by decide +kernel
theorem d_Reader_clause_21 : decode kY_Reader_clause.2.1 21 = .ok (.ifCond .ne 18, 3) := by decide +kernel
theorem d_Reader_clause_24 : decode kY_Reader_clause.2.1 24 = .ok (.aload_n 0, 1) := by decide +kernel
theorem d_Reader_clause_25 : decode kY_Reader_clause.2.1 25 = .ok (.bipush 25, 2) := by decide +kernel
theorem d_Reader_clause_27 : decode kY_Reader_clause.2.1 27 = .ok (.invokevirtual 52, 3) := by decide +kernel
theorem d_Reader_clause_30 : decode kY_Reader_clause.2.1 30 = .ok (.ifCond .ne 9, 3) := by decide +kernel
theorem d_Reader_clause_33 : decode kY_Reader_clause.2.1 33 = .ok (.aload_n 0, 1) := by decide +kernel
theorem d_Reader_clause_34 : decode kY_Reader_clause.2.1 34 = .ok (.iconst 1, 1) := by decide +kernel
theorem d_Reader_clause_35 : decode kY_Reader_clause.2.1 35 = .ok (.invokevirtual 56, 3) := by decide +kernel
theorem d_Reader_clause_38 : decode kY_Reader_clause.2.1 38 = .ok (.ireturn, 1) := by decide +kernel
theorem lV_Reader_48 : mj_lV "TrustDesk$Reader" 48 kY_Reader_clause 2 := ⟨⟨(mj_in1 (List.mem_of_getElem? (i := 730) (by decide +kernel)) rfl), (mj_in1 (List.mem_of_getElem? (i := 3) (by decide +kernel)) rfl), (mj_in1 (List.mem_of_getElem? (i := 733) (by decide +kernel)) rfl), by decide, rfl, by decide⟩, (mj_in1 (List.mem_of_getElem? (i := 732) (by decide +kernel)) rfl), (mj_in (List.mem_append_left _ (List.mem_of_getElem? (i := 35) (by decide +kernel))) rfl)⟩
theorem d_Reader_readDeed_27 : decode kY_Reader_readDeed.2.1 27 = .ok (.ifCond .ne 5, 3) := by decide +kernel
theorem d_Reader_readDeed_32 : decode kY_Reader_readDeed.2.1 32 = .ok (.iinc 2 1, 3) := by decide +kernel
theorem d_Reader_readDeed_35 : decode kY_Reader_readDeed.2.1 35 = .ok (.goto (-27), 3) := by decide +kernel
theorem d_Reader_readDeed_30 : decode kY_Reader_readDeed.2.1 30 = .ok (.iconst 0, 1) := by decide +kernel
theorem d_Reader_readDeed_31 : decode kY_Reader_readDeed.2.1 31 = .ok (.ireturn, 1) := by decide +kernel
theorem lV_TrustDesk_128 : mj_lV "TrustDesk" 128 kY_Reader_readDeed 1 := ⟨⟨(mj_in1 (List.mem_of_getElem? (i := 726) (by decide +kernel)) rfl), (mj_in1 (List.mem_of_getElem? (i := 3) (by decide +kernel)) rfl), (mj_in1 (List.mem_of_getElem? (i := 729) (by decide +kernel)) rfl), by decide, rfl, by decide⟩, (mj_in1 (List.mem_of_getElem? (i := 727) (by decide +kernel)) rfl), (mj_in1 (List.mem_of_getElem? (i := 728) (by decide +kernel)) rfl)⟩
theorem d_TrustDesk_fund_60 : decode kY_TrustDesk_fund.2.1 60 = .ok (.istore 4, 2) := by decide +kernel
theorem d_TrustDesk_fund_62 : decode kY_TrustDesk_fund.2.1 62 = .ok (.aload_n 0, 1) := by decide +kernel
theorem d_TrustDesk_fund_63 : decode kY_TrustDesk_fund.2.1 63 = .ok (.getfield 19, 3) := by decide +kernel
theorem d_TrustDesk_fund_66 : decode kY_TrustDesk_fund.2.1 66 = .ok (.iconst 0, 1) := by decide +kernel
theorem d_TrustDesk_fund_67 : decode kY_TrustDesk_fund.2.1 67 = .ok (.putfield 88, 3) := by decide +kernel
theorem d_TrustDesk_fund_70 : decode kY_TrustDesk_fund.2.1 70 = .ok (.iload 4, 2) := by decide +kernel
theorem d_TrustDesk_fund_72 : decode kY_TrustDesk_fund.2.1 72 = .ok (.ifCond .ne 13, 3) := by decide +kernel
theorem d_TrustDesk_fund_85 : decode kY_TrustDesk_fund.2.1 85 = .ok (.aload_n 0, 1) := by decide +kernel
theorem d_TrustDesk_fund_86 : decode kY_TrustDesk_fund.2.1 86 = .ok (.getfield 53, 3) := by decide +kernel
theorem d_TrustDesk_fund_89 : decode kY_TrustDesk_fund.2.1 89 = .ok (.aload_n 3, 1) := by decide +kernel
theorem d_TrustDesk_fund_90 : decode kY_TrustDesk_fund.2.1 90 = .ok (.invokevirtual 107, 3) := by decide +kernel
theorem d_TrustDesk_fund_93 : decode kY_TrustDesk_fund.2.1 93 = .ok (.pop, 1) := by decide +kernel
theorem d_TrustDesk_fund_94 : decode kY_TrustDesk_fund.2.1 94 = .ok (.aload_n 3, 1) := by decide +kernel
theorem d_TrustDesk_fund_95 : decode kY_TrustDesk_fund.2.1 95 = .ok (.getfield 132, 3) := by decide +kernel
theorem d_TrustDesk_fund_98 : decode kY_TrustDesk_fund.2.1 98 = .ok (.ireturn, 1) := by decide +kernel
theorem d_TrustDesk_fund_75 : decode kY_TrustDesk_fund.2.1 75 = .ok (.iconst (-1), 1) := by decide +kernel
theorem d_TrustDesk_fund_76 : decode kY_TrustDesk_fund.2.1 76 = .ok (.aload_n 0, 1) := by decide +kernel
theorem d_TrustDesk_fund_77 : decode kY_TrustDesk_fund.2.1 77 = .ok (.getfield 19, 3) := by decide +kernel
theorem d_TrustDesk_fund_80 : decode kY_TrustDesk_fund.2.1 80 = .ok (.getfield 104, 3) := by decide +kernel
theorem d_TrustDesk_fund_83 : decode kY_TrustDesk_fund.2.1 83 = .ok (.isub, 1) := by decide +kernel
theorem d_TrustDesk_fund_84 : decode kY_TrustDesk_fund.2.1 84 = .ok (.ireturn, 1) := by decide +kernel
abbrev kY_TrustDesk_gather : mj_Y := (⟨"TrustDesk", "gather", "(I)Z"⟩, prog_1_method_53_code, 4, (Option.some Jvm.ClassFile.FieldType.boolean))
theorem d_TrustDesk_gather_0 : decode kY_TrustDesk_gather.2.1 0 = .ok (.aload_n 0, 1) := by decide +kernel
theorem d_TrustDesk_gather_1 : decode kY_TrustDesk_gather.2.1 1 = .ok (.iload_n 1, 1) := by decide +kernel
theorem d_TrustDesk_gather_2 : decode kY_TrustDesk_gather.2.1 2 = .ok (.invokevirtual 496, 3) := by decide +kernel
theorem lV_TrustDesk_496 : mj_lV "TrustDesk" 496 kY_TrustDesk_canGather 1 := ⟨⟨(mj_in1 (List.mem_of_getElem? (i := 1223) (by decide +kernel)) rfl), (mj_in1 (List.mem_of_getElem? (i := 1) (by decide +kernel)) rfl), (mj_in1 (List.mem_of_getElem? (i := 1226) (by decide +kernel)) rfl), by decide, rfl, by decide⟩, (mj_in1 (List.mem_of_getElem? (i := 1225) (by decide +kernel)) rfl), (mj_in (List.mem_append_left _ (List.mem_of_getElem? (i := 68) (by decide +kernel))) rfl)⟩
theorem d_TrustDesk_gather_5 : decode kY_TrustDesk_gather.2.1 5 = .ok (.ifCond .ne 5, 3) := by decide +kernel
theorem d_TrustDesk_gather_10 : decode kY_TrustDesk_gather.2.1 10 = .ok (.aload_n 0, 1) := by decide +kernel
theorem d_TrustDesk_gather_11 : decode kY_TrustDesk_gather.2.1 11 = .ok (.getfield 33, 3) := by decide +kernel
theorem f_TrustDesk_33_12 : mj_fl "TrustDesk" 33 12 3 := ⟨kR_TrustDesk, kF_TrustDesk, 13, "TrustDesk", rfl, kg_12, by decide, (mj_in1 (List.mem_of_getElem? (i := 270) (by decide +kernel)) rfl), Or.inl rfl⟩
theorem d_TrustDesk_gather_14 : decode kY_TrustDesk_gather.2.1 14 = .ok (.aload_n 0, 1) := by decide +kernel
theorem d_TrustDesk_gather_15 : decode kY_TrustDesk_gather.2.1 15 = .ok (.aload_n 0, 1) := by decide +kernel
theorem d_TrustDesk_gather_16 : decode kY_TrustDesk_gather.2.1 16 = .ok (.getfield 73, 3) := by decide +kernel
theorem d_TrustDesk_gather_19 : decode kY_TrustDesk_gather.2.1 19 = .ok (.invokevirtual 114, 3) := by decide +kernel
theorem d_TrustDesk_gather_22 : decode kY_TrustDesk_gather.2.1 22 = .ok (.iconst 1, 1) := by decide +kernel
theorem d_TrustDesk_gather_23 : decode kY_TrustDesk_gather.2.1 23 = .ok (.invokevirtual 118, 3) := by decide +kernel
theorem d_TrustDesk_gather_26 : decode kY_TrustDesk_gather.2.1 26 = .ok (.invokevirtual 499, 3) := by decide +kernel
abbrev kY_Grouping_clear : mj_Y := (⟨"TrustDesk$Grouping", "clear", "(I)V"⟩, prog_8_method_2_code, 3, (Option.none : Option Jvm.ClassFile.FieldType))
theorem d_Grouping_clear_0 : decode kY_Grouping_clear.2.1 0 = .ok (.aload_n 0, 1) := by decide +kernel
theorem d_Grouping_clear_1 : decode kY_Grouping_clear.2.1 1 = .ok (.iload_n 1, 1) := by decide +kernel
theorem d_Grouping_clear_2 : decode kY_Grouping_clear.2.1 2 = .ok (.putfield 40, 3) := by decide +kernel
theorem p_Grouping_40_7 : mj_fp "TrustDesk$Grouping" 40 7 1 (kt_Grouping 1) false := ⟨kR_Grouping, kF_Grouping, 14, "TrustDesk$Grouping", kt_Grouping, rfl, kg_7, by decide, (mj_in1 (List.mem_of_getElem? (i := 163) (by decide +kernel)) rfl), Or.inl rfl, kto_Grouping, kn_Grouping, rfl, rfl, fun h => by cases h⟩
theorem d_Grouping_clear_5 : decode kY_Grouping_clear.2.1 5 = .ok (.aload_n 0, 1) := by decide +kernel
theorem d_Grouping_clear_6 : decode kY_Grouping_clear.2.1 6 = .ok (.iconst 0, 1) := by decide +kernel
theorem d_Grouping_clear_7 : decode kY_Grouping_clear.2.1 7 = .ok (.putfield 44, 3) := by decide +kernel
theorem p_Grouping_44_7 : mj_fp "TrustDesk$Grouping" 44 7 2 (kt_Grouping 2) false := ⟨kR_Grouping, kF_Grouping, 14, "TrustDesk$Grouping", kt_Grouping, rfl, kg_7, by decide, (mj_in1 (List.mem_of_getElem? (i := 164) (by decide +kernel)) rfl), Or.inl rfl, kto_Grouping, kn_Grouping, rfl, rfl, fun h => by cases h⟩
theorem d_Grouping_clear_10 : decode kY_Grouping_clear.2.1 10 = .ok (.aload_n 0, 1) := by decide +kernel
theorem d_Grouping_clear_11 : decode kY_Grouping_clear.2.1 11 = .ok (.iconst 0, 1) := by decide +kernel
theorem d_Grouping_clear_12 : decode kY_Grouping_clear.2.1 12 = .ok (.putfield 47, 3) := by decide +kernel
theorem p_Grouping_47_7 : mj_fp "TrustDesk$Grouping" 47 7 3 (kt_Grouping 3) false := ⟨kR_Grouping, kF_Grouping, 14, "TrustDesk$Grouping", kt_Grouping, rfl, kg_7, by decide, (mj_in1 (List.mem_of_getElem? (i := 165) (by decide +kernel)) rfl), Or.inl rfl, kto_Grouping, kn_Grouping, rfl, rfl, fun h => by cases h⟩
theorem d_Grouping_clear_15 : decode kY_Grouping_clear.2.1 15 = .ok (.aload_n 0, 1) := by decide +kernel
theorem d_Grouping_clear_16 : decode kY_Grouping_clear.2.1 16 = .ok (.lconst 0, 1) := by decide +kernel
theorem d_Grouping_clear_17 : decode kY_Grouping_clear.2.1 17 = .ok (.putfield 50, 3) := by decide +kernel
theorem p_Grouping_50_7 : mj_fp "TrustDesk$Grouping" 50 7 0 (kt_Grouping 0) false := ⟨kR_Grouping, kF_Grouping, 14, "TrustDesk$Grouping", kt_Grouping, rfl, kg_7, by decide, (mj_in1 (List.mem_of_getElem? (i := 161) (by decide +kernel)) rfl), Or.inl rfl, kto_Grouping, kn_Grouping, rfl, rfl, fun h => by cases h⟩
theorem d_Grouping_clear_20 : decode kY_Grouping_clear.2.1 20 = .ok (.iconst 0, 1) := by decide +kernel
theorem d_Grouping_clear_21 : decode kY_Grouping_clear.2.1 21 = .ok (.istore_n 2, 1) := by decide +kernel
theorem d_Grouping_clear_22 : decode kY_Grouping_clear.2.1 22 = .ok (.iload_n 2, 1) := by decide +kernel
theorem d_Grouping_clear_23 : decode kY_Grouping_clear.2.1 23 = .ok (.bipush 8, 2) := by decide +kernel
theorem d_Grouping_clear_25 : decode kY_Grouping_clear.2.1 25 = .ok (.if_icmp .ge 32, 3) := by decide +kernel
theorem d_Grouping_clear_57 : decode kY_Grouping_clear.2.1 57 = .ok (.return_, 1) := by decide +kernel
theorem d_Grouping_clear_28 : decode kY_Grouping_clear.2.1 28 = .ok (.aload_n 0, 1) := by decide +kernel
theorem d_Grouping_clear_29 : decode kY_Grouping_clear.2.1 29 = .ok (.getfield 28, 3) := by decide +kernel
theorem f_Grouping_28_7 : mj_fl "TrustDesk$Grouping" 28 7 9 := ⟨kR_Grouping, kF_Grouping, 14, "TrustDesk$Grouping", rfl, kg_7, by decide, (mj_in1 (List.mem_of_getElem? (i := 171) (by decide +kernel)) rfl), Or.inl rfl⟩
theorem d_Grouping_clear_32 : decode kY_Grouping_clear.2.1 32 = .ok (.iload_n 2, 1) := by decide +kernel
theorem d_Grouping_clear_33 : decode kY_Grouping_clear.2.1 33 = .ok (.iconst 0, 1) := by decide +kernel
theorem d_Grouping_clear_34 : decode kY_Grouping_clear.2.1 34 = .ok (.iastore, 1) := by decide +kernel
theorem d_Grouping_clear_35 : decode kY_Grouping_clear.2.1 35 = .ok (.aload_n 0, 1) := by decide +kernel
theorem d_Grouping_clear_36 : decode kY_Grouping_clear.2.1 36 = .ok (.getfield 31, 3) := by decide +kernel
theorem f_Grouping_31_7 : mj_fl "TrustDesk$Grouping" 31 7 10 := ⟨kR_Grouping, kF_Grouping, 14, "TrustDesk$Grouping", rfl, kg_7, by decide, (mj_in1 (List.mem_of_getElem? (i := 172) (by decide +kernel)) rfl), Or.inl rfl⟩
theorem d_Grouping_clear_39 : decode kY_Grouping_clear.2.1 39 = .ok (.iload_n 2, 1) := by decide +kernel
theorem d_Grouping_clear_40 : decode kY_Grouping_clear.2.1 40 = .ok (.sipush 255, 3) := by decide +kernel
theorem d_Grouping_clear_43 : decode kY_Grouping_clear.2.1 43 = .ok (.iastore, 1) := by decide +kernel
theorem d_Grouping_clear_44 : decode kY_Grouping_clear.2.1 44 = .ok (.aload_n 0, 1) := by decide +kernel
theorem d_Grouping_clear_45 : decode kY_Grouping_clear.2.1 45 = .ok (.getfield 34, 3) := by decide +kernel
theorem f_Grouping_34_7 : mj_fl "TrustDesk$Grouping" 34 7 11 := ⟨kR_Grouping, kF_Grouping, 14, "TrustDesk$Grouping", rfl, kg_7, by decide, (mj_in1 (List.mem_of_getElem? (i := 173) (by decide +kernel)) rfl), Or.inl rfl⟩
theorem d_Grouping_clear_48 : decode kY_Grouping_clear.2.1 48 = .ok (.iload_n 2, 1) := by decide +kernel
theorem d_Grouping_clear_49 : decode kY_Grouping_clear.2.1 49 = .ok (.lconst 0, 1) := by decide +kernel
theorem d_Grouping_clear_50 : decode kY_Grouping_clear.2.1 50 = .ok (.lastore, 1) := by decide +kernel
theorem d_Grouping_clear_51 : decode kY_Grouping_clear.2.1 51 = .ok (.iinc 2 1, 3) := by decide +kernel
theorem d_Grouping_clear_54 : decode kY_Grouping_clear.2.1 54 = .ok (.goto (-32), 3) := by decide +kernel
def w_Grouping_clear : List Nat := [700, 701, 702, 703, 759, 760, 761]
theorem tc_Grouping_clear {g : mj_G} {l : Launch} {d : Nat} {T0 : tm_H} {M0 : mj_M} {n0 x9 : Nat} {o0 : Nat} {x1 : Int32} (h_o0 : T0 o0 = some (0, 7, 0)) (I0 : tm_I tm_FT (tm_in w_Grouping_clear) x9 T0 M0 n0 T0 M0 n0) : mj_Met g l kY_Grouping_clear d [.ref o0, .int x1] M0 n0 0 0 (tm_Q tm_FT (tm_in w_Grouping_clear) x9 T0 M0 n0 (fun r _ _ => r = none)) := by
  refine mj_enter (by decide) (Nat.le_of_ble_eq_true rfl) ?_
  refine mv_aload_n d_Grouping_clear_0 rfl rfl ?_
  refine mv_iload_n d_Grouping_clear_1 rfl rfl ?_
  refine tr_putK tm_okF I0 h_o0 (k := 1) rfl ⟨_, rfl⟩ (Or.inl (by decide)) d_Grouping_clear_2 p_Grouping_40_7 rfl rfl (fun M1 I2 q3 K4 => ?_)
  refine mv_aload_n d_Grouping_clear_5 rfl rfl ?_
  refine mv_iconst (v := 0) d_Grouping_clear_6 (by decide) ?_
  refine tr_putK tm_okF I2 h_o0 (k := 2) rfl ⟨_, rfl⟩ (Or.inl (by decide)) d_Grouping_clear_7 p_Grouping_44_7 rfl rfl (fun M5 I6 q7 K8 => ?_)
  refine mv_aload_n d_Grouping_clear_10 rfl rfl ?_
  refine mv_iconst (v := 0) d_Grouping_clear_11 (by decide) ?_
  refine tr_putK tm_okF I6 h_o0 (k := 3) rfl ⟨_, rfl⟩ (Or.inl (by decide)) d_Grouping_clear_12 p_Grouping_47_7 rfl rfl (fun M9 I10 q11 K12 => ?_)
  refine mv_aload_n d_Grouping_clear_15 rfl rfl ?_
  refine mv_lconst (v := 0) d_Grouping_clear_16 (by decide) ?_
  refine tr_putK tm_okF I10 h_o0 (k := 0) rfl ⟨_, rfl⟩ (Or.inl (by decide)) d_Grouping_clear_17 p_Grouping_50_7 rfl rfl (fun M13 I14 q15 K16 => ?_)
  refine mv_iconst (v := 0) d_Grouping_clear_20 (by decide) ?_
  refine mv_istore_n (lv' := [(2, .int 0), (0, .ref o0), (1, .int x1)]) d_Grouping_clear_21 rfl (by decide) rfl ?_
  have L22_17 : ∀ (k : Nat) (i2_17 : Int32) (T_17 : tm_H) (M_17 : mj_M) (n_17 : Nat), tm_I tm_FT (tm_in w_Grouping_clear) x9 T0 M0 n0 T_17 M_17 n_17 → T_17 o0 = some (0, 7, 0) → 0 ≤ i2_17.toInt → 2147483647 - i2_17.toInt < (k : Int) → mj_V g l kY_Grouping_clear d 22 [(2, .int i2_17), (0, .ref o0), (1, .int x1)] [] M_17 n_17 0 0 (tm_Q tm_FT (tm_in w_Grouping_clear) x9 T0 M0 n0 (fun r _ _ => r = none)) := by
    intro k17
    induction k17 with
    | zero =>
      intro i2_17 T_17 M_17 n_17 I_17 h_q0_17 iv0_17 hk17
      have := mz_hi i2_17
      omega
    | succ k17 ih17 =>
      intro i2_17 T_17 M_17 n_17 I_17 h_q0_17 iv0_17 hk17
      refine mv_iload_n d_Grouping_clear_22 rfl rfl ?_
      refine mv_bipush (v := 8) d_Grouping_clear_23 (by decide) ?_
      have := mz_hi i2_17
      refine mv_icmp_geZ (tgt := 57) (a := i2_17.toInt) (b := 8) d_Grouping_clear_25 (by decide) rfl (by decide) (fun b18 => ?_) (fun b18 => ?_)
      · exact mv_vret d_Grouping_clear_57 rfl ⟨_, I_17, rfl⟩
      · refine mv_aload_n d_Grouping_clear_28 rfl rfl ?_
        obtain ⟨a20, q19, t_a20⟩ := tm_atR I_17 h_q0_17 (k := 9) rfl
        refine tr_getK q19 d_Grouping_clear_29 f_Grouping_28_7 ?_
        refine mv_iload_n d_Grouping_clear_32 rfl rfl ?_
        refine mv_iconst (v := 0) d_Grouping_clear_33 (by decide) ?_
        refine tr_iastK tm_okF I_17 t_a20 (by decide) (Or.inl (by decide)) d_Grouping_clear_34 (vp_in_iff.mpr (by omega)) (fun M21 I22 K23 => ?_)
        refine mv_aload_n d_Grouping_clear_35 rfl rfl ?_
        obtain ⟨a25, q24, t_a25⟩ := tm_atR I22 h_q0_17 (k := 10) rfl
        refine tr_getK q24 d_Grouping_clear_36 f_Grouping_31_7 ?_
        refine mv_iload_n d_Grouping_clear_39 rfl rfl ?_
        refine mv_sipush (v := 255) d_Grouping_clear_40 (by decide) ?_
        refine tr_iastK tm_okF I22 t_a25 (by decide) (Or.inl (by decide)) d_Grouping_clear_43 (vp_in_iff.mpr (by omega)) (fun M26 I27 K28 => ?_)
        refine mv_aload_n d_Grouping_clear_44 rfl rfl ?_
        obtain ⟨a30, q29, t_a30⟩ := tm_atR I27 h_q0_17 (k := 11) rfl
        refine tr_getK q29 d_Grouping_clear_45 f_Grouping_34_7 ?_
        refine mv_iload_n d_Grouping_clear_48 rfl rfl ?_
        refine mv_lconst (v := 0) d_Grouping_clear_49 (by decide) ?_
        refine tr_lastK tm_okF I27 t_a30 (by decide) (Or.inl (by decide)) d_Grouping_clear_50 (vp_in_iff.mpr (by omega)) (fun M31 I32 K33 => ?_)
        refine mv_iinc (v := (i2_17 + 1)) (lv' := [(2, .int (i2_17 + 1)), (0, .ref o0), (1, .int x1)]) d_Grouping_clear_51 rfl rfl (by decide) rfl ?_
        refine mv_goto (tgt := 22) d_Grouping_clear_54 (by decide) ?_
        have b34 : (i2_17 + 1).toInt = i2_17.toInt + 1 := mz_addn 1 1 (by decide) (by have := mz_lo i2_17; omega) (by have := mz_hi i2_17; omega)
        exact (ih17 (i2_17 + 1) T_17 M31 n_17 I32 h_q0_17 (by first | omega | decide) (by omega))
  exact mv_less (Nat.zero_le _) (Nat.zero_le _) (L22_17 4294967296 0 T0 M13 n0 I14 h_o0 (by first | omega | decide) (by show (2147483647 - (0 : Int) : Int) < _; decide))
theorem lV_TrustDesk_499 : mj_lV "TrustDesk" 499 kY_Grouping_clear 1 := ⟨⟨(mj_in1 (List.mem_of_getElem? (i := 1227) (by decide +kernel)) rfl), (mj_in1 (List.mem_of_getElem? (i := 5) (by decide +kernel)) rfl), (mj_in1 (List.mem_of_getElem? (i := 1230) (by decide +kernel)) rfl), by decide, rfl, by decide⟩, (mj_in1 (List.mem_of_getElem? (i := 1228) (by decide +kernel)) rfl), (mj_in1 (List.mem_of_getElem? (i := 1229) (by decide +kernel)) rfl)⟩
theorem d_TrustDesk_gather_29 : decode kY_TrustDesk_gather.2.1 29 = .ok (.aload_n 0, 1) := by decide +kernel
theorem d_TrustDesk_gather_30 : decode kY_TrustDesk_gather.2.1 30 = .ok (.getfield 26, 3) := by decide +kernel
theorem d_TrustDesk_gather_33 : decode kY_TrustDesk_gather.2.1 33 = .ok (.aload_n 0, 1) := by decide +kernel
theorem d_TrustDesk_gather_34 : decode kY_TrustDesk_gather.2.1 34 = .ok (.getfield 10, 3) := by decide +kernel
theorem d_TrustDesk_gather_37 : decode kY_TrustDesk_gather.2.1 37 = .ok (.aload_n 0, 1) := by decide +kernel
theorem d_TrustDesk_gather_38 : decode kY_TrustDesk_gather.2.1 38 = .ok (.getfield 73, 3) := by decide +kernel
theorem d_TrustDesk_gather_41 : decode kY_TrustDesk_gather.2.1 41 = .ok (.invokestatic 366, 3) := by decide +kernel
theorem d_TrustDesk_gather_44 : decode kY_TrustDesk_gather.2.1 44 = .ok (.aload_n 0, 1) := by decide +kernel
theorem d_TrustDesk_gather_45 : decode kY_TrustDesk_gather.2.1 45 = .ok (.getfield 73, 3) := by decide +kernel
theorem d_TrustDesk_gather_48 : decode kY_TrustDesk_gather.2.1 48 = .ok (.invokevirtual 154, 3) := by decide +kernel
theorem d_TrustDesk_gather_51 : decode kY_TrustDesk_gather.2.1 51 = .ok (.iconst 0, 1) := by decide +kernel
theorem d_TrustDesk_gather_52 : decode kY_TrustDesk_gather.2.1 52 = .ok (.istore_n 2, 1) := by decide +kernel
theorem d_TrustDesk_gather_53 : decode kY_TrustDesk_gather.2.1 53 = .ok (.iload_n 2, 1) := by decide +kernel
theorem d_TrustDesk_gather_54 : decode kY_TrustDesk_gather.2.1 54 = .ok (.aload_n 0, 1) := by decide +kernel
theorem d_TrustDesk_gather_55 : decode kY_TrustDesk_gather.2.1 55 = .ok (.getfield 53, 3) := by decide +kernel
theorem d_TrustDesk_gather_58 : decode kY_TrustDesk_gather.2.1 58 = .ok (.invokevirtual 97, 3) := by decide +kernel
theorem d_TrustDesk_gather_61 : decode kY_TrustDesk_gather.2.1 61 = .ok (.if_icmp .ge 49, 3) := by decide +kernel
theorem d_TrustDesk_gather_110 : decode kY_TrustDesk_gather.2.1 110 = .ok (.iconst 1, 1) := by decide +kernel
theorem d_TrustDesk_gather_111 : decode kY_TrustDesk_gather.2.1 111 = .ok (.ireturn, 1) := by decide +kernel
theorem d_TrustDesk_gather_64 : decode kY_TrustDesk_gather.2.1 64 = .ok (.iload_n 1, 1) := by decide +kernel
theorem d_TrustDesk_gather_65 : decode kY_TrustDesk_gather.2.1 65 = .ok (.iload_n 2, 1) := by decide +kernel
theorem d_TrustDesk_gather_66 : decode kY_TrustDesk_gather.2.1 66 = .ok (.ishr, 1) := by decide +kernel
theorem d_TrustDesk_gather_67 : decode kY_TrustDesk_gather.2.1 67 = .ok (.iconst 1, 1) := by decide +kernel
theorem d_TrustDesk_gather_68 : decode kY_TrustDesk_gather.2.1 68 = .ok (.iand, 1) := by decide +kernel
theorem d_TrustDesk_gather_69 : decode kY_TrustDesk_gather.2.1 69 = .ok (.ifCond .eq 35, 3) := by decide +kernel
theorem d_TrustDesk_gather_104 : decode kY_TrustDesk_gather.2.1 104 = .ok (.iinc 2 1, 3) := by decide +kernel
theorem d_TrustDesk_gather_107 : decode kY_TrustDesk_gather.2.1 107 = .ok (.goto (-54), 3) := by decide +kernel
theorem d_TrustDesk_gather_72 : decode kY_TrustDesk_gather.2.1 72 = .ok (.aload_n 0, 1) := by decide +kernel
theorem d_TrustDesk_gather_73 : decode kY_TrustDesk_gather.2.1 73 = .ok (.getfield 53, 3) := by decide +kernel
theorem d_TrustDesk_gather_76 : decode kY_TrustDesk_gather.2.1 76 = .ok (.iload_n 2, 1) := by decide +kernel
theorem d_TrustDesk_gather_77 : decode kY_TrustDesk_gather.2.1 77 = .ok (.invokevirtual 158, 3) := by decide +kernel
theorem d_TrustDesk_gather_80 : decode kY_TrustDesk_gather.2.1 80 = .ok (.checkcast 123, 3) := by decide +kernel
theorem d_TrustDesk_gather_83 : decode kY_TrustDesk_gather.2.1 83 = .ok (.astore_n 3, 1) := by decide +kernel
theorem d_TrustDesk_gather_84 : decode kY_TrustDesk_gather.2.1 84 = .ok (.aload_n 0, 1) := by decide +kernel
theorem d_TrustDesk_gather_85 : decode kY_TrustDesk_gather.2.1 85 = .ok (.getfield 33, 3) := by decide +kernel
theorem d_TrustDesk_gather_88 : decode kY_TrustDesk_gather.2.1 88 = .ok (.aload_n 3, 1) := by decide +kernel
theorem d_TrustDesk_gather_89 : decode kY_TrustDesk_gather.2.1 89 = .ok (.getfield 372, 3) := by decide +kernel
theorem d_TrustDesk_gather_92 : decode kY_TrustDesk_gather.2.1 92 = .ok (.aload_n 0, 1) := by decide +kernel
theorem d_TrustDesk_gather_93 : decode kY_TrustDesk_gather.2.1 93 = .ok (.aload_n 3, 1) := by decide +kernel
theorem d_TrustDesk_gather_94 : decode kY_TrustDesk_gather.2.1 94 = .ok (.invokevirtual 502, 3) := by decide +kernel
abbrev kY_TrustDesk_spareOf : mj_Y := (⟨"TrustDesk", "spareOf", "(LTrustDesk$Fund;)J"⟩, prog_1_method_55_code, 6, (Option.some Jvm.ClassFile.FieldType.long))
theorem d_TrustDesk_spareOf_0 : decode kY_TrustDesk_spareOf.2.1 0 = .ok (.aload_n 0, 1) := by decide +kernel
theorem d_TrustDesk_spareOf_1 : decode kY_TrustDesk_spareOf.2.1 1 = .ok (.getfield 26, 3) := by decide +kernel
theorem d_TrustDesk_spareOf_4 : decode kY_TrustDesk_spareOf.2.1 4 = .ok (.aload_n 1, 1) := by decide +kernel
theorem d_TrustDesk_spareOf_5 : decode kY_TrustDesk_spareOf.2.1 5 = .ok (.invokevirtual 200, 3) := by decide +kernel
theorem d_TrustDesk_spareOf_8 : decode kY_TrustDesk_spareOf.2.1 8 = .ok (.aload_n 1, 1) := by decide +kernel
theorem d_TrustDesk_spareOf_9 : decode kY_TrustDesk_spareOf.2.1 9 = .ok (.aload_n 0, 1) := by decide +kernel
theorem d_TrustDesk_spareOf_10 : decode kY_TrustDesk_spareOf.2.1 10 = .ok (.getfield 26, 3) := by decide +kernel
theorem d_TrustDesk_spareOf_13 : decode kY_TrustDesk_spareOf.2.1 13 = .ok (.getfield 180, 3) := by decide +kernel
theorem d_TrustDesk_spareOf_16 : decode kY_TrustDesk_spareOf.2.1 16 = .ok (.bipush 6, 2) := by decide +kernel
theorem d_TrustDesk_spareOf_18 : decode kY_TrustDesk_spareOf.2.1 18 = .ok (.laload, 1) := by decide +kernel
theorem d_TrustDesk_spareOf_19 : decode kY_TrustDesk_spareOf.2.1 19 = .ok (.invokevirtual 184, 3) := by decide +kernel
theorem d_TrustDesk_spareOf_22 : decode kY_TrustDesk_spareOf.2.1 22 = .ok (.lstore_n 2, 1) := by decide +kernel
theorem d_TrustDesk_spareOf_23 : decode kY_TrustDesk_spareOf.2.1 23 = .ok (.iconst 0, 1) := by decide +kernel
theorem d_TrustDesk_spareOf_24 : decode kY_TrustDesk_spareOf.2.1 24 = .ok (.istore 4, 2) := by decide +kernel
theorem d_TrustDesk_spareOf_26 : decode kY_TrustDesk_spareOf.2.1 26 = .ok (.iload 4, 2) := by decide +kernel
theorem d_TrustDesk_spareOf_28 : decode kY_TrustDesk_spareOf.2.1 28 = .ok (.aload_n 1, 1) := by decide +kernel
theorem d_TrustDesk_spareOf_29 : decode kY_TrustDesk_spareOf.2.1 29 = .ok (.getfield 188, 3) := by decide +kernel
theorem d_TrustDesk_spareOf_32 : decode kY_TrustDesk_spareOf.2.1 32 = .ok (.invokevirtual 97, 3) := by decide +kernel
theorem d_TrustDesk_spareOf_35 : decode kY_TrustDesk_spareOf.2.1 35 = .ok (.if_icmp .ge 73, 3) := by decide +kernel
theorem d_TrustDesk_spareOf_108 : decode kY_TrustDesk_spareOf.2.1 108 = .ok (.lload_n 2, 1) := by decide +kernel
theorem d_TrustDesk_spareOf_109 : decode kY_TrustDesk_spareOf.2.1 109 = .ok (.lreturn, 1) := by decide +kernel
theorem d_TrustDesk_spareOf_38 : decode kY_TrustDesk_spareOf.2.1 38 = .ok (.aload_n 1, 1) := by decide +kernel
theorem d_TrustDesk_spareOf_39 : decode kY_TrustDesk_spareOf.2.1 39 = .ok (.getfield 188, 3) := by decide +kernel
theorem d_TrustDesk_spareOf_42 : decode kY_TrustDesk_spareOf.2.1 42 = .ok (.iload 4, 2) := by decide +kernel
theorem d_TrustDesk_spareOf_44 : decode kY_TrustDesk_spareOf.2.1 44 = .ok (.invokevirtual 158, 3) := by decide +kernel
theorem d_TrustDesk_spareOf_47 : decode kY_TrustDesk_spareOf.2.1 47 = .ok (.checkcast 191, 3) := by decide +kernel
theorem d_TrustDesk_spareOf_50 : decode kY_TrustDesk_spareOf.2.1 50 = .ok (.astore 5, 2) := by decide +kernel
theorem d_TrustDesk_spareOf_52 : decode kY_TrustDesk_spareOf.2.1 52 = .ok (.aload 5, 2) := by decide +kernel
theorem d_TrustDesk_spareOf_54 : decode kY_TrustDesk_spareOf.2.1 54 = .ok (.getfield 193, 3) := by decide +kernel
theorem d_TrustDesk_spareOf_57 : decode kY_TrustDesk_spareOf.2.1 57 = .ok (.ifCond .ne 45, 3) := by decide +kernel
theorem d_TrustDesk_spareOf_102 : decode kY_TrustDesk_spareOf.2.1 102 = .ok (.iinc 4 1, 3) := by decide +kernel
theorem d_TrustDesk_spareOf_105 : decode kY_TrustDesk_spareOf.2.1 105 = .ok (.goto (-79), 3) := by decide +kernel
theorem d_TrustDesk_spareOf_60 : decode kY_TrustDesk_spareOf.2.1 60 = .ok (.aload_n 0, 1) := by decide +kernel
theorem d_TrustDesk_spareOf_61 : decode kY_TrustDesk_spareOf.2.1 61 = .ok (.getfield 26, 3) := by decide +kernel
theorem d_TrustDesk_spareOf_64 : decode kY_TrustDesk_spareOf.2.1 64 = .ok (.aload 5, 2) := by decide +kernel
theorem d_TrustDesk_spareOf_66 : decode kY_TrustDesk_spareOf.2.1 66 = .ok (.getfield 204, 3) := by decide +kernel
theorem d_TrustDesk_spareOf_69 : decode kY_TrustDesk_spareOf.2.1 69 = .ok (.getfield 208, 3) := by decide +kernel
theorem d_TrustDesk_spareOf_72 : decode kY_TrustDesk_spareOf.2.1 72 = .ok (.invokevirtual 214, 3) := by decide +kernel
theorem d_TrustDesk_spareOf_75 : decode kY_TrustDesk_spareOf.2.1 75 = .ok (.lconst 0, 1) := by decide +kernel
theorem d_TrustDesk_spareOf_76 : decode kY_TrustDesk_spareOf.2.1 76 = .ok (.lcmp, 1) := by decide +kernel
theorem d_TrustDesk_spareOf_77 : decode kY_TrustDesk_spareOf.2.1 77 = .ok (.ifCond .eq 25, 3) := by decide +kernel
theorem d_TrustDesk_spareOf_80 : decode kY_TrustDesk_spareOf.2.1 80 = .ok (.lload_n 2, 1) := by decide +kernel
theorem d_TrustDesk_spareOf_81 : decode kY_TrustDesk_spareOf.2.1 81 = .ok (.lconst 0, 1) := by decide +kernel
theorem d_TrustDesk_spareOf_82 : decode kY_TrustDesk_spareOf.2.1 82 = .ok (.aload_n 0, 1) := by decide +kernel
theorem d_TrustDesk_spareOf_83 : decode kY_TrustDesk_spareOf.2.1 83 = .ok (.getfield 26, 3) := by decide +kernel
theorem d_TrustDesk_spareOf_86 : decode kY_TrustDesk_spareOf.2.1 86 = .ok (.aload 5, 2) := by decide +kernel
theorem d_TrustDesk_spareOf_88 : decode kY_TrustDesk_spareOf.2.1 88 = .ok (.getfield 204, 3) := by decide +kernel
theorem d_TrustDesk_spareOf_91 : decode kY_TrustDesk_spareOf.2.1 91 = .ok (.getfield 225, 3) := by decide +kernel
theorem d_TrustDesk_spareOf_94 : decode kY_TrustDesk_spareOf.2.1 94 = .ok (.invokevirtual 214, 3) := by decide +kernel
theorem d_TrustDesk_spareOf_97 : decode kY_TrustDesk_spareOf.2.1 97 = .ok (.invokestatic 228, 3) := by decide +kernel
theorem d_TrustDesk_spareOf_100 : decode kY_TrustDesk_spareOf.2.1 100 = .ok (.lsub, 1) := by decide +kernel
theorem d_TrustDesk_spareOf_101 : decode kY_TrustDesk_spareOf.2.1 101 = .ok (.lstore_n 2, 1) := by decide +kernel
def w_TrustDesk_spareOf : List Nat := [1001, 1003, 1004, 1050, 1052]
theorem tc_TrustDesk_spareOf {g : mj_G} {l : Launch} {d : Nat} {T0 : tm_H} {M0 : mj_M} {n0 x9 : Nat} {o0 : Nat} {o1 : Nat} (h_o0 : T0 o0 = some (0, 12, 0)) (h_o1 : T0 o1 = some (0, 6, 0)) (I0 : tm_I tm_FT (tm_in w_TrustDesk_spareOf) x9 T0 M0 n0 T0 M0 n0) : mj_Met g l kY_TrustDesk_spareOf (d + 4) [.ref o0, .ref o1] M0 n0 0 0 (tm_Q tm_FT (tm_in w_TrustDesk_spareOf) x9 T0 M0 n0 (fun r _ _ => ∃ v : Int64, r = some (.long v))) := by
  refine mj_enter (by decide) (Nat.le_of_ble_eq_true rfl) ?_
  refine mv_aload_n d_TrustDesk_spareOf_0 rfl rfl ?_
  obtain ⟨a2, q1, t_a2⟩ := tm_atR I0 h_o0 (k := 2) rfl
  refine tr_getK q1 d_TrustDesk_spareOf_1 f_TrustDesk_26_12 ?_
  refine mv_aload_n d_TrustDesk_spareOf_4 rfl rfl ?_
  obtain ⟨_, b9, -⟩ := I0.1 _ _ t_a2
  refine mv_callV (kc' := 0) (ks' := 0) (As := [.ref o1]) (st9 := [.ref o1, .ref a2]) d_TrustDesk_spareOf_5 lV_TrustDesk_200 b9 rfl (tc_Reckoner_knowFund (d := (d + 2)) (x9 := x9) (o0 := a2) (o1 := o1) t_a2 h_o1 I0.start) rfl (Nat.le_of_ble_eq_true rfl) (Nat.le_of_ble_eq_true rfl) (Nat.le_of_ble_eq_true rfl) (hst := rfl) (fun b3r M4 n5 b3 => ?_)
  obtain ⟨T6, J7, rfl⟩ := b3
  have I8 := I0.call J7 (tm_sub (by decide)) (Or.inl rfl)
  have t10 := J7.up h_o0
  have t11 := J7.up h_o1
  have q12 := J7.keep h_o0 (by decide) q1
  have t13 := J7.up t_a2
  refine mv_aload_n d_TrustDesk_spareOf_8 rfl rfl ?_
  refine mv_aload_n d_TrustDesk_spareOf_9 rfl rfl ?_
  refine tr_getK (k := 2) q12 d_TrustDesk_spareOf_10 f_TrustDesk_26_12 ?_
  obtain ⟨a15, q14, t_a15⟩ := tm_atR I8 t13 (k := 0) rfl
  refine tr_getK q14 d_TrustDesk_spareOf_13 f_TrustDesk_180_10 ?_
  refine mv_bipush (v := 6) d_TrustDesk_spareOf_16 (by decide) ?_
  refine tr_lald I8 t_a15 (by decide) d_TrustDesk_spareOf_18 (by unfold vp_in; decide) (fun v16 => ?_)
  obtain ⟨_, b23, -⟩ := I8.1 _ _ t11
  refine mv_callV (kc' := 0) (ks' := 0) (As := [.long v16]) (st9 := [.long v16, .ref o1]) d_TrustDesk_spareOf_19 lV_TrustDesk_184 b23 rfl (tc_Fund_incomeAt (d := (d + 3)) (x9 := x9) (o0 := o1) (x1 := v16) t11 I8.start) rfl (Nat.le_of_ble_eq_true rfl) (Nat.le_of_ble_eq_true rfl) (Nat.le_of_ble_eq_true rfl) (hst := rfl) (fun b17r M18 n19 b17 => ?_)
  obtain ⟨T20, J21, v24, rfl⟩ := b17
  have I22 := I8.call J21 (tm_sub (by decide)) (Or.inl rfl)
  have t25 := J21.up t10
  have t26 := J21.up t11
  have q27 := J21.keep t10 (by decide) q12
  have t28 := J21.up t13
  have q29 := J21.keep t13 (by decide) q14
  have t30 := J21.up t_a15
  refine mv_lstore_n (lv' := [(2, .long v24), (0, .ref o0), (1, .ref o1)]) d_TrustDesk_spareOf_22 rfl (by decide) rfl ?_
  refine mv_iconst (v := 0) d_TrustDesk_spareOf_23 (by decide) ?_
  refine mv_istore (lv' := [(4, .int 0), (2, .long v24), (0, .ref o0), (1, .ref o1)]) d_TrustDesk_spareOf_24 (by decide) rfl ?_
  have L26_31 : ∀ (k : Nat) (i4_31 : Int32) (l2_31 : Int64) (T_31 : tm_H) (M_31 : mj_M) (n_31 : Nat), tm_I tm_FT (tm_in w_TrustDesk_spareOf) x9 T0 M0 n0 T_31 M_31 n_31 → T_31 o0 = some (0, 12, 0) → T_31 o1 = some (0, 6, 0) → 0 ≤ i4_31.toInt → 2147483647 - i4_31.toInt < (k : Int) → mj_V g l kY_TrustDesk_spareOf (d + 4) 26 [(4, .int i4_31), (2, .long l2_31), (0, .ref o0), (1, .ref o1)] [] M_31 n_31 0 0 (tm_Q tm_FT (tm_in w_TrustDesk_spareOf) x9 T0 M0 n0 (fun r _ _ => ∃ v : Int64, r = some (.long v))) := by
    intro k31
    induction k31 with
    | zero =>
      intro i4_31 l2_31 T_31 M_31 n_31 I_31 h_q0_31 h_q1_31 iv0_31 hk31
      have := mz_hi i4_31
      omega
    | succ k31 ih31 =>
      intro i4_31 l2_31 T_31 M_31 n_31 I_31 h_q0_31 h_q1_31 iv0_31 hk31
      refine mv_iload d_TrustDesk_spareOf_26 rfl ?_
      refine mv_aload_n d_TrustDesk_spareOf_28 rfl rfl ?_
      obtain ⟨a33, q32, t_a33⟩ := tm_atO I_31 h_q1_31 (k := 11) rfl
      refine tr_getK q32 d_TrustDesk_spareOf_29 f_TrustDesk_188_6 ?_
      obtain ⟨m35, n39, e36, N37, f38, h34⟩ := I_31.1 _ _ t_a33
      have := h34.2.1
      have : n39.toInt ≤ 72 := h34.2.2.1
      have q40 : tm_at M_31 a33 0 2 (.int n39) := ⟨_, h34.1, rfl⟩
      refine mv_callV_s (kc' := 0) (ks' := 0) [] [.ref a33, .int i4_31] d_TrustDesk_spareOf_32 lV_TrustDesk_97 h34.1 rfl (tc_L_size (d := (d + 3)) h34.1) rfl (Nat.le_of_ble_eq_true rfl) (Nat.le_of_ble_eq_true rfl) (Nat.le_of_ble_eq_true rfl) rfl ?_
      have := mz_hi i4_31
      have := mz_hi n39
      refine mv_icmp_geZ (tgt := 108) (a := i4_31.toInt) (b := n39.toInt) d_TrustDesk_spareOf_35 (by decide) rfl rfl (fun b41 => ?_) (fun b41 => ?_)
      · refine mv_lload_n d_TrustDesk_spareOf_108 rfl rfl ?_
        exact mv_lret d_TrustDesk_spareOf_109 rfl ⟨_, I_31, _, rfl⟩
      · refine mv_aload_n d_TrustDesk_spareOf_38 rfl rfl ?_
        refine tr_getK (k := 11) q32 d_TrustDesk_spareOf_39 f_TrustDesk_188_6 ?_
        refine mv_iload d_TrustDesk_spareOf_42 rfl ?_
        obtain ⟨m43, e44, N45, f46, h42⟩ := tm_lsn I_31 t_a33 q40
        obtain ⟨u47e, u47i, a48, u47f, u47t⟩ := tm_el (i := i4_31) h42 (by omega) (by omega)
        have t_a48 : T_31 a48 = some (0, 3, 0) := u47t
        refine mv_callV_s (kc' := 0) (ks' := 0) [.int i4_31] [.int i4_31, .ref a33] d_TrustDesk_spareOf_44 lV_TrustDesk_158 h42.1 rfl (tc_L_get (d := (d + 1)) h42.1 u47e (by omega) (by omega) u47i u47f) rfl (Nat.le_of_ble_eq_true rfl) (Nat.le_of_ble_eq_true rfl) (Nat.le_of_ble_eq_true rfl) rfl ?_
        obtain ⟨_, b49, -⟩ := I_31.1 _ _ t_a48
        refine mv_castS (T9 := kF_End) (N := 4) d_TrustDesk_spareOf_47 (mj_in1 (List.mem_of_getElem? (i := 877) (by decide +kernel)) rfl) b49 rfl ?_
        refine mv_astore (lv' := [(5, .ref a48), (4, .int i4_31), (2, .long l2_31), (0, .ref o0), (1, .ref o1)]) d_TrustDesk_spareOf_50 (by decide) rfl ?_
        refine mv_aload d_TrustDesk_spareOf_52 rfl ?_
        obtain ⟨v51, q50⟩ := tm_atI I_31 t_a48 (k := 1) rfl
        refine tr_getK q50 d_TrustDesk_spareOf_54 f_TrustDesk_193_3 ?_
        have := mz_hi v51
        refine mv_if_neZ (tgt := 102) (a := v51.toInt) d_TrustDesk_spareOf_57 (by decide) rfl (fun b52 => ?_) (fun b52 => ?_)
        · refine mv_iinc (v := (i4_31 + 1)) (lv' := [(4, .int (i4_31 + 1)), (5, .ref a48), (2, .long l2_31), (0, .ref o0), (1, .ref o1)]) d_TrustDesk_spareOf_102 rfl rfl (by decide) rfl ?_
          refine mv_goto (tgt := 26) d_TrustDesk_spareOf_105 (by decide) ?_
          refine mv_locals (lv' := [(4, .int (i4_31 + 1)), (2, .long l2_31), (0, .ref o0), (1, .ref o1)]) (by intro q hq; simp only [List.mem_cons, List.not_mem_nil, or_false] at hq; rcases hq with rfl | rfl | rfl | rfl <;> rfl) ?_
          have b53 : (i4_31 + 1).toInt = i4_31.toInt + 1 := mz_addn 1 1 (by decide) (by have := mz_lo i4_31; omega) (by have := mz_hi i4_31; omega)
          exact (ih31 (i4_31 + 1) l2_31 T_31 M_31 n_31 I_31 h_q0_31 h_q1_31 (by first | omega | decide) (by omega))
        · refine mv_aload_n d_TrustDesk_spareOf_60 rfl rfl ?_
          obtain ⟨a55, q54, t_a55⟩ := tm_atR I_31 h_q0_31 (k := 2) rfl
          refine tr_getK q54 d_TrustDesk_spareOf_61 f_TrustDesk_26_12 ?_
          refine mv_aload d_TrustDesk_spareOf_64 rfl ?_
          obtain ⟨a57, q56, t_a57⟩ := tm_atR I_31 t_a48 (k := 0) rfl
          refine tr_getK q56 d_TrustDesk_spareOf_66 f_TrustDesk_204_3 ?_
          obtain ⟨a59, q58, t_a59⟩ := tm_atR I_31 t_a57 (k := 3) rfl
          refine tr_getK q58 d_TrustDesk_spareOf_69 f_TrustDesk_208_4 ?_
          obtain ⟨_, b66, -⟩ := I_31.1 _ _ t_a55
          refine mv_callV (kc' := 0) (ks' := 0) (As := [.ref a59]) (st9 := [.ref a59, .ref a55]) d_TrustDesk_spareOf_72 lV_TrustDesk_214 b66 rfl (tc_Reckoner_run (d := d) (x9 := x9) (o0 := a55) (o1 := a59) t_a55 t_a59 I_31.start) rfl (Nat.le_of_ble_eq_true rfl) (Nat.le_of_ble_eq_true rfl) (Nat.le_of_ble_eq_true rfl) (hst := rfl) (fun b60r M61 n62 b60 => ?_)
          obtain ⟨T63, J64, v67, rfl⟩ := b60
          have I65 := I_31.call J64 (tm_sub (by decide)) (Or.inl rfl)
          have t68 := J64.up t_a48
          have t69 := J64.up h_q0_31
          have t70 := J64.up h_q1_31
          have q71 := J64.keep h_q1_31 (by decide) q32
          have t72 := J64.up t_a33
          have q73 := J64.keepL t_a33 (by decide) q40
          have q74 := J64.keep t_a48 (by decide) q50
          have q75 := J64.keep h_q0_31 (by decide) q54
          have t76 := J64.up t_a55
          have q77 := J64.keep t_a48 (by decide) q56
          have t78 := J64.up t_a57
          have q79 := J64.keep t_a57 (by decide) q58
          have t80 := J64.up t_a59
          refine mv_lconst (v := 0) d_TrustDesk_spareOf_75 (by decide) ?_
          refine mv_leqZ (tgt := 102) (a := v67.toInt) (b := 0) d_TrustDesk_spareOf_76 d_TrustDesk_spareOf_77 (by decide) rfl (by decide) (fun b81 => ?_) (fun b81 => ?_)
          · refine mv_iinc (v := (i4_31 + 1)) (lv' := [(4, .int (i4_31 + 1)), (5, .ref a48), (2, .long l2_31), (0, .ref o0), (1, .ref o1)]) d_TrustDesk_spareOf_102 rfl rfl (by decide) rfl ?_
            refine mv_goto (tgt := 26) d_TrustDesk_spareOf_105 (by decide) ?_
            refine mv_locals (lv' := [(4, .int (i4_31 + 1)), (2, .long l2_31), (0, .ref o0), (1, .ref o1)]) (by intro q hq; simp only [List.mem_cons, List.not_mem_nil, or_false] at hq; rcases hq with rfl | rfl | rfl | rfl <;> rfl) ?_
            have b82 : (i4_31 + 1).toInt = i4_31.toInt + 1 := mz_addn 1 1 (by decide) (by have := mz_lo i4_31; omega) (by have := mz_hi i4_31; omega)
            exact (ih31 (i4_31 + 1) l2_31 T63 M61 n62 I65 t69 t70 (by first | omega | decide) (by omega))
          · refine mv_lload_n d_TrustDesk_spareOf_80 rfl rfl ?_
            refine mv_lconst (v := 0) d_TrustDesk_spareOf_81 (by decide) ?_
            refine mv_aload_n d_TrustDesk_spareOf_82 rfl rfl ?_
            refine tr_getK (k := 2) q75 d_TrustDesk_spareOf_83 f_TrustDesk_26_12 ?_
            refine mv_aload d_TrustDesk_spareOf_86 rfl ?_
            refine tr_getK (k := 0) q77 d_TrustDesk_spareOf_88 f_TrustDesk_204_3 ?_
            obtain ⟨a84, q83, t_a84⟩ := tm_atR I65 t78 (k := 2) rfl
            refine tr_getK q83 d_TrustDesk_spareOf_91 f_TrustDesk_225_4 ?_
            obtain ⟨_, b91, -⟩ := I65.1 _ _ t76
            refine mv_callV (kc' := 0) (ks' := 0) (As := [.ref a84]) (st9 := [.ref a84, .ref a55, .long 0, .long l2_31]) d_TrustDesk_spareOf_94 lV_TrustDesk_214 b91 rfl (tc_Reckoner_run (d := d) (x9 := x9) (o0 := a55) (o1 := a84) t76 t_a84 I65.start) rfl (Nat.le_of_ble_eq_true rfl) (Nat.le_of_ble_eq_true rfl) (Nat.le_of_ble_eq_true rfl) (hst := rfl) (fun b85r M86 n87 b85 => ?_)
            obtain ⟨T88, J89, v92, rfl⟩ := b85
            have I90 := I65.call J89 (tm_sub (by decide)) (Or.inl rfl)
            have t93 := J89.up t68
            have t94 := J89.up t69
            have t95 := J89.up t70
            have q96 := J89.keep t70 (by decide) q71
            have t97 := J89.up t72
            have q98 := J89.keepL t72 (by decide) q73
            have q99 := J89.keep t68 (by decide) q74
            have q100 := J89.keep t69 (by decide) q75
            have t101 := J89.up t76
            have q102 := J89.keep t68 (by decide) q77
            have t103 := J89.up t78
            have q104 := J89.keep t78 (by decide) q79
            have t105 := J89.up t80
            have q106 := J89.keep t78 (by decide) q83
            have t107 := J89.up t_a84
            refine mv_mmax_long (v := (if v92 < 0 then 0 else v92)) d_TrustDesk_spareOf_97 (mj_in1 (List.mem_of_getElem? (i := 920) (by decide +kernel)) rfl) (Nat.le_of_ble_eq_true rfl) rfl ?_
            refine mv_lsub d_TrustDesk_spareOf_100 ?_
            refine mv_lstore_n (lv' := [(2, .long (l2_31 - (if v92 < 0 then 0 else v92))), (5, .ref a48), (4, .int i4_31), (0, .ref o0), (1, .ref o1)]) d_TrustDesk_spareOf_101 rfl (by decide) rfl ?_
            refine mv_iinc (v := (i4_31 + 1)) (lv' := [(4, .int (i4_31 + 1)), (2, .long (l2_31 - (if v92 < 0 then 0 else v92))), (5, .ref a48), (0, .ref o0), (1, .ref o1)]) d_TrustDesk_spareOf_102 rfl rfl (by decide) rfl ?_
            refine mv_goto (tgt := 26) d_TrustDesk_spareOf_105 (by decide) ?_
            refine mv_locals (lv' := [(4, .int (i4_31 + 1)), (2, .long (l2_31 - (if v92 < 0 then 0 else v92))), (0, .ref o0), (1, .ref o1)]) (by intro q hq; simp only [List.mem_cons, List.not_mem_nil, or_false] at hq; rcases hq with rfl | rfl | rfl | rfl <;> rfl) ?_
            have b108 : (i4_31 + 1).toInt = i4_31.toInt + 1 := mz_addn 1 1 (by decide) (by have := mz_lo i4_31; omega) (by have := mz_hi i4_31; omega)
            exact (ih31 (i4_31 + 1) (l2_31 - (if v92 < 0 then 0 else v92)) T88 M86 n87 I90 t94 t95 (by first | omega | decide) (by omega))
  exact mv_less (Nat.zero_le _) (Nat.zero_le _) (L26_31 4294967296 0 v24 T20 M18 n19 I22 t25 t26 (by first | omega | decide) (by show (2147483647 - (0 : Int) : Int) < _; decide))
theorem lV_TrustDesk_502 : mj_lV "TrustDesk" 502 kY_TrustDesk_spareOf 1 := ⟨⟨(mj_in1 (List.mem_of_getElem? (i := 1231) (by decide +kernel)) rfl), (mj_in1 (List.mem_of_getElem? (i := 1) (by decide +kernel)) rfl), (mj_in1 (List.mem_of_getElem? (i := 1234) (by decide +kernel)) rfl), by decide, rfl, by decide⟩, (mj_in1 (List.mem_of_getElem? (i := 1233) (by decide +kernel)) rfl), (mj_in (List.mem_append_left _ (List.mem_of_getElem? (i := 69) (by decide +kernel))) rfl)⟩
theorem d_TrustDesk_gather_97 : decode kY_TrustDesk_gather.2.1 97 = .ok (.aload_n 3, 1) := by decide +kernel
theorem d_TrustDesk_gather_98 : decode kY_TrustDesk_gather.2.1 98 = .ok (.getfield 489, 3) := by decide +kernel
theorem f_TrustDesk_489_6 : mj_fl "TrustDesk" 489 6 9 := ⟨kR_Fund, kF_Fund, 15, "TrustDesk$Fund", rfl, kg_6, by decide, (mj_in1 (List.mem_of_getElem? (i := 686) (by decide +kernel)) rfl), Or.inl rfl⟩
theorem d_TrustDesk_gather_101 : decode kY_TrustDesk_gather.2.1 101 = .ok (.invokevirtual 505, 3) := by decide +kernel
abbrev kY_Grouping_take : mj_Y := (⟨"TrustDesk$Grouping", "take", "(IJI)V"⟩, prog_8_method_3_code, 5, (Option.none : Option Jvm.ClassFile.FieldType))
theorem d_Grouping_take_0 : decode kY_Grouping_take.2.1 0 = .ok (.aload_n 0, 1) := by decide +kernel
theorem d_Grouping_take_1 : decode kY_Grouping_take.2.1 1 = .ok (.getfield 44, 3) := by decide +kernel
theorem f_Grouping_44_7 : mj_fl "TrustDesk$Grouping" 44 7 2 := ⟨kR_Grouping, kF_Grouping, 14, "TrustDesk$Grouping", rfl, kg_7, by decide, (mj_in1 (List.mem_of_getElem? (i := 164) (by decide +kernel)) rfl), Or.inl rfl⟩
theorem d_Grouping_take_4 : decode kY_Grouping_take.2.1 4 = .ok (.ifCond .lt 12, 3) := by decide +kernel
theorem d_Grouping_take_16 : decode kY_Grouping_take.2.1 16 = .ok (.return_, 1) := by decide +kernel
theorem d_Grouping_take_7 : decode kY_Grouping_take.2.1 7 = .ok (.aload_n 0, 1) := by decide +kernel
theorem d_Grouping_take_8 : decode kY_Grouping_take.2.1 8 = .ok (.getfield 44, 3) := by decide +kernel
theorem d_Grouping_take_11 : decode kY_Grouping_take.2.1 11 = .ok (.bipush 8, 2) := by decide +kernel
theorem d_Grouping_take_13 : decode kY_Grouping_take.2.1 13 = .ok (.if_icmp .lt 4, 3) := by decide +kernel
theorem d_Grouping_take_17 : decode kY_Grouping_take.2.1 17 = .ok (.aload_n 0, 1) := by decide +kernel
theorem d_Grouping_take_18 : decode kY_Grouping_take.2.1 18 = .ok (.getfield 9, 3) := by decide +kernel
theorem f_Grouping_9_7 : mj_fl "TrustDesk$Grouping" 9 7 4 := ⟨kR_Grouping, kF_Grouping, 14, "TrustDesk$Grouping", rfl, kg_7, by decide, (mj_in1 (List.mem_of_getElem? (i := 166) (by decide +kernel)) rfl), Or.inl rfl⟩
theorem d_Grouping_take_21 : decode kY_Grouping_take.2.1 21 = .ok (.aload_n 0, 1) := by decide +kernel
theorem d_Grouping_take_22 : decode kY_Grouping_take.2.1 22 = .ok (.getfield 44, 3) := by decide +kernel
theorem d_Grouping_take_25 : decode kY_Grouping_take.2.1 25 = .ok (.iload_n 1, 1) := by decide +kernel
theorem d_Grouping_take_26 : decode kY_Grouping_take.2.1 26 = .ok (.iastore, 1) := by decide +kernel
theorem d_Grouping_take_27 : decode kY_Grouping_take.2.1 27 = .ok (.aload_n 0, 1) := by decide +kernel
theorem d_Grouping_take_28 : decode kY_Grouping_take.2.1 28 = .ok (.getfield 15, 3) := by decide +kernel
theorem f_Grouping_15_7 : mj_fl "TrustDesk$Grouping" 15 7 5 := ⟨kR_Grouping, kF_Grouping, 14, "TrustDesk$Grouping", rfl, kg_7, by decide, (mj_in1 (List.mem_of_getElem? (i := 167) (by decide +kernel)) rfl), Or.inl rfl⟩
theorem d_Grouping_take_31 : decode kY_Grouping_take.2.1 31 = .ok (.aload_n 0, 1) := by decide +kernel
theorem d_Grouping_take_32 : decode kY_Grouping_take.2.1 32 = .ok (.getfield 44, 3) := by decide +kernel
theorem d_Grouping_take_35 : decode kY_Grouping_take.2.1 35 = .ok (.lload_n 2, 1) := by decide +kernel
theorem d_Grouping_take_36 : decode kY_Grouping_take.2.1 36 = .ok (.lastore, 1) := by decide +kernel
theorem d_Grouping_take_37 : decode kY_Grouping_take.2.1 37 = .ok (.aload_n 0, 1) := by decide +kernel
theorem d_Grouping_take_38 : decode kY_Grouping_take.2.1 38 = .ok (.getfield 19, 3) := by decide +kernel
theorem f_Grouping_19_7 : mj_fl "TrustDesk$Grouping" 19 7 6 := ⟨kR_Grouping, kF_Grouping, 14, "TrustDesk$Grouping", rfl, kg_7, by decide, (mj_in1 (List.mem_of_getElem? (i := 168) (by decide +kernel)) rfl), Or.inl rfl⟩
theorem d_Grouping_take_41 : decode kY_Grouping_take.2.1 41 = .ok (.aload_n 0, 1) := by decide +kernel
theorem d_Grouping_take_42 : decode kY_Grouping_take.2.1 42 = .ok (.getfield 44, 3) := by decide +kernel
theorem d_Grouping_take_45 : decode kY_Grouping_take.2.1 45 = .ok (.iload 4, 2) := by decide +kernel
theorem d_Grouping_take_47 : decode kY_Grouping_take.2.1 47 = .ok (.iastore, 1) := by decide +kernel
theorem d_Grouping_take_48 : decode kY_Grouping_take.2.1 48 = .ok (.aload_n 0, 1) := by decide +kernel
theorem d_Grouping_take_49 : decode kY_Grouping_take.2.1 49 = .ok (.dup, 1) := by decide +kernel
theorem d_Grouping_take_50 : decode kY_Grouping_take.2.1 50 = .ok (.getfield 44, 3) := by decide +kernel
theorem d_Grouping_take_53 : decode kY_Grouping_take.2.1 53 = .ok (.iconst 1, 1) := by decide +kernel
theorem d_Grouping_take_54 : decode kY_Grouping_take.2.1 54 = .ok (.iadd, 1) := by decide +kernel
theorem d_Grouping_take_55 : decode kY_Grouping_take.2.1 55 = .ok (.putfield 44, 3) := by decide +kernel
theorem d_Grouping_take_58 : decode kY_Grouping_take.2.1 58 = .ok (.return_, 1) := by decide +kernel
def w_Grouping_take : List Nat := [702, 754, 755, 756]
theorem tc_Grouping_take {g : mj_G} {l : Launch} {d : Nat} {T0 : tm_H} {M0 : mj_M} {n0 x9 : Nat} {o0 : Nat} {x1 : Int32} {x2 : Int64} {x3 : Int32} (h_o0 : T0 o0 = some (0, 7, 0)) (I0 : tm_I tm_FT (tm_in w_Grouping_take) x9 T0 M0 n0 T0 M0 n0) : mj_Met g l kY_Grouping_take d [.ref o0, .int x1, .long x2, .int x3] M0 n0 0 0 (tm_Q tm_FT (tm_in w_Grouping_take) x9 T0 M0 n0 (fun r _ _ => r = none)) := by
  refine mj_enter (by decide) (Nat.le_of_ble_eq_true rfl) ?_
  refine mv_aload_n d_Grouping_take_0 rfl rfl ?_
  obtain ⟨v2, q1⟩ := tm_atI I0 h_o0 (k := 2) rfl
  refine tr_getK q1 d_Grouping_take_1 f_Grouping_44_7 ?_
  have := mz_hi v2
  refine mv_if_ltZ (tgt := 16) (a := v2.toInt) d_Grouping_take_4 (by decide) rfl (fun b3 => ?_) (fun b3 => ?_)
  · exact mv_vret d_Grouping_take_16 rfl ⟨_, I0, rfl⟩
  · refine mv_aload_n d_Grouping_take_7 rfl rfl ?_
    refine tr_getK (k := 2) q1 d_Grouping_take_8 f_Grouping_44_7 ?_
    refine mv_bipush (v := 8) d_Grouping_take_11 (by decide) ?_
    have := mz_hi v2
    refine mv_icmp_ltZ (tgt := 17) (a := v2.toInt) (b := 8) d_Grouping_take_13 (by decide) rfl (by decide) (fun b4 => ?_) (fun b4 => ?_)
    · refine mv_aload_n d_Grouping_take_17 rfl rfl ?_
      obtain ⟨a6, q5, t_a6⟩ := tm_atR I0 h_o0 (k := 4) rfl
      refine tr_getK q5 d_Grouping_take_18 f_Grouping_9_7 ?_
      refine mv_aload_n d_Grouping_take_21 rfl rfl ?_
      refine tr_getK (k := 2) q1 d_Grouping_take_22 f_Grouping_44_7 ?_
      refine mv_iload_n d_Grouping_take_25 rfl rfl ?_
      refine tr_iastK tm_okF I0 t_a6 (by decide) (Or.inl (by decide)) d_Grouping_take_26 (vp_in_iff.mpr (by omega)) (fun M7 I8 K9 => ?_)
      refine mv_aload_n d_Grouping_take_27 rfl rfl ?_
      obtain ⟨a11, q10, t_a11⟩ := tm_atR I8 h_o0 (k := 5) rfl
      refine tr_getK q10 d_Grouping_take_28 f_Grouping_15_7 ?_
      refine mv_aload_n d_Grouping_take_31 rfl rfl ?_
      refine tr_getK (k := 2) (K9 _ 7 2 _ q1) d_Grouping_take_32 f_Grouping_44_7 ?_
      refine mv_lload_n d_Grouping_take_35 rfl rfl ?_
      refine tr_lastK tm_okF I8 t_a11 (by decide) (Or.inl (by decide)) d_Grouping_take_36 (vp_in_iff.mpr (by omega)) (fun M12 I13 K14 => ?_)
      refine mv_aload_n d_Grouping_take_37 rfl rfl ?_
      obtain ⟨a16, q15, t_a16⟩ := tm_atR I13 h_o0 (k := 6) rfl
      refine tr_getK q15 d_Grouping_take_38 f_Grouping_19_7 ?_
      refine mv_aload_n d_Grouping_take_41 rfl rfl ?_
      refine tr_getK (k := 2) (K14 _ 7 2 _ (K9 _ 7 2 _ q1)) d_Grouping_take_42 f_Grouping_44_7 ?_
      refine mv_iload d_Grouping_take_45 rfl ?_
      refine tr_iastK tm_okF I13 t_a16 (by decide) (Or.inl (by decide)) d_Grouping_take_47 (vp_in_iff.mpr (by omega)) (fun M17 I18 K19 => ?_)
      refine mv_aload_n d_Grouping_take_48 rfl rfl ?_
      refine mv_dup d_Grouping_take_49 rfl ?_
      refine tr_getK (k := 2) (K19 _ 7 2 _ (K14 _ 7 2 _ (K9 _ 7 2 _ q1))) d_Grouping_take_50 f_Grouping_44_7 ?_
      refine mv_iconst (v := 1) d_Grouping_take_53 (by decide) ?_
      refine mv_iadd d_Grouping_take_54 ?_
      refine tr_putK tm_okF I18 h_o0 (k := 2) rfl ⟨_, rfl⟩ (Or.inl (by decide)) d_Grouping_take_55 p_Grouping_44_7 rfl rfl (fun M20 I21 q22 K23 => ?_)
      exact mv_vret d_Grouping_take_58 rfl ⟨_, I21, rfl⟩
    · exact mv_vret d_Grouping_take_16 rfl ⟨_, I0, rfl⟩
theorem lV_TrustDesk_505 : mj_lV "TrustDesk" 505 kY_Grouping_take 3 := ⟨⟨(mj_in1 (List.mem_of_getElem? (i := 1235) (by decide +kernel)) rfl), (mj_in1 (List.mem_of_getElem? (i := 5) (by decide +kernel)) rfl), (mj_in1 (List.mem_of_getElem? (i := 1238) (by decide +kernel)) rfl), by decide, rfl, by decide⟩, (mj_in1 (List.mem_of_getElem? (i := 1236) (by decide +kernel)) rfl), (mj_in1 (List.mem_of_getElem? (i := 1237) (by decide +kernel)) rfl)⟩
theorem d_TrustDesk_gather_8 : decode kY_TrustDesk_gather.2.1 8 = .ok (.iconst 0, 1) := by decide +kernel
theorem d_TrustDesk_gather_9 : decode kY_TrustDesk_gather.2.1 9 = .ok (.ireturn, 1) := by decide +kernel
def w_TrustDesk_gather : List Nat := [700, 701, 702, 703, 754, 755, 756, 759, 760, 761, 1001, 1003, 1004, 1050, 1052]
theorem tc_TrustDesk_gather {g : mj_G} {l : Launch} {d : Nat} {T0 : tm_H} {M0 : mj_M} {n0 x9 : Nat} {o0 : Nat} {x1 : Int32} (h_o0 : T0 o0 = some (0, 12, 0)) (I0 : tm_I tm_FT (tm_in w_TrustDesk_gather) x9 T0 M0 n0 T0 M0 n0) : mj_Met g l kY_TrustDesk_gather (d + 5) [.ref o0, .int x1] M0 n0 0 0 (tm_Q tm_FT (tm_in w_TrustDesk_gather) x9 T0 M0 n0 (fun r _ _ => ∃ v : Int32, r = some (.int v) ∧ 0 ≤ v.toInt ∧ v.toInt ≤ 1)) := by
  refine mj_enter (by decide) (Nat.le_of_ble_eq_true rfl) ?_
  refine mv_aload_n d_TrustDesk_gather_0 rfl rfl ?_
  refine mv_iload_n d_TrustDesk_gather_1 rfl rfl ?_
  obtain ⟨_, b7, -⟩ := I0.1 _ _ h_o0
  refine mv_callV (kc' := 0) (ks' := 0) (As := [.int x1]) (st9 := [.int x1, .ref o0]) d_TrustDesk_gather_2 lV_TrustDesk_496 b7 rfl (tc_TrustDesk_canGather (d := (d + 1)) (x9 := x9) (o0 := o0) (x1 := x1) h_o0 I0.start) rfl (Nat.le_of_ble_eq_true rfl) (Nat.le_of_ble_eq_true rfl) (Nat.le_of_ble_eq_true rfl) (hst := rfl) (fun b1r M2 n3 b1 => ?_)
  obtain ⟨T4, J5, v8, rfl, b9, b10⟩ := b1
  have I6 := I0.call J5 (tm_sub (by decide)) (Or.inl rfl)
  have t11 := J5.up h_o0
  have := mz_hi v8
  refine mv_if_neZ (tgt := 10) (a := v8.toInt) d_TrustDesk_gather_5 (by decide) rfl (fun b12 => ?_) (fun b12 => ?_)
  · refine mv_aload_n d_TrustDesk_gather_10 rfl rfl ?_
    obtain ⟨a14, q13, t_a14⟩ := tm_atR I6 t11 (k := 3) rfl
    refine tr_getK q13 d_TrustDesk_gather_11 f_TrustDesk_33_12 ?_
    refine mv_aload_n d_TrustDesk_gather_14 rfl rfl ?_
    refine mv_aload_n d_TrustDesk_gather_15 rfl rfl ?_
    obtain ⟨v16, q15⟩ := tm_atI I6 t11 (k := 12) rfl
    refine tr_getK q15 d_TrustDesk_gather_16 f_TrustDesk_73_12 ?_
    obtain ⟨_, b23, -⟩ := I6.1 _ _ t11
    refine mv_callV (kc' := 0) (ks' := 0) (As := [.int v16]) (st9 := [.int v16, .ref o0, .ref a14]) d_TrustDesk_gather_19 lV_TrustDesk_114 b23 rfl (tc_TrustDesk_inForce (d := (d + 1)) (x9 := x9) (o0 := o0) (x1 := v16) t11 I6.start) rfl (Nat.le_of_ble_eq_true rfl) (Nat.le_of_ble_eq_true rfl) (Nat.le_of_ble_eq_true rfl) (hst := rfl) (fun b17r M18 n19 b17 => ?_)
    obtain ⟨T20, J21, a24, rfl, t_a24⟩ := b17
    have I22 := I6.call J21 (tm_sub (by decide)) (Or.inl rfl)
    have t25 := J21.up t11
    have t26 := J21.up t_a14
    have q27 := J21.keep t11 (by decide) q13
    have q28 := J21.keep t11 (by decide) q15
    refine mv_iconst (v := 1) d_TrustDesk_gather_22 (by decide) ?_
    obtain ⟨_, b35, -⟩ := I22.1 _ _ t_a24
    refine mv_callV (kc' := 0) (ks' := 0) (As := [.int 1]) (st9 := [.int 1, .ref a24, .ref a14]) d_TrustDesk_gather_23 lV_TrustDesk_118 b35 rfl (tc_Act_rule (d := (d + 4)) (x9 := x9) (o0 := a24) (x1 := 1) t_a24 I22.start) rfl (Nat.le_of_ble_eq_true rfl) (Nat.le_of_ble_eq_true rfl) (Nat.le_of_ble_eq_true rfl) (hst := rfl) (fun b29r M30 n31 b29 => ?_)
    obtain ⟨T32, J33, v36, rfl⟩ := b29
    have I34 := I22.call J33 (tm_sub (by decide)) (Or.inl rfl)
    have t37 := J33.up t25
    have t38 := J33.up t26
    have q39 := J33.keep t25 (by decide) q27
    have q40 := J33.keep t25 (by decide) q28
    obtain ⟨_, b47, -⟩ := I34.1 _ _ t38
    refine mv_callV (kc' := 0) (ks' := 0) (As := [.int v36]) (st9 := [.int v36, .ref a14]) d_TrustDesk_gather_26 lV_TrustDesk_499 b47 rfl (tc_Grouping_clear (d := (d + 4)) (x9 := x9) (o0 := a14) (x1 := v36) t38 I34.start) rfl (Nat.le_of_ble_eq_true rfl) (Nat.le_of_ble_eq_true rfl) (Nat.le_of_ble_eq_true rfl) (hst := rfl) (fun b41r M42 n43 b41 => ?_)
    obtain ⟨T44, J45, rfl⟩ := b41
    have I46 := I34.call J45 (tm_sub (by decide)) (Or.inl rfl)
    have t48 := J45.up t37
    have q49 := J45.keep t37 (by decide) q39
    have t50 := J45.up t38
    have q51 := J45.keep t37 (by decide) q40
    refine mv_aload_n d_TrustDesk_gather_29 rfl rfl ?_
    obtain ⟨a53, q52, t_a53⟩ := tm_atR I46 t48 (k := 2) rfl
    refine tr_getK q52 d_TrustDesk_gather_30 f_TrustDesk_26_12 ?_
    refine mv_aload_n d_TrustDesk_gather_33 rfl rfl ?_
    obtain ⟨a55, q54, t_a55⟩ := tm_atR I46 t48 (k := 0) rfl
    refine tr_getK q54 d_TrustDesk_gather_34 f_TrustDesk_10_12 ?_
    refine mv_aload_n d_TrustDesk_gather_37 rfl rfl ?_
    refine tr_getK (k := 12) q51 d_TrustDesk_gather_38 f_TrustDesk_73_12 ?_
    refine mv_callS (kc' := 0) (ks' := 0) (As := [.int v16]) (st9 := [.int v16, .ref a55, .ref a53]) d_TrustDesk_gather_41 lS_TrustDesk_366 (tc_TrustDesk_yearOf (d := (d + 4)) (x9 := x9) (x1 := v16)  I46.start) rfl (Nat.le_of_ble_eq_true rfl) (Nat.le_of_ble_eq_true rfl) (Nat.le_of_ble_eq_true rfl) (hst := rfl) (fun b56r M57 n58 b56 => ?_)
    obtain ⟨T59, J60, v62, rfl⟩ := b56
    have I61 := I46.call J60 (tm_sub (by decide)) (Or.inl rfl)
    have t63 := J60.up t48
    have t64 := J60.up t_a55
    have t65 := J60.up t_a53
    have q66 := J60.keep t48 (by decide) q49
    have t67 := J60.up t50
    have q68 := J60.keep t48 (by decide) q51
    have q69 := J60.keep t48 (by decide) q52
    have q70 := J60.keep t48 (by decide) q54
    refine mv_aload_n d_TrustDesk_gather_44 rfl rfl ?_
    refine tr_getK (k := 12) q68 d_TrustDesk_gather_45 f_TrustDesk_73_12 ?_
    obtain ⟨_, b77, -⟩ := I61.1 _ _ t65
    refine mv_callV (kc' := 0) (ks' := 0) (As := [.ref a55, .int v62, .int v16]) (st9 := [.int v16, .int v62, .ref a55, .ref a53]) d_TrustDesk_gather_48 lV_TrustDesk_154 b77 rfl (tc_Reckoner_know (d := (d + 3)) (x9 := x9) (o0 := a53) (o1 := a55) (x2 := v62) (x3 := v16) t65 t64 I61.start) rfl (Nat.le_of_ble_eq_true rfl) (Nat.le_of_ble_eq_true rfl) (Nat.le_of_ble_eq_true rfl) (hst := rfl) (fun b71r M72 n73 b71 => ?_)
    obtain ⟨T74, J75, rfl⟩ := b71
    have I76 := I61.call J75 (tm_sub (by decide)) (Or.inl rfl)
    have t78 := J75.up t63
    have q79 := J75.keep t63 (by decide) q66
    have t80 := J75.up t67
    have q81 := J75.keep t63 (by decide) q68
    have q82 := J75.keep t63 (by decide) q69
    have t83 := J75.up t65
    have q84 := J75.keep t63 (by decide) q70
    have t85 := J75.up t64
    refine mv_iconst (v := 0) d_TrustDesk_gather_51 (by decide) ?_
    refine mv_istore_n (lv' := [(2, .int 0), (0, .ref o0), (1, .int x1)]) d_TrustDesk_gather_52 rfl (by decide) rfl ?_
    have L53_86 : ∀ (k : Nat) (i2_86 : Int32) (T_86 : tm_H) (M_86 : mj_M) (n_86 : Nat), tm_I tm_FT (tm_in w_TrustDesk_gather) x9 T0 M0 n0 T_86 M_86 n_86 → T_86 o0 = some (0, 12, 0) → 0 ≤ i2_86.toInt → 2147483647 - i2_86.toInt < (k : Int) → mj_V g l kY_TrustDesk_gather (d + 5) 53 [(2, .int i2_86), (0, .ref o0), (1, .int x1)] [] M_86 n_86 0 0 (tm_Q tm_FT (tm_in w_TrustDesk_gather) x9 T0 M0 n0 (fun r _ _ => ∃ v : Int32, r = some (.int v) ∧ 0 ≤ v.toInt ∧ v.toInt ≤ 1)) := by
      intro k86
      induction k86 with
      | zero =>
        intro i2_86 T_86 M_86 n_86 I_86 h_q0_86 iv0_86 hk86
        have := mz_hi i2_86
        omega
      | succ k86 ih86 =>
        intro i2_86 T_86 M_86 n_86 I_86 h_q0_86 iv0_86 hk86
        refine mv_iload_n d_TrustDesk_gather_53 rfl rfl ?_
        refine mv_aload_n d_TrustDesk_gather_54 rfl rfl ?_
        obtain ⟨a88, q87, t_a88⟩ := tm_atO I_86 h_q0_86 (k := 6) rfl
        refine tr_getK q87 d_TrustDesk_gather_55 f_TrustDesk_53_12 ?_
        obtain ⟨m90, n94, e91, N92, f93, h89⟩ := I_86.1 _ _ t_a88
        have := h89.2.1
        have : n94.toInt ≤ 12 := h89.2.2.1
        have q95 : tm_at M_86 a88 0 2 (.int n94) := ⟨_, h89.1, rfl⟩
        refine mv_callV_s (kc' := 0) (ks' := 0) [] [.ref a88, .int i2_86] d_TrustDesk_gather_58 lV_TrustDesk_97 h89.1 rfl (tc_L_size (d := (d + 4)) h89.1) rfl (Nat.le_of_ble_eq_true rfl) (Nat.le_of_ble_eq_true rfl) (Nat.le_of_ble_eq_true rfl) rfl ?_
        have := mz_hi i2_86
        have := mz_hi n94
        refine mv_icmp_geZ (tgt := 110) (a := i2_86.toInt) (b := n94.toInt) d_TrustDesk_gather_61 (by decide) rfl rfl (fun b96 => ?_) (fun b96 => ?_)
        · refine mv_iconst (v := 1) d_TrustDesk_gather_110 (by decide) ?_
          exact mv_iret d_TrustDesk_gather_111 rfl (by decide) ⟨_, I_86, _, rfl, by decide, by decide⟩
        · refine mv_iload_n d_TrustDesk_gather_64 rfl rfl ?_
          refine mv_iload_n d_TrustDesk_gather_65 rfl rfl ?_
          refine mv_ishr d_TrustDesk_gather_66 ?_
          refine mv_iconst (v := 1) d_TrustDesk_gather_67 (by decide) ?_
          refine mv_iand d_TrustDesk_gather_68 ?_
          have := mz_hi ((x1 >>> (i2_86 &&& 31)) &&& 1)
          refine mv_if_eqZ (tgt := 104) (a := ((x1 >>> (i2_86 &&& 31)) &&& 1).toInt) d_TrustDesk_gather_69 (by decide) rfl (fun b97 => ?_) (fun b97 => ?_)
          · refine mv_iinc (v := (i2_86 + 1)) (lv' := [(2, .int (i2_86 + 1)), (0, .ref o0), (1, .int x1)]) d_TrustDesk_gather_104 rfl rfl (by decide) rfl ?_
            refine mv_goto (tgt := 53) d_TrustDesk_gather_107 (by decide) ?_
            have b98 : (i2_86 + 1).toInt = i2_86.toInt + 1 := mz_addn 1 1 (by decide) (by have := mz_lo i2_86; omega) (by have := mz_hi i2_86; omega)
            exact (ih86 (i2_86 + 1) T_86 M_86 n_86 I_86 h_q0_86 (by first | omega | decide) (by omega))
          · refine mv_aload_n d_TrustDesk_gather_72 rfl rfl ?_
            refine tr_getK (k := 6) q87 d_TrustDesk_gather_73 f_TrustDesk_53_12 ?_
            refine mv_iload_n d_TrustDesk_gather_76 rfl rfl ?_
            obtain ⟨m100, e101, N102, f103, h99⟩ := tm_lsn I_86 t_a88 q95
            obtain ⟨u104e, u104i, a105, u104f, u104t⟩ := tm_el (i := i2_86) h99 (by omega) (by omega)
            have t_a105 : T_86 a105 = some (0, 6, 0) := u104t
            refine mv_callV_s (kc' := 0) (ks' := 0) [.int i2_86] [.int i2_86, .ref a88] d_TrustDesk_gather_77 lV_TrustDesk_158 h99.1 rfl (tc_L_get (d := (d + 2)) h99.1 u104e (by omega) (by omega) u104i u104f) rfl (Nat.le_of_ble_eq_true rfl) (Nat.le_of_ble_eq_true rfl) (Nat.le_of_ble_eq_true rfl) rfl ?_
            obtain ⟨_, b106, -⟩ := I_86.1 _ _ t_a105
            refine mv_castS (T9 := kF_Fund) (N := 15) d_TrustDesk_gather_80 (mj_in1 (List.mem_of_getElem? (i := 655) (by decide +kernel)) rfl) b106 rfl ?_
            refine mv_astore_n (lv' := [(3, .ref a105), (2, .int i2_86), (0, .ref o0), (1, .int x1)]) d_TrustDesk_gather_83 rfl (by decide) rfl ?_
            refine mv_aload_n d_TrustDesk_gather_84 rfl rfl ?_
            obtain ⟨a108, q107, t_a108⟩ := tm_atR I_86 h_q0_86 (k := 3) rfl
            refine tr_getK q107 d_TrustDesk_gather_85 f_TrustDesk_33_12 ?_
            refine mv_aload_n d_TrustDesk_gather_88 rfl rfl ?_
            obtain ⟨v110, q109⟩ := tm_atI I_86 t_a105 (k := 4) rfl
            refine tr_getK q109 d_TrustDesk_gather_89 f_TrustDesk_372_6 ?_
            refine mv_aload_n d_TrustDesk_gather_92 rfl rfl ?_
            refine mv_aload_n d_TrustDesk_gather_93 rfl rfl ?_
            obtain ⟨_, b117, -⟩ := I_86.1 _ _ h_q0_86
            refine mv_callV (kc' := 0) (ks' := 0) (As := [.ref a105]) (st9 := [.ref a105, .ref o0, .int v110, .ref a108]) d_TrustDesk_gather_94 lV_TrustDesk_502 b117 rfl (tc_TrustDesk_spareOf (d := d) (x9 := x9) (o0 := o0) (o1 := a105) h_q0_86 t_a105 I_86.start) rfl (Nat.le_of_ble_eq_true rfl) (Nat.le_of_ble_eq_true rfl) (Nat.le_of_ble_eq_true rfl) (hst := rfl) (fun b111r M112 n113 b111 => ?_)
            obtain ⟨T114, J115, v118, rfl⟩ := b111
            have I116 := I_86.call J115 (tm_sub (by decide)) (Or.inl rfl)
            have t119 := J115.up t_a105
            have t120 := J115.up h_q0_86
            have t121 := J115.up t_a108
            have q122 := J115.keep h_q0_86 (by decide) q87
            have t123 := J115.up t_a88
            have q124 := J115.keepL t_a88 (by decide) q95
            have q125 := J115.keep h_q0_86 (by decide) q107
            have q126 := J115.keep t_a105 (by decide) q109
            refine mv_aload_n d_TrustDesk_gather_97 rfl rfl ?_
            obtain ⟨v128, q127⟩ := tm_atI I116 t119 (k := 9) rfl
            refine tr_getK q127 d_TrustDesk_gather_98 f_TrustDesk_489_6 ?_
            obtain ⟨_, b135, -⟩ := I116.1 _ _ t121
            refine mv_callV (kc' := 0) (ks' := 0) (As := [.int v110, .long v118, .int v128]) (st9 := [.int v128, .long v118, .int v110, .ref a108]) d_TrustDesk_gather_101 lV_TrustDesk_505 b135 rfl (tc_Grouping_take (d := (d + 4)) (x9 := x9) (o0 := a108) (x1 := v110) (x2 := v118) (x3 := v128) t121 I116.start) rfl (Nat.le_of_ble_eq_true rfl) (Nat.le_of_ble_eq_true rfl) (Nat.le_of_ble_eq_true rfl) (hst := rfl) (fun b129r M130 n131 b129 => ?_)
            obtain ⟨T132, J133, rfl⟩ := b129
            have I134 := I116.call J133 (tm_sub (by decide)) (Or.inl rfl)
            have t136 := J133.up t119
            have t137 := J133.up t120
            have q138 := J133.keep t120 (by decide) q122
            have t139 := J133.up t123
            have q140 := J133.keepL t123 (by decide) q124
            have q141 := J133.keep t120 (by decide) q125
            have t142 := J133.up t121
            have q143 := J133.keep t119 (by decide) q126
            have q144 := J133.keep t119 (by decide) q127
            refine mv_iinc (v := (i2_86 + 1)) (lv' := [(2, .int (i2_86 + 1)), (3, .ref a105), (0, .ref o0), (1, .int x1)]) d_TrustDesk_gather_104 rfl rfl (by decide) rfl ?_
            refine mv_goto (tgt := 53) d_TrustDesk_gather_107 (by decide) ?_
            refine mv_locals (lv' := [(2, .int (i2_86 + 1)), (0, .ref o0), (1, .int x1)]) (by intro q hq; simp only [List.mem_cons, List.not_mem_nil, or_false] at hq; rcases hq with rfl | rfl | rfl <;> rfl) ?_
            have b145 : (i2_86 + 1).toInt = i2_86.toInt + 1 := mz_addn 1 1 (by decide) (by have := mz_lo i2_86; omega) (by have := mz_hi i2_86; omega)
            exact (ih86 (i2_86 + 1) T132 M130 n131 I134 t137 (by first | omega | decide) (by omega))
    exact mv_less (Nat.zero_le _) (Nat.zero_le _) (L53_86 4294967296 0 T74 M72 n73 I76 t78 (by first | omega | decide) (by show (2147483647 - (0 : Int) : Int) < _; decide))
  · refine mv_iconst (v := 0) d_TrustDesk_gather_8 (by decide) ?_
    exact mv_iret d_TrustDesk_gather_9 rfl (by decide) ⟨_, I6, _, rfl, by decide, by decide⟩
abbrev kY_TrustDesk_group : mj_Y := (⟨"TrustDesk", "group", "(I)J"⟩, prog_1_method_49_code, 2, (Option.some Jvm.ClassFile.FieldType.long))
theorem d_TrustDesk_group_0 : decode kY_TrustDesk_group.2.1 0 = .ok (.aload_n 0, 1) := by decide +kernel
theorem d_TrustDesk_group_1 : decode kY_TrustDesk_group.2.1 1 = .ok (.iload_n 1, 1) := by decide +kernel
theorem d_TrustDesk_group_2 : decode kY_TrustDesk_group.2.1 2 = .ok (.invokevirtual 477, 3) := by decide +kernel
theorem lV_TrustDesk_477 : mj_lV "TrustDesk" 477 kY_TrustDesk_gather 1 := ⟨⟨(mj_in1 (List.mem_of_getElem? (i := 1219) (by decide +kernel)) rfl), (mj_in1 (List.mem_of_getElem? (i := 1) (by decide +kernel)) rfl), (mj_in1 (List.mem_of_getElem? (i := 1222) (by decide +kernel)) rfl), by decide, rfl, by decide⟩, (mj_in1 (List.mem_of_getElem? (i := 1221) (by decide +kernel)) rfl), (mj_in (List.mem_append_left _ (List.mem_of_getElem? (i := 67) (by decide +kernel))) rfl)⟩
theorem d_TrustDesk_group_5 : decode kY_TrustDesk_group.2.1 5 = .ok (.ifCond .ne 7, 3) := by decide +kernel
theorem d_TrustDesk_group_12 : decode kY_TrustDesk_group.2.1 12 = .ok (.aload_n 0, 1) := by decide +kernel
theorem d_TrustDesk_group_13 : decode kY_TrustDesk_group.2.1 13 = .ok (.getfield 33, 3) := by decide +kernel
theorem d_TrustDesk_group_16 : decode kY_TrustDesk_group.2.1 16 = .ok (.invokevirtual 480, 3) := by decide +kernel
abbrev kY_Grouping_search : mj_Y := (⟨"TrustDesk$Grouping", "search", "()V"⟩, prog_8_method_6_code, 6, (Option.none : Option Jvm.ClassFile.FieldType))
theorem d_Grouping_search_0 : decode kY_Grouping_search.2.1 0 = .ok (.lconst 0, 1) := by decide +kernel
theorem d_Grouping_search_1 : decode kY_Grouping_search.2.1 1 = .ok (.lstore_n 1, 1) := by decide +kernel
theorem d_Grouping_search_2 : decode kY_Grouping_search.2.1 2 = .ok (.lconst 0, 1) := by decide +kernel
theorem d_Grouping_search_3 : decode kY_Grouping_search.2.1 3 = .ok (.lstore_n 3, 1) := by decide +kernel
theorem d_Grouping_search_4 : decode kY_Grouping_search.2.1 4 = .ok (.aload_n 0, 1) := by decide +kernel
theorem d_Grouping_search_5 : decode kY_Grouping_search.2.1 5 = .ok (.getfield 37, 3) := by decide +kernel
theorem f_Grouping_37_7 : mj_fl "TrustDesk$Grouping" 37 7 12 := ⟨kR_Grouping, kF_Grouping, 14, "TrustDesk$Grouping", rfl, kg_7, by decide, (mj_in1 (List.mem_of_getElem? (i := 174) (by decide +kernel)) rfl), Or.inl rfl⟩
theorem d_Grouping_search_8 : decode kY_Grouping_search.2.1 8 = .ok (.bipush 8, 2) := by decide +kernel
theorem d_Grouping_search_10 : decode kY_Grouping_search.2.1 10 = .ok (.lconst 0, 1) := by decide +kernel
theorem d_Grouping_search_11 : decode kY_Grouping_search.2.1 11 = .ok (.lastore, 1) := by decide +kernel
theorem d_Grouping_search_12 : decode kY_Grouping_search.2.1 12 = .ok (.bipush 7, 2) := by decide +kernel
theorem d_Grouping_search_14 : decode kY_Grouping_search.2.1 14 = .ok (.istore 5, 2) := by decide +kernel
theorem d_Grouping_search_16 : decode kY_Grouping_search.2.1 16 = .ok (.iload 5, 2) := by decide +kernel
theorem d_Grouping_search_18 : decode kY_Grouping_search.2.1 18 = .ok (.ifCond .lt 51, 3) := by decide +kernel
theorem d_Grouping_search_69 : decode kY_Grouping_search.2.1 69 = .ok (.aload_n 0, 1) := by decide +kernel
theorem d_Grouping_search_70 : decode kY_Grouping_search.2.1 70 = .ok (.lconst 0, 1) := by decide +kernel
theorem d_Grouping_search_71 : decode kY_Grouping_search.2.1 71 = .ok (.lload_n 1, 1) := by decide +kernel
theorem d_Grouping_search_72 : decode kY_Grouping_search.2.1 72 = .ok (.invokestatic 68, 3) := by decide +kernel
theorem d_Grouping_search_75 : decode kY_Grouping_search.2.1 75 = .ok (.putfield 74, 3) := by decide +kernel
theorem p_Grouping_74_7 : mj_fp "TrustDesk$Grouping" 74 7 13 (kt_Grouping 13) false := ⟨kR_Grouping, kF_Grouping, 14, "TrustDesk$Grouping", kt_Grouping, rfl, kg_7, by decide, (mj_in1 (List.mem_of_getElem? (i := 175) (by decide +kernel)) rfl), Or.inl rfl, kto_Grouping, kn_Grouping, rfl, rfl, fun h => by cases h⟩
theorem d_Grouping_search_78 : decode kY_Grouping_search.2.1 78 = .ok (.aload_n 0, 1) := by decide +kernel
theorem d_Grouping_search_79 : decode kY_Grouping_search.2.1 79 = .ok (.iconst 0, 1) := by decide +kernel
theorem d_Grouping_search_80 : decode kY_Grouping_search.2.1 80 = .ok (.iconst 0, 1) := by decide +kernel
theorem d_Grouping_search_81 : decode kY_Grouping_search.2.1 81 = .ok (.invokevirtual 77, 3) := by decide +kernel
abbrev kY_Grouping_spread : mj_Y := (⟨"TrustDesk$Grouping", "spread", "(II)V"⟩, prog_8_method_7_code, 7, (Option.none : Option Jvm.ClassFile.FieldType))
theorem d_Grouping_spread_0 : decode kY_Grouping_spread.2.1 0 = .ok (.iload_n 1, 1) := by decide +kernel
theorem d_Grouping_spread_1 : decode kY_Grouping_spread.2.1 1 = .ok (.ifCond .lt 9, 3) := by decide +kernel
theorem d_Grouping_spread_10 : decode kY_Grouping_spread.2.1 10 = .ok (.return_, 1) := by decide +kernel
theorem d_Grouping_spread_4 : decode kY_Grouping_spread.2.1 4 = .ok (.iload_n 1, 1) := by decide +kernel
theorem d_Grouping_spread_5 : decode kY_Grouping_spread.2.1 5 = .ok (.bipush 8, 2) := by decide +kernel
theorem d_Grouping_spread_7 : decode kY_Grouping_spread.2.1 7 = .ok (.if_icmp .le 4, 3) := by decide +kernel
theorem d_Grouping_spread_11 : decode kY_Grouping_spread.2.1 11 = .ok (.aload_n 0, 1) := by decide +kernel
theorem d_Grouping_spread_12 : decode kY_Grouping_spread.2.1 12 = .ok (.getfield 74, 3) := by decide +kernel
theorem f_Grouping_74_7 : mj_fl "TrustDesk$Grouping" 74 7 13 := ⟨kR_Grouping, kF_Grouping, 14, "TrustDesk$Grouping", rfl, kg_7, by decide, (mj_in1 (List.mem_of_getElem? (i := 175) (by decide +kernel)) rfl), Or.inl rfl⟩
theorem d_Grouping_spread_15 : decode kY_Grouping_spread.2.1 15 = .ok (.aload_n 0, 1) := by decide +kernel
theorem d_Grouping_spread_16 : decode kY_Grouping_spread.2.1 16 = .ok (.iload_n 2, 1) := by decide +kernel
theorem d_Grouping_spread_17 : decode kY_Grouping_spread.2.1 17 = .ok (.invokevirtual 64, 3) := by decide +kernel
abbrev kY_Grouping_idleOf : mj_Y := (⟨"TrustDesk$Grouping", "idleOf", "(I)J"⟩, prog_8_method_11_code, 5, (Option.some Jvm.ClassFile.FieldType.long))
theorem d_Grouping_idleOf_0 : decode kY_Grouping_idleOf.2.1 0 = .ok (.lconst 0, 1) := by decide +kernel
theorem d_Grouping_idleOf_1 : decode kY_Grouping_idleOf.2.1 1 = .ok (.lstore_n 2, 1) := by decide +kernel
theorem d_Grouping_idleOf_2 : decode kY_Grouping_idleOf.2.1 2 = .ok (.iconst 0, 1) := by decide +kernel
theorem d_Grouping_idleOf_3 : decode kY_Grouping_idleOf.2.1 3 = .ok (.istore 4, 2) := by decide +kernel
theorem d_Grouping_idleOf_5 : decode kY_Grouping_idleOf.2.1 5 = .ok (.iload 4, 2) := by decide +kernel
theorem d_Grouping_idleOf_7 : decode kY_Grouping_idleOf.2.1 7 = .ok (.iload_n 1, 1) := by decide +kernel
theorem d_Grouping_idleOf_8 : decode kY_Grouping_idleOf.2.1 8 = .ok (.if_icmp .ge 30, 3) := by decide +kernel
theorem d_Grouping_idleOf_38 : decode kY_Grouping_idleOf.2.1 38 = .ok (.lload_n 2, 1) := by decide +kernel
theorem d_Grouping_idleOf_39 : decode kY_Grouping_idleOf.2.1 39 = .ok (.lreturn, 1) := by decide +kernel
theorem d_Grouping_idleOf_11 : decode kY_Grouping_idleOf.2.1 11 = .ok (.iload 4, 2) := by decide +kernel
theorem d_Grouping_idleOf_13 : decode kY_Grouping_idleOf.2.1 13 = .ok (.bipush 8, 2) := by decide +kernel
theorem d_Grouping_idleOf_15 : decode kY_Grouping_idleOf.2.1 15 = .ok (.if_icmp .ge 23, 3) := by decide +kernel
theorem d_Grouping_idleOf_18 : decode kY_Grouping_idleOf.2.1 18 = .ok (.lload_n 2, 1) := by decide +kernel
theorem d_Grouping_idleOf_19 : decode kY_Grouping_idleOf.2.1 19 = .ok (.lconst 0, 1) := by decide +kernel
theorem d_Grouping_idleOf_20 : decode kY_Grouping_idleOf.2.1 20 = .ok (.aload_n 0, 1) := by decide +kernel
theorem d_Grouping_idleOf_21 : decode kY_Grouping_idleOf.2.1 21 = .ok (.getfield 34, 3) := by decide +kernel
theorem d_Grouping_idleOf_24 : decode kY_Grouping_idleOf.2.1 24 = .ok (.iload 4, 2) := by decide +kernel
theorem d_Grouping_idleOf_26 : decode kY_Grouping_idleOf.2.1 26 = .ok (.laload, 1) := by decide +kernel
theorem d_Grouping_idleOf_27 : decode kY_Grouping_idleOf.2.1 27 = .ok (.invokestatic 68, 3) := by decide +kernel
theorem d_Grouping_idleOf_30 : decode kY_Grouping_idleOf.2.1 30 = .ok (.ladd, 1) := by decide +kernel
theorem d_Grouping_idleOf_31 : decode kY_Grouping_idleOf.2.1 31 = .ok (.lstore_n 2, 1) := by decide +kernel
theorem d_Grouping_idleOf_32 : decode kY_Grouping_idleOf.2.1 32 = .ok (.iinc 4 1, 3) := by decide +kernel
theorem d_Grouping_idleOf_35 : decode kY_Grouping_idleOf.2.1 35 = .ok (.goto (-30), 3) := by decide +kernel
def w_Grouping_idleOf : List Nat := []
theorem tc_Grouping_idleOf {g : mj_G} {l : Launch} {d : Nat} {T0 : tm_H} {M0 : mj_M} {n0 x9 : Nat} {o0 : Nat} {x1 : Int32} (h_o0 : T0 o0 = some (0, 7, 0)) (I0 : tm_I tm_FT (tm_in w_Grouping_idleOf) x9 T0 M0 n0 T0 M0 n0) : mj_Met g l kY_Grouping_idleOf (d + 1) [.ref o0, .int x1] M0 n0 0 0 (tm_Q tm_FT (tm_in w_Grouping_idleOf) x9 T0 M0 n0 (fun r _ _ => ∃ v : Int64, r = some (.long v))) := by
  refine mj_enter (by decide) (Nat.le_of_ble_eq_true rfl) ?_
  refine mv_lconst (v := 0) d_Grouping_idleOf_0 (by decide) ?_
  refine mv_lstore_n (lv' := [(2, .long 0), (0, .ref o0), (1, .int x1)]) d_Grouping_idleOf_1 rfl (by decide) rfl ?_
  refine mv_iconst (v := 0) d_Grouping_idleOf_2 (by decide) ?_
  refine mv_istore (lv' := [(4, .int 0), (2, .long 0), (0, .ref o0), (1, .int x1)]) d_Grouping_idleOf_3 (by decide) rfl ?_
  have L5_1 : ∀ (k : Nat) (i4_1 : Int32) (l2_1 : Int64) (T_1 : tm_H) (M_1 : mj_M) (n_1 : Nat), tm_I tm_FT (tm_in w_Grouping_idleOf) x9 T0 M0 n0 T_1 M_1 n_1 → T_1 o0 = some (0, 7, 0) → 0 ≤ i4_1.toInt → 2147483647 - i4_1.toInt < (k : Int) → mj_V g l kY_Grouping_idleOf (d + 1) 5 [(4, .int i4_1), (2, .long l2_1), (0, .ref o0), (1, .int x1)] [] M_1 n_1 0 0 (tm_Q tm_FT (tm_in w_Grouping_idleOf) x9 T0 M0 n0 (fun r _ _ => ∃ v : Int64, r = some (.long v))) := by
    intro k1
    induction k1 with
    | zero =>
      intro i4_1 l2_1 T_1 M_1 n_1 I_1 h_q0_1 iv0_1 hk1
      have := mz_hi i4_1
      omega
    | succ k1 ih1 =>
      intro i4_1 l2_1 T_1 M_1 n_1 I_1 h_q0_1 iv0_1 hk1
      refine mv_iload d_Grouping_idleOf_5 rfl ?_
      refine mv_iload_n d_Grouping_idleOf_7 rfl rfl ?_
      have := mz_hi i4_1
      have := mz_hi x1
      refine mv_icmp_geZ (tgt := 38) (a := i4_1.toInt) (b := x1.toInt) d_Grouping_idleOf_8 (by decide) rfl rfl (fun b2 => ?_) (fun b2 => ?_)
      · refine mv_lload_n d_Grouping_idleOf_38 rfl rfl ?_
        exact mv_lret d_Grouping_idleOf_39 rfl ⟨_, I_1, _, rfl⟩
      · refine mv_iload d_Grouping_idleOf_11 rfl ?_
        refine mv_bipush (v := 8) d_Grouping_idleOf_13 (by decide) ?_
        have := mz_hi i4_1
        refine mv_icmp_geZ (tgt := 38) (a := i4_1.toInt) (b := 8) d_Grouping_idleOf_15 (by decide) rfl (by decide) (fun b3 => ?_) (fun b3 => ?_)
        · refine mv_lload_n d_Grouping_idleOf_38 rfl rfl ?_
          exact mv_lret d_Grouping_idleOf_39 rfl ⟨_, I_1, _, rfl⟩
        · refine mv_lload_n d_Grouping_idleOf_18 rfl rfl ?_
          refine mv_lconst (v := 0) d_Grouping_idleOf_19 (by decide) ?_
          refine mv_aload_n d_Grouping_idleOf_20 rfl rfl ?_
          obtain ⟨a5, q4, t_a5⟩ := tm_atR I_1 h_q0_1 (k := 11) rfl
          refine tr_getK q4 d_Grouping_idleOf_21 f_Grouping_34_7 ?_
          refine mv_iload d_Grouping_idleOf_24 rfl ?_
          refine tr_lald I_1 t_a5 (by decide) d_Grouping_idleOf_26 (vp_in_iff.mpr (by omega)) (fun v6 => ?_)
          refine mv_mmax_long (v := (if v6 < 0 then 0 else v6)) d_Grouping_idleOf_27 (mj_in1 (List.mem_of_getElem? (i := 1243) (by decide +kernel)) rfl) (Nat.le_of_ble_eq_true rfl) rfl ?_
          refine mv_ladd d_Grouping_idleOf_30 ?_
          refine mv_lstore_n (lv' := [(2, .long (l2_1 + (if v6 < 0 then 0 else v6))), (4, .int i4_1), (0, .ref o0), (1, .int x1)]) d_Grouping_idleOf_31 rfl (by decide) rfl ?_
          refine mv_iinc (v := (i4_1 + 1)) (lv' := [(4, .int (i4_1 + 1)), (2, .long (l2_1 + (if v6 < 0 then 0 else v6))), (0, .ref o0), (1, .int x1)]) d_Grouping_idleOf_32 rfl rfl (by decide) rfl ?_
          refine mv_goto (tgt := 5) d_Grouping_idleOf_35 (by decide) ?_
          have b7 : (i4_1 + 1).toInt = i4_1.toInt + 1 := mz_addn 1 1 (by decide) (by have := mz_lo i4_1; omega) (by have := mz_hi i4_1; omega)
          exact (ih1 (i4_1 + 1) (l2_1 + (if v6 < 0 then 0 else v6)) T_1 M_1 n_1 I_1 h_q0_1 (by first | omega | decide) (by omega))
  exact mv_less (Nat.zero_le _) (Nat.zero_le _) (L5_1 4294967296 0 0 T0 M0 n0 I0 h_o0 (by first | omega | decide) (by show (2147483647 - (0 : Int) : Int) < _; decide))
theorem lV_Grouping_64 : mj_lV "TrustDesk$Grouping" 64 kY_Grouping_idleOf 1 := ⟨⟨(mj_in1 (List.mem_of_getElem? (i := 1248) (by decide +kernel)) rfl), (mj_in1 (List.mem_of_getElem? (i := 5) (by decide +kernel)) rfl), (mj_in1 (List.mem_of_getElem? (i := 1251) (by decide +kernel)) rfl), by decide, rfl, by decide⟩, (mj_in1 (List.mem_of_getElem? (i := 1250) (by decide +kernel)) rfl), (mj_in (List.mem_append_left _ (List.mem_of_getElem? (i := 71) (by decide +kernel))) rfl)⟩
theorem d_Grouping_spread_20 : decode kY_Grouping_spread.2.1 20 = .ok (.aload_n 0, 1) := by decide +kernel
theorem d_Grouping_spread_21 : decode kY_Grouping_spread.2.1 21 = .ok (.getfield 37, 3) := by decide +kernel
theorem d_Grouping_spread_24 : decode kY_Grouping_spread.2.1 24 = .ok (.iload_n 1, 1) := by decide +kernel
theorem d_Grouping_spread_25 : decode kY_Grouping_spread.2.1 25 = .ok (.laload, 1) := by decide +kernel
theorem d_Grouping_spread_26 : decode kY_Grouping_spread.2.1 26 = .ok (.lsub, 1) := by decide +kernel
theorem d_Grouping_spread_27 : decode kY_Grouping_spread.2.1 27 = .ok (.invokestatic 68, 3) := by decide +kernel
theorem d_Grouping_spread_30 : decode kY_Grouping_spread.2.1 30 = .ok (.lstore_n 3, 1) := by decide +kernel
theorem d_Grouping_spread_31 : decode kY_Grouping_spread.2.1 31 = .ok (.aload_n 0, 1) := by decide +kernel
theorem d_Grouping_spread_32 : decode kY_Grouping_spread.2.1 32 = .ok (.getfield 47, 3) := by decide +kernel
theorem f_Grouping_47_7 : mj_fl "TrustDesk$Grouping" 47 7 3 := ⟨kR_Grouping, kF_Grouping, 14, "TrustDesk$Grouping", rfl, kg_7, by decide, (mj_in1 (List.mem_of_getElem? (i := 165) (by decide +kernel)) rfl), Or.inl rfl⟩
theorem d_Grouping_spread_35 : decode kY_Grouping_spread.2.1 35 = .ok (.ifCond .eq 30, 3) := by decide +kernel
theorem d_Grouping_spread_65 : decode kY_Grouping_spread.2.1 65 = .ok (.iload_n 1, 1) := by decide +kernel
theorem d_Grouping_spread_66 : decode kY_Grouping_spread.2.1 66 = .ok (.aload_n 0, 1) := by decide +kernel
theorem d_Grouping_spread_67 : decode kY_Grouping_spread.2.1 67 = .ok (.getfield 44, 3) := by decide +kernel
theorem d_Grouping_spread_70 : decode kY_Grouping_spread.2.1 70 = .ok (.if_icmp .ge 9, 3) := by decide +kernel
theorem d_Grouping_spread_79 : decode kY_Grouping_spread.2.1 79 = .ok (.aload_n 0, 1) := by decide +kernel
theorem d_Grouping_spread_80 : decode kY_Grouping_spread.2.1 80 = .ok (.lload_n 3, 1) := by decide +kernel
theorem d_Grouping_spread_81 : decode kY_Grouping_spread.2.1 81 = .ok (.iload_n 2, 1) := by decide +kernel
theorem d_Grouping_spread_82 : decode kY_Grouping_spread.2.1 82 = .ok (.invokevirtual 80, 3) := by decide +kernel
abbrev kY_Grouping_keepAsBest : mj_Y := (⟨"TrustDesk$Grouping", "keepAsBest", "(JI)V"⟩, prog_8_method_8_code, 5, (Option.none : Option Jvm.ClassFile.FieldType))
theorem d_Grouping_keepAsBest_0 : decode kY_Grouping_keepAsBest.2.1 0 = .ok (.aload_n 0, 1) := by decide +kernel
theorem d_Grouping_keepAsBest_1 : decode kY_Grouping_keepAsBest.2.1 1 = .ok (.lload_n 1, 1) := by decide +kernel
theorem d_Grouping_keepAsBest_2 : decode kY_Grouping_keepAsBest.2.1 2 = .ok (.putfield 50, 3) := by decide +kernel
theorem d_Grouping_keepAsBest_5 : decode kY_Grouping_keepAsBest.2.1 5 = .ok (.aload_n 0, 1) := by decide +kernel
theorem d_Grouping_keepAsBest_6 : decode kY_Grouping_keepAsBest.2.1 6 = .ok (.iload_n 3, 1) := by decide +kernel
theorem d_Grouping_keepAsBest_7 : decode kY_Grouping_keepAsBest.2.1 7 = .ok (.putfield 47, 3) := by decide +kernel
theorem d_Grouping_keepAsBest_10 : decode kY_Grouping_keepAsBest.2.1 10 = .ok (.iconst 0, 1) := by decide +kernel
theorem d_Grouping_keepAsBest_11 : decode kY_Grouping_keepAsBest.2.1 11 = .ok (.istore 4, 2) := by decide +kernel
theorem d_Grouping_keepAsBest_13 : decode kY_Grouping_keepAsBest.2.1 13 = .ok (.iload 4, 2) := by decide +kernel
theorem d_Grouping_keepAsBest_15 : decode kY_Grouping_keepAsBest.2.1 15 = .ok (.aload_n 0, 1) := by decide +kernel
theorem d_Grouping_keepAsBest_16 : decode kY_Grouping_keepAsBest.2.1 16 = .ok (.getfield 44, 3) := by decide +kernel
theorem d_Grouping_keepAsBest_19 : decode kY_Grouping_keepAsBest.2.1 19 = .ok (.if_icmp .ge 30, 3) := by decide +kernel
theorem d_Grouping_keepAsBest_49 : decode kY_Grouping_keepAsBest.2.1 49 = .ok (.return_, 1) := by decide +kernel
theorem d_Grouping_keepAsBest_22 : decode kY_Grouping_keepAsBest.2.1 22 = .ok (.iload 4, 2) := by decide +kernel
theorem d_Grouping_keepAsBest_24 : decode kY_Grouping_keepAsBest.2.1 24 = .ok (.bipush 8, 2) := by decide +kernel
theorem d_Grouping_keepAsBest_26 : decode kY_Grouping_keepAsBest.2.1 26 = .ok (.if_icmp .ge 23, 3) := by decide +kernel
theorem d_Grouping_keepAsBest_29 : decode kY_Grouping_keepAsBest.2.1 29 = .ok (.aload_n 0, 1) := by decide +kernel
theorem d_Grouping_keepAsBest_30 : decode kY_Grouping_keepAsBest.2.1 30 = .ok (.getfield 25, 3) := by decide +kernel
theorem f_Grouping_25_7 : mj_fl "TrustDesk$Grouping" 25 7 8 := ⟨kR_Grouping, kF_Grouping, 14, "TrustDesk$Grouping", rfl, kg_7, by decide, (mj_in1 (List.mem_of_getElem? (i := 170) (by decide +kernel)) rfl), Or.inl rfl⟩
theorem d_Grouping_keepAsBest_33 : decode kY_Grouping_keepAsBest.2.1 33 = .ok (.iload 4, 2) := by decide +kernel
theorem d_Grouping_keepAsBest_35 : decode kY_Grouping_keepAsBest.2.1 35 = .ok (.aload_n 0, 1) := by decide +kernel
theorem d_Grouping_keepAsBest_36 : decode kY_Grouping_keepAsBest.2.1 36 = .ok (.getfield 22, 3) := by decide +kernel
theorem f_Grouping_22_7 : mj_fl "TrustDesk$Grouping" 22 7 7 := ⟨kR_Grouping, kF_Grouping, 14, "TrustDesk$Grouping", rfl, kg_7, by decide, (mj_in1 (List.mem_of_getElem? (i := 169) (by decide +kernel)) rfl), Or.inl rfl⟩
theorem d_Grouping_keepAsBest_39 : decode kY_Grouping_keepAsBest.2.1 39 = .ok (.iload 4, 2) := by decide +kernel
theorem d_Grouping_keepAsBest_41 : decode kY_Grouping_keepAsBest.2.1 41 = .ok (.iaload, 1) := by decide +kernel
theorem d_Grouping_keepAsBest_42 : decode kY_Grouping_keepAsBest.2.1 42 = .ok (.iastore, 1) := by decide +kernel
theorem d_Grouping_keepAsBest_43 : decode kY_Grouping_keepAsBest.2.1 43 = .ok (.iinc 4 1, 3) := by decide +kernel
theorem d_Grouping_keepAsBest_46 : decode kY_Grouping_keepAsBest.2.1 46 = .ok (.goto (-33), 3) := by decide +kernel
def w_Grouping_keepAsBest : List Nat := [700, 703, 758]
theorem tc_Grouping_keepAsBest {g : mj_G} {l : Launch} {d : Nat} {T0 : tm_H} {M0 : mj_M} {n0 x9 : Nat} {o0 : Nat} {x1 : Int64} {x2 : Int32} (h_o0 : T0 o0 = some (0, 7, 0)) (I0 : tm_I tm_FT (tm_in w_Grouping_keepAsBest) x9 T0 M0 n0 T0 M0 n0) : mj_Met g l kY_Grouping_keepAsBest d [.ref o0, .long x1, .int x2] M0 n0 0 0 (tm_Q tm_FT (tm_in w_Grouping_keepAsBest) x9 T0 M0 n0 (fun r _ _ => r = none)) := by
  refine mj_enter (by decide) (Nat.le_of_ble_eq_true rfl) ?_
  refine mv_aload_n d_Grouping_keepAsBest_0 rfl rfl ?_
  refine mv_lload_n d_Grouping_keepAsBest_1 rfl rfl ?_
  refine tr_putK tm_okF I0 h_o0 (k := 0) rfl ⟨_, rfl⟩ (Or.inl (by decide)) d_Grouping_keepAsBest_2 p_Grouping_50_7 rfl rfl (fun M1 I2 q3 K4 => ?_)
  refine mv_aload_n d_Grouping_keepAsBest_5 rfl rfl ?_
  refine mv_iload_n d_Grouping_keepAsBest_6 rfl rfl ?_
  refine tr_putK tm_okF I2 h_o0 (k := 3) rfl ⟨_, rfl⟩ (Or.inl (by decide)) d_Grouping_keepAsBest_7 p_Grouping_47_7 rfl rfl (fun M5 I6 q7 K8 => ?_)
  refine mv_iconst (v := 0) d_Grouping_keepAsBest_10 (by decide) ?_
  refine mv_istore (lv' := [(4, .int 0), (0, .ref o0), (1, .long x1), (3, .int x2)]) d_Grouping_keepAsBest_11 (by decide) rfl ?_
  have L13_9 : ∀ (k : Nat) (i4_9 : Int32) (T_9 : tm_H) (M_9 : mj_M) (n_9 : Nat), tm_I tm_FT (tm_in w_Grouping_keepAsBest) x9 T0 M0 n0 T_9 M_9 n_9 → T_9 o0 = some (0, 7, 0) → 0 ≤ i4_9.toInt → 2147483647 - i4_9.toInt < (k : Int) → mj_V g l kY_Grouping_keepAsBest d 13 [(4, .int i4_9), (0, .ref o0), (1, .long x1), (3, .int x2)] [] M_9 n_9 0 0 (tm_Q tm_FT (tm_in w_Grouping_keepAsBest) x9 T0 M0 n0 (fun r _ _ => r = none)) := by
    intro k9
    induction k9 with
    | zero =>
      intro i4_9 T_9 M_9 n_9 I_9 h_q0_9 iv0_9 hk9
      have := mz_hi i4_9
      omega
    | succ k9 ih9 =>
      intro i4_9 T_9 M_9 n_9 I_9 h_q0_9 iv0_9 hk9
      refine mv_iload d_Grouping_keepAsBest_13 rfl ?_
      refine mv_aload_n d_Grouping_keepAsBest_15 rfl rfl ?_
      obtain ⟨v11, q10⟩ := tm_atI I_9 h_q0_9 (k := 2) rfl
      refine tr_getK q10 d_Grouping_keepAsBest_16 f_Grouping_44_7 ?_
      have := mz_hi i4_9
      have := mz_hi v11
      refine mv_icmp_geZ (tgt := 49) (a := i4_9.toInt) (b := v11.toInt) d_Grouping_keepAsBest_19 (by decide) rfl rfl (fun b12 => ?_) (fun b12 => ?_)
      · exact mv_vret d_Grouping_keepAsBest_49 rfl ⟨_, I_9, rfl⟩
      · refine mv_iload d_Grouping_keepAsBest_22 rfl ?_
        refine mv_bipush (v := 8) d_Grouping_keepAsBest_24 (by decide) ?_
        have := mz_hi i4_9
        refine mv_icmp_geZ (tgt := 49) (a := i4_9.toInt) (b := 8) d_Grouping_keepAsBest_26 (by decide) rfl (by decide) (fun b13 => ?_) (fun b13 => ?_)
        · exact mv_vret d_Grouping_keepAsBest_49 rfl ⟨_, I_9, rfl⟩
        · refine mv_aload_n d_Grouping_keepAsBest_29 rfl rfl ?_
          obtain ⟨a15, q14, t_a15⟩ := tm_atR I_9 h_q0_9 (k := 8) rfl
          refine tr_getK q14 d_Grouping_keepAsBest_30 f_Grouping_25_7 ?_
          refine mv_iload d_Grouping_keepAsBest_33 rfl ?_
          refine mv_aload_n d_Grouping_keepAsBest_35 rfl rfl ?_
          obtain ⟨a17, q16, t_a17⟩ := tm_atR I_9 h_q0_9 (k := 7) rfl
          refine tr_getK q16 d_Grouping_keepAsBest_36 f_Grouping_22_7 ?_
          refine mv_iload d_Grouping_keepAsBest_39 rfl ?_
          refine tr_iald I_9 t_a17 (by decide) d_Grouping_keepAsBest_41 (vp_in_iff.mpr (by omega)) (fun v18 => ?_)
          refine tr_iastK tm_okF I_9 t_a15 (by decide) (Or.inl (by decide)) d_Grouping_keepAsBest_42 (vp_in_iff.mpr (by omega)) (fun M19 I20 K21 => ?_)
          refine mv_iinc (v := (i4_9 + 1)) (lv' := [(4, .int (i4_9 + 1)), (0, .ref o0), (1, .long x1), (3, .int x2)]) d_Grouping_keepAsBest_43 rfl rfl (by decide) rfl ?_
          refine mv_goto (tgt := 13) d_Grouping_keepAsBest_46 (by decide) ?_
          have b22 : (i4_9 + 1).toInt = i4_9.toInt + 1 := mz_addn 1 1 (by decide) (by have := mz_lo i4_9; omega) (by have := mz_hi i4_9; omega)
          exact (ih9 (i4_9 + 1) T_9 M19 n_9 I20 h_q0_9 (by first | omega | decide) (by omega))
  exact mv_less (Nat.zero_le _) (Nat.zero_le _) (L13_9 4294967296 0 T0 M5 n0 I6 h_o0 (by first | omega | decide) (by show (2147483647 - (0 : Int) : Int) < _; decide))
theorem lV_Grouping_80 : mj_lV "TrustDesk$Grouping" 80 kY_Grouping_keepAsBest 2 := ⟨⟨(mj_in1 (List.mem_of_getElem? (i := 1252) (by decide +kernel)) rfl), (mj_in1 (List.mem_of_getElem? (i := 5) (by decide +kernel)) rfl), (mj_in1 (List.mem_of_getElem? (i := 1255) (by decide +kernel)) rfl), by decide, rfl, by decide⟩, (mj_in1 (List.mem_of_getElem? (i := 1254) (by decide +kernel)) rfl), (mj_in (List.mem_append_left _ (List.mem_of_getElem? (i := 72) (by decide +kernel))) rfl)⟩
theorem d_Grouping_spread_85 : decode kY_Grouping_spread.2.1 85 = .ok (.return_, 1) := by decide +kernel
theorem d_Grouping_spread_73 : decode kY_Grouping_spread.2.1 73 = .ok (.iload_n 1, 1) := by decide +kernel
theorem d_Grouping_spread_74 : decode kY_Grouping_spread.2.1 74 = .ok (.bipush 8, 2) := by decide +kernel
theorem d_Grouping_spread_76 : decode kY_Grouping_spread.2.1 76 = .ok (.if_icmp .ne 10, 3) := by decide +kernel
theorem d_Grouping_spread_86 : decode kY_Grouping_spread.2.1 86 = .ok (.iconst 0, 1) := by decide +kernel
theorem d_Grouping_spread_87 : decode kY_Grouping_spread.2.1 87 = .ok (.istore 5, 2) := by decide +kernel
theorem d_Grouping_spread_89 : decode kY_Grouping_spread.2.1 89 = .ok (.iload 5, 2) := by decide +kernel
theorem d_Grouping_spread_91 : decode kY_Grouping_spread.2.1 91 = .ok (.iload_n 2, 1) := by decide +kernel
theorem d_Grouping_spread_92 : decode kY_Grouping_spread.2.1 92 = .ok (.if_icmp .gt 105, 3) := by decide +kernel
theorem d_Grouping_spread_197 : decode kY_Grouping_spread.2.1 197 = .ok (.return_, 1) := by decide +kernel
theorem d_Grouping_spread_95 : decode kY_Grouping_spread.2.1 95 = .ok (.iload 5, 2) := by decide +kernel
theorem d_Grouping_spread_97 : decode kY_Grouping_spread.2.1 97 = .ok (.bipush 8, 2) := by decide +kernel
theorem d_Grouping_spread_99 : decode kY_Grouping_spread.2.1 99 = .ok (.if_icmp .ge 98, 3) := by decide +kernel
theorem d_Grouping_spread_102 : decode kY_Grouping_spread.2.1 102 = .ok (.aload_n 0, 1) := by decide +kernel
theorem d_Grouping_spread_103 : decode kY_Grouping_spread.2.1 103 = .ok (.getfield 31, 3) := by decide +kernel
theorem d_Grouping_spread_106 : decode kY_Grouping_spread.2.1 106 = .ok (.iload 5, 2) := by decide +kernel
theorem d_Grouping_spread_108 : decode kY_Grouping_spread.2.1 108 = .ok (.iaload, 1) := by decide +kernel
theorem d_Grouping_spread_109 : decode kY_Grouping_spread.2.1 109 = .ok (.istore 6, 2) := by decide +kernel
theorem d_Grouping_spread_111 : decode kY_Grouping_spread.2.1 111 = .ok (.aload_n 0, 1) := by decide +kernel
theorem d_Grouping_spread_112 : decode kY_Grouping_spread.2.1 112 = .ok (.iload_n 1, 1) := by decide +kernel
theorem d_Grouping_spread_113 : decode kY_Grouping_spread.2.1 113 = .ok (.iload 5, 2) := by decide +kernel
theorem d_Grouping_spread_115 : decode kY_Grouping_spread.2.1 115 = .ok (.invokevirtual 56, 3) := by decide +kernel
abbrev kY_Grouping_put : mj_Y := (⟨"TrustDesk$Grouping", "put", "(II)V"⟩, prog_8_method_9_code, 3, (Option.none : Option Jvm.ClassFile.FieldType))
theorem d_Grouping_put_0 : decode kY_Grouping_put.2.1 0 = .ok (.iload_n 1, 1) := by decide +kernel
theorem d_Grouping_put_1 : decode kY_Grouping_put.2.1 1 = .ok (.ifCond .lt 19, 3) := by decide +kernel
theorem d_Grouping_put_20 : decode kY_Grouping_put.2.1 20 = .ok (.return_, 1) := by decide +kernel
theorem d_Grouping_put_4 : decode kY_Grouping_put.2.1 4 = .ok (.iload_n 1, 1) := by decide +kernel
theorem d_Grouping_put_5 : decode kY_Grouping_put.2.1 5 = .ok (.bipush 8, 2) := by decide +kernel
theorem d_Grouping_put_7 : decode kY_Grouping_put.2.1 7 = .ok (.if_icmp .ge 13, 3) := by decide +kernel
theorem d_Grouping_put_10 : decode kY_Grouping_put.2.1 10 = .ok (.iload_n 2, 1) := by decide +kernel
theorem d_Grouping_put_11 : decode kY_Grouping_put.2.1 11 = .ok (.ifCond .lt 9, 3) := by decide +kernel
theorem d_Grouping_put_14 : decode kY_Grouping_put.2.1 14 = .ok (.iload_n 2, 1) := by decide +kernel
theorem d_Grouping_put_15 : decode kY_Grouping_put.2.1 15 = .ok (.bipush 8, 2) := by decide +kernel
theorem d_Grouping_put_17 : decode kY_Grouping_put.2.1 17 = .ok (.if_icmp .lt 4, 3) := by decide +kernel
theorem d_Grouping_put_21 : decode kY_Grouping_put.2.1 21 = .ok (.aload_n 0, 1) := by decide +kernel
theorem d_Grouping_put_22 : decode kY_Grouping_put.2.1 22 = .ok (.getfield 28, 3) := by decide +kernel
theorem d_Grouping_put_25 : decode kY_Grouping_put.2.1 25 = .ok (.iload_n 2, 1) := by decide +kernel
theorem d_Grouping_put_26 : decode kY_Grouping_put.2.1 26 = .ok (.dup2, 1) := by decide +kernel
theorem d_Grouping_put_27 : decode kY_Grouping_put.2.1 27 = .ok (.iaload, 1) := by decide +kernel
theorem d_Grouping_put_28 : decode kY_Grouping_put.2.1 28 = .ok (.iconst 1, 1) := by decide +kernel
theorem d_Grouping_put_29 : decode kY_Grouping_put.2.1 29 = .ok (.iadd, 1) := by decide +kernel
theorem d_Grouping_put_30 : decode kY_Grouping_put.2.1 30 = .ok (.iastore, 1) := by decide +kernel
theorem d_Grouping_put_31 : decode kY_Grouping_put.2.1 31 = .ok (.aload_n 0, 1) := by decide +kernel
theorem d_Grouping_put_32 : decode kY_Grouping_put.2.1 32 = .ok (.getfield 34, 3) := by decide +kernel
theorem d_Grouping_put_35 : decode kY_Grouping_put.2.1 35 = .ok (.iload_n 2, 1) := by decide +kernel
theorem d_Grouping_put_36 : decode kY_Grouping_put.2.1 36 = .ok (.dup2, 1) := by decide +kernel
theorem d_Grouping_put_37 : decode kY_Grouping_put.2.1 37 = .ok (.laload, 1) := by decide +kernel
theorem d_Grouping_put_38 : decode kY_Grouping_put.2.1 38 = .ok (.aload_n 0, 1) := by decide +kernel
theorem d_Grouping_put_39 : decode kY_Grouping_put.2.1 39 = .ok (.getfield 15, 3) := by decide +kernel
theorem d_Grouping_put_42 : decode kY_Grouping_put.2.1 42 = .ok (.iload_n 1, 1) := by decide +kernel
theorem d_Grouping_put_43 : decode kY_Grouping_put.2.1 43 = .ok (.laload, 1) := by decide +kernel
theorem d_Grouping_put_44 : decode kY_Grouping_put.2.1 44 = .ok (.ladd, 1) := by decide +kernel
theorem d_Grouping_put_45 : decode kY_Grouping_put.2.1 45 = .ok (.lastore, 1) := by decide +kernel
theorem d_Grouping_put_46 : decode kY_Grouping_put.2.1 46 = .ok (.aload_n 0, 1) := by decide +kernel
theorem d_Grouping_put_47 : decode kY_Grouping_put.2.1 47 = .ok (.getfield 31, 3) := by decide +kernel
theorem d_Grouping_put_50 : decode kY_Grouping_put.2.1 50 = .ok (.iload_n 2, 1) := by decide +kernel
theorem d_Grouping_put_51 : decode kY_Grouping_put.2.1 51 = .ok (.dup2, 1) := by decide +kernel
theorem d_Grouping_put_52 : decode kY_Grouping_put.2.1 52 = .ok (.iaload, 1) := by decide +kernel
theorem d_Grouping_put_53 : decode kY_Grouping_put.2.1 53 = .ok (.aload_n 0, 1) := by decide +kernel
theorem d_Grouping_put_54 : decode kY_Grouping_put.2.1 54 = .ok (.getfield 9, 3) := by decide +kernel
theorem d_Grouping_put_57 : decode kY_Grouping_put.2.1 57 = .ok (.iload_n 1, 1) := by decide +kernel
theorem d_Grouping_put_58 : decode kY_Grouping_put.2.1 58 = .ok (.iaload, 1) := by decide +kernel
theorem d_Grouping_put_59 : decode kY_Grouping_put.2.1 59 = .ok (.iand, 1) := by decide +kernel
theorem d_Grouping_put_60 : decode kY_Grouping_put.2.1 60 = .ok (.iastore, 1) := by decide +kernel
theorem d_Grouping_put_61 : decode kY_Grouping_put.2.1 61 = .ok (.return_, 1) := by decide +kernel
def w_Grouping_put : List Nat := [759, 760, 761]
theorem tc_Grouping_put {g : mj_G} {l : Launch} {d : Nat} {T0 : tm_H} {M0 : mj_M} {n0 x9 : Nat} {o0 : Nat} {x1 : Int32} {x2 : Int32} (h_o0 : T0 o0 = some (0, 7, 0)) (I0 : tm_I tm_FT (tm_in w_Grouping_put) x9 T0 M0 n0 T0 M0 n0) : mj_Met g l kY_Grouping_put d [.ref o0, .int x1, .int x2] M0 n0 0 0 (tm_Q tm_FT (tm_in w_Grouping_put) x9 T0 M0 n0 (fun r _ _ => r = none)) := by
  refine mj_enter (by decide) (Nat.le_of_ble_eq_true rfl) ?_
  refine mv_iload_n d_Grouping_put_0 rfl rfl ?_
  have := mz_hi x1
  refine mv_if_ltZ (tgt := 20) (a := x1.toInt) d_Grouping_put_1 (by decide) rfl (fun b1 => ?_) (fun b1 => ?_)
  · exact mv_vret d_Grouping_put_20 rfl ⟨_, I0, rfl⟩
  · refine mv_iload_n d_Grouping_put_4 rfl rfl ?_
    refine mv_bipush (v := 8) d_Grouping_put_5 (by decide) ?_
    have := mz_hi x1
    refine mv_icmp_geZ (tgt := 20) (a := x1.toInt) (b := 8) d_Grouping_put_7 (by decide) rfl (by decide) (fun b2 => ?_) (fun b2 => ?_)
    · exact mv_vret d_Grouping_put_20 rfl ⟨_, I0, rfl⟩
    · refine mv_iload_n d_Grouping_put_10 rfl rfl ?_
      have := mz_hi x2
      refine mv_if_ltZ (tgt := 20) (a := x2.toInt) d_Grouping_put_11 (by decide) rfl (fun b3 => ?_) (fun b3 => ?_)
      · exact mv_vret d_Grouping_put_20 rfl ⟨_, I0, rfl⟩
      · refine mv_iload_n d_Grouping_put_14 rfl rfl ?_
        refine mv_bipush (v := 8) d_Grouping_put_15 (by decide) ?_
        have := mz_hi x2
        refine mv_icmp_ltZ (tgt := 21) (a := x2.toInt) (b := 8) d_Grouping_put_17 (by decide) rfl (by decide) (fun b4 => ?_) (fun b4 => ?_)
        · refine mv_aload_n d_Grouping_put_21 rfl rfl ?_
          obtain ⟨a6, q5, t_a6⟩ := tm_atR I0 h_o0 (k := 9) rfl
          refine tr_getK q5 d_Grouping_put_22 f_Grouping_28_7 ?_
          refine mv_iload_n d_Grouping_put_25 rfl rfl ?_
          refine mv_dup2_11 d_Grouping_put_26 rfl rfl ?_
          refine tr_iald I0 t_a6 (by decide) d_Grouping_put_27 (vp_in_iff.mpr (by omega)) (fun v7 => ?_)
          refine mv_iconst (v := 1) d_Grouping_put_28 (by decide) ?_
          refine mv_iadd d_Grouping_put_29 ?_
          refine tr_iastK tm_okF I0 t_a6 (by decide) (Or.inl (by decide)) d_Grouping_put_30 (vp_in_iff.mpr (by omega)) (fun M8 I9 K10 => ?_)
          refine mv_aload_n d_Grouping_put_31 rfl rfl ?_
          obtain ⟨a12, q11, t_a12⟩ := tm_atR I9 h_o0 (k := 11) rfl
          refine tr_getK q11 d_Grouping_put_32 f_Grouping_34_7 ?_
          refine mv_iload_n d_Grouping_put_35 rfl rfl ?_
          refine mv_dup2_11 d_Grouping_put_36 rfl rfl ?_
          refine tr_lald I9 t_a12 (by decide) d_Grouping_put_37 (vp_in_iff.mpr (by omega)) (fun v13 => ?_)
          refine mv_aload_n d_Grouping_put_38 rfl rfl ?_
          obtain ⟨a15, q14, t_a15⟩ := tm_atR I9 h_o0 (k := 5) rfl
          refine tr_getK q14 d_Grouping_put_39 f_Grouping_15_7 ?_
          refine mv_iload_n d_Grouping_put_42 rfl rfl ?_
          refine tr_lald I9 t_a15 (by decide) d_Grouping_put_43 (vp_in_iff.mpr (by omega)) (fun v16 => ?_)
          refine mv_ladd d_Grouping_put_44 ?_
          refine tr_lastK tm_okF I9 t_a12 (by decide) (Or.inl (by decide)) d_Grouping_put_45 (vp_in_iff.mpr (by omega)) (fun M17 I18 K19 => ?_)
          refine mv_aload_n d_Grouping_put_46 rfl rfl ?_
          obtain ⟨a21, q20, t_a21⟩ := tm_atR I18 h_o0 (k := 10) rfl
          refine tr_getK q20 d_Grouping_put_47 f_Grouping_31_7 ?_
          refine mv_iload_n d_Grouping_put_50 rfl rfl ?_
          refine mv_dup2_11 d_Grouping_put_51 rfl rfl ?_
          refine tr_iald I18 t_a21 (by decide) d_Grouping_put_52 (vp_in_iff.mpr (by omega)) (fun v22 => ?_)
          refine mv_aload_n d_Grouping_put_53 rfl rfl ?_
          obtain ⟨a24, q23, t_a24⟩ := tm_atR I18 h_o0 (k := 4) rfl
          refine tr_getK q23 d_Grouping_put_54 f_Grouping_9_7 ?_
          refine mv_iload_n d_Grouping_put_57 rfl rfl ?_
          refine tr_iald I18 t_a24 (by decide) d_Grouping_put_58 (vp_in_iff.mpr (by omega)) (fun v25 => ?_)
          refine mv_iand d_Grouping_put_59 ?_
          refine tr_iastK tm_okF I18 t_a21 (by decide) (Or.inl (by decide)) d_Grouping_put_60 (vp_in_iff.mpr (by omega)) (fun M26 I27 K28 => ?_)
          exact mv_vret d_Grouping_put_61 rfl ⟨_, I27, rfl⟩
        · exact mv_vret d_Grouping_put_20 rfl ⟨_, I0, rfl⟩
theorem lV_Grouping_56 : mj_lV "TrustDesk$Grouping" 56 kY_Grouping_put 2 := ⟨⟨(mj_in1 (List.mem_of_getElem? (i := 1256) (by decide +kernel)) rfl), (mj_in1 (List.mem_of_getElem? (i := 5) (by decide +kernel)) rfl), (mj_in1 (List.mem_of_getElem? (i := 1259) (by decide +kernel)) rfl), by decide, rfl, by decide⟩, (mj_in1 (List.mem_of_getElem? (i := 1258) (by decide +kernel)) rfl), (mj_in (List.mem_append_left _ (List.mem_of_getElem? (i := 73) (by decide +kernel))) rfl)⟩
theorem d_Grouping_spread_118 : decode kY_Grouping_spread.2.1 118 = .ok (.aload_n 0, 1) := by decide +kernel
theorem d_Grouping_spread_119 : decode kY_Grouping_spread.2.1 119 = .ok (.iload 5, 2) := by decide +kernel
theorem d_Grouping_spread_121 : decode kY_Grouping_spread.2.1 121 = .ok (.invokevirtual 60, 3) := by decide +kernel
abbrev kY_Grouping_holdsTogether : mj_Y := (⟨"TrustDesk$Grouping", "holdsTogether", "(I)Z"⟩, prog_8_method_10_code, 2, (Option.some Jvm.ClassFile.FieldType.boolean))
theorem d_Grouping_holdsTogether_0 : decode kY_Grouping_holdsTogether.2.1 0 = .ok (.iload_n 1, 1) := by decide +kernel
theorem d_Grouping_holdsTogether_1 : decode kY_Grouping_holdsTogether.2.1 1 = .ok (.ifCond .lt 39, 3) := by decide +kernel
theorem d_Grouping_holdsTogether_40 : decode kY_Grouping_holdsTogether.2.1 40 = .ok (.iconst 0, 1) := by decide +kernel
theorem d_Grouping_holdsTogether_41 : decode kY_Grouping_holdsTogether.2.1 41 = .ok (.ireturn, 1) := by decide +kernel
theorem d_Grouping_holdsTogether_4 : decode kY_Grouping_holdsTogether.2.1 4 = .ok (.iload_n 1, 1) := by decide +kernel
theorem d_Grouping_holdsTogether_5 : decode kY_Grouping_holdsTogether.2.1 5 = .ok (.bipush 8, 2) := by decide +kernel
theorem d_Grouping_holdsTogether_7 : decode kY_Grouping_holdsTogether.2.1 7 = .ok (.if_icmp .ge 33, 3) := by decide +kernel
theorem d_Grouping_holdsTogether_10 : decode kY_Grouping_holdsTogether.2.1 10 = .ok (.aload_n 0, 1) := by decide +kernel
theorem d_Grouping_holdsTogether_11 : decode kY_Grouping_holdsTogether.2.1 11 = .ok (.getfield 28, 3) := by decide +kernel
theorem d_Grouping_holdsTogether_14 : decode kY_Grouping_holdsTogether.2.1 14 = .ok (.iload_n 1, 1) := by decide +kernel
theorem d_Grouping_holdsTogether_15 : decode kY_Grouping_holdsTogether.2.1 15 = .ok (.iaload, 1) := by decide +kernel
theorem d_Grouping_holdsTogether_16 : decode kY_Grouping_holdsTogether.2.1 16 = .ok (.iconst 1, 1) := by decide +kernel
theorem d_Grouping_holdsTogether_17 : decode kY_Grouping_holdsTogether.2.1 17 = .ok (.if_icmp .le 19, 3) := by decide +kernel
theorem d_Grouping_holdsTogether_36 : decode kY_Grouping_holdsTogether.2.1 36 = .ok (.iconst 1, 1) := by decide +kernel
theorem d_Grouping_holdsTogether_37 : decode kY_Grouping_holdsTogether.2.1 37 = .ok (.goto 4, 3) := by decide +kernel
theorem d_Grouping_holdsTogether_20 : decode kY_Grouping_holdsTogether.2.1 20 = .ok (.aload_n 0, 1) := by decide +kernel
theorem d_Grouping_holdsTogether_21 : decode kY_Grouping_holdsTogether.2.1 21 = .ok (.getfield 31, 3) := by decide +kernel
theorem d_Grouping_holdsTogether_24 : decode kY_Grouping_holdsTogether.2.1 24 = .ok (.iload_n 1, 1) := by decide +kernel
theorem d_Grouping_holdsTogether_25 : decode kY_Grouping_holdsTogether.2.1 25 = .ok (.iaload, 1) := by decide +kernel
theorem d_Grouping_holdsTogether_26 : decode kY_Grouping_holdsTogether.2.1 26 = .ok (.invokestatic 84, 3) := by decide +kernel
theorem lS_Grouping_84 : mj_lS "TrustDesk$Grouping" 84 kY_Integer_bitCount 1 := ⟨⟨(mj_in1 (List.mem_of_getElem? (i := 1264) (by decide +kernel)) rfl), (mj_in1 (List.mem_of_getElem? (i := 26) (by decide +kernel)) rfl), (mj_in1 (List.mem_of_getElem? (i := 1091) (by decide +kernel)) rfl), by decide, rfl, by decide⟩, (mj_in1 (List.mem_of_getElem? (i := 1090) (by decide +kernel)) rfl)⟩
theorem d_Grouping_holdsTogether_29 : decode kY_Grouping_holdsTogether.2.1 29 = .ok (.aload_n 0, 1) := by decide +kernel
theorem d_Grouping_holdsTogether_30 : decode kY_Grouping_holdsTogether.2.1 30 = .ok (.getfield 40, 3) := by decide +kernel
theorem f_Grouping_40_7 : mj_fl "TrustDesk$Grouping" 40 7 1 := ⟨kR_Grouping, kF_Grouping, 14, "TrustDesk$Grouping", rfl, kg_7, by decide, (mj_in1 (List.mem_of_getElem? (i := 163) (by decide +kernel)) rfl), Or.inl rfl⟩
theorem d_Grouping_holdsTogether_33 : decode kY_Grouping_holdsTogether.2.1 33 = .ok (.if_icmp .lt 7, 3) := by decide +kernel
def w_Grouping_holdsTogether : List Nat := []
theorem tc_Grouping_holdsTogether {g : mj_G} {l : Launch} {d : Nat} {T0 : tm_H} {M0 : mj_M} {n0 x9 : Nat} {o0 : Nat} {x1 : Int32} (h_o0 : T0 o0 = some (0, 7, 0)) (I0 : tm_I tm_FT (tm_in w_Grouping_holdsTogether) x9 T0 M0 n0 T0 M0 n0) : mj_Met g l kY_Grouping_holdsTogether (d + 1) [.ref o0, .int x1] M0 n0 0 0 (tm_Q tm_FT (tm_in w_Grouping_holdsTogether) x9 T0 M0 n0 (fun r _ _ => ∃ v : Int32, r = some (.int v) ∧ 0 ≤ v.toInt ∧ v.toInt ≤ 1)) := by
  refine mj_enter (by decide) (Nat.le_of_ble_eq_true rfl) ?_
  refine mv_iload_n d_Grouping_holdsTogether_0 rfl rfl ?_
  have := mz_hi x1
  refine mv_if_ltZ (tgt := 40) (a := x1.toInt) d_Grouping_holdsTogether_1 (by decide) rfl (fun b1 => ?_) (fun b1 => ?_)
  · refine mv_iconst (v := 0) d_Grouping_holdsTogether_40 (by decide) ?_
    exact mv_iret d_Grouping_holdsTogether_41 rfl (by decide) ⟨_, I0, _, rfl, by decide, by decide⟩
  · refine mv_iload_n d_Grouping_holdsTogether_4 rfl rfl ?_
    refine mv_bipush (v := 8) d_Grouping_holdsTogether_5 (by decide) ?_
    have := mz_hi x1
    refine mv_icmp_geZ (tgt := 40) (a := x1.toInt) (b := 8) d_Grouping_holdsTogether_7 (by decide) rfl (by decide) (fun b2 => ?_) (fun b2 => ?_)
    · refine mv_iconst (v := 0) d_Grouping_holdsTogether_40 (by decide) ?_
      exact mv_iret d_Grouping_holdsTogether_41 rfl (by decide) ⟨_, I0, _, rfl, by decide, by decide⟩
    · refine mv_aload_n d_Grouping_holdsTogether_10 rfl rfl ?_
      obtain ⟨a4, q3, t_a4⟩ := tm_atR I0 h_o0 (k := 9) rfl
      refine tr_getK q3 d_Grouping_holdsTogether_11 f_Grouping_28_7 ?_
      refine mv_iload_n d_Grouping_holdsTogether_14 rfl rfl ?_
      refine tr_iald I0 t_a4 (by decide) d_Grouping_holdsTogether_15 (vp_in_iff.mpr (by omega)) (fun v5 => ?_)
      refine mv_iconst (v := 1) d_Grouping_holdsTogether_16 (by decide) ?_
      have := mz_hi v5
      refine mv_icmp_leZ (tgt := 36) (a := v5.toInt) (b := 1) d_Grouping_holdsTogether_17 (by decide) rfl (by decide) (fun b6 => ?_) (fun b6 => ?_)
      · refine mv_iconst (v := 1) d_Grouping_holdsTogether_36 (by decide) ?_
        refine mv_goto (tgt := 41) d_Grouping_holdsTogether_37 (by decide) ?_
        exact mv_iret d_Grouping_holdsTogether_41 rfl (by decide) ⟨_, I0, _, rfl, by decide, by decide⟩
      · refine mv_aload_n d_Grouping_holdsTogether_20 rfl rfl ?_
        obtain ⟨a8, q7, t_a8⟩ := tm_atR I0 h_o0 (k := 10) rfl
        refine tr_getK q7 d_Grouping_holdsTogether_21 f_Grouping_31_7 ?_
        refine mv_iload_n d_Grouping_holdsTogether_24 rfl rfl ?_
        refine tr_iald I0 t_a8 (by decide) d_Grouping_holdsTogether_25 (vp_in_iff.mpr (by omega)) (fun v9 => ?_)
        refine mv_callS (kc' := 0) (ks' := 0) (As := [.int v9]) (st9 := [.int v9]) d_Grouping_holdsTogether_26 lS_Grouping_84 (tc_Integer_bitCount (d := d) (x9 := x9) (x1 := v9)  I0.start) rfl (Nat.le_of_ble_eq_true rfl) (Nat.le_of_ble_eq_true rfl) (Nat.le_of_ble_eq_true rfl) (hst := rfl) (fun b10r M11 n12 b10 => ?_)
        obtain ⟨T13, J14, v16, rfl⟩ := b10
        have I15 := I0.call J14 (tm_sub (by decide)) (Or.inl rfl)
        have t17 := J14.up h_o0
        have q18 := J14.keep h_o0 (by decide) q3
        have t19 := J14.up t_a4
        have q20 := J14.keep h_o0 (by decide) q7
        have t21 := J14.up t_a8
        refine mv_aload_n d_Grouping_holdsTogether_29 rfl rfl ?_
        obtain ⟨v23, q22⟩ := tm_atI I15 t17 (k := 1) rfl
        refine tr_getK q22 d_Grouping_holdsTogether_30 f_Grouping_40_7 ?_
        have := mz_hi v16
        have := mz_hi v23
        refine mv_icmp_ltZ (tgt := 40) (a := v16.toInt) (b := v23.toInt) d_Grouping_holdsTogether_33 (by decide) rfl rfl (fun b24 => ?_) (fun b24 => ?_)
        · refine mv_iconst (v := 0) d_Grouping_holdsTogether_40 (by decide) ?_
          exact mv_iret d_Grouping_holdsTogether_41 rfl (by decide) ⟨_, I15, _, rfl, by decide, by decide⟩
        · refine mv_iconst (v := 1) d_Grouping_holdsTogether_36 (by decide) ?_
          refine mv_goto (tgt := 41) d_Grouping_holdsTogether_37 (by decide) ?_
          exact mv_iret d_Grouping_holdsTogether_41 rfl (by decide) ⟨_, I15, _, rfl, by decide, by decide⟩
theorem lV_Grouping_60 : mj_lV "TrustDesk$Grouping" 60 kY_Grouping_holdsTogether 1 := ⟨⟨(mj_in1 (List.mem_of_getElem? (i := 1260) (by decide +kernel)) rfl), (mj_in1 (List.mem_of_getElem? (i := 5) (by decide +kernel)) rfl), (mj_in1 (List.mem_of_getElem? (i := 1263) (by decide +kernel)) rfl), by decide, rfl, by decide⟩, (mj_in1 (List.mem_of_getElem? (i := 1262) (by decide +kernel)) rfl), (mj_in (List.mem_append_left _ (List.mem_of_getElem? (i := 74) (by decide +kernel))) rfl)⟩
theorem d_Grouping_spread_124 : decode kY_Grouping_spread.2.1 124 = .ok (.ifCond .eq 31, 3) := by decide +kernel
theorem d_Grouping_spread_155 : decode kY_Grouping_spread.2.1 155 = .ok (.aload_n 0, 1) := by decide +kernel
theorem d_Grouping_spread_156 : decode kY_Grouping_spread.2.1 156 = .ok (.getfield 28, 3) := by decide +kernel
theorem d_Grouping_spread_159 : decode kY_Grouping_spread.2.1 159 = .ok (.iload 5, 2) := by decide +kernel
theorem d_Grouping_spread_161 : decode kY_Grouping_spread.2.1 161 = .ok (.dup2, 1) := by decide +kernel
theorem d_Grouping_spread_162 : decode kY_Grouping_spread.2.1 162 = .ok (.iaload, 1) := by decide +kernel
theorem d_Grouping_spread_163 : decode kY_Grouping_spread.2.1 163 = .ok (.iconst 1, 1) := by decide +kernel
theorem d_Grouping_spread_164 : decode kY_Grouping_spread.2.1 164 = .ok (.isub, 1) := by decide +kernel
theorem d_Grouping_spread_165 : decode kY_Grouping_spread.2.1 165 = .ok (.iastore, 1) := by decide +kernel
theorem d_Grouping_spread_166 : decode kY_Grouping_spread.2.1 166 = .ok (.aload_n 0, 1) := by decide +kernel
theorem d_Grouping_spread_167 : decode kY_Grouping_spread.2.1 167 = .ok (.getfield 34, 3) := by decide +kernel
theorem d_Grouping_spread_170 : decode kY_Grouping_spread.2.1 170 = .ok (.iload 5, 2) := by decide +kernel
theorem d_Grouping_spread_172 : decode kY_Grouping_spread.2.1 172 = .ok (.dup2, 1) := by decide +kernel
theorem d_Grouping_spread_173 : decode kY_Grouping_spread.2.1 173 = .ok (.laload, 1) := by decide +kernel
theorem d_Grouping_spread_174 : decode kY_Grouping_spread.2.1 174 = .ok (.aload_n 0, 1) := by decide +kernel
theorem d_Grouping_spread_175 : decode kY_Grouping_spread.2.1 175 = .ok (.getfield 15, 3) := by decide +kernel
theorem d_Grouping_spread_178 : decode kY_Grouping_spread.2.1 178 = .ok (.iload_n 1, 1) := by decide +kernel
theorem d_Grouping_spread_179 : decode kY_Grouping_spread.2.1 179 = .ok (.laload, 1) := by decide +kernel
theorem d_Grouping_spread_180 : decode kY_Grouping_spread.2.1 180 = .ok (.lsub, 1) := by decide +kernel
theorem d_Grouping_spread_181 : decode kY_Grouping_spread.2.1 181 = .ok (.lastore, 1) := by decide +kernel
theorem d_Grouping_spread_182 : decode kY_Grouping_spread.2.1 182 = .ok (.aload_n 0, 1) := by decide +kernel
theorem d_Grouping_spread_183 : decode kY_Grouping_spread.2.1 183 = .ok (.getfield 31, 3) := by decide +kernel
theorem d_Grouping_spread_186 : decode kY_Grouping_spread.2.1 186 = .ok (.iload 5, 2) := by decide +kernel
theorem d_Grouping_spread_188 : decode kY_Grouping_spread.2.1 188 = .ok (.iload 6, 2) := by decide +kernel
theorem d_Grouping_spread_190 : decode kY_Grouping_spread.2.1 190 = .ok (.iastore, 1) := by decide +kernel
theorem d_Grouping_spread_191 : decode kY_Grouping_spread.2.1 191 = .ok (.iinc 5 1, 3) := by decide +kernel
theorem d_Grouping_spread_194 : decode kY_Grouping_spread.2.1 194 = .ok (.goto (-105), 3) := by decide +kernel
theorem d_Grouping_spread_127 : decode kY_Grouping_spread.2.1 127 = .ok (.aload_n 0, 1) := by decide +kernel
theorem d_Grouping_spread_128 : decode kY_Grouping_spread.2.1 128 = .ok (.getfield 22, 3) := by decide +kernel
theorem d_Grouping_spread_131 : decode kY_Grouping_spread.2.1 131 = .ok (.iload_n 1, 1) := by decide +kernel
theorem d_Grouping_spread_132 : decode kY_Grouping_spread.2.1 132 = .ok (.iload 5, 2) := by decide +kernel
theorem d_Grouping_spread_134 : decode kY_Grouping_spread.2.1 134 = .ok (.iastore, 1) := by decide +kernel
theorem d_Grouping_spread_135 : decode kY_Grouping_spread.2.1 135 = .ok (.aload_n 0, 1) := by decide +kernel
theorem d_Grouping_spread_136 : decode kY_Grouping_spread.2.1 136 = .ok (.iload_n 1, 1) := by decide +kernel
theorem d_Grouping_spread_137 : decode kY_Grouping_spread.2.1 137 = .ok (.iconst 1, 1) := by decide +kernel
theorem d_Grouping_spread_138 : decode kY_Grouping_spread.2.1 138 = .ok (.iadd, 1) := by decide +kernel
theorem d_Grouping_spread_139 : decode kY_Grouping_spread.2.1 139 = .ok (.iload 5, 2) := by decide +kernel
theorem d_Grouping_spread_141 : decode kY_Grouping_spread.2.1 141 = .ok (.iload_n 2, 1) := by decide +kernel
theorem d_Grouping_spread_142 : decode kY_Grouping_spread.2.1 142 = .ok (.if_icmp .ne 9, 3) := by decide +kernel
theorem d_Grouping_spread_151 : decode kY_Grouping_spread.2.1 151 = .ok (.iload_n 2, 1) := by decide +kernel
theorem d_Grouping_spread_152 : decode kY_Grouping_spread.2.1 152 = .ok (.invokevirtual 77, 3) := by decide +kernel
def w_Grouping_spread_q0 : List Nat := []
theorem tc_Grouping_spread_q0 {g : mj_G} {l : Launch} {d : Nat} {T0 : tm_H} {M0 : mj_M} {n0 x9 : Nat} {o0 : Nat} {x1 : Int32} {x2 : Int32} (h_o0 : T0 o0 = some (0, 7, 0)) (hp : 9 ≤ x1.toInt) (I0 : tm_I tm_FT (tm_in w_Grouping_spread_q0) x9 T0 M0 n0 T0 M0 n0) : mj_Met g l kY_Grouping_spread d [.ref o0, .int x1, .int x2] M0 n0 0 0 (tm_Q tm_FT (tm_in w_Grouping_spread_q0) x9 T0 M0 n0 (fun r _ _ => r = none)) := by
  refine mj_enter (by decide) (Nat.le_of_ble_eq_true rfl) ?_
  refine mv_iload_n d_Grouping_spread_0 rfl rfl ?_
  have := mz_hi x1
  refine mv_if_ltZ (tgt := 10) (a := x1.toInt) d_Grouping_spread_1 (by decide) rfl (fun b1 => ?_) (fun b1 => ?_)
  · exact mv_vret d_Grouping_spread_10 rfl ⟨_, I0, rfl⟩
  · refine mv_iload_n d_Grouping_spread_4 rfl rfl ?_
    refine mv_bipush (v := 8) d_Grouping_spread_5 (by decide) ?_
    have := mz_hi x1
    refine mv_icmp_leZ (tgt := 11) (a := x1.toInt) (b := 8) d_Grouping_spread_7 (by decide) rfl (by decide) (fun b2 => ?_) (fun b2 => ?_)
    · exfalso
      omega
    · exact mv_vret d_Grouping_spread_10 rfl ⟨_, I0, rfl⟩
theorem lV_Grouping_77 : mj_lV "TrustDesk$Grouping" 77 kY_Grouping_spread 2 := ⟨⟨(mj_in1 (List.mem_of_getElem? (i := 1244) (by decide +kernel)) rfl), (mj_in1 (List.mem_of_getElem? (i := 5) (by decide +kernel)) rfl), (mj_in1 (List.mem_of_getElem? (i := 1247) (by decide +kernel)) rfl), by decide, rfl, by decide⟩, (mj_in1 (List.mem_of_getElem? (i := 1246) (by decide +kernel)) rfl), (mj_in (List.mem_append_left _ (List.mem_of_getElem? (i := 70) (by decide +kernel))) rfl)⟩
theorem d_Grouping_spread_145 : decode kY_Grouping_spread.2.1 145 = .ok (.iload_n 2, 1) := by decide +kernel
theorem d_Grouping_spread_146 : decode kY_Grouping_spread.2.1 146 = .ok (.iconst 1, 1) := by decide +kernel
theorem d_Grouping_spread_147 : decode kY_Grouping_spread.2.1 147 = .ok (.iadd, 1) := by decide +kernel
theorem d_Grouping_spread_148 : decode kY_Grouping_spread.2.1 148 = .ok (.goto 4, 3) := by decide +kernel
theorem d_Grouping_spread_38 : decode kY_Grouping_spread.2.1 38 = .ok (.lload_n 3, 1) := by decide +kernel
theorem d_Grouping_spread_39 : decode kY_Grouping_spread.2.1 39 = .ok (.aload_n 0, 1) := by decide +kernel
theorem d_Grouping_spread_40 : decode kY_Grouping_spread.2.1 40 = .ok (.getfield 50, 3) := by decide +kernel
theorem f_Grouping_50_7 : mj_fl "TrustDesk$Grouping" 50 7 0 := ⟨kR_Grouping, kF_Grouping, 14, "TrustDesk$Grouping", rfl, kg_7, by decide, (mj_in1 (List.mem_of_getElem? (i := 161) (by decide +kernel)) rfl), Or.inl rfl⟩
theorem d_Grouping_spread_43 : decode kY_Grouping_spread.2.1 43 = .ok (.lcmp, 1) := by decide +kernel
theorem d_Grouping_spread_44 : decode kY_Grouping_spread.2.1 44 = .ok (.ifCond .gt 20, 3) := by decide +kernel
theorem d_Grouping_spread_64 : decode kY_Grouping_spread.2.1 64 = .ok (.return_, 1) := by decide +kernel
theorem d_Grouping_spread_47 : decode kY_Grouping_spread.2.1 47 = .ok (.lload_n 3, 1) := by decide +kernel
theorem d_Grouping_spread_48 : decode kY_Grouping_spread.2.1 48 = .ok (.aload_n 0, 1) := by decide +kernel
theorem d_Grouping_spread_49 : decode kY_Grouping_spread.2.1 49 = .ok (.getfield 50, 3) := by decide +kernel
theorem d_Grouping_spread_52 : decode kY_Grouping_spread.2.1 52 = .ok (.lcmp, 1) := by decide +kernel
theorem d_Grouping_spread_53 : decode kY_Grouping_spread.2.1 53 = .ok (.ifCond .ne 12, 3) := by decide +kernel
theorem d_Grouping_spread_56 : decode kY_Grouping_spread.2.1 56 = .ok (.iload_n 2, 1) := by decide +kernel
theorem d_Grouping_spread_57 : decode kY_Grouping_spread.2.1 57 = .ok (.aload_n 0, 1) := by decide +kernel
theorem d_Grouping_spread_58 : decode kY_Grouping_spread.2.1 58 = .ok (.getfield 47, 3) := by decide +kernel
theorem d_Grouping_spread_61 : decode kY_Grouping_spread.2.1 61 = .ok (.if_icmp .lt 4, 3) := by decide +kernel
def w_Grouping_spread_q1 : List Nat := [700, 703, 757, 758, 759, 760, 761]
theorem tc_Grouping_spread_q1 {g : mj_G} {l : Launch} {d : Nat} {T0 : tm_H} {M0 : mj_M} {n0 x9 : Nat} {o0 : Nat} {x1 : Int32} {x2 : Int32} (h_o0 : T0 o0 = some (0, 7, 0)) (hp : 8 ≤ x1.toInt) (I0 : tm_I tm_FT (tm_in w_Grouping_spread_q1) x9 T0 M0 n0 T0 M0 n0) : mj_Met g l kY_Grouping_spread (d + 2) [.ref o0, .int x1, .int x2] M0 n0 0 0 (tm_Q tm_FT (tm_in w_Grouping_spread_q1) x9 T0 M0 n0 (fun r _ _ => r = none)) := by
  refine mj_enter (by decide) (Nat.le_of_ble_eq_true rfl) ?_
  refine mv_iload_n d_Grouping_spread_0 rfl rfl ?_
  have := mz_hi x1
  refine mv_if_ltZ (tgt := 10) (a := x1.toInt) d_Grouping_spread_1 (by decide) rfl (fun b1 => ?_) (fun b1 => ?_)
  · exact mv_vret d_Grouping_spread_10 rfl ⟨_, I0, rfl⟩
  · refine mv_iload_n d_Grouping_spread_4 rfl rfl ?_
    refine mv_bipush (v := 8) d_Grouping_spread_5 (by decide) ?_
    have := mz_hi x1
    refine mv_icmp_leZ (tgt := 11) (a := x1.toInt) (b := 8) d_Grouping_spread_7 (by decide) rfl (by decide) (fun b2 => ?_) (fun b2 => ?_)
    · refine mv_aload_n d_Grouping_spread_11 rfl rfl ?_
      obtain ⟨v4, q3⟩ := tm_atL I0 h_o0 (k := 13) rfl
      refine tr_getK q3 d_Grouping_spread_12 f_Grouping_74_7 ?_
      refine mv_aload_n d_Grouping_spread_15 rfl rfl ?_
      refine mv_iload_n d_Grouping_spread_16 rfl rfl ?_
      obtain ⟨_, b11, -⟩ := I0.1 _ _ h_o0
      refine mv_callV (kc' := 0) (ks' := 0) (As := [.int x2]) (st9 := [.int x2, .ref o0, .long v4]) d_Grouping_spread_17 lV_Grouping_64 b11 rfl (tc_Grouping_idleOf (d := d) (x9 := x9) (o0 := o0) (x1 := x2) h_o0 I0.start) rfl (Nat.le_of_ble_eq_true rfl) (Nat.le_of_ble_eq_true rfl) (Nat.le_of_ble_eq_true rfl) (hst := rfl) (fun b5r M6 n7 b5 => ?_)
      obtain ⟨T8, J9, v12, rfl⟩ := b5
      have I10 := I0.call J9 (tm_sub (by decide)) (Or.inl rfl)
      have t13 := J9.up h_o0
      have q14 := J9.keep h_o0 (by decide) q3
      refine mv_aload_n d_Grouping_spread_20 rfl rfl ?_
      obtain ⟨a16, q15, t_a16⟩ := tm_atR I10 t13 (k := 12) rfl
      refine tr_getK q15 d_Grouping_spread_21 f_Grouping_37_7 ?_
      refine mv_iload_n d_Grouping_spread_24 rfl rfl ?_
      refine tr_lald I10 t_a16 (by decide) d_Grouping_spread_25 (vp_in_iff.mpr (by omega)) (fun v17 => ?_)
      refine mv_lsub d_Grouping_spread_26 ?_
      refine mv_mmax_long (v := (if (v12 - v17) < v4 then v4 else (v12 - v17))) d_Grouping_spread_27 (mj_in1 (List.mem_of_getElem? (i := 1243) (by decide +kernel)) rfl) (Nat.le_of_ble_eq_true rfl) rfl ?_
      refine mv_lstore_n (lv' := [(3, .long (if (v12 - v17) < v4 then v4 else (v12 - v17))), (0, .ref o0), (1, .int x1), (2, .int x2)]) d_Grouping_spread_30 rfl (by decide) rfl ?_
      refine mv_aload_n d_Grouping_spread_31 rfl rfl ?_
      obtain ⟨v19, q18⟩ := tm_atI I10 t13 (k := 3) rfl
      refine tr_getK q18 d_Grouping_spread_32 f_Grouping_47_7 ?_
      have := mz_hi v19
      refine mv_if_eqZ (tgt := 65) (a := v19.toInt) d_Grouping_spread_35 (by decide) rfl (fun b20 => ?_) (fun b20 => ?_)
      · refine mv_iload_n d_Grouping_spread_65 rfl rfl ?_
        refine mv_aload_n d_Grouping_spread_66 rfl rfl ?_
        obtain ⟨v22, q21⟩ := tm_atI I10 t13 (k := 2) rfl
        refine tr_getK q21 d_Grouping_spread_67 f_Grouping_44_7 ?_
        have := mz_hi x1
        have := mz_hi v22
        refine mv_icmp_geZ (tgt := 79) (a := x1.toInt) (b := v22.toInt) d_Grouping_spread_70 (by decide) rfl rfl (fun b23 => ?_) (fun b23 => ?_)
        · refine mv_aload_n d_Grouping_spread_79 rfl rfl ?_
          refine mv_lload_n d_Grouping_spread_80 rfl rfl ?_
          refine mv_iload_n d_Grouping_spread_81 rfl rfl ?_
          obtain ⟨_, b30, -⟩ := I10.1 _ _ t13
          refine mv_callV (kc' := 0) (ks' := 0) (As := [.long (if (v12 - v17) < v4 then v4 else (v12 - v17)), .int x2]) (st9 := [.int x2, .long (if (v12 - v17) < v4 then v4 else (v12 - v17)), .ref o0]) d_Grouping_spread_82 lV_Grouping_80 b30 rfl (tc_Grouping_keepAsBest (d := (d + 1)) (x9 := x9) (o0 := o0) (x1 := (if (v12 - v17) < v4 then v4 else (v12 - v17))) (x2 := x2) t13 I10.start) rfl (Nat.le_of_ble_eq_true rfl) (Nat.le_of_ble_eq_true rfl) (Nat.le_of_ble_eq_true rfl) (hst := rfl) (fun b24r M25 n26 b24 => ?_)
          obtain ⟨T27, J28, rfl⟩ := b24
          have I29 := I10.call J28 (tm_sub (by decide)) (Or.inl rfl)
          have t31 := J28.up t13
          have q32 := J28.keep t13 (by decide) q14
          have q33 := J28.keep t13 (by decide) q15
          have t34 := J28.up t_a16
          have q35 := J28.keep t13 (by decide) q21
          exact mv_vret d_Grouping_spread_85 rfl ⟨_, I29, rfl⟩
        · refine mv_iload_n d_Grouping_spread_73 rfl rfl ?_
          refine mv_bipush (v := 8) d_Grouping_spread_74 (by decide) ?_
          have := mz_hi x1
          refine mv_icmp_neZ (tgt := 86) (a := x1.toInt) (b := 8) d_Grouping_spread_76 (by decide) rfl (by decide) (fun b36 => ?_) (fun b36 => ?_)
          · refine mv_iconst (v := 0) d_Grouping_spread_86 (by decide) ?_
            refine mv_istore (lv' := [(5, .int 0), (3, .long (if (v12 - v17) < v4 then v4 else (v12 - v17))), (0, .ref o0), (1, .int x1), (2, .int x2)]) d_Grouping_spread_87 (by decide) rfl ?_
            have L89_37 : ∀ (k : Nat) (i5_37 : Int32) (T_37 : tm_H) (M_37 : mj_M) (n_37 : Nat), tm_I tm_FT (tm_in w_Grouping_spread_q1) x9 T0 M0 n0 T_37 M_37 n_37 → T_37 o0 = some (0, 7, 0) → 0 ≤ i5_37.toInt → 2147483647 - i5_37.toInt < (k : Int) → mj_V g l kY_Grouping_spread (d + 2) 89 [(5, .int i5_37), (3, .long (if (v12 - v17) < v4 then v4 else (v12 - v17))), (0, .ref o0), (1, .int x1), (2, .int x2)] [] M_37 n_37 0 0 (tm_Q tm_FT (tm_in w_Grouping_spread_q1) x9 T0 M0 n0 (fun r _ _ => r = none)) := by
              intro k37
              induction k37 with
              | zero =>
                intro i5_37 T_37 M_37 n_37 I_37 h_q0_37 iv0_37 hk37
                have := mz_hi i5_37
                omega
              | succ k37 ih37 =>
                intro i5_37 T_37 M_37 n_37 I_37 h_q0_37 iv0_37 hk37
                refine mv_iload d_Grouping_spread_89 rfl ?_
                refine mv_iload_n d_Grouping_spread_91 rfl rfl ?_
                have := mz_hi i5_37
                have := mz_hi x2
                refine mv_icmp_gtZ (tgt := 197) (a := i5_37.toInt) (b := x2.toInt) d_Grouping_spread_92 (by decide) rfl rfl (fun b38 => ?_) (fun b38 => ?_)
                · exact mv_vret d_Grouping_spread_197 rfl ⟨_, I_37, rfl⟩
                · refine mv_iload d_Grouping_spread_95 rfl ?_
                  refine mv_bipush (v := 8) d_Grouping_spread_97 (by decide) ?_
                  have := mz_hi i5_37
                  refine mv_icmp_geZ (tgt := 197) (a := i5_37.toInt) (b := 8) d_Grouping_spread_99 (by decide) rfl (by decide) (fun b39 => ?_) (fun b39 => ?_)
                  · exact mv_vret d_Grouping_spread_197 rfl ⟨_, I_37, rfl⟩
                  · refine mv_aload_n d_Grouping_spread_102 rfl rfl ?_
                    obtain ⟨a41, q40, t_a41⟩ := tm_atR I_37 h_q0_37 (k := 10) rfl
                    refine tr_getK q40 d_Grouping_spread_103 f_Grouping_31_7 ?_
                    refine mv_iload d_Grouping_spread_106 rfl ?_
                    refine tr_iald I_37 t_a41 (by decide) d_Grouping_spread_108 (vp_in_iff.mpr (by omega)) (fun v42 => ?_)
                    refine mv_istore (lv' := [(6, .int v42), (5, .int i5_37), (3, .long (if (v12 - v17) < v4 then v4 else (v12 - v17))), (0, .ref o0), (1, .int x1), (2, .int x2)]) d_Grouping_spread_109 (by decide) rfl ?_
                    refine mv_aload_n d_Grouping_spread_111 rfl rfl ?_
                    refine mv_iload_n d_Grouping_spread_112 rfl rfl ?_
                    refine mv_iload d_Grouping_spread_113 rfl ?_
                    obtain ⟨_, b49, -⟩ := I_37.1 _ _ h_q0_37
                    refine mv_callV (kc' := 0) (ks' := 0) (As := [.int x1, .int i5_37]) (st9 := [.int i5_37, .int x1, .ref o0]) d_Grouping_spread_115 lV_Grouping_56 b49 rfl (tc_Grouping_put (d := (d + 1)) (x9 := x9) (o0 := o0) (x1 := x1) (x2 := i5_37) h_q0_37 I_37.start) rfl (Nat.le_of_ble_eq_true rfl) (Nat.le_of_ble_eq_true rfl) (Nat.le_of_ble_eq_true rfl) (hst := rfl) (fun b43r M44 n45 b43 => ?_)
                    obtain ⟨T46, J47, rfl⟩ := b43
                    have I48 := I_37.call J47 (tm_sub (by decide)) (Or.inl rfl)
                    have t50 := J47.up h_q0_37
                    have q51 := J47.keep h_q0_37 (by decide) q40
                    have t52 := J47.up t_a41
                    refine mv_aload_n d_Grouping_spread_118 rfl rfl ?_
                    refine mv_iload d_Grouping_spread_119 rfl ?_
                    obtain ⟨_, b59, -⟩ := I48.1 _ _ t50
                    refine mv_callV (kc' := 0) (ks' := 0) (As := [.int i5_37]) (st9 := [.int i5_37, .ref o0]) d_Grouping_spread_121 lV_Grouping_60 b59 rfl (tc_Grouping_holdsTogether (d := d) (x9 := x9) (o0 := o0) (x1 := i5_37) t50 I48.start) rfl (Nat.le_of_ble_eq_true rfl) (Nat.le_of_ble_eq_true rfl) (Nat.le_of_ble_eq_true rfl) (hst := rfl) (fun b53r M54 n55 b53 => ?_)
                    obtain ⟨T56, J57, v60, rfl, b61, b62⟩ := b53
                    have I58 := I48.call J57 (tm_sub (by decide)) (Or.inl rfl)
                    have t63 := J57.up t50
                    have q64 := J57.keep t50 (by decide) q51
                    have t65 := J57.up t52
                    have := mz_hi v60
                    refine mv_if_eqZ (tgt := 155) (a := v60.toInt) d_Grouping_spread_124 (by decide) rfl (fun b66 => ?_) (fun b66 => ?_)
                    · refine mv_aload_n d_Grouping_spread_155 rfl rfl ?_
                      obtain ⟨a68, q67, t_a68⟩ := tm_atR I58 t63 (k := 9) rfl
                      refine tr_getK q67 d_Grouping_spread_156 f_Grouping_28_7 ?_
                      refine mv_iload d_Grouping_spread_159 rfl ?_
                      refine mv_dup2_11 d_Grouping_spread_161 rfl rfl ?_
                      refine tr_iald I58 t_a68 (by decide) d_Grouping_spread_162 (vp_in_iff.mpr (by omega)) (fun v69 => ?_)
                      refine mv_iconst (v := 1) d_Grouping_spread_163 (by decide) ?_
                      refine mv_isub d_Grouping_spread_164 ?_
                      refine tr_iastK tm_okF I58 t_a68 (by decide) (Or.inl (by decide)) d_Grouping_spread_165 (vp_in_iff.mpr (by omega)) (fun M70 I71 K72 => ?_)
                      refine mv_aload_n d_Grouping_spread_166 rfl rfl ?_
                      obtain ⟨a74, q73, t_a74⟩ := tm_atR I71 t63 (k := 11) rfl
                      refine tr_getK q73 d_Grouping_spread_167 f_Grouping_34_7 ?_
                      refine mv_iload d_Grouping_spread_170 rfl ?_
                      refine mv_dup2_11 d_Grouping_spread_172 rfl rfl ?_
                      refine tr_lald I71 t_a74 (by decide) d_Grouping_spread_173 (vp_in_iff.mpr (by omega)) (fun v75 => ?_)
                      refine mv_aload_n d_Grouping_spread_174 rfl rfl ?_
                      obtain ⟨a77, q76, t_a77⟩ := tm_atR I71 t63 (k := 5) rfl
                      refine tr_getK q76 d_Grouping_spread_175 f_Grouping_15_7 ?_
                      refine mv_iload_n d_Grouping_spread_178 rfl rfl ?_
                      refine tr_lald I71 t_a77 (by decide) d_Grouping_spread_179 (vp_in_iff.mpr (by omega)) (fun v78 => ?_)
                      refine mv_lsub d_Grouping_spread_180 ?_
                      refine tr_lastK tm_okF I71 t_a74 (by decide) (Or.inl (by decide)) d_Grouping_spread_181 (vp_in_iff.mpr (by omega)) (fun M79 I80 K81 => ?_)
                      refine mv_aload_n d_Grouping_spread_182 rfl rfl ?_
                      refine tr_getK (k := 10) (K81 _ 7 10 _ (K72 _ 7 10 _ q64)) d_Grouping_spread_183 f_Grouping_31_7 ?_
                      refine mv_iload d_Grouping_spread_186 rfl ?_
                      refine mv_iload d_Grouping_spread_188 rfl ?_
                      refine tr_iastK tm_okF I80 t65 (by decide) (Or.inl (by decide)) d_Grouping_spread_190 (vp_in_iff.mpr (by omega)) (fun M82 I83 K84 => ?_)
                      refine mv_iinc (v := (i5_37 + 1)) (lv' := [(5, .int (i5_37 + 1)), (6, .int v42), (3, .long (if (v12 - v17) < v4 then v4 else (v12 - v17))), (0, .ref o0), (1, .int x1), (2, .int x2)]) d_Grouping_spread_191 rfl rfl (by decide) rfl ?_
                      refine mv_goto (tgt := 89) d_Grouping_spread_194 (by decide) ?_
                      refine mv_locals (lv' := [(5, .int (i5_37 + 1)), (3, .long (if (v12 - v17) < v4 then v4 else (v12 - v17))), (0, .ref o0), (1, .int x1), (2, .int x2)]) (by intro q hq; simp only [List.mem_cons, List.not_mem_nil, or_false] at hq; rcases hq with rfl | rfl | rfl | rfl | rfl <;> rfl) ?_
                      have b85 : (i5_37 + 1).toInt = i5_37.toInt + 1 := mz_addn 1 1 (by decide) (by have := mz_lo i5_37; omega) (by have := mz_hi i5_37; omega)
                      exact (ih37 (i5_37 + 1) T56 M82 n55 I83 t63 (by first | omega | decide) (by omega))
                    · refine mv_aload_n d_Grouping_spread_127 rfl rfl ?_
                      obtain ⟨a87, q86, t_a87⟩ := tm_atR I58 t63 (k := 7) rfl
                      refine tr_getK q86 d_Grouping_spread_128 f_Grouping_22_7 ?_
                      refine mv_iload_n d_Grouping_spread_131 rfl rfl ?_
                      refine mv_iload d_Grouping_spread_132 rfl ?_
                      refine tr_iastK tm_okF I58 t_a87 (by decide) (Or.inl (by decide)) d_Grouping_spread_134 (vp_in_iff.mpr (by omega)) (fun M88 I89 K90 => ?_)
                      refine mv_aload_n d_Grouping_spread_135 rfl rfl ?_
                      refine mv_iload_n d_Grouping_spread_136 rfl rfl ?_
                      refine mv_iconst (v := 1) d_Grouping_spread_137 (by decide) ?_
                      refine mv_iadd d_Grouping_spread_138 ?_
                      refine mv_iload d_Grouping_spread_139 rfl ?_
                      refine mv_iload_n d_Grouping_spread_141 rfl rfl ?_
                      have := mz_hi i5_37
                      have := mz_hi x2
                      refine mv_icmp_neZ (tgt := 151) (a := i5_37.toInt) (b := x2.toInt) d_Grouping_spread_142 (by decide) rfl rfl (fun b91 => ?_) (fun b91 => ?_)
                      · refine mv_iload_n d_Grouping_spread_151 rfl rfl ?_
                        have b92 : (x1 + 1).toInt = x1.toInt + 1 := mz_addn 1 1 (by decide) (by omega) (by omega)
                        obtain ⟨_, b99, -⟩ := I89.1 _ _ t63
                        refine mv_callV (kc' := 0) (ks' := 0) (As := [.int (x1 + 1), .int x2]) (st9 := [.int x2, .int (x1 + 1), .ref o0]) d_Grouping_spread_152 lV_Grouping_77 b99 rfl (tc_Grouping_spread_q0 (d := (d + 1)) (x9 := x9) (o0 := o0) (x1 := (x1 + 1)) (x2 := x2) t63 (by first | omega | decide) I89.start) rfl (Nat.le_of_ble_eq_true rfl) (Nat.le_of_ble_eq_true rfl) (Nat.le_of_ble_eq_true rfl) (hst := rfl) (fun b93r M94 n95 b93 => ?_)
                        obtain ⟨T96, J97, rfl⟩ := b93
                        have I98 := I89.call J97 (tm_sub (by decide)) (Or.inl rfl)
                        have t100 := J97.up t63
                        have q101 := J97.keep t63 (by decide) (K90 _ 7 10 _ q64)
                        have t102 := J97.up t65
                        have q103 := J97.keep t63 (by decide) (K90 _ 7 7 _ q86)
                        have t104 := J97.up t_a87
                        refine mv_aload_n d_Grouping_spread_155 rfl rfl ?_
                        obtain ⟨a106, q105, t_a106⟩ := tm_atR I98 t100 (k := 9) rfl
                        refine tr_getK q105 d_Grouping_spread_156 f_Grouping_28_7 ?_
                        refine mv_iload d_Grouping_spread_159 rfl ?_
                        refine mv_dup2_11 d_Grouping_spread_161 rfl rfl ?_
                        refine tr_iald I98 t_a106 (by decide) d_Grouping_spread_162 (vp_in_iff.mpr (by omega)) (fun v107 => ?_)
                        refine mv_iconst (v := 1) d_Grouping_spread_163 (by decide) ?_
                        refine mv_isub d_Grouping_spread_164 ?_
                        refine tr_iastK tm_okF I98 t_a106 (by decide) (Or.inl (by decide)) d_Grouping_spread_165 (vp_in_iff.mpr (by omega)) (fun M108 I109 K110 => ?_)
                        refine mv_aload_n d_Grouping_spread_166 rfl rfl ?_
                        obtain ⟨a112, q111, t_a112⟩ := tm_atR I109 t100 (k := 11) rfl
                        refine tr_getK q111 d_Grouping_spread_167 f_Grouping_34_7 ?_
                        refine mv_iload d_Grouping_spread_170 rfl ?_
                        refine mv_dup2_11 d_Grouping_spread_172 rfl rfl ?_
                        refine tr_lald I109 t_a112 (by decide) d_Grouping_spread_173 (vp_in_iff.mpr (by omega)) (fun v113 => ?_)
                        refine mv_aload_n d_Grouping_spread_174 rfl rfl ?_
                        obtain ⟨a115, q114, t_a115⟩ := tm_atR I109 t100 (k := 5) rfl
                        refine tr_getK q114 d_Grouping_spread_175 f_Grouping_15_7 ?_
                        refine mv_iload_n d_Grouping_spread_178 rfl rfl ?_
                        refine tr_lald I109 t_a115 (by decide) d_Grouping_spread_179 (vp_in_iff.mpr (by omega)) (fun v116 => ?_)
                        refine mv_lsub d_Grouping_spread_180 ?_
                        refine tr_lastK tm_okF I109 t_a112 (by decide) (Or.inl (by decide)) d_Grouping_spread_181 (vp_in_iff.mpr (by omega)) (fun M117 I118 K119 => ?_)
                        refine mv_aload_n d_Grouping_spread_182 rfl rfl ?_
                        refine tr_getK (k := 10) (K119 _ 7 10 _ (K110 _ 7 10 _ q101)) d_Grouping_spread_183 f_Grouping_31_7 ?_
                        refine mv_iload d_Grouping_spread_186 rfl ?_
                        refine mv_iload d_Grouping_spread_188 rfl ?_
                        refine tr_iastK tm_okF I118 t102 (by decide) (Or.inl (by decide)) d_Grouping_spread_190 (vp_in_iff.mpr (by omega)) (fun M120 I121 K122 => ?_)
                        refine mv_iinc (v := (i5_37 + 1)) (lv' := [(5, .int (i5_37 + 1)), (6, .int v42), (3, .long (if (v12 - v17) < v4 then v4 else (v12 - v17))), (0, .ref o0), (1, .int x1), (2, .int x2)]) d_Grouping_spread_191 rfl rfl (by decide) rfl ?_
                        refine mv_goto (tgt := 89) d_Grouping_spread_194 (by decide) ?_
                        refine mv_locals (lv' := [(5, .int (i5_37 + 1)), (3, .long (if (v12 - v17) < v4 then v4 else (v12 - v17))), (0, .ref o0), (1, .int x1), (2, .int x2)]) (by intro q hq; simp only [List.mem_cons, List.not_mem_nil, or_false] at hq; rcases hq with rfl | rfl | rfl | rfl | rfl <;> rfl) ?_
                        have b123 : (i5_37 + 1).toInt = i5_37.toInt + 1 := mz_addn 1 1 (by decide) (by have := mz_lo i5_37; omega) (by have := mz_hi i5_37; omega)
                        exact (ih37 (i5_37 + 1) T96 M120 n95 I121 t100 (by first | omega | decide) (by omega))
                      · refine mv_iload_n d_Grouping_spread_145 rfl rfl ?_
                        refine mv_iconst (v := 1) d_Grouping_spread_146 (by decide) ?_
                        refine mv_iadd d_Grouping_spread_147 ?_
                        refine mv_goto (tgt := 152) d_Grouping_spread_148 (by decide) ?_
                        have b124 : (x1 + 1).toInt = x1.toInt + 1 := mz_addn 1 1 (by decide) (by omega) (by omega)
                        obtain ⟨_, b131, -⟩ := I89.1 _ _ t63
                        refine mv_callV (kc' := 0) (ks' := 0) (As := [.int (x1 + 1), .int (x2 + 1)]) (st9 := [.int (x2 + 1), .int (x1 + 1), .ref o0]) d_Grouping_spread_152 lV_Grouping_77 b131 rfl (tc_Grouping_spread_q0 (d := (d + 1)) (x9 := x9) (o0 := o0) (x1 := (x1 + 1)) (x2 := (x2 + 1)) t63 (by first | omega | decide) I89.start) rfl (Nat.le_of_ble_eq_true rfl) (Nat.le_of_ble_eq_true rfl) (Nat.le_of_ble_eq_true rfl) (hst := rfl) (fun b125r M126 n127 b125 => ?_)
                        obtain ⟨T128, J129, rfl⟩ := b125
                        have I130 := I89.call J129 (tm_sub (by decide)) (Or.inl rfl)
                        have t132 := J129.up t63
                        have q133 := J129.keep t63 (by decide) (K90 _ 7 10 _ q64)
                        have t134 := J129.up t65
                        have q135 := J129.keep t63 (by decide) (K90 _ 7 7 _ q86)
                        have t136 := J129.up t_a87
                        refine mv_aload_n d_Grouping_spread_155 rfl rfl ?_
                        obtain ⟨a138, q137, t_a138⟩ := tm_atR I130 t132 (k := 9) rfl
                        refine tr_getK q137 d_Grouping_spread_156 f_Grouping_28_7 ?_
                        refine mv_iload d_Grouping_spread_159 rfl ?_
                        refine mv_dup2_11 d_Grouping_spread_161 rfl rfl ?_
                        refine tr_iald I130 t_a138 (by decide) d_Grouping_spread_162 (vp_in_iff.mpr (by omega)) (fun v139 => ?_)
                        refine mv_iconst (v := 1) d_Grouping_spread_163 (by decide) ?_
                        refine mv_isub d_Grouping_spread_164 ?_
                        refine tr_iastK tm_okF I130 t_a138 (by decide) (Or.inl (by decide)) d_Grouping_spread_165 (vp_in_iff.mpr (by omega)) (fun M140 I141 K142 => ?_)
                        refine mv_aload_n d_Grouping_spread_166 rfl rfl ?_
                        obtain ⟨a144, q143, t_a144⟩ := tm_atR I141 t132 (k := 11) rfl
                        refine tr_getK q143 d_Grouping_spread_167 f_Grouping_34_7 ?_
                        refine mv_iload d_Grouping_spread_170 rfl ?_
                        refine mv_dup2_11 d_Grouping_spread_172 rfl rfl ?_
                        refine tr_lald I141 t_a144 (by decide) d_Grouping_spread_173 (vp_in_iff.mpr (by omega)) (fun v145 => ?_)
                        refine mv_aload_n d_Grouping_spread_174 rfl rfl ?_
                        obtain ⟨a147, q146, t_a147⟩ := tm_atR I141 t132 (k := 5) rfl
                        refine tr_getK q146 d_Grouping_spread_175 f_Grouping_15_7 ?_
                        refine mv_iload_n d_Grouping_spread_178 rfl rfl ?_
                        refine tr_lald I141 t_a147 (by decide) d_Grouping_spread_179 (vp_in_iff.mpr (by omega)) (fun v148 => ?_)
                        refine mv_lsub d_Grouping_spread_180 ?_
                        refine tr_lastK tm_okF I141 t_a144 (by decide) (Or.inl (by decide)) d_Grouping_spread_181 (vp_in_iff.mpr (by omega)) (fun M149 I150 K151 => ?_)
                        refine mv_aload_n d_Grouping_spread_182 rfl rfl ?_
                        refine tr_getK (k := 10) (K151 _ 7 10 _ (K142 _ 7 10 _ q133)) d_Grouping_spread_183 f_Grouping_31_7 ?_
                        refine mv_iload d_Grouping_spread_186 rfl ?_
                        refine mv_iload d_Grouping_spread_188 rfl ?_
                        refine tr_iastK tm_okF I150 t134 (by decide) (Or.inl (by decide)) d_Grouping_spread_190 (vp_in_iff.mpr (by omega)) (fun M152 I153 K154 => ?_)
                        refine mv_iinc (v := (i5_37 + 1)) (lv' := [(5, .int (i5_37 + 1)), (6, .int v42), (3, .long (if (v12 - v17) < v4 then v4 else (v12 - v17))), (0, .ref o0), (1, .int x1), (2, .int x2)]) d_Grouping_spread_191 rfl rfl (by decide) rfl ?_
                        refine mv_goto (tgt := 89) d_Grouping_spread_194 (by decide) ?_
                        refine mv_locals (lv' := [(5, .int (i5_37 + 1)), (3, .long (if (v12 - v17) < v4 then v4 else (v12 - v17))), (0, .ref o0), (1, .int x1), (2, .int x2)]) (by intro q hq; simp only [List.mem_cons, List.not_mem_nil, or_false] at hq; rcases hq with rfl | rfl | rfl | rfl | rfl <;> rfl) ?_
                        have b155 : (i5_37 + 1).toInt = i5_37.toInt + 1 := mz_addn 1 1 (by decide) (by have := mz_lo i5_37; omega) (by have := mz_hi i5_37; omega)
                        exact (ih37 (i5_37 + 1) T128 M152 n127 I153 t132 (by first | omega | decide) (by omega))
            exact mv_less (Nat.zero_le _) (Nat.zero_le _) (L89_37 4294967296 0 T8 M6 n7 I10 t13 (by first | omega | decide) (by show (2147483647 - (0 : Int) : Int) < _; decide))
          · refine mv_aload_n d_Grouping_spread_79 rfl rfl ?_
            refine mv_lload_n d_Grouping_spread_80 rfl rfl ?_
            refine mv_iload_n d_Grouping_spread_81 rfl rfl ?_
            obtain ⟨_, b162, -⟩ := I10.1 _ _ t13
            refine mv_callV (kc' := 0) (ks' := 0) (As := [.long (if (v12 - v17) < v4 then v4 else (v12 - v17)), .int x2]) (st9 := [.int x2, .long (if (v12 - v17) < v4 then v4 else (v12 - v17)), .ref o0]) d_Grouping_spread_82 lV_Grouping_80 b162 rfl (tc_Grouping_keepAsBest (d := (d + 1)) (x9 := x9) (o0 := o0) (x1 := (if (v12 - v17) < v4 then v4 else (v12 - v17))) (x2 := x2) t13 I10.start) rfl (Nat.le_of_ble_eq_true rfl) (Nat.le_of_ble_eq_true rfl) (Nat.le_of_ble_eq_true rfl) (hst := rfl) (fun b156r M157 n158 b156 => ?_)
            obtain ⟨T159, J160, rfl⟩ := b156
            have I161 := I10.call J160 (tm_sub (by decide)) (Or.inl rfl)
            have t163 := J160.up t13
            have q164 := J160.keep t13 (by decide) q14
            have q165 := J160.keep t13 (by decide) q15
            have t166 := J160.up t_a16
            have q167 := J160.keep t13 (by decide) q21
            exact mv_vret d_Grouping_spread_85 rfl ⟨_, I161, rfl⟩
      · refine mv_lload_n d_Grouping_spread_38 rfl rfl ?_
        refine mv_aload_n d_Grouping_spread_39 rfl rfl ?_
        obtain ⟨v169, q168⟩ := tm_atL I10 t13 (k := 0) rfl
        refine tr_getK q168 d_Grouping_spread_40 f_Grouping_50_7 ?_
        refine mv_lgtZ (tgt := 64) (a := (if (v12 - v17) < v4 then v4 else (v12 - v17)).toInt) (b := v169.toInt) d_Grouping_spread_43 d_Grouping_spread_44 (by decide) rfl rfl (fun b170 => ?_) (fun b170 => ?_)
        · exact mv_vret d_Grouping_spread_64 rfl ⟨_, I10, rfl⟩
        · refine mv_lload_n d_Grouping_spread_47 rfl rfl ?_
          refine mv_aload_n d_Grouping_spread_48 rfl rfl ?_
          refine tr_getK (k := 0) q168 d_Grouping_spread_49 f_Grouping_50_7 ?_
          refine mv_lneZ (tgt := 65) (a := (if (v12 - v17) < v4 then v4 else (v12 - v17)).toInt) (b := v169.toInt) d_Grouping_spread_52 d_Grouping_spread_53 (by decide) rfl rfl (fun b171 => ?_) (fun b171 => ?_)
          · refine mv_iload_n d_Grouping_spread_65 rfl rfl ?_
            refine mv_aload_n d_Grouping_spread_66 rfl rfl ?_
            obtain ⟨v173, q172⟩ := tm_atI I10 t13 (k := 2) rfl
            refine tr_getK q172 d_Grouping_spread_67 f_Grouping_44_7 ?_
            have := mz_hi x1
            have := mz_hi v173
            refine mv_icmp_geZ (tgt := 79) (a := x1.toInt) (b := v173.toInt) d_Grouping_spread_70 (by decide) rfl rfl (fun b174 => ?_) (fun b174 => ?_)
            · refine mv_aload_n d_Grouping_spread_79 rfl rfl ?_
              refine mv_lload_n d_Grouping_spread_80 rfl rfl ?_
              refine mv_iload_n d_Grouping_spread_81 rfl rfl ?_
              obtain ⟨_, b181, -⟩ := I10.1 _ _ t13
              refine mv_callV (kc' := 0) (ks' := 0) (As := [.long (if (v12 - v17) < v4 then v4 else (v12 - v17)), .int x2]) (st9 := [.int x2, .long (if (v12 - v17) < v4 then v4 else (v12 - v17)), .ref o0]) d_Grouping_spread_82 lV_Grouping_80 b181 rfl (tc_Grouping_keepAsBest (d := (d + 1)) (x9 := x9) (o0 := o0) (x1 := (if (v12 - v17) < v4 then v4 else (v12 - v17))) (x2 := x2) t13 I10.start) rfl (Nat.le_of_ble_eq_true rfl) (Nat.le_of_ble_eq_true rfl) (Nat.le_of_ble_eq_true rfl) (hst := rfl) (fun b175r M176 n177 b175 => ?_)
              obtain ⟨T178, J179, rfl⟩ := b175
              have I180 := I10.call J179 (tm_sub (by decide)) (Or.inl rfl)
              have t182 := J179.up t13
              have q183 := J179.keep t13 (by decide) q14
              have q184 := J179.keep t13 (by decide) q15
              have t185 := J179.up t_a16
              have q186 := J179.keep t13 (by decide) q172
              exact mv_vret d_Grouping_spread_85 rfl ⟨_, I180, rfl⟩
            · refine mv_iload_n d_Grouping_spread_73 rfl rfl ?_
              refine mv_bipush (v := 8) d_Grouping_spread_74 (by decide) ?_
              have := mz_hi x1
              refine mv_icmp_neZ (tgt := 86) (a := x1.toInt) (b := 8) d_Grouping_spread_76 (by decide) rfl (by decide) (fun b187 => ?_) (fun b187 => ?_)
              · refine mv_iconst (v := 0) d_Grouping_spread_86 (by decide) ?_
                refine mv_istore (lv' := [(5, .int 0), (3, .long (if (v12 - v17) < v4 then v4 else (v12 - v17))), (0, .ref o0), (1, .int x1), (2, .int x2)]) d_Grouping_spread_87 (by decide) rfl ?_
                have L89_188 : ∀ (k : Nat) (i5_188 : Int32) (T_188 : tm_H) (M_188 : mj_M) (n_188 : Nat), tm_I tm_FT (tm_in w_Grouping_spread_q1) x9 T0 M0 n0 T_188 M_188 n_188 → T_188 o0 = some (0, 7, 0) → 0 ≤ i5_188.toInt → 2147483647 - i5_188.toInt < (k : Int) → mj_V g l kY_Grouping_spread (d + 2) 89 [(5, .int i5_188), (3, .long (if (v12 - v17) < v4 then v4 else (v12 - v17))), (0, .ref o0), (1, .int x1), (2, .int x2)] [] M_188 n_188 0 0 (tm_Q tm_FT (tm_in w_Grouping_spread_q1) x9 T0 M0 n0 (fun r _ _ => r = none)) := by
                  intro k188
                  induction k188 with
                  | zero =>
                    intro i5_188 T_188 M_188 n_188 I_188 h_q0_188 iv0_188 hk188
                    have := mz_hi i5_188
                    omega
                  | succ k188 ih188 =>
                    intro i5_188 T_188 M_188 n_188 I_188 h_q0_188 iv0_188 hk188
                    refine mv_iload d_Grouping_spread_89 rfl ?_
                    refine mv_iload_n d_Grouping_spread_91 rfl rfl ?_
                    have := mz_hi i5_188
                    have := mz_hi x2
                    refine mv_icmp_gtZ (tgt := 197) (a := i5_188.toInt) (b := x2.toInt) d_Grouping_spread_92 (by decide) rfl rfl (fun b189 => ?_) (fun b189 => ?_)
                    · exact mv_vret d_Grouping_spread_197 rfl ⟨_, I_188, rfl⟩
                    · refine mv_iload d_Grouping_spread_95 rfl ?_
                      refine mv_bipush (v := 8) d_Grouping_spread_97 (by decide) ?_
                      have := mz_hi i5_188
                      refine mv_icmp_geZ (tgt := 197) (a := i5_188.toInt) (b := 8) d_Grouping_spread_99 (by decide) rfl (by decide) (fun b190 => ?_) (fun b190 => ?_)
                      · exact mv_vret d_Grouping_spread_197 rfl ⟨_, I_188, rfl⟩
                      · refine mv_aload_n d_Grouping_spread_102 rfl rfl ?_
                        obtain ⟨a192, q191, t_a192⟩ := tm_atR I_188 h_q0_188 (k := 10) rfl
                        refine tr_getK q191 d_Grouping_spread_103 f_Grouping_31_7 ?_
                        refine mv_iload d_Grouping_spread_106 rfl ?_
                        refine tr_iald I_188 t_a192 (by decide) d_Grouping_spread_108 (vp_in_iff.mpr (by omega)) (fun v193 => ?_)
                        refine mv_istore (lv' := [(6, .int v193), (5, .int i5_188), (3, .long (if (v12 - v17) < v4 then v4 else (v12 - v17))), (0, .ref o0), (1, .int x1), (2, .int x2)]) d_Grouping_spread_109 (by decide) rfl ?_
                        refine mv_aload_n d_Grouping_spread_111 rfl rfl ?_
                        refine mv_iload_n d_Grouping_spread_112 rfl rfl ?_
                        refine mv_iload d_Grouping_spread_113 rfl ?_
                        obtain ⟨_, b200, -⟩ := I_188.1 _ _ h_q0_188
                        refine mv_callV (kc' := 0) (ks' := 0) (As := [.int x1, .int i5_188]) (st9 := [.int i5_188, .int x1, .ref o0]) d_Grouping_spread_115 lV_Grouping_56 b200 rfl (tc_Grouping_put (d := (d + 1)) (x9 := x9) (o0 := o0) (x1 := x1) (x2 := i5_188) h_q0_188 I_188.start) rfl (Nat.le_of_ble_eq_true rfl) (Nat.le_of_ble_eq_true rfl) (Nat.le_of_ble_eq_true rfl) (hst := rfl) (fun b194r M195 n196 b194 => ?_)
                        obtain ⟨T197, J198, rfl⟩ := b194
                        have I199 := I_188.call J198 (tm_sub (by decide)) (Or.inl rfl)
                        have t201 := J198.up h_q0_188
                        have q202 := J198.keep h_q0_188 (by decide) q191
                        have t203 := J198.up t_a192
                        refine mv_aload_n d_Grouping_spread_118 rfl rfl ?_
                        refine mv_iload d_Grouping_spread_119 rfl ?_
                        obtain ⟨_, b210, -⟩ := I199.1 _ _ t201
                        refine mv_callV (kc' := 0) (ks' := 0) (As := [.int i5_188]) (st9 := [.int i5_188, .ref o0]) d_Grouping_spread_121 lV_Grouping_60 b210 rfl (tc_Grouping_holdsTogether (d := d) (x9 := x9) (o0 := o0) (x1 := i5_188) t201 I199.start) rfl (Nat.le_of_ble_eq_true rfl) (Nat.le_of_ble_eq_true rfl) (Nat.le_of_ble_eq_true rfl) (hst := rfl) (fun b204r M205 n206 b204 => ?_)
                        obtain ⟨T207, J208, v211, rfl, b212, b213⟩ := b204
                        have I209 := I199.call J208 (tm_sub (by decide)) (Or.inl rfl)
                        have t214 := J208.up t201
                        have q215 := J208.keep t201 (by decide) q202
                        have t216 := J208.up t203
                        have := mz_hi v211
                        refine mv_if_eqZ (tgt := 155) (a := v211.toInt) d_Grouping_spread_124 (by decide) rfl (fun b217 => ?_) (fun b217 => ?_)
                        · refine mv_aload_n d_Grouping_spread_155 rfl rfl ?_
                          obtain ⟨a219, q218, t_a219⟩ := tm_atR I209 t214 (k := 9) rfl
                          refine tr_getK q218 d_Grouping_spread_156 f_Grouping_28_7 ?_
                          refine mv_iload d_Grouping_spread_159 rfl ?_
                          refine mv_dup2_11 d_Grouping_spread_161 rfl rfl ?_
                          refine tr_iald I209 t_a219 (by decide) d_Grouping_spread_162 (vp_in_iff.mpr (by omega)) (fun v220 => ?_)
                          refine mv_iconst (v := 1) d_Grouping_spread_163 (by decide) ?_
                          refine mv_isub d_Grouping_spread_164 ?_
                          refine tr_iastK tm_okF I209 t_a219 (by decide) (Or.inl (by decide)) d_Grouping_spread_165 (vp_in_iff.mpr (by omega)) (fun M221 I222 K223 => ?_)
                          refine mv_aload_n d_Grouping_spread_166 rfl rfl ?_
                          obtain ⟨a225, q224, t_a225⟩ := tm_atR I222 t214 (k := 11) rfl
                          refine tr_getK q224 d_Grouping_spread_167 f_Grouping_34_7 ?_
                          refine mv_iload d_Grouping_spread_170 rfl ?_
                          refine mv_dup2_11 d_Grouping_spread_172 rfl rfl ?_
                          refine tr_lald I222 t_a225 (by decide) d_Grouping_spread_173 (vp_in_iff.mpr (by omega)) (fun v226 => ?_)
                          refine mv_aload_n d_Grouping_spread_174 rfl rfl ?_
                          obtain ⟨a228, q227, t_a228⟩ := tm_atR I222 t214 (k := 5) rfl
                          refine tr_getK q227 d_Grouping_spread_175 f_Grouping_15_7 ?_
                          refine mv_iload_n d_Grouping_spread_178 rfl rfl ?_
                          refine tr_lald I222 t_a228 (by decide) d_Grouping_spread_179 (vp_in_iff.mpr (by omega)) (fun v229 => ?_)
                          refine mv_lsub d_Grouping_spread_180 ?_
                          refine tr_lastK tm_okF I222 t_a225 (by decide) (Or.inl (by decide)) d_Grouping_spread_181 (vp_in_iff.mpr (by omega)) (fun M230 I231 K232 => ?_)
                          refine mv_aload_n d_Grouping_spread_182 rfl rfl ?_
                          refine tr_getK (k := 10) (K232 _ 7 10 _ (K223 _ 7 10 _ q215)) d_Grouping_spread_183 f_Grouping_31_7 ?_
                          refine mv_iload d_Grouping_spread_186 rfl ?_
                          refine mv_iload d_Grouping_spread_188 rfl ?_
                          refine tr_iastK tm_okF I231 t216 (by decide) (Or.inl (by decide)) d_Grouping_spread_190 (vp_in_iff.mpr (by omega)) (fun M233 I234 K235 => ?_)
                          refine mv_iinc (v := (i5_188 + 1)) (lv' := [(5, .int (i5_188 + 1)), (6, .int v193), (3, .long (if (v12 - v17) < v4 then v4 else (v12 - v17))), (0, .ref o0), (1, .int x1), (2, .int x2)]) d_Grouping_spread_191 rfl rfl (by decide) rfl ?_
                          refine mv_goto (tgt := 89) d_Grouping_spread_194 (by decide) ?_
                          refine mv_locals (lv' := [(5, .int (i5_188 + 1)), (3, .long (if (v12 - v17) < v4 then v4 else (v12 - v17))), (0, .ref o0), (1, .int x1), (2, .int x2)]) (by intro q hq; simp only [List.mem_cons, List.not_mem_nil, or_false] at hq; rcases hq with rfl | rfl | rfl | rfl | rfl <;> rfl) ?_
                          have b236 : (i5_188 + 1).toInt = i5_188.toInt + 1 := mz_addn 1 1 (by decide) (by have := mz_lo i5_188; omega) (by have := mz_hi i5_188; omega)
                          exact (ih188 (i5_188 + 1) T207 M233 n206 I234 t214 (by first | omega | decide) (by omega))
                        · refine mv_aload_n d_Grouping_spread_127 rfl rfl ?_
                          obtain ⟨a238, q237, t_a238⟩ := tm_atR I209 t214 (k := 7) rfl
                          refine tr_getK q237 d_Grouping_spread_128 f_Grouping_22_7 ?_
                          refine mv_iload_n d_Grouping_spread_131 rfl rfl ?_
                          refine mv_iload d_Grouping_spread_132 rfl ?_
                          refine tr_iastK tm_okF I209 t_a238 (by decide) (Or.inl (by decide)) d_Grouping_spread_134 (vp_in_iff.mpr (by omega)) (fun M239 I240 K241 => ?_)
                          refine mv_aload_n d_Grouping_spread_135 rfl rfl ?_
                          refine mv_iload_n d_Grouping_spread_136 rfl rfl ?_
                          refine mv_iconst (v := 1) d_Grouping_spread_137 (by decide) ?_
                          refine mv_iadd d_Grouping_spread_138 ?_
                          refine mv_iload d_Grouping_spread_139 rfl ?_
                          refine mv_iload_n d_Grouping_spread_141 rfl rfl ?_
                          have := mz_hi i5_188
                          have := mz_hi x2
                          refine mv_icmp_neZ (tgt := 151) (a := i5_188.toInt) (b := x2.toInt) d_Grouping_spread_142 (by decide) rfl rfl (fun b242 => ?_) (fun b242 => ?_)
                          · refine mv_iload_n d_Grouping_spread_151 rfl rfl ?_
                            have b243 : (x1 + 1).toInt = x1.toInt + 1 := mz_addn 1 1 (by decide) (by omega) (by omega)
                            obtain ⟨_, b250, -⟩ := I240.1 _ _ t214
                            refine mv_callV (kc' := 0) (ks' := 0) (As := [.int (x1 + 1), .int x2]) (st9 := [.int x2, .int (x1 + 1), .ref o0]) d_Grouping_spread_152 lV_Grouping_77 b250 rfl (tc_Grouping_spread_q0 (d := (d + 1)) (x9 := x9) (o0 := o0) (x1 := (x1 + 1)) (x2 := x2) t214 (by first | omega | decide) I240.start) rfl (Nat.le_of_ble_eq_true rfl) (Nat.le_of_ble_eq_true rfl) (Nat.le_of_ble_eq_true rfl) (hst := rfl) (fun b244r M245 n246 b244 => ?_)
                            obtain ⟨T247, J248, rfl⟩ := b244
                            have I249 := I240.call J248 (tm_sub (by decide)) (Or.inl rfl)
                            have t251 := J248.up t214
                            have q252 := J248.keep t214 (by decide) (K241 _ 7 10 _ q215)
                            have t253 := J248.up t216
                            have q254 := J248.keep t214 (by decide) (K241 _ 7 7 _ q237)
                            have t255 := J248.up t_a238
                            refine mv_aload_n d_Grouping_spread_155 rfl rfl ?_
                            obtain ⟨a257, q256, t_a257⟩ := tm_atR I249 t251 (k := 9) rfl
                            refine tr_getK q256 d_Grouping_spread_156 f_Grouping_28_7 ?_
                            refine mv_iload d_Grouping_spread_159 rfl ?_
                            refine mv_dup2_11 d_Grouping_spread_161 rfl rfl ?_
                            refine tr_iald I249 t_a257 (by decide) d_Grouping_spread_162 (vp_in_iff.mpr (by omega)) (fun v258 => ?_)
                            refine mv_iconst (v := 1) d_Grouping_spread_163 (by decide) ?_
                            refine mv_isub d_Grouping_spread_164 ?_
                            refine tr_iastK tm_okF I249 t_a257 (by decide) (Or.inl (by decide)) d_Grouping_spread_165 (vp_in_iff.mpr (by omega)) (fun M259 I260 K261 => ?_)
                            refine mv_aload_n d_Grouping_spread_166 rfl rfl ?_
                            obtain ⟨a263, q262, t_a263⟩ := tm_atR I260 t251 (k := 11) rfl
                            refine tr_getK q262 d_Grouping_spread_167 f_Grouping_34_7 ?_
                            refine mv_iload d_Grouping_spread_170 rfl ?_
                            refine mv_dup2_11 d_Grouping_spread_172 rfl rfl ?_
                            refine tr_lald I260 t_a263 (by decide) d_Grouping_spread_173 (vp_in_iff.mpr (by omega)) (fun v264 => ?_)
                            refine mv_aload_n d_Grouping_spread_174 rfl rfl ?_
                            obtain ⟨a266, q265, t_a266⟩ := tm_atR I260 t251 (k := 5) rfl
                            refine tr_getK q265 d_Grouping_spread_175 f_Grouping_15_7 ?_
                            refine mv_iload_n d_Grouping_spread_178 rfl rfl ?_
                            refine tr_lald I260 t_a266 (by decide) d_Grouping_spread_179 (vp_in_iff.mpr (by omega)) (fun v267 => ?_)
                            refine mv_lsub d_Grouping_spread_180 ?_
                            refine tr_lastK tm_okF I260 t_a263 (by decide) (Or.inl (by decide)) d_Grouping_spread_181 (vp_in_iff.mpr (by omega)) (fun M268 I269 K270 => ?_)
                            refine mv_aload_n d_Grouping_spread_182 rfl rfl ?_
                            refine tr_getK (k := 10) (K270 _ 7 10 _ (K261 _ 7 10 _ q252)) d_Grouping_spread_183 f_Grouping_31_7 ?_
                            refine mv_iload d_Grouping_spread_186 rfl ?_
                            refine mv_iload d_Grouping_spread_188 rfl ?_
                            refine tr_iastK tm_okF I269 t253 (by decide) (Or.inl (by decide)) d_Grouping_spread_190 (vp_in_iff.mpr (by omega)) (fun M271 I272 K273 => ?_)
                            refine mv_iinc (v := (i5_188 + 1)) (lv' := [(5, .int (i5_188 + 1)), (6, .int v193), (3, .long (if (v12 - v17) < v4 then v4 else (v12 - v17))), (0, .ref o0), (1, .int x1), (2, .int x2)]) d_Grouping_spread_191 rfl rfl (by decide) rfl ?_
                            refine mv_goto (tgt := 89) d_Grouping_spread_194 (by decide) ?_
                            refine mv_locals (lv' := [(5, .int (i5_188 + 1)), (3, .long (if (v12 - v17) < v4 then v4 else (v12 - v17))), (0, .ref o0), (1, .int x1), (2, .int x2)]) (by intro q hq; simp only [List.mem_cons, List.not_mem_nil, or_false] at hq; rcases hq with rfl | rfl | rfl | rfl | rfl <;> rfl) ?_
                            have b274 : (i5_188 + 1).toInt = i5_188.toInt + 1 := mz_addn 1 1 (by decide) (by have := mz_lo i5_188; omega) (by have := mz_hi i5_188; omega)
                            exact (ih188 (i5_188 + 1) T247 M271 n246 I272 t251 (by first | omega | decide) (by omega))
                          · refine mv_iload_n d_Grouping_spread_145 rfl rfl ?_
                            refine mv_iconst (v := 1) d_Grouping_spread_146 (by decide) ?_
                            refine mv_iadd d_Grouping_spread_147 ?_
                            refine mv_goto (tgt := 152) d_Grouping_spread_148 (by decide) ?_
                            have b275 : (x1 + 1).toInt = x1.toInt + 1 := mz_addn 1 1 (by decide) (by omega) (by omega)
                            obtain ⟨_, b282, -⟩ := I240.1 _ _ t214
                            refine mv_callV (kc' := 0) (ks' := 0) (As := [.int (x1 + 1), .int (x2 + 1)]) (st9 := [.int (x2 + 1), .int (x1 + 1), .ref o0]) d_Grouping_spread_152 lV_Grouping_77 b282 rfl (tc_Grouping_spread_q0 (d := (d + 1)) (x9 := x9) (o0 := o0) (x1 := (x1 + 1)) (x2 := (x2 + 1)) t214 (by first | omega | decide) I240.start) rfl (Nat.le_of_ble_eq_true rfl) (Nat.le_of_ble_eq_true rfl) (Nat.le_of_ble_eq_true rfl) (hst := rfl) (fun b276r M277 n278 b276 => ?_)
                            obtain ⟨T279, J280, rfl⟩ := b276
                            have I281 := I240.call J280 (tm_sub (by decide)) (Or.inl rfl)
                            have t283 := J280.up t214
                            have q284 := J280.keep t214 (by decide) (K241 _ 7 10 _ q215)
                            have t285 := J280.up t216
                            have q286 := J280.keep t214 (by decide) (K241 _ 7 7 _ q237)
                            have t287 := J280.up t_a238
                            refine mv_aload_n d_Grouping_spread_155 rfl rfl ?_
                            obtain ⟨a289, q288, t_a289⟩ := tm_atR I281 t283 (k := 9) rfl
                            refine tr_getK q288 d_Grouping_spread_156 f_Grouping_28_7 ?_
                            refine mv_iload d_Grouping_spread_159 rfl ?_
                            refine mv_dup2_11 d_Grouping_spread_161 rfl rfl ?_
                            refine tr_iald I281 t_a289 (by decide) d_Grouping_spread_162 (vp_in_iff.mpr (by omega)) (fun v290 => ?_)
                            refine mv_iconst (v := 1) d_Grouping_spread_163 (by decide) ?_
                            refine mv_isub d_Grouping_spread_164 ?_
                            refine tr_iastK tm_okF I281 t_a289 (by decide) (Or.inl (by decide)) d_Grouping_spread_165 (vp_in_iff.mpr (by omega)) (fun M291 I292 K293 => ?_)
                            refine mv_aload_n d_Grouping_spread_166 rfl rfl ?_
                            obtain ⟨a295, q294, t_a295⟩ := tm_atR I292 t283 (k := 11) rfl
                            refine tr_getK q294 d_Grouping_spread_167 f_Grouping_34_7 ?_
                            refine mv_iload d_Grouping_spread_170 rfl ?_
                            refine mv_dup2_11 d_Grouping_spread_172 rfl rfl ?_
                            refine tr_lald I292 t_a295 (by decide) d_Grouping_spread_173 (vp_in_iff.mpr (by omega)) (fun v296 => ?_)
                            refine mv_aload_n d_Grouping_spread_174 rfl rfl ?_
                            obtain ⟨a298, q297, t_a298⟩ := tm_atR I292 t283 (k := 5) rfl
                            refine tr_getK q297 d_Grouping_spread_175 f_Grouping_15_7 ?_
                            refine mv_iload_n d_Grouping_spread_178 rfl rfl ?_
                            refine tr_lald I292 t_a298 (by decide) d_Grouping_spread_179 (vp_in_iff.mpr (by omega)) (fun v299 => ?_)
                            refine mv_lsub d_Grouping_spread_180 ?_
                            refine tr_lastK tm_okF I292 t_a295 (by decide) (Or.inl (by decide)) d_Grouping_spread_181 (vp_in_iff.mpr (by omega)) (fun M300 I301 K302 => ?_)
                            refine mv_aload_n d_Grouping_spread_182 rfl rfl ?_
                            refine tr_getK (k := 10) (K302 _ 7 10 _ (K293 _ 7 10 _ q284)) d_Grouping_spread_183 f_Grouping_31_7 ?_
                            refine mv_iload d_Grouping_spread_186 rfl ?_
                            refine mv_iload d_Grouping_spread_188 rfl ?_
                            refine tr_iastK tm_okF I301 t285 (by decide) (Or.inl (by decide)) d_Grouping_spread_190 (vp_in_iff.mpr (by omega)) (fun M303 I304 K305 => ?_)
                            refine mv_iinc (v := (i5_188 + 1)) (lv' := [(5, .int (i5_188 + 1)), (6, .int v193), (3, .long (if (v12 - v17) < v4 then v4 else (v12 - v17))), (0, .ref o0), (1, .int x1), (2, .int x2)]) d_Grouping_spread_191 rfl rfl (by decide) rfl ?_
                            refine mv_goto (tgt := 89) d_Grouping_spread_194 (by decide) ?_
                            refine mv_locals (lv' := [(5, .int (i5_188 + 1)), (3, .long (if (v12 - v17) < v4 then v4 else (v12 - v17))), (0, .ref o0), (1, .int x1), (2, .int x2)]) (by intro q hq; simp only [List.mem_cons, List.not_mem_nil, or_false] at hq; rcases hq with rfl | rfl | rfl | rfl | rfl <;> rfl) ?_
                            have b306 : (i5_188 + 1).toInt = i5_188.toInt + 1 := mz_addn 1 1 (by decide) (by have := mz_lo i5_188; omega) (by have := mz_hi i5_188; omega)
                            exact (ih188 (i5_188 + 1) T279 M303 n278 I304 t283 (by first | omega | decide) (by omega))
                exact mv_less (Nat.zero_le _) (Nat.zero_le _) (L89_188 4294967296 0 T8 M6 n7 I10 t13 (by first | omega | decide) (by show (2147483647 - (0 : Int) : Int) < _; decide))
              · refine mv_aload_n d_Grouping_spread_79 rfl rfl ?_
                refine mv_lload_n d_Grouping_spread_80 rfl rfl ?_
                refine mv_iload_n d_Grouping_spread_81 rfl rfl ?_
                obtain ⟨_, b313, -⟩ := I10.1 _ _ t13
                refine mv_callV (kc' := 0) (ks' := 0) (As := [.long (if (v12 - v17) < v4 then v4 else (v12 - v17)), .int x2]) (st9 := [.int x2, .long (if (v12 - v17) < v4 then v4 else (v12 - v17)), .ref o0]) d_Grouping_spread_82 lV_Grouping_80 b313 rfl (tc_Grouping_keepAsBest (d := (d + 1)) (x9 := x9) (o0 := o0) (x1 := (if (v12 - v17) < v4 then v4 else (v12 - v17))) (x2 := x2) t13 I10.start) rfl (Nat.le_of_ble_eq_true rfl) (Nat.le_of_ble_eq_true rfl) (Nat.le_of_ble_eq_true rfl) (hst := rfl) (fun b307r M308 n309 b307 => ?_)
                obtain ⟨T310, J311, rfl⟩ := b307
                have I312 := I10.call J311 (tm_sub (by decide)) (Or.inl rfl)
                have t314 := J311.up t13
                have q315 := J311.keep t13 (by decide) q14
                have q316 := J311.keep t13 (by decide) q15
                have t317 := J311.up t_a16
                have q318 := J311.keep t13 (by decide) q172
                exact mv_vret d_Grouping_spread_85 rfl ⟨_, I312, rfl⟩
          · refine mv_iload_n d_Grouping_spread_56 rfl rfl ?_
            refine mv_aload_n d_Grouping_spread_57 rfl rfl ?_
            refine tr_getK (k := 3) q18 d_Grouping_spread_58 f_Grouping_47_7 ?_
            have := mz_hi x2
            have := mz_hi v19
            refine mv_icmp_ltZ (tgt := 65) (a := x2.toInt) (b := v19.toInt) d_Grouping_spread_61 (by decide) rfl rfl (fun b319 => ?_) (fun b319 => ?_)
            · refine mv_iload_n d_Grouping_spread_65 rfl rfl ?_
              refine mv_aload_n d_Grouping_spread_66 rfl rfl ?_
              obtain ⟨v321, q320⟩ := tm_atI I10 t13 (k := 2) rfl
              refine tr_getK q320 d_Grouping_spread_67 f_Grouping_44_7 ?_
              have := mz_hi x1
              have := mz_hi v321
              refine mv_icmp_geZ (tgt := 79) (a := x1.toInt) (b := v321.toInt) d_Grouping_spread_70 (by decide) rfl rfl (fun b322 => ?_) (fun b322 => ?_)
              · refine mv_aload_n d_Grouping_spread_79 rfl rfl ?_
                refine mv_lload_n d_Grouping_spread_80 rfl rfl ?_
                refine mv_iload_n d_Grouping_spread_81 rfl rfl ?_
                obtain ⟨_, b329, -⟩ := I10.1 _ _ t13
                refine mv_callV (kc' := 0) (ks' := 0) (As := [.long (if (v12 - v17) < v4 then v4 else (v12 - v17)), .int x2]) (st9 := [.int x2, .long (if (v12 - v17) < v4 then v4 else (v12 - v17)), .ref o0]) d_Grouping_spread_82 lV_Grouping_80 b329 rfl (tc_Grouping_keepAsBest (d := (d + 1)) (x9 := x9) (o0 := o0) (x1 := (if (v12 - v17) < v4 then v4 else (v12 - v17))) (x2 := x2) t13 I10.start) rfl (Nat.le_of_ble_eq_true rfl) (Nat.le_of_ble_eq_true rfl) (Nat.le_of_ble_eq_true rfl) (hst := rfl) (fun b323r M324 n325 b323 => ?_)
                obtain ⟨T326, J327, rfl⟩ := b323
                have I328 := I10.call J327 (tm_sub (by decide)) (Or.inl rfl)
                have t330 := J327.up t13
                have q331 := J327.keep t13 (by decide) q14
                have q332 := J327.keep t13 (by decide) q15
                have t333 := J327.up t_a16
                have q334 := J327.keep t13 (by decide) q320
                exact mv_vret d_Grouping_spread_85 rfl ⟨_, I328, rfl⟩
              · refine mv_iload_n d_Grouping_spread_73 rfl rfl ?_
                refine mv_bipush (v := 8) d_Grouping_spread_74 (by decide) ?_
                have := mz_hi x1
                refine mv_icmp_neZ (tgt := 86) (a := x1.toInt) (b := 8) d_Grouping_spread_76 (by decide) rfl (by decide) (fun b335 => ?_) (fun b335 => ?_)
                · refine mv_iconst (v := 0) d_Grouping_spread_86 (by decide) ?_
                  refine mv_istore (lv' := [(5, .int 0), (3, .long (if (v12 - v17) < v4 then v4 else (v12 - v17))), (0, .ref o0), (1, .int x1), (2, .int x2)]) d_Grouping_spread_87 (by decide) rfl ?_
                  have L89_336 : ∀ (k : Nat) (i5_336 : Int32) (T_336 : tm_H) (M_336 : mj_M) (n_336 : Nat), tm_I tm_FT (tm_in w_Grouping_spread_q1) x9 T0 M0 n0 T_336 M_336 n_336 → T_336 o0 = some (0, 7, 0) → 0 ≤ i5_336.toInt → 2147483647 - i5_336.toInt < (k : Int) → mj_V g l kY_Grouping_spread (d + 2) 89 [(5, .int i5_336), (3, .long (if (v12 - v17) < v4 then v4 else (v12 - v17))), (0, .ref o0), (1, .int x1), (2, .int x2)] [] M_336 n_336 0 0 (tm_Q tm_FT (tm_in w_Grouping_spread_q1) x9 T0 M0 n0 (fun r _ _ => r = none)) := by
                    intro k336
                    induction k336 with
                    | zero =>
                      intro i5_336 T_336 M_336 n_336 I_336 h_q0_336 iv0_336 hk336
                      have := mz_hi i5_336
                      omega
                    | succ k336 ih336 =>
                      intro i5_336 T_336 M_336 n_336 I_336 h_q0_336 iv0_336 hk336
                      refine mv_iload d_Grouping_spread_89 rfl ?_
                      refine mv_iload_n d_Grouping_spread_91 rfl rfl ?_
                      have := mz_hi i5_336
                      have := mz_hi x2
                      refine mv_icmp_gtZ (tgt := 197) (a := i5_336.toInt) (b := x2.toInt) d_Grouping_spread_92 (by decide) rfl rfl (fun b337 => ?_) (fun b337 => ?_)
                      · exact mv_vret d_Grouping_spread_197 rfl ⟨_, I_336, rfl⟩
                      · refine mv_iload d_Grouping_spread_95 rfl ?_
                        refine mv_bipush (v := 8) d_Grouping_spread_97 (by decide) ?_
                        have := mz_hi i5_336
                        refine mv_icmp_geZ (tgt := 197) (a := i5_336.toInt) (b := 8) d_Grouping_spread_99 (by decide) rfl (by decide) (fun b338 => ?_) (fun b338 => ?_)
                        · exact mv_vret d_Grouping_spread_197 rfl ⟨_, I_336, rfl⟩
                        · refine mv_aload_n d_Grouping_spread_102 rfl rfl ?_
                          obtain ⟨a340, q339, t_a340⟩ := tm_atR I_336 h_q0_336 (k := 10) rfl
                          refine tr_getK q339 d_Grouping_spread_103 f_Grouping_31_7 ?_
                          refine mv_iload d_Grouping_spread_106 rfl ?_
                          refine tr_iald I_336 t_a340 (by decide) d_Grouping_spread_108 (vp_in_iff.mpr (by omega)) (fun v341 => ?_)
                          refine mv_istore (lv' := [(6, .int v341), (5, .int i5_336), (3, .long (if (v12 - v17) < v4 then v4 else (v12 - v17))), (0, .ref o0), (1, .int x1), (2, .int x2)]) d_Grouping_spread_109 (by decide) rfl ?_
                          refine mv_aload_n d_Grouping_spread_111 rfl rfl ?_
                          refine mv_iload_n d_Grouping_spread_112 rfl rfl ?_
                          refine mv_iload d_Grouping_spread_113 rfl ?_
                          obtain ⟨_, b348, -⟩ := I_336.1 _ _ h_q0_336
                          refine mv_callV (kc' := 0) (ks' := 0) (As := [.int x1, .int i5_336]) (st9 := [.int i5_336, .int x1, .ref o0]) d_Grouping_spread_115 lV_Grouping_56 b348 rfl (tc_Grouping_put (d := (d + 1)) (x9 := x9) (o0 := o0) (x1 := x1) (x2 := i5_336) h_q0_336 I_336.start) rfl (Nat.le_of_ble_eq_true rfl) (Nat.le_of_ble_eq_true rfl) (Nat.le_of_ble_eq_true rfl) (hst := rfl) (fun b342r M343 n344 b342 => ?_)
                          obtain ⟨T345, J346, rfl⟩ := b342
                          have I347 := I_336.call J346 (tm_sub (by decide)) (Or.inl rfl)
                          have t349 := J346.up h_q0_336
                          have q350 := J346.keep h_q0_336 (by decide) q339
                          have t351 := J346.up t_a340
                          refine mv_aload_n d_Grouping_spread_118 rfl rfl ?_
                          refine mv_iload d_Grouping_spread_119 rfl ?_
                          obtain ⟨_, b358, -⟩ := I347.1 _ _ t349
                          refine mv_callV (kc' := 0) (ks' := 0) (As := [.int i5_336]) (st9 := [.int i5_336, .ref o0]) d_Grouping_spread_121 lV_Grouping_60 b358 rfl (tc_Grouping_holdsTogether (d := d) (x9 := x9) (o0 := o0) (x1 := i5_336) t349 I347.start) rfl (Nat.le_of_ble_eq_true rfl) (Nat.le_of_ble_eq_true rfl) (Nat.le_of_ble_eq_true rfl) (hst := rfl) (fun b352r M353 n354 b352 => ?_)
                          obtain ⟨T355, J356, v359, rfl, b360, b361⟩ := b352
                          have I357 := I347.call J356 (tm_sub (by decide)) (Or.inl rfl)
                          have t362 := J356.up t349
                          have q363 := J356.keep t349 (by decide) q350
                          have t364 := J356.up t351
                          have := mz_hi v359
                          refine mv_if_eqZ (tgt := 155) (a := v359.toInt) d_Grouping_spread_124 (by decide) rfl (fun b365 => ?_) (fun b365 => ?_)
                          · refine mv_aload_n d_Grouping_spread_155 rfl rfl ?_
                            obtain ⟨a367, q366, t_a367⟩ := tm_atR I357 t362 (k := 9) rfl
                            refine tr_getK q366 d_Grouping_spread_156 f_Grouping_28_7 ?_
                            refine mv_iload d_Grouping_spread_159 rfl ?_
                            refine mv_dup2_11 d_Grouping_spread_161 rfl rfl ?_
                            refine tr_iald I357 t_a367 (by decide) d_Grouping_spread_162 (vp_in_iff.mpr (by omega)) (fun v368 => ?_)
                            refine mv_iconst (v := 1) d_Grouping_spread_163 (by decide) ?_
                            refine mv_isub d_Grouping_spread_164 ?_
                            refine tr_iastK tm_okF I357 t_a367 (by decide) (Or.inl (by decide)) d_Grouping_spread_165 (vp_in_iff.mpr (by omega)) (fun M369 I370 K371 => ?_)
                            refine mv_aload_n d_Grouping_spread_166 rfl rfl ?_
                            obtain ⟨a373, q372, t_a373⟩ := tm_atR I370 t362 (k := 11) rfl
                            refine tr_getK q372 d_Grouping_spread_167 f_Grouping_34_7 ?_
                            refine mv_iload d_Grouping_spread_170 rfl ?_
                            refine mv_dup2_11 d_Grouping_spread_172 rfl rfl ?_
                            refine tr_lald I370 t_a373 (by decide) d_Grouping_spread_173 (vp_in_iff.mpr (by omega)) (fun v374 => ?_)
                            refine mv_aload_n d_Grouping_spread_174 rfl rfl ?_
                            obtain ⟨a376, q375, t_a376⟩ := tm_atR I370 t362 (k := 5) rfl
                            refine tr_getK q375 d_Grouping_spread_175 f_Grouping_15_7 ?_
                            refine mv_iload_n d_Grouping_spread_178 rfl rfl ?_
                            refine tr_lald I370 t_a376 (by decide) d_Grouping_spread_179 (vp_in_iff.mpr (by omega)) (fun v377 => ?_)
                            refine mv_lsub d_Grouping_spread_180 ?_
                            refine tr_lastK tm_okF I370 t_a373 (by decide) (Or.inl (by decide)) d_Grouping_spread_181 (vp_in_iff.mpr (by omega)) (fun M378 I379 K380 => ?_)
                            refine mv_aload_n d_Grouping_spread_182 rfl rfl ?_
                            refine tr_getK (k := 10) (K380 _ 7 10 _ (K371 _ 7 10 _ q363)) d_Grouping_spread_183 f_Grouping_31_7 ?_
                            refine mv_iload d_Grouping_spread_186 rfl ?_
                            refine mv_iload d_Grouping_spread_188 rfl ?_
                            refine tr_iastK tm_okF I379 t364 (by decide) (Or.inl (by decide)) d_Grouping_spread_190 (vp_in_iff.mpr (by omega)) (fun M381 I382 K383 => ?_)
                            refine mv_iinc (v := (i5_336 + 1)) (lv' := [(5, .int (i5_336 + 1)), (6, .int v341), (3, .long (if (v12 - v17) < v4 then v4 else (v12 - v17))), (0, .ref o0), (1, .int x1), (2, .int x2)]) d_Grouping_spread_191 rfl rfl (by decide) rfl ?_
                            refine mv_goto (tgt := 89) d_Grouping_spread_194 (by decide) ?_
                            refine mv_locals (lv' := [(5, .int (i5_336 + 1)), (3, .long (if (v12 - v17) < v4 then v4 else (v12 - v17))), (0, .ref o0), (1, .int x1), (2, .int x2)]) (by intro q hq; simp only [List.mem_cons, List.not_mem_nil, or_false] at hq; rcases hq with rfl | rfl | rfl | rfl | rfl <;> rfl) ?_
                            have b384 : (i5_336 + 1).toInt = i5_336.toInt + 1 := mz_addn 1 1 (by decide) (by have := mz_lo i5_336; omega) (by have := mz_hi i5_336; omega)
                            exact (ih336 (i5_336 + 1) T355 M381 n354 I382 t362 (by first | omega | decide) (by omega))
                          · refine mv_aload_n d_Grouping_spread_127 rfl rfl ?_
                            obtain ⟨a386, q385, t_a386⟩ := tm_atR I357 t362 (k := 7) rfl
                            refine tr_getK q385 d_Grouping_spread_128 f_Grouping_22_7 ?_
                            refine mv_iload_n d_Grouping_spread_131 rfl rfl ?_
                            refine mv_iload d_Grouping_spread_132 rfl ?_
                            refine tr_iastK tm_okF I357 t_a386 (by decide) (Or.inl (by decide)) d_Grouping_spread_134 (vp_in_iff.mpr (by omega)) (fun M387 I388 K389 => ?_)
                            refine mv_aload_n d_Grouping_spread_135 rfl rfl ?_
                            refine mv_iload_n d_Grouping_spread_136 rfl rfl ?_
                            refine mv_iconst (v := 1) d_Grouping_spread_137 (by decide) ?_
                            refine mv_iadd d_Grouping_spread_138 ?_
                            refine mv_iload d_Grouping_spread_139 rfl ?_
                            refine mv_iload_n d_Grouping_spread_141 rfl rfl ?_
                            have := mz_hi i5_336
                            have := mz_hi x2
                            refine mv_icmp_neZ (tgt := 151) (a := i5_336.toInt) (b := x2.toInt) d_Grouping_spread_142 (by decide) rfl rfl (fun b390 => ?_) (fun b390 => ?_)
                            · refine mv_iload_n d_Grouping_spread_151 rfl rfl ?_
                              have b391 : (x1 + 1).toInt = x1.toInt + 1 := mz_addn 1 1 (by decide) (by omega) (by omega)
                              obtain ⟨_, b398, -⟩ := I388.1 _ _ t362
                              refine mv_callV (kc' := 0) (ks' := 0) (As := [.int (x1 + 1), .int x2]) (st9 := [.int x2, .int (x1 + 1), .ref o0]) d_Grouping_spread_152 lV_Grouping_77 b398 rfl (tc_Grouping_spread_q0 (d := (d + 1)) (x9 := x9) (o0 := o0) (x1 := (x1 + 1)) (x2 := x2) t362 (by first | omega | decide) I388.start) rfl (Nat.le_of_ble_eq_true rfl) (Nat.le_of_ble_eq_true rfl) (Nat.le_of_ble_eq_true rfl) (hst := rfl) (fun b392r M393 n394 b392 => ?_)
                              obtain ⟨T395, J396, rfl⟩ := b392
                              have I397 := I388.call J396 (tm_sub (by decide)) (Or.inl rfl)
                              have t399 := J396.up t362
                              have q400 := J396.keep t362 (by decide) (K389 _ 7 10 _ q363)
                              have t401 := J396.up t364
                              have q402 := J396.keep t362 (by decide) (K389 _ 7 7 _ q385)
                              have t403 := J396.up t_a386
                              refine mv_aload_n d_Grouping_spread_155 rfl rfl ?_
                              obtain ⟨a405, q404, t_a405⟩ := tm_atR I397 t399 (k := 9) rfl
                              refine tr_getK q404 d_Grouping_spread_156 f_Grouping_28_7 ?_
                              refine mv_iload d_Grouping_spread_159 rfl ?_
                              refine mv_dup2_11 d_Grouping_spread_161 rfl rfl ?_
                              refine tr_iald I397 t_a405 (by decide) d_Grouping_spread_162 (vp_in_iff.mpr (by omega)) (fun v406 => ?_)
                              refine mv_iconst (v := 1) d_Grouping_spread_163 (by decide) ?_
                              refine mv_isub d_Grouping_spread_164 ?_
                              refine tr_iastK tm_okF I397 t_a405 (by decide) (Or.inl (by decide)) d_Grouping_spread_165 (vp_in_iff.mpr (by omega)) (fun M407 I408 K409 => ?_)
                              refine mv_aload_n d_Grouping_spread_166 rfl rfl ?_
                              obtain ⟨a411, q410, t_a411⟩ := tm_atR I408 t399 (k := 11) rfl
                              refine tr_getK q410 d_Grouping_spread_167 f_Grouping_34_7 ?_
                              refine mv_iload d_Grouping_spread_170 rfl ?_
                              refine mv_dup2_11 d_Grouping_spread_172 rfl rfl ?_
                              refine tr_lald I408 t_a411 (by decide) d_Grouping_spread_173 (vp_in_iff.mpr (by omega)) (fun v412 => ?_)
                              refine mv_aload_n d_Grouping_spread_174 rfl rfl ?_
                              obtain ⟨a414, q413, t_a414⟩ := tm_atR I408 t399 (k := 5) rfl
                              refine tr_getK q413 d_Grouping_spread_175 f_Grouping_15_7 ?_
                              refine mv_iload_n d_Grouping_spread_178 rfl rfl ?_
                              refine tr_lald I408 t_a414 (by decide) d_Grouping_spread_179 (vp_in_iff.mpr (by omega)) (fun v415 => ?_)
                              refine mv_lsub d_Grouping_spread_180 ?_
                              refine tr_lastK tm_okF I408 t_a411 (by decide) (Or.inl (by decide)) d_Grouping_spread_181 (vp_in_iff.mpr (by omega)) (fun M416 I417 K418 => ?_)
                              refine mv_aload_n d_Grouping_spread_182 rfl rfl ?_
                              refine tr_getK (k := 10) (K418 _ 7 10 _ (K409 _ 7 10 _ q400)) d_Grouping_spread_183 f_Grouping_31_7 ?_
                              refine mv_iload d_Grouping_spread_186 rfl ?_
                              refine mv_iload d_Grouping_spread_188 rfl ?_
                              refine tr_iastK tm_okF I417 t401 (by decide) (Or.inl (by decide)) d_Grouping_spread_190 (vp_in_iff.mpr (by omega)) (fun M419 I420 K421 => ?_)
                              refine mv_iinc (v := (i5_336 + 1)) (lv' := [(5, .int (i5_336 + 1)), (6, .int v341), (3, .long (if (v12 - v17) < v4 then v4 else (v12 - v17))), (0, .ref o0), (1, .int x1), (2, .int x2)]) d_Grouping_spread_191 rfl rfl (by decide) rfl ?_
                              refine mv_goto (tgt := 89) d_Grouping_spread_194 (by decide) ?_
                              refine mv_locals (lv' := [(5, .int (i5_336 + 1)), (3, .long (if (v12 - v17) < v4 then v4 else (v12 - v17))), (0, .ref o0), (1, .int x1), (2, .int x2)]) (by intro q hq; simp only [List.mem_cons, List.not_mem_nil, or_false] at hq; rcases hq with rfl | rfl | rfl | rfl | rfl <;> rfl) ?_
                              have b422 : (i5_336 + 1).toInt = i5_336.toInt + 1 := mz_addn 1 1 (by decide) (by have := mz_lo i5_336; omega) (by have := mz_hi i5_336; omega)
                              exact (ih336 (i5_336 + 1) T395 M419 n394 I420 t399 (by first | omega | decide) (by omega))
                            · refine mv_iload_n d_Grouping_spread_145 rfl rfl ?_
                              refine mv_iconst (v := 1) d_Grouping_spread_146 (by decide) ?_
                              refine mv_iadd d_Grouping_spread_147 ?_
                              refine mv_goto (tgt := 152) d_Grouping_spread_148 (by decide) ?_
                              have b423 : (x1 + 1).toInt = x1.toInt + 1 := mz_addn 1 1 (by decide) (by omega) (by omega)
                              obtain ⟨_, b430, -⟩ := I388.1 _ _ t362
                              refine mv_callV (kc' := 0) (ks' := 0) (As := [.int (x1 + 1), .int (x2 + 1)]) (st9 := [.int (x2 + 1), .int (x1 + 1), .ref o0]) d_Grouping_spread_152 lV_Grouping_77 b430 rfl (tc_Grouping_spread_q0 (d := (d + 1)) (x9 := x9) (o0 := o0) (x1 := (x1 + 1)) (x2 := (x2 + 1)) t362 (by first | omega | decide) I388.start) rfl (Nat.le_of_ble_eq_true rfl) (Nat.le_of_ble_eq_true rfl) (Nat.le_of_ble_eq_true rfl) (hst := rfl) (fun b424r M425 n426 b424 => ?_)
                              obtain ⟨T427, J428, rfl⟩ := b424
                              have I429 := I388.call J428 (tm_sub (by decide)) (Or.inl rfl)
                              have t431 := J428.up t362
                              have q432 := J428.keep t362 (by decide) (K389 _ 7 10 _ q363)
                              have t433 := J428.up t364
                              have q434 := J428.keep t362 (by decide) (K389 _ 7 7 _ q385)
                              have t435 := J428.up t_a386
                              refine mv_aload_n d_Grouping_spread_155 rfl rfl ?_
                              obtain ⟨a437, q436, t_a437⟩ := tm_atR I429 t431 (k := 9) rfl
                              refine tr_getK q436 d_Grouping_spread_156 f_Grouping_28_7 ?_
                              refine mv_iload d_Grouping_spread_159 rfl ?_
                              refine mv_dup2_11 d_Grouping_spread_161 rfl rfl ?_
                              refine tr_iald I429 t_a437 (by decide) d_Grouping_spread_162 (vp_in_iff.mpr (by omega)) (fun v438 => ?_)
                              refine mv_iconst (v := 1) d_Grouping_spread_163 (by decide) ?_
                              refine mv_isub d_Grouping_spread_164 ?_
                              refine tr_iastK tm_okF I429 t_a437 (by decide) (Or.inl (by decide)) d_Grouping_spread_165 (vp_in_iff.mpr (by omega)) (fun M439 I440 K441 => ?_)
                              refine mv_aload_n d_Grouping_spread_166 rfl rfl ?_
                              obtain ⟨a443, q442, t_a443⟩ := tm_atR I440 t431 (k := 11) rfl
                              refine tr_getK q442 d_Grouping_spread_167 f_Grouping_34_7 ?_
                              refine mv_iload d_Grouping_spread_170 rfl ?_
                              refine mv_dup2_11 d_Grouping_spread_172 rfl rfl ?_
                              refine tr_lald I440 t_a443 (by decide) d_Grouping_spread_173 (vp_in_iff.mpr (by omega)) (fun v444 => ?_)
                              refine mv_aload_n d_Grouping_spread_174 rfl rfl ?_
                              obtain ⟨a446, q445, t_a446⟩ := tm_atR I440 t431 (k := 5) rfl
                              refine tr_getK q445 d_Grouping_spread_175 f_Grouping_15_7 ?_
                              refine mv_iload_n d_Grouping_spread_178 rfl rfl ?_
                              refine tr_lald I440 t_a446 (by decide) d_Grouping_spread_179 (vp_in_iff.mpr (by omega)) (fun v447 => ?_)
                              refine mv_lsub d_Grouping_spread_180 ?_
                              refine tr_lastK tm_okF I440 t_a443 (by decide) (Or.inl (by decide)) d_Grouping_spread_181 (vp_in_iff.mpr (by omega)) (fun M448 I449 K450 => ?_)
                              refine mv_aload_n d_Grouping_spread_182 rfl rfl ?_
                              refine tr_getK (k := 10) (K450 _ 7 10 _ (K441 _ 7 10 _ q432)) d_Grouping_spread_183 f_Grouping_31_7 ?_
                              refine mv_iload d_Grouping_spread_186 rfl ?_
                              refine mv_iload d_Grouping_spread_188 rfl ?_
                              refine tr_iastK tm_okF I449 t433 (by decide) (Or.inl (by decide)) d_Grouping_spread_190 (vp_in_iff.mpr (by omega)) (fun M451 I452 K453 => ?_)
                              refine mv_iinc (v := (i5_336 + 1)) (lv' := [(5, .int (i5_336 + 1)), (6, .int v341), (3, .long (if (v12 - v17) < v4 then v4 else (v12 - v17))), (0, .ref o0), (1, .int x1), (2, .int x2)]) d_Grouping_spread_191 rfl rfl (by decide) rfl ?_
                              refine mv_goto (tgt := 89) d_Grouping_spread_194 (by decide) ?_
                              refine mv_locals (lv' := [(5, .int (i5_336 + 1)), (3, .long (if (v12 - v17) < v4 then v4 else (v12 - v17))), (0, .ref o0), (1, .int x1), (2, .int x2)]) (by intro q hq; simp only [List.mem_cons, List.not_mem_nil, or_false] at hq; rcases hq with rfl | rfl | rfl | rfl | rfl <;> rfl) ?_
                              have b454 : (i5_336 + 1).toInt = i5_336.toInt + 1 := mz_addn 1 1 (by decide) (by have := mz_lo i5_336; omega) (by have := mz_hi i5_336; omega)
                              exact (ih336 (i5_336 + 1) T427 M451 n426 I452 t431 (by first | omega | decide) (by omega))
                  exact mv_less (Nat.zero_le _) (Nat.zero_le _) (L89_336 4294967296 0 T8 M6 n7 I10 t13 (by first | omega | decide) (by show (2147483647 - (0 : Int) : Int) < _; decide))
                · refine mv_aload_n d_Grouping_spread_79 rfl rfl ?_
                  refine mv_lload_n d_Grouping_spread_80 rfl rfl ?_
                  refine mv_iload_n d_Grouping_spread_81 rfl rfl ?_
                  obtain ⟨_, b461, -⟩ := I10.1 _ _ t13
                  refine mv_callV (kc' := 0) (ks' := 0) (As := [.long (if (v12 - v17) < v4 then v4 else (v12 - v17)), .int x2]) (st9 := [.int x2, .long (if (v12 - v17) < v4 then v4 else (v12 - v17)), .ref o0]) d_Grouping_spread_82 lV_Grouping_80 b461 rfl (tc_Grouping_keepAsBest (d := (d + 1)) (x9 := x9) (o0 := o0) (x1 := (if (v12 - v17) < v4 then v4 else (v12 - v17))) (x2 := x2) t13 I10.start) rfl (Nat.le_of_ble_eq_true rfl) (Nat.le_of_ble_eq_true rfl) (Nat.le_of_ble_eq_true rfl) (hst := rfl) (fun b455r M456 n457 b455 => ?_)
                  obtain ⟨T458, J459, rfl⟩ := b455
                  have I460 := I10.call J459 (tm_sub (by decide)) (Or.inl rfl)
                  have t462 := J459.up t13
                  have q463 := J459.keep t13 (by decide) q14
                  have q464 := J459.keep t13 (by decide) q15
                  have t465 := J459.up t_a16
                  have q466 := J459.keep t13 (by decide) q320
                  exact mv_vret d_Grouping_spread_85 rfl ⟨_, I460, rfl⟩
            · exact mv_vret d_Grouping_spread_64 rfl ⟨_, I10, rfl⟩
    · exact mv_vret d_Grouping_spread_10 rfl ⟨_, I0, rfl⟩
def w_Grouping_spread_q2 : List Nat := [700, 703, 757, 758, 759, 760, 761]
theorem tg_Grouping_spread {E : Nat} {K K1 : Int} (hK9 : K1 = K + 1 ∧ 0 ≤ K ∧ K ≤ 7) (H_spread : ∀ {g : mj_G} {l : Launch} {d : Nat} {T0 : tm_H} {M0 : mj_M} {n0 x9 : Nat} {o0 : Nat} {x1 : Int32} {x2 : Int32} (h_o0 : T0 o0 = some (0, 7, 0)) (hp : K1 ≤ x1.toInt) (I0 : tm_I tm_FT (tm_in w_Grouping_spread_q1) x9 T0 M0 n0 T0 M0 n0), mj_Met g l kY_Grouping_spread (d + E + 2) [.ref o0, .int x1, .int x2] M0 n0 0 0 (tm_Q tm_FT (tm_in w_Grouping_spread_q1) x9 T0 M0 n0 (fun r _ _ => r = none))) {g : mj_G} {l : Launch} {d : Nat} {T0 : tm_H} {M0 : mj_M} {n0 x9 : Nat} {o0 : Nat} {x1 : Int32} {x2 : Int32} (h_o0 : T0 o0 = some (0, 7, 0)) (hp : K ≤ x1.toInt) (I0 : tm_I tm_FT (tm_in w_Grouping_spread_q1) x9 T0 M0 n0 T0 M0 n0) : mj_Met g l kY_Grouping_spread (d + E + 3) [.ref o0, .int x1, .int x2] M0 n0 0 0 (tm_Q tm_FT (tm_in w_Grouping_spread_q1) x9 T0 M0 n0 (fun r _ _ => r = none)) := by
  refine mj_enter (by decide) (Nat.le_of_ble_eq_true rfl) ?_
  refine mv_iload_n d_Grouping_spread_0 rfl rfl ?_
  have := mz_hi x1
  refine mv_if_ltZ (tgt := 10) (a := x1.toInt) d_Grouping_spread_1 (by decide) rfl (fun b1 => ?_) (fun b1 => ?_)
  · exact mv_vret d_Grouping_spread_10 rfl ⟨_, I0, rfl⟩
  · refine mv_iload_n d_Grouping_spread_4 rfl rfl ?_
    refine mv_bipush (v := 8) d_Grouping_spread_5 (by decide) ?_
    have := mz_hi x1
    refine mv_icmp_leZ (tgt := 11) (a := x1.toInt) (b := 8) d_Grouping_spread_7 (by decide) rfl (by decide) (fun b2 => ?_) (fun b2 => ?_)
    · refine mv_aload_n d_Grouping_spread_11 rfl rfl ?_
      obtain ⟨v4, q3⟩ := tm_atL I0 h_o0 (k := 13) rfl
      refine tr_getK q3 d_Grouping_spread_12 f_Grouping_74_7 ?_
      refine mv_aload_n d_Grouping_spread_15 rfl rfl ?_
      refine mv_iload_n d_Grouping_spread_16 rfl rfl ?_
      obtain ⟨_, b11, -⟩ := I0.1 _ _ h_o0
      refine mv_callV (kc' := 0) (ks' := 0) (As := [.int x2]) (st9 := [.int x2, .ref o0, .long v4]) d_Grouping_spread_17 lV_Grouping_64 b11 rfl (tc_Grouping_idleOf (d := (d + E + 1)) (x9 := x9) (o0 := o0) (x1 := x2) h_o0 I0.start) rfl (Nat.le_of_ble_eq_true rfl) (Nat.le_of_ble_eq_true rfl) (Nat.le_of_ble_eq_true rfl) (hst := rfl) (fun b5r M6 n7 b5 => ?_)
      obtain ⟨T8, J9, v12, rfl⟩ := b5
      have I10 := I0.call J9 (tm_sub (by decide)) (Or.inl rfl)
      have t13 := J9.up h_o0
      have q14 := J9.keep h_o0 (by decide) q3
      refine mv_aload_n d_Grouping_spread_20 rfl rfl ?_
      obtain ⟨a16, q15, t_a16⟩ := tm_atR I10 t13 (k := 12) rfl
      refine tr_getK q15 d_Grouping_spread_21 f_Grouping_37_7 ?_
      refine mv_iload_n d_Grouping_spread_24 rfl rfl ?_
      refine tr_lald I10 t_a16 (by decide) d_Grouping_spread_25 (vp_in_iff.mpr (by omega)) (fun v17 => ?_)
      refine mv_lsub d_Grouping_spread_26 ?_
      refine mv_mmax_long (v := (if (v12 - v17) < v4 then v4 else (v12 - v17))) d_Grouping_spread_27 (mj_in1 (List.mem_of_getElem? (i := 1243) (by decide +kernel)) rfl) (Nat.le_of_ble_eq_true rfl) rfl ?_
      refine mv_lstore_n (lv' := [(3, .long (if (v12 - v17) < v4 then v4 else (v12 - v17))), (0, .ref o0), (1, .int x1), (2, .int x2)]) d_Grouping_spread_30 rfl (by decide) rfl ?_
      refine mv_aload_n d_Grouping_spread_31 rfl rfl ?_
      obtain ⟨v19, q18⟩ := tm_atI I10 t13 (k := 3) rfl
      refine tr_getK q18 d_Grouping_spread_32 f_Grouping_47_7 ?_
      have := mz_hi v19
      refine mv_if_eqZ (tgt := 65) (a := v19.toInt) d_Grouping_spread_35 (by decide) rfl (fun b20 => ?_) (fun b20 => ?_)
      · refine mv_iload_n d_Grouping_spread_65 rfl rfl ?_
        refine mv_aload_n d_Grouping_spread_66 rfl rfl ?_
        obtain ⟨v22, q21⟩ := tm_atI I10 t13 (k := 2) rfl
        refine tr_getK q21 d_Grouping_spread_67 f_Grouping_44_7 ?_
        have := mz_hi x1
        have := mz_hi v22
        refine mv_icmp_geZ (tgt := 79) (a := x1.toInt) (b := v22.toInt) d_Grouping_spread_70 (by decide) rfl rfl (fun b23 => ?_) (fun b23 => ?_)
        · refine mv_aload_n d_Grouping_spread_79 rfl rfl ?_
          refine mv_lload_n d_Grouping_spread_80 rfl rfl ?_
          refine mv_iload_n d_Grouping_spread_81 rfl rfl ?_
          obtain ⟨_, b30, -⟩ := I10.1 _ _ t13
          refine mv_callV (kc' := 0) (ks' := 0) (As := [.long (if (v12 - v17) < v4 then v4 else (v12 - v17)), .int x2]) (st9 := [.int x2, .long (if (v12 - v17) < v4 then v4 else (v12 - v17)), .ref o0]) d_Grouping_spread_82 lV_Grouping_80 b30 rfl (tc_Grouping_keepAsBest (d := (d + E + 2)) (x9 := x9) (o0 := o0) (x1 := (if (v12 - v17) < v4 then v4 else (v12 - v17))) (x2 := x2) t13 I10.start) rfl (Nat.le_of_ble_eq_true rfl) (Nat.le_of_ble_eq_true rfl) (Nat.le_of_ble_eq_true rfl) (hst := rfl) (fun b24r M25 n26 b24 => ?_)
          obtain ⟨T27, J28, rfl⟩ := b24
          have I29 := I10.call J28 (tm_sub (by decide)) (Or.inl rfl)
          have t31 := J28.up t13
          have q32 := J28.keep t13 (by decide) q14
          have q33 := J28.keep t13 (by decide) q15
          have t34 := J28.up t_a16
          have q35 := J28.keep t13 (by decide) q21
          exact mv_vret d_Grouping_spread_85 rfl ⟨_, I29, rfl⟩
        · refine mv_iload_n d_Grouping_spread_73 rfl rfl ?_
          refine mv_bipush (v := 8) d_Grouping_spread_74 (by decide) ?_
          have := mz_hi x1
          refine mv_icmp_neZ (tgt := 86) (a := x1.toInt) (b := 8) d_Grouping_spread_76 (by decide) rfl (by decide) (fun b36 => ?_) (fun b36 => ?_)
          · refine mv_iconst (v := 0) d_Grouping_spread_86 (by decide) ?_
            refine mv_istore (lv' := [(5, .int 0), (3, .long (if (v12 - v17) < v4 then v4 else (v12 - v17))), (0, .ref o0), (1, .int x1), (2, .int x2)]) d_Grouping_spread_87 (by decide) rfl ?_
            have L89_37 : ∀ (k : Nat) (i5_37 : Int32) (T_37 : tm_H) (M_37 : mj_M) (n_37 : Nat), tm_I tm_FT (tm_in w_Grouping_spread_q1) x9 T0 M0 n0 T_37 M_37 n_37 → T_37 o0 = some (0, 7, 0) → 0 ≤ i5_37.toInt → 2147483647 - i5_37.toInt < (k : Int) → mj_V g l kY_Grouping_spread (d + E + 3) 89 [(5, .int i5_37), (3, .long (if (v12 - v17) < v4 then v4 else (v12 - v17))), (0, .ref o0), (1, .int x1), (2, .int x2)] [] M_37 n_37 0 0 (tm_Q tm_FT (tm_in w_Grouping_spread_q1) x9 T0 M0 n0 (fun r _ _ => r = none)) := by
              intro k37
              induction k37 with
              | zero =>
                intro i5_37 T_37 M_37 n_37 I_37 h_q0_37 iv0_37 hk37
                have := mz_hi i5_37
                omega
              | succ k37 ih37 =>
                intro i5_37 T_37 M_37 n_37 I_37 h_q0_37 iv0_37 hk37
                refine mv_iload d_Grouping_spread_89 rfl ?_
                refine mv_iload_n d_Grouping_spread_91 rfl rfl ?_
                have := mz_hi i5_37
                have := mz_hi x2
                refine mv_icmp_gtZ (tgt := 197) (a := i5_37.toInt) (b := x2.toInt) d_Grouping_spread_92 (by decide) rfl rfl (fun b38 => ?_) (fun b38 => ?_)
                · exact mv_vret d_Grouping_spread_197 rfl ⟨_, I_37, rfl⟩
                · refine mv_iload d_Grouping_spread_95 rfl ?_
                  refine mv_bipush (v := 8) d_Grouping_spread_97 (by decide) ?_
                  have := mz_hi i5_37
                  refine mv_icmp_geZ (tgt := 197) (a := i5_37.toInt) (b := 8) d_Grouping_spread_99 (by decide) rfl (by decide) (fun b39 => ?_) (fun b39 => ?_)
                  · exact mv_vret d_Grouping_spread_197 rfl ⟨_, I_37, rfl⟩
                  · refine mv_aload_n d_Grouping_spread_102 rfl rfl ?_
                    obtain ⟨a41, q40, t_a41⟩ := tm_atR I_37 h_q0_37 (k := 10) rfl
                    refine tr_getK q40 d_Grouping_spread_103 f_Grouping_31_7 ?_
                    refine mv_iload d_Grouping_spread_106 rfl ?_
                    refine tr_iald I_37 t_a41 (by decide) d_Grouping_spread_108 (vp_in_iff.mpr (by omega)) (fun v42 => ?_)
                    refine mv_istore (lv' := [(6, .int v42), (5, .int i5_37), (3, .long (if (v12 - v17) < v4 then v4 else (v12 - v17))), (0, .ref o0), (1, .int x1), (2, .int x2)]) d_Grouping_spread_109 (by decide) rfl ?_
                    refine mv_aload_n d_Grouping_spread_111 rfl rfl ?_
                    refine mv_iload_n d_Grouping_spread_112 rfl rfl ?_
                    refine mv_iload d_Grouping_spread_113 rfl ?_
                    obtain ⟨_, b49, -⟩ := I_37.1 _ _ h_q0_37
                    refine mv_callV (kc' := 0) (ks' := 0) (As := [.int x1, .int i5_37]) (st9 := [.int i5_37, .int x1, .ref o0]) d_Grouping_spread_115 lV_Grouping_56 b49 rfl (tc_Grouping_put (d := (d + E + 2)) (x9 := x9) (o0 := o0) (x1 := x1) (x2 := i5_37) h_q0_37 I_37.start) rfl (Nat.le_of_ble_eq_true rfl) (Nat.le_of_ble_eq_true rfl) (Nat.le_of_ble_eq_true rfl) (hst := rfl) (fun b43r M44 n45 b43 => ?_)
                    obtain ⟨T46, J47, rfl⟩ := b43
                    have I48 := I_37.call J47 (tm_sub (by decide)) (Or.inl rfl)
                    have t50 := J47.up h_q0_37
                    have q51 := J47.keep h_q0_37 (by decide) q40
                    have t52 := J47.up t_a41
                    refine mv_aload_n d_Grouping_spread_118 rfl rfl ?_
                    refine mv_iload d_Grouping_spread_119 rfl ?_
                    obtain ⟨_, b59, -⟩ := I48.1 _ _ t50
                    refine mv_callV (kc' := 0) (ks' := 0) (As := [.int i5_37]) (st9 := [.int i5_37, .ref o0]) d_Grouping_spread_121 lV_Grouping_60 b59 rfl (tc_Grouping_holdsTogether (d := (d + E + 1)) (x9 := x9) (o0 := o0) (x1 := i5_37) t50 I48.start) rfl (Nat.le_of_ble_eq_true rfl) (Nat.le_of_ble_eq_true rfl) (Nat.le_of_ble_eq_true rfl) (hst := rfl) (fun b53r M54 n55 b53 => ?_)
                    obtain ⟨T56, J57, v60, rfl, b61, b62⟩ := b53
                    have I58 := I48.call J57 (tm_sub (by decide)) (Or.inl rfl)
                    have t63 := J57.up t50
                    have q64 := J57.keep t50 (by decide) q51
                    have t65 := J57.up t52
                    have := mz_hi v60
                    refine mv_if_eqZ (tgt := 155) (a := v60.toInt) d_Grouping_spread_124 (by decide) rfl (fun b66 => ?_) (fun b66 => ?_)
                    · refine mv_aload_n d_Grouping_spread_155 rfl rfl ?_
                      obtain ⟨a68, q67, t_a68⟩ := tm_atR I58 t63 (k := 9) rfl
                      refine tr_getK q67 d_Grouping_spread_156 f_Grouping_28_7 ?_
                      refine mv_iload d_Grouping_spread_159 rfl ?_
                      refine mv_dup2_11 d_Grouping_spread_161 rfl rfl ?_
                      refine tr_iald I58 t_a68 (by decide) d_Grouping_spread_162 (vp_in_iff.mpr (by omega)) (fun v69 => ?_)
                      refine mv_iconst (v := 1) d_Grouping_spread_163 (by decide) ?_
                      refine mv_isub d_Grouping_spread_164 ?_
                      refine tr_iastK tm_okF I58 t_a68 (by decide) (Or.inl (by decide)) d_Grouping_spread_165 (vp_in_iff.mpr (by omega)) (fun M70 I71 K72 => ?_)
                      refine mv_aload_n d_Grouping_spread_166 rfl rfl ?_
                      obtain ⟨a74, q73, t_a74⟩ := tm_atR I71 t63 (k := 11) rfl
                      refine tr_getK q73 d_Grouping_spread_167 f_Grouping_34_7 ?_
                      refine mv_iload d_Grouping_spread_170 rfl ?_
                      refine mv_dup2_11 d_Grouping_spread_172 rfl rfl ?_
                      refine tr_lald I71 t_a74 (by decide) d_Grouping_spread_173 (vp_in_iff.mpr (by omega)) (fun v75 => ?_)
                      refine mv_aload_n d_Grouping_spread_174 rfl rfl ?_
                      obtain ⟨a77, q76, t_a77⟩ := tm_atR I71 t63 (k := 5) rfl
                      refine tr_getK q76 d_Grouping_spread_175 f_Grouping_15_7 ?_
                      refine mv_iload_n d_Grouping_spread_178 rfl rfl ?_
                      refine tr_lald I71 t_a77 (by decide) d_Grouping_spread_179 (vp_in_iff.mpr (by omega)) (fun v78 => ?_)
                      refine mv_lsub d_Grouping_spread_180 ?_
                      refine tr_lastK tm_okF I71 t_a74 (by decide) (Or.inl (by decide)) d_Grouping_spread_181 (vp_in_iff.mpr (by omega)) (fun M79 I80 K81 => ?_)
                      refine mv_aload_n d_Grouping_spread_182 rfl rfl ?_
                      refine tr_getK (k := 10) (K81 _ 7 10 _ (K72 _ 7 10 _ q64)) d_Grouping_spread_183 f_Grouping_31_7 ?_
                      refine mv_iload d_Grouping_spread_186 rfl ?_
                      refine mv_iload d_Grouping_spread_188 rfl ?_
                      refine tr_iastK tm_okF I80 t65 (by decide) (Or.inl (by decide)) d_Grouping_spread_190 (vp_in_iff.mpr (by omega)) (fun M82 I83 K84 => ?_)
                      refine mv_iinc (v := (i5_37 + 1)) (lv' := [(5, .int (i5_37 + 1)), (6, .int v42), (3, .long (if (v12 - v17) < v4 then v4 else (v12 - v17))), (0, .ref o0), (1, .int x1), (2, .int x2)]) d_Grouping_spread_191 rfl rfl (by decide) rfl ?_
                      refine mv_goto (tgt := 89) d_Grouping_spread_194 (by decide) ?_
                      refine mv_locals (lv' := [(5, .int (i5_37 + 1)), (3, .long (if (v12 - v17) < v4 then v4 else (v12 - v17))), (0, .ref o0), (1, .int x1), (2, .int x2)]) (by intro q hq; simp only [List.mem_cons, List.not_mem_nil, or_false] at hq; rcases hq with rfl | rfl | rfl | rfl | rfl <;> rfl) ?_
                      have b85 : (i5_37 + 1).toInt = i5_37.toInt + 1 := mz_addn 1 1 (by decide) (by have := mz_lo i5_37; omega) (by have := mz_hi i5_37; omega)
                      exact (ih37 (i5_37 + 1) T56 M82 n55 I83 t63 (by first | omega | decide) (by omega))
                    · refine mv_aload_n d_Grouping_spread_127 rfl rfl ?_
                      obtain ⟨a87, q86, t_a87⟩ := tm_atR I58 t63 (k := 7) rfl
                      refine tr_getK q86 d_Grouping_spread_128 f_Grouping_22_7 ?_
                      refine mv_iload_n d_Grouping_spread_131 rfl rfl ?_
                      refine mv_iload d_Grouping_spread_132 rfl ?_
                      refine tr_iastK tm_okF I58 t_a87 (by decide) (Or.inl (by decide)) d_Grouping_spread_134 (vp_in_iff.mpr (by omega)) (fun M88 I89 K90 => ?_)
                      refine mv_aload_n d_Grouping_spread_135 rfl rfl ?_
                      refine mv_iload_n d_Grouping_spread_136 rfl rfl ?_
                      refine mv_iconst (v := 1) d_Grouping_spread_137 (by decide) ?_
                      refine mv_iadd d_Grouping_spread_138 ?_
                      refine mv_iload d_Grouping_spread_139 rfl ?_
                      refine mv_iload_n d_Grouping_spread_141 rfl rfl ?_
                      have := mz_hi i5_37
                      have := mz_hi x2
                      refine mv_icmp_neZ (tgt := 151) (a := i5_37.toInt) (b := x2.toInt) d_Grouping_spread_142 (by decide) rfl rfl (fun b91 => ?_) (fun b91 => ?_)
                      · refine mv_iload_n d_Grouping_spread_151 rfl rfl ?_
                        have b92 : (x1 + 1).toInt = x1.toInt + 1 := mz_addn 1 1 (by decide) (by omega) (by omega)
                        obtain ⟨_, b99, -⟩ := I89.1 _ _ t63
                        refine mv_callV (kc' := 0) (ks' := 0) (As := [.int (x1 + 1), .int x2]) (st9 := [.int x2, .int (x1 + 1), .ref o0]) d_Grouping_spread_152 lV_Grouping_77 b99 rfl (H_spread (d := d) (x9 := x9) (o0 := o0) (x1 := (x1 + 1)) (x2 := x2) t63 (by first | omega | decide) I89.start) rfl (Nat.le_of_ble_eq_true rfl) (Nat.le_of_ble_eq_true rfl) (Nat.le_of_ble_eq_true rfl) (hst := rfl) (fun b93r M94 n95 b93 => ?_)
                        obtain ⟨T96, J97, rfl⟩ := b93
                        have I98 := I89.call J97 (tm_sub (by decide)) (Or.inl rfl)
                        have t100 := J97.up t63
                        have q101 := J97.keep t63 (by decide) (K90 _ 7 10 _ q64)
                        have t102 := J97.up t65
                        have q103 := J97.keep t63 (by decide) (K90 _ 7 7 _ q86)
                        have t104 := J97.up t_a87
                        refine mv_aload_n d_Grouping_spread_155 rfl rfl ?_
                        obtain ⟨a106, q105, t_a106⟩ := tm_atR I98 t100 (k := 9) rfl
                        refine tr_getK q105 d_Grouping_spread_156 f_Grouping_28_7 ?_
                        refine mv_iload d_Grouping_spread_159 rfl ?_
                        refine mv_dup2_11 d_Grouping_spread_161 rfl rfl ?_
                        refine tr_iald I98 t_a106 (by decide) d_Grouping_spread_162 (vp_in_iff.mpr (by omega)) (fun v107 => ?_)
                        refine mv_iconst (v := 1) d_Grouping_spread_163 (by decide) ?_
                        refine mv_isub d_Grouping_spread_164 ?_
                        refine tr_iastK tm_okF I98 t_a106 (by decide) (Or.inl (by decide)) d_Grouping_spread_165 (vp_in_iff.mpr (by omega)) (fun M108 I109 K110 => ?_)
                        refine mv_aload_n d_Grouping_spread_166 rfl rfl ?_
                        obtain ⟨a112, q111, t_a112⟩ := tm_atR I109 t100 (k := 11) rfl
                        refine tr_getK q111 d_Grouping_spread_167 f_Grouping_34_7 ?_
                        refine mv_iload d_Grouping_spread_170 rfl ?_
                        refine mv_dup2_11 d_Grouping_spread_172 rfl rfl ?_
                        refine tr_lald I109 t_a112 (by decide) d_Grouping_spread_173 (vp_in_iff.mpr (by omega)) (fun v113 => ?_)
                        refine mv_aload_n d_Grouping_spread_174 rfl rfl ?_
                        obtain ⟨a115, q114, t_a115⟩ := tm_atR I109 t100 (k := 5) rfl
                        refine tr_getK q114 d_Grouping_spread_175 f_Grouping_15_7 ?_
                        refine mv_iload_n d_Grouping_spread_178 rfl rfl ?_
                        refine tr_lald I109 t_a115 (by decide) d_Grouping_spread_179 (vp_in_iff.mpr (by omega)) (fun v116 => ?_)
                        refine mv_lsub d_Grouping_spread_180 ?_
                        refine tr_lastK tm_okF I109 t_a112 (by decide) (Or.inl (by decide)) d_Grouping_spread_181 (vp_in_iff.mpr (by omega)) (fun M117 I118 K119 => ?_)
                        refine mv_aload_n d_Grouping_spread_182 rfl rfl ?_
                        refine tr_getK (k := 10) (K119 _ 7 10 _ (K110 _ 7 10 _ q101)) d_Grouping_spread_183 f_Grouping_31_7 ?_
                        refine mv_iload d_Grouping_spread_186 rfl ?_
                        refine mv_iload d_Grouping_spread_188 rfl ?_
                        refine tr_iastK tm_okF I118 t102 (by decide) (Or.inl (by decide)) d_Grouping_spread_190 (vp_in_iff.mpr (by omega)) (fun M120 I121 K122 => ?_)
                        refine mv_iinc (v := (i5_37 + 1)) (lv' := [(5, .int (i5_37 + 1)), (6, .int v42), (3, .long (if (v12 - v17) < v4 then v4 else (v12 - v17))), (0, .ref o0), (1, .int x1), (2, .int x2)]) d_Grouping_spread_191 rfl rfl (by decide) rfl ?_
                        refine mv_goto (tgt := 89) d_Grouping_spread_194 (by decide) ?_
                        refine mv_locals (lv' := [(5, .int (i5_37 + 1)), (3, .long (if (v12 - v17) < v4 then v4 else (v12 - v17))), (0, .ref o0), (1, .int x1), (2, .int x2)]) (by intro q hq; simp only [List.mem_cons, List.not_mem_nil, or_false] at hq; rcases hq with rfl | rfl | rfl | rfl | rfl <;> rfl) ?_
                        have b123 : (i5_37 + 1).toInt = i5_37.toInt + 1 := mz_addn 1 1 (by decide) (by have := mz_lo i5_37; omega) (by have := mz_hi i5_37; omega)
                        exact (ih37 (i5_37 + 1) T96 M120 n95 I121 t100 (by first | omega | decide) (by omega))
                      · refine mv_iload_n d_Grouping_spread_145 rfl rfl ?_
                        refine mv_iconst (v := 1) d_Grouping_spread_146 (by decide) ?_
                        refine mv_iadd d_Grouping_spread_147 ?_
                        refine mv_goto (tgt := 152) d_Grouping_spread_148 (by decide) ?_
                        have b124 : (x1 + 1).toInt = x1.toInt + 1 := mz_addn 1 1 (by decide) (by omega) (by omega)
                        obtain ⟨_, b131, -⟩ := I89.1 _ _ t63
                        refine mv_callV (kc' := 0) (ks' := 0) (As := [.int (x1 + 1), .int (x2 + 1)]) (st9 := [.int (x2 + 1), .int (x1 + 1), .ref o0]) d_Grouping_spread_152 lV_Grouping_77 b131 rfl (H_spread (d := d) (x9 := x9) (o0 := o0) (x1 := (x1 + 1)) (x2 := (x2 + 1)) t63 (by first | omega | decide) I89.start) rfl (Nat.le_of_ble_eq_true rfl) (Nat.le_of_ble_eq_true rfl) (Nat.le_of_ble_eq_true rfl) (hst := rfl) (fun b125r M126 n127 b125 => ?_)
                        obtain ⟨T128, J129, rfl⟩ := b125
                        have I130 := I89.call J129 (tm_sub (by decide)) (Or.inl rfl)
                        have t132 := J129.up t63
                        have q133 := J129.keep t63 (by decide) (K90 _ 7 10 _ q64)
                        have t134 := J129.up t65
                        have q135 := J129.keep t63 (by decide) (K90 _ 7 7 _ q86)
                        have t136 := J129.up t_a87
                        refine mv_aload_n d_Grouping_spread_155 rfl rfl ?_
                        obtain ⟨a138, q137, t_a138⟩ := tm_atR I130 t132 (k := 9) rfl
                        refine tr_getK q137 d_Grouping_spread_156 f_Grouping_28_7 ?_
                        refine mv_iload d_Grouping_spread_159 rfl ?_
                        refine mv_dup2_11 d_Grouping_spread_161 rfl rfl ?_
                        refine tr_iald I130 t_a138 (by decide) d_Grouping_spread_162 (vp_in_iff.mpr (by omega)) (fun v139 => ?_)
                        refine mv_iconst (v := 1) d_Grouping_spread_163 (by decide) ?_
                        refine mv_isub d_Grouping_spread_164 ?_
                        refine tr_iastK tm_okF I130 t_a138 (by decide) (Or.inl (by decide)) d_Grouping_spread_165 (vp_in_iff.mpr (by omega)) (fun M140 I141 K142 => ?_)
                        refine mv_aload_n d_Grouping_spread_166 rfl rfl ?_
                        obtain ⟨a144, q143, t_a144⟩ := tm_atR I141 t132 (k := 11) rfl
                        refine tr_getK q143 d_Grouping_spread_167 f_Grouping_34_7 ?_
                        refine mv_iload d_Grouping_spread_170 rfl ?_
                        refine mv_dup2_11 d_Grouping_spread_172 rfl rfl ?_
                        refine tr_lald I141 t_a144 (by decide) d_Grouping_spread_173 (vp_in_iff.mpr (by omega)) (fun v145 => ?_)
                        refine mv_aload_n d_Grouping_spread_174 rfl rfl ?_
                        obtain ⟨a147, q146, t_a147⟩ := tm_atR I141 t132 (k := 5) rfl
                        refine tr_getK q146 d_Grouping_spread_175 f_Grouping_15_7 ?_
                        refine mv_iload_n d_Grouping_spread_178 rfl rfl ?_
                        refine tr_lald I141 t_a147 (by decide) d_Grouping_spread_179 (vp_in_iff.mpr (by omega)) (fun v148 => ?_)
                        refine mv_lsub d_Grouping_spread_180 ?_
                        refine tr_lastK tm_okF I141 t_a144 (by decide) (Or.inl (by decide)) d_Grouping_spread_181 (vp_in_iff.mpr (by omega)) (fun M149 I150 K151 => ?_)
                        refine mv_aload_n d_Grouping_spread_182 rfl rfl ?_
                        refine tr_getK (k := 10) (K151 _ 7 10 _ (K142 _ 7 10 _ q133)) d_Grouping_spread_183 f_Grouping_31_7 ?_
                        refine mv_iload d_Grouping_spread_186 rfl ?_
                        refine mv_iload d_Grouping_spread_188 rfl ?_
                        refine tr_iastK tm_okF I150 t134 (by decide) (Or.inl (by decide)) d_Grouping_spread_190 (vp_in_iff.mpr (by omega)) (fun M152 I153 K154 => ?_)
                        refine mv_iinc (v := (i5_37 + 1)) (lv' := [(5, .int (i5_37 + 1)), (6, .int v42), (3, .long (if (v12 - v17) < v4 then v4 else (v12 - v17))), (0, .ref o0), (1, .int x1), (2, .int x2)]) d_Grouping_spread_191 rfl rfl (by decide) rfl ?_
                        refine mv_goto (tgt := 89) d_Grouping_spread_194 (by decide) ?_
                        refine mv_locals (lv' := [(5, .int (i5_37 + 1)), (3, .long (if (v12 - v17) < v4 then v4 else (v12 - v17))), (0, .ref o0), (1, .int x1), (2, .int x2)]) (by intro q hq; simp only [List.mem_cons, List.not_mem_nil, or_false] at hq; rcases hq with rfl | rfl | rfl | rfl | rfl <;> rfl) ?_
                        have b155 : (i5_37 + 1).toInt = i5_37.toInt + 1 := mz_addn 1 1 (by decide) (by have := mz_lo i5_37; omega) (by have := mz_hi i5_37; omega)
                        exact (ih37 (i5_37 + 1) T128 M152 n127 I153 t132 (by first | omega | decide) (by omega))
            exact mv_less (Nat.zero_le _) (Nat.zero_le _) (L89_37 4294967296 0 T8 M6 n7 I10 t13 (by first | omega | decide) (by show (2147483647 - (0 : Int) : Int) < _; decide))
          · refine mv_aload_n d_Grouping_spread_79 rfl rfl ?_
            refine mv_lload_n d_Grouping_spread_80 rfl rfl ?_
            refine mv_iload_n d_Grouping_spread_81 rfl rfl ?_
            obtain ⟨_, b162, -⟩ := I10.1 _ _ t13
            refine mv_callV (kc' := 0) (ks' := 0) (As := [.long (if (v12 - v17) < v4 then v4 else (v12 - v17)), .int x2]) (st9 := [.int x2, .long (if (v12 - v17) < v4 then v4 else (v12 - v17)), .ref o0]) d_Grouping_spread_82 lV_Grouping_80 b162 rfl (tc_Grouping_keepAsBest (d := (d + E + 2)) (x9 := x9) (o0 := o0) (x1 := (if (v12 - v17) < v4 then v4 else (v12 - v17))) (x2 := x2) t13 I10.start) rfl (Nat.le_of_ble_eq_true rfl) (Nat.le_of_ble_eq_true rfl) (Nat.le_of_ble_eq_true rfl) (hst := rfl) (fun b156r M157 n158 b156 => ?_)
            obtain ⟨T159, J160, rfl⟩ := b156
            have I161 := I10.call J160 (tm_sub (by decide)) (Or.inl rfl)
            have t163 := J160.up t13
            have q164 := J160.keep t13 (by decide) q14
            have q165 := J160.keep t13 (by decide) q15
            have t166 := J160.up t_a16
            have q167 := J160.keep t13 (by decide) q21
            exact mv_vret d_Grouping_spread_85 rfl ⟨_, I161, rfl⟩
      · refine mv_lload_n d_Grouping_spread_38 rfl rfl ?_
        refine mv_aload_n d_Grouping_spread_39 rfl rfl ?_
        obtain ⟨v169, q168⟩ := tm_atL I10 t13 (k := 0) rfl
        refine tr_getK q168 d_Grouping_spread_40 f_Grouping_50_7 ?_
        refine mv_lgtZ (tgt := 64) (a := (if (v12 - v17) < v4 then v4 else (v12 - v17)).toInt) (b := v169.toInt) d_Grouping_spread_43 d_Grouping_spread_44 (by decide) rfl rfl (fun b170 => ?_) (fun b170 => ?_)
        · exact mv_vret d_Grouping_spread_64 rfl ⟨_, I10, rfl⟩
        · refine mv_lload_n d_Grouping_spread_47 rfl rfl ?_
          refine mv_aload_n d_Grouping_spread_48 rfl rfl ?_
          refine tr_getK (k := 0) q168 d_Grouping_spread_49 f_Grouping_50_7 ?_
          refine mv_lneZ (tgt := 65) (a := (if (v12 - v17) < v4 then v4 else (v12 - v17)).toInt) (b := v169.toInt) d_Grouping_spread_52 d_Grouping_spread_53 (by decide) rfl rfl (fun b171 => ?_) (fun b171 => ?_)
          · refine mv_iload_n d_Grouping_spread_65 rfl rfl ?_
            refine mv_aload_n d_Grouping_spread_66 rfl rfl ?_
            obtain ⟨v173, q172⟩ := tm_atI I10 t13 (k := 2) rfl
            refine tr_getK q172 d_Grouping_spread_67 f_Grouping_44_7 ?_
            have := mz_hi x1
            have := mz_hi v173
            refine mv_icmp_geZ (tgt := 79) (a := x1.toInt) (b := v173.toInt) d_Grouping_spread_70 (by decide) rfl rfl (fun b174 => ?_) (fun b174 => ?_)
            · refine mv_aload_n d_Grouping_spread_79 rfl rfl ?_
              refine mv_lload_n d_Grouping_spread_80 rfl rfl ?_
              refine mv_iload_n d_Grouping_spread_81 rfl rfl ?_
              obtain ⟨_, b181, -⟩ := I10.1 _ _ t13
              refine mv_callV (kc' := 0) (ks' := 0) (As := [.long (if (v12 - v17) < v4 then v4 else (v12 - v17)), .int x2]) (st9 := [.int x2, .long (if (v12 - v17) < v4 then v4 else (v12 - v17)), .ref o0]) d_Grouping_spread_82 lV_Grouping_80 b181 rfl (tc_Grouping_keepAsBest (d := (d + E + 2)) (x9 := x9) (o0 := o0) (x1 := (if (v12 - v17) < v4 then v4 else (v12 - v17))) (x2 := x2) t13 I10.start) rfl (Nat.le_of_ble_eq_true rfl) (Nat.le_of_ble_eq_true rfl) (Nat.le_of_ble_eq_true rfl) (hst := rfl) (fun b175r M176 n177 b175 => ?_)
              obtain ⟨T178, J179, rfl⟩ := b175
              have I180 := I10.call J179 (tm_sub (by decide)) (Or.inl rfl)
              have t182 := J179.up t13
              have q183 := J179.keep t13 (by decide) q14
              have q184 := J179.keep t13 (by decide) q15
              have t185 := J179.up t_a16
              have q186 := J179.keep t13 (by decide) q172
              exact mv_vret d_Grouping_spread_85 rfl ⟨_, I180, rfl⟩
            · refine mv_iload_n d_Grouping_spread_73 rfl rfl ?_
              refine mv_bipush (v := 8) d_Grouping_spread_74 (by decide) ?_
              have := mz_hi x1
              refine mv_icmp_neZ (tgt := 86) (a := x1.toInt) (b := 8) d_Grouping_spread_76 (by decide) rfl (by decide) (fun b187 => ?_) (fun b187 => ?_)
              · refine mv_iconst (v := 0) d_Grouping_spread_86 (by decide) ?_
                refine mv_istore (lv' := [(5, .int 0), (3, .long (if (v12 - v17) < v4 then v4 else (v12 - v17))), (0, .ref o0), (1, .int x1), (2, .int x2)]) d_Grouping_spread_87 (by decide) rfl ?_
                have L89_188 : ∀ (k : Nat) (i5_188 : Int32) (T_188 : tm_H) (M_188 : mj_M) (n_188 : Nat), tm_I tm_FT (tm_in w_Grouping_spread_q1) x9 T0 M0 n0 T_188 M_188 n_188 → T_188 o0 = some (0, 7, 0) → 0 ≤ i5_188.toInt → 2147483647 - i5_188.toInt < (k : Int) → mj_V g l kY_Grouping_spread (d + E + 3) 89 [(5, .int i5_188), (3, .long (if (v12 - v17) < v4 then v4 else (v12 - v17))), (0, .ref o0), (1, .int x1), (2, .int x2)] [] M_188 n_188 0 0 (tm_Q tm_FT (tm_in w_Grouping_spread_q1) x9 T0 M0 n0 (fun r _ _ => r = none)) := by
                  intro k188
                  induction k188 with
                  | zero =>
                    intro i5_188 T_188 M_188 n_188 I_188 h_q0_188 iv0_188 hk188
                    have := mz_hi i5_188
                    omega
                  | succ k188 ih188 =>
                    intro i5_188 T_188 M_188 n_188 I_188 h_q0_188 iv0_188 hk188
                    refine mv_iload d_Grouping_spread_89 rfl ?_
                    refine mv_iload_n d_Grouping_spread_91 rfl rfl ?_
                    have := mz_hi i5_188
                    have := mz_hi x2
                    refine mv_icmp_gtZ (tgt := 197) (a := i5_188.toInt) (b := x2.toInt) d_Grouping_spread_92 (by decide) rfl rfl (fun b189 => ?_) (fun b189 => ?_)
                    · exact mv_vret d_Grouping_spread_197 rfl ⟨_, I_188, rfl⟩
                    · refine mv_iload d_Grouping_spread_95 rfl ?_
                      refine mv_bipush (v := 8) d_Grouping_spread_97 (by decide) ?_
                      have := mz_hi i5_188
                      refine mv_icmp_geZ (tgt := 197) (a := i5_188.toInt) (b := 8) d_Grouping_spread_99 (by decide) rfl (by decide) (fun b190 => ?_) (fun b190 => ?_)
                      · exact mv_vret d_Grouping_spread_197 rfl ⟨_, I_188, rfl⟩
                      · refine mv_aload_n d_Grouping_spread_102 rfl rfl ?_
                        obtain ⟨a192, q191, t_a192⟩ := tm_atR I_188 h_q0_188 (k := 10) rfl
                        refine tr_getK q191 d_Grouping_spread_103 f_Grouping_31_7 ?_
                        refine mv_iload d_Grouping_spread_106 rfl ?_
                        refine tr_iald I_188 t_a192 (by decide) d_Grouping_spread_108 (vp_in_iff.mpr (by omega)) (fun v193 => ?_)
                        refine mv_istore (lv' := [(6, .int v193), (5, .int i5_188), (3, .long (if (v12 - v17) < v4 then v4 else (v12 - v17))), (0, .ref o0), (1, .int x1), (2, .int x2)]) d_Grouping_spread_109 (by decide) rfl ?_
                        refine mv_aload_n d_Grouping_spread_111 rfl rfl ?_
                        refine mv_iload_n d_Grouping_spread_112 rfl rfl ?_
                        refine mv_iload d_Grouping_spread_113 rfl ?_
                        obtain ⟨_, b200, -⟩ := I_188.1 _ _ h_q0_188
                        refine mv_callV (kc' := 0) (ks' := 0) (As := [.int x1, .int i5_188]) (st9 := [.int i5_188, .int x1, .ref o0]) d_Grouping_spread_115 lV_Grouping_56 b200 rfl (tc_Grouping_put (d := (d + E + 2)) (x9 := x9) (o0 := o0) (x1 := x1) (x2 := i5_188) h_q0_188 I_188.start) rfl (Nat.le_of_ble_eq_true rfl) (Nat.le_of_ble_eq_true rfl) (Nat.le_of_ble_eq_true rfl) (hst := rfl) (fun b194r M195 n196 b194 => ?_)
                        obtain ⟨T197, J198, rfl⟩ := b194
                        have I199 := I_188.call J198 (tm_sub (by decide)) (Or.inl rfl)
                        have t201 := J198.up h_q0_188
                        have q202 := J198.keep h_q0_188 (by decide) q191
                        have t203 := J198.up t_a192
                        refine mv_aload_n d_Grouping_spread_118 rfl rfl ?_
                        refine mv_iload d_Grouping_spread_119 rfl ?_
                        obtain ⟨_, b210, -⟩ := I199.1 _ _ t201
                        refine mv_callV (kc' := 0) (ks' := 0) (As := [.int i5_188]) (st9 := [.int i5_188, .ref o0]) d_Grouping_spread_121 lV_Grouping_60 b210 rfl (tc_Grouping_holdsTogether (d := (d + E + 1)) (x9 := x9) (o0 := o0) (x1 := i5_188) t201 I199.start) rfl (Nat.le_of_ble_eq_true rfl) (Nat.le_of_ble_eq_true rfl) (Nat.le_of_ble_eq_true rfl) (hst := rfl) (fun b204r M205 n206 b204 => ?_)
                        obtain ⟨T207, J208, v211, rfl, b212, b213⟩ := b204
                        have I209 := I199.call J208 (tm_sub (by decide)) (Or.inl rfl)
                        have t214 := J208.up t201
                        have q215 := J208.keep t201 (by decide) q202
                        have t216 := J208.up t203
                        have := mz_hi v211
                        refine mv_if_eqZ (tgt := 155) (a := v211.toInt) d_Grouping_spread_124 (by decide) rfl (fun b217 => ?_) (fun b217 => ?_)
                        · refine mv_aload_n d_Grouping_spread_155 rfl rfl ?_
                          obtain ⟨a219, q218, t_a219⟩ := tm_atR I209 t214 (k := 9) rfl
                          refine tr_getK q218 d_Grouping_spread_156 f_Grouping_28_7 ?_
                          refine mv_iload d_Grouping_spread_159 rfl ?_
                          refine mv_dup2_11 d_Grouping_spread_161 rfl rfl ?_
                          refine tr_iald I209 t_a219 (by decide) d_Grouping_spread_162 (vp_in_iff.mpr (by omega)) (fun v220 => ?_)
                          refine mv_iconst (v := 1) d_Grouping_spread_163 (by decide) ?_
                          refine mv_isub d_Grouping_spread_164 ?_
                          refine tr_iastK tm_okF I209 t_a219 (by decide) (Or.inl (by decide)) d_Grouping_spread_165 (vp_in_iff.mpr (by omega)) (fun M221 I222 K223 => ?_)
                          refine mv_aload_n d_Grouping_spread_166 rfl rfl ?_
                          obtain ⟨a225, q224, t_a225⟩ := tm_atR I222 t214 (k := 11) rfl
                          refine tr_getK q224 d_Grouping_spread_167 f_Grouping_34_7 ?_
                          refine mv_iload d_Grouping_spread_170 rfl ?_
                          refine mv_dup2_11 d_Grouping_spread_172 rfl rfl ?_
                          refine tr_lald I222 t_a225 (by decide) d_Grouping_spread_173 (vp_in_iff.mpr (by omega)) (fun v226 => ?_)
                          refine mv_aload_n d_Grouping_spread_174 rfl rfl ?_
                          obtain ⟨a228, q227, t_a228⟩ := tm_atR I222 t214 (k := 5) rfl
                          refine tr_getK q227 d_Grouping_spread_175 f_Grouping_15_7 ?_
                          refine mv_iload_n d_Grouping_spread_178 rfl rfl ?_
                          refine tr_lald I222 t_a228 (by decide) d_Grouping_spread_179 (vp_in_iff.mpr (by omega)) (fun v229 => ?_)
                          refine mv_lsub d_Grouping_spread_180 ?_
                          refine tr_lastK tm_okF I222 t_a225 (by decide) (Or.inl (by decide)) d_Grouping_spread_181 (vp_in_iff.mpr (by omega)) (fun M230 I231 K232 => ?_)
                          refine mv_aload_n d_Grouping_spread_182 rfl rfl ?_
                          refine tr_getK (k := 10) (K232 _ 7 10 _ (K223 _ 7 10 _ q215)) d_Grouping_spread_183 f_Grouping_31_7 ?_
                          refine mv_iload d_Grouping_spread_186 rfl ?_
                          refine mv_iload d_Grouping_spread_188 rfl ?_
                          refine tr_iastK tm_okF I231 t216 (by decide) (Or.inl (by decide)) d_Grouping_spread_190 (vp_in_iff.mpr (by omega)) (fun M233 I234 K235 => ?_)
                          refine mv_iinc (v := (i5_188 + 1)) (lv' := [(5, .int (i5_188 + 1)), (6, .int v193), (3, .long (if (v12 - v17) < v4 then v4 else (v12 - v17))), (0, .ref o0), (1, .int x1), (2, .int x2)]) d_Grouping_spread_191 rfl rfl (by decide) rfl ?_
                          refine mv_goto (tgt := 89) d_Grouping_spread_194 (by decide) ?_
                          refine mv_locals (lv' := [(5, .int (i5_188 + 1)), (3, .long (if (v12 - v17) < v4 then v4 else (v12 - v17))), (0, .ref o0), (1, .int x1), (2, .int x2)]) (by intro q hq; simp only [List.mem_cons, List.not_mem_nil, or_false] at hq; rcases hq with rfl | rfl | rfl | rfl | rfl <;> rfl) ?_
                          have b236 : (i5_188 + 1).toInt = i5_188.toInt + 1 := mz_addn 1 1 (by decide) (by have := mz_lo i5_188; omega) (by have := mz_hi i5_188; omega)
                          exact (ih188 (i5_188 + 1) T207 M233 n206 I234 t214 (by first | omega | decide) (by omega))
                        · refine mv_aload_n d_Grouping_spread_127 rfl rfl ?_
                          obtain ⟨a238, q237, t_a238⟩ := tm_atR I209 t214 (k := 7) rfl
                          refine tr_getK q237 d_Grouping_spread_128 f_Grouping_22_7 ?_
                          refine mv_iload_n d_Grouping_spread_131 rfl rfl ?_
                          refine mv_iload d_Grouping_spread_132 rfl ?_
                          refine tr_iastK tm_okF I209 t_a238 (by decide) (Or.inl (by decide)) d_Grouping_spread_134 (vp_in_iff.mpr (by omega)) (fun M239 I240 K241 => ?_)
                          refine mv_aload_n d_Grouping_spread_135 rfl rfl ?_
                          refine mv_iload_n d_Grouping_spread_136 rfl rfl ?_
                          refine mv_iconst (v := 1) d_Grouping_spread_137 (by decide) ?_
                          refine mv_iadd d_Grouping_spread_138 ?_
                          refine mv_iload d_Grouping_spread_139 rfl ?_
                          refine mv_iload_n d_Grouping_spread_141 rfl rfl ?_
                          have := mz_hi i5_188
                          have := mz_hi x2
                          refine mv_icmp_neZ (tgt := 151) (a := i5_188.toInt) (b := x2.toInt) d_Grouping_spread_142 (by decide) rfl rfl (fun b242 => ?_) (fun b242 => ?_)
                          · refine mv_iload_n d_Grouping_spread_151 rfl rfl ?_
                            have b243 : (x1 + 1).toInt = x1.toInt + 1 := mz_addn 1 1 (by decide) (by omega) (by omega)
                            obtain ⟨_, b250, -⟩ := I240.1 _ _ t214
                            refine mv_callV (kc' := 0) (ks' := 0) (As := [.int (x1 + 1), .int x2]) (st9 := [.int x2, .int (x1 + 1), .ref o0]) d_Grouping_spread_152 lV_Grouping_77 b250 rfl (H_spread (d := d) (x9 := x9) (o0 := o0) (x1 := (x1 + 1)) (x2 := x2) t214 (by first | omega | decide) I240.start) rfl (Nat.le_of_ble_eq_true rfl) (Nat.le_of_ble_eq_true rfl) (Nat.le_of_ble_eq_true rfl) (hst := rfl) (fun b244r M245 n246 b244 => ?_)
                            obtain ⟨T247, J248, rfl⟩ := b244
                            have I249 := I240.call J248 (tm_sub (by decide)) (Or.inl rfl)
                            have t251 := J248.up t214
                            have q252 := J248.keep t214 (by decide) (K241 _ 7 10 _ q215)
                            have t253 := J248.up t216
                            have q254 := J248.keep t214 (by decide) (K241 _ 7 7 _ q237)
                            have t255 := J248.up t_a238
                            refine mv_aload_n d_Grouping_spread_155 rfl rfl ?_
                            obtain ⟨a257, q256, t_a257⟩ := tm_atR I249 t251 (k := 9) rfl
                            refine tr_getK q256 d_Grouping_spread_156 f_Grouping_28_7 ?_
                            refine mv_iload d_Grouping_spread_159 rfl ?_
                            refine mv_dup2_11 d_Grouping_spread_161 rfl rfl ?_
                            refine tr_iald I249 t_a257 (by decide) d_Grouping_spread_162 (vp_in_iff.mpr (by omega)) (fun v258 => ?_)
                            refine mv_iconst (v := 1) d_Grouping_spread_163 (by decide) ?_
                            refine mv_isub d_Grouping_spread_164 ?_
                            refine tr_iastK tm_okF I249 t_a257 (by decide) (Or.inl (by decide)) d_Grouping_spread_165 (vp_in_iff.mpr (by omega)) (fun M259 I260 K261 => ?_)
                            refine mv_aload_n d_Grouping_spread_166 rfl rfl ?_
                            obtain ⟨a263, q262, t_a263⟩ := tm_atR I260 t251 (k := 11) rfl
                            refine tr_getK q262 d_Grouping_spread_167 f_Grouping_34_7 ?_
                            refine mv_iload d_Grouping_spread_170 rfl ?_
                            refine mv_dup2_11 d_Grouping_spread_172 rfl rfl ?_
                            refine tr_lald I260 t_a263 (by decide) d_Grouping_spread_173 (vp_in_iff.mpr (by omega)) (fun v264 => ?_)
                            refine mv_aload_n d_Grouping_spread_174 rfl rfl ?_
                            obtain ⟨a266, q265, t_a266⟩ := tm_atR I260 t251 (k := 5) rfl
                            refine tr_getK q265 d_Grouping_spread_175 f_Grouping_15_7 ?_
                            refine mv_iload_n d_Grouping_spread_178 rfl rfl ?_
                            refine tr_lald I260 t_a266 (by decide) d_Grouping_spread_179 (vp_in_iff.mpr (by omega)) (fun v267 => ?_)
                            refine mv_lsub d_Grouping_spread_180 ?_
                            refine tr_lastK tm_okF I260 t_a263 (by decide) (Or.inl (by decide)) d_Grouping_spread_181 (vp_in_iff.mpr (by omega)) (fun M268 I269 K270 => ?_)
                            refine mv_aload_n d_Grouping_spread_182 rfl rfl ?_
                            refine tr_getK (k := 10) (K270 _ 7 10 _ (K261 _ 7 10 _ q252)) d_Grouping_spread_183 f_Grouping_31_7 ?_
                            refine mv_iload d_Grouping_spread_186 rfl ?_
                            refine mv_iload d_Grouping_spread_188 rfl ?_
                            refine tr_iastK tm_okF I269 t253 (by decide) (Or.inl (by decide)) d_Grouping_spread_190 (vp_in_iff.mpr (by omega)) (fun M271 I272 K273 => ?_)
                            refine mv_iinc (v := (i5_188 + 1)) (lv' := [(5, .int (i5_188 + 1)), (6, .int v193), (3, .long (if (v12 - v17) < v4 then v4 else (v12 - v17))), (0, .ref o0), (1, .int x1), (2, .int x2)]) d_Grouping_spread_191 rfl rfl (by decide) rfl ?_
                            refine mv_goto (tgt := 89) d_Grouping_spread_194 (by decide) ?_
                            refine mv_locals (lv' := [(5, .int (i5_188 + 1)), (3, .long (if (v12 - v17) < v4 then v4 else (v12 - v17))), (0, .ref o0), (1, .int x1), (2, .int x2)]) (by intro q hq; simp only [List.mem_cons, List.not_mem_nil, or_false] at hq; rcases hq with rfl | rfl | rfl | rfl | rfl <;> rfl) ?_
                            have b274 : (i5_188 + 1).toInt = i5_188.toInt + 1 := mz_addn 1 1 (by decide) (by have := mz_lo i5_188; omega) (by have := mz_hi i5_188; omega)
                            exact (ih188 (i5_188 + 1) T247 M271 n246 I272 t251 (by first | omega | decide) (by omega))
                          · refine mv_iload_n d_Grouping_spread_145 rfl rfl ?_
                            refine mv_iconst (v := 1) d_Grouping_spread_146 (by decide) ?_
                            refine mv_iadd d_Grouping_spread_147 ?_
                            refine mv_goto (tgt := 152) d_Grouping_spread_148 (by decide) ?_
                            have b275 : (x1 + 1).toInt = x1.toInt + 1 := mz_addn 1 1 (by decide) (by omega) (by omega)
                            obtain ⟨_, b282, -⟩ := I240.1 _ _ t214
                            refine mv_callV (kc' := 0) (ks' := 0) (As := [.int (x1 + 1), .int (x2 + 1)]) (st9 := [.int (x2 + 1), .int (x1 + 1), .ref o0]) d_Grouping_spread_152 lV_Grouping_77 b282 rfl (H_spread (d := d) (x9 := x9) (o0 := o0) (x1 := (x1 + 1)) (x2 := (x2 + 1)) t214 (by first | omega | decide) I240.start) rfl (Nat.le_of_ble_eq_true rfl) (Nat.le_of_ble_eq_true rfl) (Nat.le_of_ble_eq_true rfl) (hst := rfl) (fun b276r M277 n278 b276 => ?_)
                            obtain ⟨T279, J280, rfl⟩ := b276
                            have I281 := I240.call J280 (tm_sub (by decide)) (Or.inl rfl)
                            have t283 := J280.up t214
                            have q284 := J280.keep t214 (by decide) (K241 _ 7 10 _ q215)
                            have t285 := J280.up t216
                            have q286 := J280.keep t214 (by decide) (K241 _ 7 7 _ q237)
                            have t287 := J280.up t_a238
                            refine mv_aload_n d_Grouping_spread_155 rfl rfl ?_
                            obtain ⟨a289, q288, t_a289⟩ := tm_atR I281 t283 (k := 9) rfl
                            refine tr_getK q288 d_Grouping_spread_156 f_Grouping_28_7 ?_
                            refine mv_iload d_Grouping_spread_159 rfl ?_
                            refine mv_dup2_11 d_Grouping_spread_161 rfl rfl ?_
                            refine tr_iald I281 t_a289 (by decide) d_Grouping_spread_162 (vp_in_iff.mpr (by omega)) (fun v290 => ?_)
                            refine mv_iconst (v := 1) d_Grouping_spread_163 (by decide) ?_
                            refine mv_isub d_Grouping_spread_164 ?_
                            refine tr_iastK tm_okF I281 t_a289 (by decide) (Or.inl (by decide)) d_Grouping_spread_165 (vp_in_iff.mpr (by omega)) (fun M291 I292 K293 => ?_)
                            refine mv_aload_n d_Grouping_spread_166 rfl rfl ?_
                            obtain ⟨a295, q294, t_a295⟩ := tm_atR I292 t283 (k := 11) rfl
                            refine tr_getK q294 d_Grouping_spread_167 f_Grouping_34_7 ?_
                            refine mv_iload d_Grouping_spread_170 rfl ?_
                            refine mv_dup2_11 d_Grouping_spread_172 rfl rfl ?_
                            refine tr_lald I292 t_a295 (by decide) d_Grouping_spread_173 (vp_in_iff.mpr (by omega)) (fun v296 => ?_)
                            refine mv_aload_n d_Grouping_spread_174 rfl rfl ?_
                            obtain ⟨a298, q297, t_a298⟩ := tm_atR I292 t283 (k := 5) rfl
                            refine tr_getK q297 d_Grouping_spread_175 f_Grouping_15_7 ?_
                            refine mv_iload_n d_Grouping_spread_178 rfl rfl ?_
                            refine tr_lald I292 t_a298 (by decide) d_Grouping_spread_179 (vp_in_iff.mpr (by omega)) (fun v299 => ?_)
                            refine mv_lsub d_Grouping_spread_180 ?_
                            refine tr_lastK tm_okF I292 t_a295 (by decide) (Or.inl (by decide)) d_Grouping_spread_181 (vp_in_iff.mpr (by omega)) (fun M300 I301 K302 => ?_)
                            refine mv_aload_n d_Grouping_spread_182 rfl rfl ?_
                            refine tr_getK (k := 10) (K302 _ 7 10 _ (K293 _ 7 10 _ q284)) d_Grouping_spread_183 f_Grouping_31_7 ?_
                            refine mv_iload d_Grouping_spread_186 rfl ?_
                            refine mv_iload d_Grouping_spread_188 rfl ?_
                            refine tr_iastK tm_okF I301 t285 (by decide) (Or.inl (by decide)) d_Grouping_spread_190 (vp_in_iff.mpr (by omega)) (fun M303 I304 K305 => ?_)
                            refine mv_iinc (v := (i5_188 + 1)) (lv' := [(5, .int (i5_188 + 1)), (6, .int v193), (3, .long (if (v12 - v17) < v4 then v4 else (v12 - v17))), (0, .ref o0), (1, .int x1), (2, .int x2)]) d_Grouping_spread_191 rfl rfl (by decide) rfl ?_
                            refine mv_goto (tgt := 89) d_Grouping_spread_194 (by decide) ?_
                            refine mv_locals (lv' := [(5, .int (i5_188 + 1)), (3, .long (if (v12 - v17) < v4 then v4 else (v12 - v17))), (0, .ref o0), (1, .int x1), (2, .int x2)]) (by intro q hq; simp only [List.mem_cons, List.not_mem_nil, or_false] at hq; rcases hq with rfl | rfl | rfl | rfl | rfl <;> rfl) ?_
                            have b306 : (i5_188 + 1).toInt = i5_188.toInt + 1 := mz_addn 1 1 (by decide) (by have := mz_lo i5_188; omega) (by have := mz_hi i5_188; omega)
                            exact (ih188 (i5_188 + 1) T279 M303 n278 I304 t283 (by first | omega | decide) (by omega))
                exact mv_less (Nat.zero_le _) (Nat.zero_le _) (L89_188 4294967296 0 T8 M6 n7 I10 t13 (by first | omega | decide) (by show (2147483647 - (0 : Int) : Int) < _; decide))
              · refine mv_aload_n d_Grouping_spread_79 rfl rfl ?_
                refine mv_lload_n d_Grouping_spread_80 rfl rfl ?_
                refine mv_iload_n d_Grouping_spread_81 rfl rfl ?_
                obtain ⟨_, b313, -⟩ := I10.1 _ _ t13
                refine mv_callV (kc' := 0) (ks' := 0) (As := [.long (if (v12 - v17) < v4 then v4 else (v12 - v17)), .int x2]) (st9 := [.int x2, .long (if (v12 - v17) < v4 then v4 else (v12 - v17)), .ref o0]) d_Grouping_spread_82 lV_Grouping_80 b313 rfl (tc_Grouping_keepAsBest (d := (d + E + 2)) (x9 := x9) (o0 := o0) (x1 := (if (v12 - v17) < v4 then v4 else (v12 - v17))) (x2 := x2) t13 I10.start) rfl (Nat.le_of_ble_eq_true rfl) (Nat.le_of_ble_eq_true rfl) (Nat.le_of_ble_eq_true rfl) (hst := rfl) (fun b307r M308 n309 b307 => ?_)
                obtain ⟨T310, J311, rfl⟩ := b307
                have I312 := I10.call J311 (tm_sub (by decide)) (Or.inl rfl)
                have t314 := J311.up t13
                have q315 := J311.keep t13 (by decide) q14
                have q316 := J311.keep t13 (by decide) q15
                have t317 := J311.up t_a16
                have q318 := J311.keep t13 (by decide) q172
                exact mv_vret d_Grouping_spread_85 rfl ⟨_, I312, rfl⟩
          · refine mv_iload_n d_Grouping_spread_56 rfl rfl ?_
            refine mv_aload_n d_Grouping_spread_57 rfl rfl ?_
            refine tr_getK (k := 3) q18 d_Grouping_spread_58 f_Grouping_47_7 ?_
            have := mz_hi x2
            have := mz_hi v19
            refine mv_icmp_ltZ (tgt := 65) (a := x2.toInt) (b := v19.toInt) d_Grouping_spread_61 (by decide) rfl rfl (fun b319 => ?_) (fun b319 => ?_)
            · refine mv_iload_n d_Grouping_spread_65 rfl rfl ?_
              refine mv_aload_n d_Grouping_spread_66 rfl rfl ?_
              obtain ⟨v321, q320⟩ := tm_atI I10 t13 (k := 2) rfl
              refine tr_getK q320 d_Grouping_spread_67 f_Grouping_44_7 ?_
              have := mz_hi x1
              have := mz_hi v321
              refine mv_icmp_geZ (tgt := 79) (a := x1.toInt) (b := v321.toInt) d_Grouping_spread_70 (by decide) rfl rfl (fun b322 => ?_) (fun b322 => ?_)
              · refine mv_aload_n d_Grouping_spread_79 rfl rfl ?_
                refine mv_lload_n d_Grouping_spread_80 rfl rfl ?_
                refine mv_iload_n d_Grouping_spread_81 rfl rfl ?_
                obtain ⟨_, b329, -⟩ := I10.1 _ _ t13
                refine mv_callV (kc' := 0) (ks' := 0) (As := [.long (if (v12 - v17) < v4 then v4 else (v12 - v17)), .int x2]) (st9 := [.int x2, .long (if (v12 - v17) < v4 then v4 else (v12 - v17)), .ref o0]) d_Grouping_spread_82 lV_Grouping_80 b329 rfl (tc_Grouping_keepAsBest (d := (d + E + 2)) (x9 := x9) (o0 := o0) (x1 := (if (v12 - v17) < v4 then v4 else (v12 - v17))) (x2 := x2) t13 I10.start) rfl (Nat.le_of_ble_eq_true rfl) (Nat.le_of_ble_eq_true rfl) (Nat.le_of_ble_eq_true rfl) (hst := rfl) (fun b323r M324 n325 b323 => ?_)
                obtain ⟨T326, J327, rfl⟩ := b323
                have I328 := I10.call J327 (tm_sub (by decide)) (Or.inl rfl)
                have t330 := J327.up t13
                have q331 := J327.keep t13 (by decide) q14
                have q332 := J327.keep t13 (by decide) q15
                have t333 := J327.up t_a16
                have q334 := J327.keep t13 (by decide) q320
                exact mv_vret d_Grouping_spread_85 rfl ⟨_, I328, rfl⟩
              · refine mv_iload_n d_Grouping_spread_73 rfl rfl ?_
                refine mv_bipush (v := 8) d_Grouping_spread_74 (by decide) ?_
                have := mz_hi x1
                refine mv_icmp_neZ (tgt := 86) (a := x1.toInt) (b := 8) d_Grouping_spread_76 (by decide) rfl (by decide) (fun b335 => ?_) (fun b335 => ?_)
                · refine mv_iconst (v := 0) d_Grouping_spread_86 (by decide) ?_
                  refine mv_istore (lv' := [(5, .int 0), (3, .long (if (v12 - v17) < v4 then v4 else (v12 - v17))), (0, .ref o0), (1, .int x1), (2, .int x2)]) d_Grouping_spread_87 (by decide) rfl ?_
                  have L89_336 : ∀ (k : Nat) (i5_336 : Int32) (T_336 : tm_H) (M_336 : mj_M) (n_336 : Nat), tm_I tm_FT (tm_in w_Grouping_spread_q1) x9 T0 M0 n0 T_336 M_336 n_336 → T_336 o0 = some (0, 7, 0) → 0 ≤ i5_336.toInt → 2147483647 - i5_336.toInt < (k : Int) → mj_V g l kY_Grouping_spread (d + E + 3) 89 [(5, .int i5_336), (3, .long (if (v12 - v17) < v4 then v4 else (v12 - v17))), (0, .ref o0), (1, .int x1), (2, .int x2)] [] M_336 n_336 0 0 (tm_Q tm_FT (tm_in w_Grouping_spread_q1) x9 T0 M0 n0 (fun r _ _ => r = none)) := by
                    intro k336
                    induction k336 with
                    | zero =>
                      intro i5_336 T_336 M_336 n_336 I_336 h_q0_336 iv0_336 hk336
                      have := mz_hi i5_336
                      omega
                    | succ k336 ih336 =>
                      intro i5_336 T_336 M_336 n_336 I_336 h_q0_336 iv0_336 hk336
                      refine mv_iload d_Grouping_spread_89 rfl ?_
                      refine mv_iload_n d_Grouping_spread_91 rfl rfl ?_
                      have := mz_hi i5_336
                      have := mz_hi x2
                      refine mv_icmp_gtZ (tgt := 197) (a := i5_336.toInt) (b := x2.toInt) d_Grouping_spread_92 (by decide) rfl rfl (fun b337 => ?_) (fun b337 => ?_)
                      · exact mv_vret d_Grouping_spread_197 rfl ⟨_, I_336, rfl⟩
                      · refine mv_iload d_Grouping_spread_95 rfl ?_
                        refine mv_bipush (v := 8) d_Grouping_spread_97 (by decide) ?_
                        have := mz_hi i5_336
                        refine mv_icmp_geZ (tgt := 197) (a := i5_336.toInt) (b := 8) d_Grouping_spread_99 (by decide) rfl (by decide) (fun b338 => ?_) (fun b338 => ?_)
                        · exact mv_vret d_Grouping_spread_197 rfl ⟨_, I_336, rfl⟩
                        · refine mv_aload_n d_Grouping_spread_102 rfl rfl ?_
                          obtain ⟨a340, q339, t_a340⟩ := tm_atR I_336 h_q0_336 (k := 10) rfl
                          refine tr_getK q339 d_Grouping_spread_103 f_Grouping_31_7 ?_
                          refine mv_iload d_Grouping_spread_106 rfl ?_
                          refine tr_iald I_336 t_a340 (by decide) d_Grouping_spread_108 (vp_in_iff.mpr (by omega)) (fun v341 => ?_)
                          refine mv_istore (lv' := [(6, .int v341), (5, .int i5_336), (3, .long (if (v12 - v17) < v4 then v4 else (v12 - v17))), (0, .ref o0), (1, .int x1), (2, .int x2)]) d_Grouping_spread_109 (by decide) rfl ?_
                          refine mv_aload_n d_Grouping_spread_111 rfl rfl ?_
                          refine mv_iload_n d_Grouping_spread_112 rfl rfl ?_
                          refine mv_iload d_Grouping_spread_113 rfl ?_
                          obtain ⟨_, b348, -⟩ := I_336.1 _ _ h_q0_336
                          refine mv_callV (kc' := 0) (ks' := 0) (As := [.int x1, .int i5_336]) (st9 := [.int i5_336, .int x1, .ref o0]) d_Grouping_spread_115 lV_Grouping_56 b348 rfl (tc_Grouping_put (d := (d + E + 2)) (x9 := x9) (o0 := o0) (x1 := x1) (x2 := i5_336) h_q0_336 I_336.start) rfl (Nat.le_of_ble_eq_true rfl) (Nat.le_of_ble_eq_true rfl) (Nat.le_of_ble_eq_true rfl) (hst := rfl) (fun b342r M343 n344 b342 => ?_)
                          obtain ⟨T345, J346, rfl⟩ := b342
                          have I347 := I_336.call J346 (tm_sub (by decide)) (Or.inl rfl)
                          have t349 := J346.up h_q0_336
                          have q350 := J346.keep h_q0_336 (by decide) q339
                          have t351 := J346.up t_a340
                          refine mv_aload_n d_Grouping_spread_118 rfl rfl ?_
                          refine mv_iload d_Grouping_spread_119 rfl ?_
                          obtain ⟨_, b358, -⟩ := I347.1 _ _ t349
                          refine mv_callV (kc' := 0) (ks' := 0) (As := [.int i5_336]) (st9 := [.int i5_336, .ref o0]) d_Grouping_spread_121 lV_Grouping_60 b358 rfl (tc_Grouping_holdsTogether (d := (d + E + 1)) (x9 := x9) (o0 := o0) (x1 := i5_336) t349 I347.start) rfl (Nat.le_of_ble_eq_true rfl) (Nat.le_of_ble_eq_true rfl) (Nat.le_of_ble_eq_true rfl) (hst := rfl) (fun b352r M353 n354 b352 => ?_)
                          obtain ⟨T355, J356, v359, rfl, b360, b361⟩ := b352
                          have I357 := I347.call J356 (tm_sub (by decide)) (Or.inl rfl)
                          have t362 := J356.up t349
                          have q363 := J356.keep t349 (by decide) q350
                          have t364 := J356.up t351
                          have := mz_hi v359
                          refine mv_if_eqZ (tgt := 155) (a := v359.toInt) d_Grouping_spread_124 (by decide) rfl (fun b365 => ?_) (fun b365 => ?_)
                          · refine mv_aload_n d_Grouping_spread_155 rfl rfl ?_
                            obtain ⟨a367, q366, t_a367⟩ := tm_atR I357 t362 (k := 9) rfl
                            refine tr_getK q366 d_Grouping_spread_156 f_Grouping_28_7 ?_
                            refine mv_iload d_Grouping_spread_159 rfl ?_
                            refine mv_dup2_11 d_Grouping_spread_161 rfl rfl ?_
                            refine tr_iald I357 t_a367 (by decide) d_Grouping_spread_162 (vp_in_iff.mpr (by omega)) (fun v368 => ?_)
                            refine mv_iconst (v := 1) d_Grouping_spread_163 (by decide) ?_
                            refine mv_isub d_Grouping_spread_164 ?_
                            refine tr_iastK tm_okF I357 t_a367 (by decide) (Or.inl (by decide)) d_Grouping_spread_165 (vp_in_iff.mpr (by omega)) (fun M369 I370 K371 => ?_)
                            refine mv_aload_n d_Grouping_spread_166 rfl rfl ?_
                            obtain ⟨a373, q372, t_a373⟩ := tm_atR I370 t362 (k := 11) rfl
                            refine tr_getK q372 d_Grouping_spread_167 f_Grouping_34_7 ?_
                            refine mv_iload d_Grouping_spread_170 rfl ?_
                            refine mv_dup2_11 d_Grouping_spread_172 rfl rfl ?_
                            refine tr_lald I370 t_a373 (by decide) d_Grouping_spread_173 (vp_in_iff.mpr (by omega)) (fun v374 => ?_)
                            refine mv_aload_n d_Grouping_spread_174 rfl rfl ?_
                            obtain ⟨a376, q375, t_a376⟩ := tm_atR I370 t362 (k := 5) rfl
                            refine tr_getK q375 d_Grouping_spread_175 f_Grouping_15_7 ?_
                            refine mv_iload_n d_Grouping_spread_178 rfl rfl ?_
                            refine tr_lald I370 t_a376 (by decide) d_Grouping_spread_179 (vp_in_iff.mpr (by omega)) (fun v377 => ?_)
                            refine mv_lsub d_Grouping_spread_180 ?_
                            refine tr_lastK tm_okF I370 t_a373 (by decide) (Or.inl (by decide)) d_Grouping_spread_181 (vp_in_iff.mpr (by omega)) (fun M378 I379 K380 => ?_)
                            refine mv_aload_n d_Grouping_spread_182 rfl rfl ?_
                            refine tr_getK (k := 10) (K380 _ 7 10 _ (K371 _ 7 10 _ q363)) d_Grouping_spread_183 f_Grouping_31_7 ?_
                            refine mv_iload d_Grouping_spread_186 rfl ?_
                            refine mv_iload d_Grouping_spread_188 rfl ?_
                            refine tr_iastK tm_okF I379 t364 (by decide) (Or.inl (by decide)) d_Grouping_spread_190 (vp_in_iff.mpr (by omega)) (fun M381 I382 K383 => ?_)
                            refine mv_iinc (v := (i5_336 + 1)) (lv' := [(5, .int (i5_336 + 1)), (6, .int v341), (3, .long (if (v12 - v17) < v4 then v4 else (v12 - v17))), (0, .ref o0), (1, .int x1), (2, .int x2)]) d_Grouping_spread_191 rfl rfl (by decide) rfl ?_
                            refine mv_goto (tgt := 89) d_Grouping_spread_194 (by decide) ?_
                            refine mv_locals (lv' := [(5, .int (i5_336 + 1)), (3, .long (if (v12 - v17) < v4 then v4 else (v12 - v17))), (0, .ref o0), (1, .int x1), (2, .int x2)]) (by intro q hq; simp only [List.mem_cons, List.not_mem_nil, or_false] at hq; rcases hq with rfl | rfl | rfl | rfl | rfl <;> rfl) ?_
                            have b384 : (i5_336 + 1).toInt = i5_336.toInt + 1 := mz_addn 1 1 (by decide) (by have := mz_lo i5_336; omega) (by have := mz_hi i5_336; omega)
                            exact (ih336 (i5_336 + 1) T355 M381 n354 I382 t362 (by first | omega | decide) (by omega))
                          · refine mv_aload_n d_Grouping_spread_127 rfl rfl ?_
                            obtain ⟨a386, q385, t_a386⟩ := tm_atR I357 t362 (k := 7) rfl
                            refine tr_getK q385 d_Grouping_spread_128 f_Grouping_22_7 ?_
                            refine mv_iload_n d_Grouping_spread_131 rfl rfl ?_
                            refine mv_iload d_Grouping_spread_132 rfl ?_
                            refine tr_iastK tm_okF I357 t_a386 (by decide) (Or.inl (by decide)) d_Grouping_spread_134 (vp_in_iff.mpr (by omega)) (fun M387 I388 K389 => ?_)
                            refine mv_aload_n d_Grouping_spread_135 rfl rfl ?_
                            refine mv_iload_n d_Grouping_spread_136 rfl rfl ?_
                            refine mv_iconst (v := 1) d_Grouping_spread_137 (by decide) ?_
                            refine mv_iadd d_Grouping_spread_138 ?_
                            refine mv_iload d_Grouping_spread_139 rfl ?_
                            refine mv_iload_n d_Grouping_spread_141 rfl rfl ?_
                            have := mz_hi i5_336
                            have := mz_hi x2
                            refine mv_icmp_neZ (tgt := 151) (a := i5_336.toInt) (b := x2.toInt) d_Grouping_spread_142 (by decide) rfl rfl (fun b390 => ?_) (fun b390 => ?_)
                            · refine mv_iload_n d_Grouping_spread_151 rfl rfl ?_
                              have b391 : (x1 + 1).toInt = x1.toInt + 1 := mz_addn 1 1 (by decide) (by omega) (by omega)
                              obtain ⟨_, b398, -⟩ := I388.1 _ _ t362
                              refine mv_callV (kc' := 0) (ks' := 0) (As := [.int (x1 + 1), .int x2]) (st9 := [.int x2, .int (x1 + 1), .ref o0]) d_Grouping_spread_152 lV_Grouping_77 b398 rfl (H_spread (d := d) (x9 := x9) (o0 := o0) (x1 := (x1 + 1)) (x2 := x2) t362 (by first | omega | decide) I388.start) rfl (Nat.le_of_ble_eq_true rfl) (Nat.le_of_ble_eq_true rfl) (Nat.le_of_ble_eq_true rfl) (hst := rfl) (fun b392r M393 n394 b392 => ?_)
                              obtain ⟨T395, J396, rfl⟩ := b392
                              have I397 := I388.call J396 (tm_sub (by decide)) (Or.inl rfl)
                              have t399 := J396.up t362
                              have q400 := J396.keep t362 (by decide) (K389 _ 7 10 _ q363)
                              have t401 := J396.up t364
                              have q402 := J396.keep t362 (by decide) (K389 _ 7 7 _ q385)
                              have t403 := J396.up t_a386
                              refine mv_aload_n d_Grouping_spread_155 rfl rfl ?_
                              obtain ⟨a405, q404, t_a405⟩ := tm_atR I397 t399 (k := 9) rfl
                              refine tr_getK q404 d_Grouping_spread_156 f_Grouping_28_7 ?_
                              refine mv_iload d_Grouping_spread_159 rfl ?_
                              refine mv_dup2_11 d_Grouping_spread_161 rfl rfl ?_
                              refine tr_iald I397 t_a405 (by decide) d_Grouping_spread_162 (vp_in_iff.mpr (by omega)) (fun v406 => ?_)
                              refine mv_iconst (v := 1) d_Grouping_spread_163 (by decide) ?_
                              refine mv_isub d_Grouping_spread_164 ?_
                              refine tr_iastK tm_okF I397 t_a405 (by decide) (Or.inl (by decide)) d_Grouping_spread_165 (vp_in_iff.mpr (by omega)) (fun M407 I408 K409 => ?_)
                              refine mv_aload_n d_Grouping_spread_166 rfl rfl ?_
                              obtain ⟨a411, q410, t_a411⟩ := tm_atR I408 t399 (k := 11) rfl
                              refine tr_getK q410 d_Grouping_spread_167 f_Grouping_34_7 ?_
                              refine mv_iload d_Grouping_spread_170 rfl ?_
                              refine mv_dup2_11 d_Grouping_spread_172 rfl rfl ?_
                              refine tr_lald I408 t_a411 (by decide) d_Grouping_spread_173 (vp_in_iff.mpr (by omega)) (fun v412 => ?_)
                              refine mv_aload_n d_Grouping_spread_174 rfl rfl ?_
                              obtain ⟨a414, q413, t_a414⟩ := tm_atR I408 t399 (k := 5) rfl
                              refine tr_getK q413 d_Grouping_spread_175 f_Grouping_15_7 ?_
                              refine mv_iload_n d_Grouping_spread_178 rfl rfl ?_
                              refine tr_lald I408 t_a414 (by decide) d_Grouping_spread_179 (vp_in_iff.mpr (by omega)) (fun v415 => ?_)
                              refine mv_lsub d_Grouping_spread_180 ?_
                              refine tr_lastK tm_okF I408 t_a411 (by decide) (Or.inl (by decide)) d_Grouping_spread_181 (vp_in_iff.mpr (by omega)) (fun M416 I417 K418 => ?_)
                              refine mv_aload_n d_Grouping_spread_182 rfl rfl ?_
                              refine tr_getK (k := 10) (K418 _ 7 10 _ (K409 _ 7 10 _ q400)) d_Grouping_spread_183 f_Grouping_31_7 ?_
                              refine mv_iload d_Grouping_spread_186 rfl ?_
                              refine mv_iload d_Grouping_spread_188 rfl ?_
                              refine tr_iastK tm_okF I417 t401 (by decide) (Or.inl (by decide)) d_Grouping_spread_190 (vp_in_iff.mpr (by omega)) (fun M419 I420 K421 => ?_)
                              refine mv_iinc (v := (i5_336 + 1)) (lv' := [(5, .int (i5_336 + 1)), (6, .int v341), (3, .long (if (v12 - v17) < v4 then v4 else (v12 - v17))), (0, .ref o0), (1, .int x1), (2, .int x2)]) d_Grouping_spread_191 rfl rfl (by decide) rfl ?_
                              refine mv_goto (tgt := 89) d_Grouping_spread_194 (by decide) ?_
                              refine mv_locals (lv' := [(5, .int (i5_336 + 1)), (3, .long (if (v12 - v17) < v4 then v4 else (v12 - v17))), (0, .ref o0), (1, .int x1), (2, .int x2)]) (by intro q hq; simp only [List.mem_cons, List.not_mem_nil, or_false] at hq; rcases hq with rfl | rfl | rfl | rfl | rfl <;> rfl) ?_
                              have b422 : (i5_336 + 1).toInt = i5_336.toInt + 1 := mz_addn 1 1 (by decide) (by have := mz_lo i5_336; omega) (by have := mz_hi i5_336; omega)
                              exact (ih336 (i5_336 + 1) T395 M419 n394 I420 t399 (by first | omega | decide) (by omega))
                            · refine mv_iload_n d_Grouping_spread_145 rfl rfl ?_
                              refine mv_iconst (v := 1) d_Grouping_spread_146 (by decide) ?_
                              refine mv_iadd d_Grouping_spread_147 ?_
                              refine mv_goto (tgt := 152) d_Grouping_spread_148 (by decide) ?_
                              have b423 : (x1 + 1).toInt = x1.toInt + 1 := mz_addn 1 1 (by decide) (by omega) (by omega)
                              obtain ⟨_, b430, -⟩ := I388.1 _ _ t362
                              refine mv_callV (kc' := 0) (ks' := 0) (As := [.int (x1 + 1), .int (x2 + 1)]) (st9 := [.int (x2 + 1), .int (x1 + 1), .ref o0]) d_Grouping_spread_152 lV_Grouping_77 b430 rfl (H_spread (d := d) (x9 := x9) (o0 := o0) (x1 := (x1 + 1)) (x2 := (x2 + 1)) t362 (by first | omega | decide) I388.start) rfl (Nat.le_of_ble_eq_true rfl) (Nat.le_of_ble_eq_true rfl) (Nat.le_of_ble_eq_true rfl) (hst := rfl) (fun b424r M425 n426 b424 => ?_)
                              obtain ⟨T427, J428, rfl⟩ := b424
                              have I429 := I388.call J428 (tm_sub (by decide)) (Or.inl rfl)
                              have t431 := J428.up t362
                              have q432 := J428.keep t362 (by decide) (K389 _ 7 10 _ q363)
                              have t433 := J428.up t364
                              have q434 := J428.keep t362 (by decide) (K389 _ 7 7 _ q385)
                              have t435 := J428.up t_a386
                              refine mv_aload_n d_Grouping_spread_155 rfl rfl ?_
                              obtain ⟨a437, q436, t_a437⟩ := tm_atR I429 t431 (k := 9) rfl
                              refine tr_getK q436 d_Grouping_spread_156 f_Grouping_28_7 ?_
                              refine mv_iload d_Grouping_spread_159 rfl ?_
                              refine mv_dup2_11 d_Grouping_spread_161 rfl rfl ?_
                              refine tr_iald I429 t_a437 (by decide) d_Grouping_spread_162 (vp_in_iff.mpr (by omega)) (fun v438 => ?_)
                              refine mv_iconst (v := 1) d_Grouping_spread_163 (by decide) ?_
                              refine mv_isub d_Grouping_spread_164 ?_
                              refine tr_iastK tm_okF I429 t_a437 (by decide) (Or.inl (by decide)) d_Grouping_spread_165 (vp_in_iff.mpr (by omega)) (fun M439 I440 K441 => ?_)
                              refine mv_aload_n d_Grouping_spread_166 rfl rfl ?_
                              obtain ⟨a443, q442, t_a443⟩ := tm_atR I440 t431 (k := 11) rfl
                              refine tr_getK q442 d_Grouping_spread_167 f_Grouping_34_7 ?_
                              refine mv_iload d_Grouping_spread_170 rfl ?_
                              refine mv_dup2_11 d_Grouping_spread_172 rfl rfl ?_
                              refine tr_lald I440 t_a443 (by decide) d_Grouping_spread_173 (vp_in_iff.mpr (by omega)) (fun v444 => ?_)
                              refine mv_aload_n d_Grouping_spread_174 rfl rfl ?_
                              obtain ⟨a446, q445, t_a446⟩ := tm_atR I440 t431 (k := 5) rfl
                              refine tr_getK q445 d_Grouping_spread_175 f_Grouping_15_7 ?_
                              refine mv_iload_n d_Grouping_spread_178 rfl rfl ?_
                              refine tr_lald I440 t_a446 (by decide) d_Grouping_spread_179 (vp_in_iff.mpr (by omega)) (fun v447 => ?_)
                              refine mv_lsub d_Grouping_spread_180 ?_
                              refine tr_lastK tm_okF I440 t_a443 (by decide) (Or.inl (by decide)) d_Grouping_spread_181 (vp_in_iff.mpr (by omega)) (fun M448 I449 K450 => ?_)
                              refine mv_aload_n d_Grouping_spread_182 rfl rfl ?_
                              refine tr_getK (k := 10) (K450 _ 7 10 _ (K441 _ 7 10 _ q432)) d_Grouping_spread_183 f_Grouping_31_7 ?_
                              refine mv_iload d_Grouping_spread_186 rfl ?_
                              refine mv_iload d_Grouping_spread_188 rfl ?_
                              refine tr_iastK tm_okF I449 t433 (by decide) (Or.inl (by decide)) d_Grouping_spread_190 (vp_in_iff.mpr (by omega)) (fun M451 I452 K453 => ?_)
                              refine mv_iinc (v := (i5_336 + 1)) (lv' := [(5, .int (i5_336 + 1)), (6, .int v341), (3, .long (if (v12 - v17) < v4 then v4 else (v12 - v17))), (0, .ref o0), (1, .int x1), (2, .int x2)]) d_Grouping_spread_191 rfl rfl (by decide) rfl ?_
                              refine mv_goto (tgt := 89) d_Grouping_spread_194 (by decide) ?_
                              refine mv_locals (lv' := [(5, .int (i5_336 + 1)), (3, .long (if (v12 - v17) < v4 then v4 else (v12 - v17))), (0, .ref o0), (1, .int x1), (2, .int x2)]) (by intro q hq; simp only [List.mem_cons, List.not_mem_nil, or_false] at hq; rcases hq with rfl | rfl | rfl | rfl | rfl <;> rfl) ?_
                              have b454 : (i5_336 + 1).toInt = i5_336.toInt + 1 := mz_addn 1 1 (by decide) (by have := mz_lo i5_336; omega) (by have := mz_hi i5_336; omega)
                              exact (ih336 (i5_336 + 1) T427 M451 n426 I452 t431 (by first | omega | decide) (by omega))
                  exact mv_less (Nat.zero_le _) (Nat.zero_le _) (L89_336 4294967296 0 T8 M6 n7 I10 t13 (by first | omega | decide) (by show (2147483647 - (0 : Int) : Int) < _; decide))
                · refine mv_aload_n d_Grouping_spread_79 rfl rfl ?_
                  refine mv_lload_n d_Grouping_spread_80 rfl rfl ?_
                  refine mv_iload_n d_Grouping_spread_81 rfl rfl ?_
                  obtain ⟨_, b461, -⟩ := I10.1 _ _ t13
                  refine mv_callV (kc' := 0) (ks' := 0) (As := [.long (if (v12 - v17) < v4 then v4 else (v12 - v17)), .int x2]) (st9 := [.int x2, .long (if (v12 - v17) < v4 then v4 else (v12 - v17)), .ref o0]) d_Grouping_spread_82 lV_Grouping_80 b461 rfl (tc_Grouping_keepAsBest (d := (d + E + 2)) (x9 := x9) (o0 := o0) (x1 := (if (v12 - v17) < v4 then v4 else (v12 - v17))) (x2 := x2) t13 I10.start) rfl (Nat.le_of_ble_eq_true rfl) (Nat.le_of_ble_eq_true rfl) (Nat.le_of_ble_eq_true rfl) (hst := rfl) (fun b455r M456 n457 b455 => ?_)
                  obtain ⟨T458, J459, rfl⟩ := b455
                  have I460 := I10.call J459 (tm_sub (by decide)) (Or.inl rfl)
                  have t462 := J459.up t13
                  have q463 := J459.keep t13 (by decide) q14
                  have q464 := J459.keep t13 (by decide) q15
                  have t465 := J459.up t_a16
                  have q466 := J459.keep t13 (by decide) q320
                  exact mv_vret d_Grouping_spread_85 rfl ⟨_, I460, rfl⟩
            · exact mv_vret d_Grouping_spread_64 rfl ⟨_, I10, rfl⟩
    · exact mv_vret d_Grouping_spread_10 rfl ⟨_, I0, rfl⟩
theorem tc_Grouping_spread_q2 {g : mj_G} {l : Launch} {d : Nat} {T0 : tm_H} {M0 : mj_M} {n0 x9 : Nat} {o0 : Nat} {x1 : Int32} {x2 : Int32} (h_o0 : T0 o0 = some (0, 7, 0)) (hp : 7 ≤ x1.toInt) (I0 : tm_I tm_FT (tm_in w_Grouping_spread_q2) x9 T0 M0 n0 T0 M0 n0) : mj_Met g l kY_Grouping_spread (d + 3) [.ref o0, .int x1, .int x2] M0 n0 0 0 (tm_Q tm_FT (tm_in w_Grouping_spread_q2) x9 T0 M0 n0 (fun r _ _ => r = none)) := tg_Grouping_spread (E := 0) (K := 7) (K1 := 8) (by decide) @tc_Grouping_spread_q1 h_o0 hp I0
def w_Grouping_spread_q3 : List Nat := [700, 703, 757, 758, 759, 760, 761]
theorem tc_Grouping_spread_q3 {g : mj_G} {l : Launch} {d : Nat} {T0 : tm_H} {M0 : mj_M} {n0 x9 : Nat} {o0 : Nat} {x1 : Int32} {x2 : Int32} (h_o0 : T0 o0 = some (0, 7, 0)) (hp : 6 ≤ x1.toInt) (I0 : tm_I tm_FT (tm_in w_Grouping_spread_q3) x9 T0 M0 n0 T0 M0 n0) : mj_Met g l kY_Grouping_spread (d + 4) [.ref o0, .int x1, .int x2] M0 n0 0 0 (tm_Q tm_FT (tm_in w_Grouping_spread_q3) x9 T0 M0 n0 (fun r _ _ => r = none)) := tg_Grouping_spread (E := 1) (K := 6) (K1 := 7) (by decide) @tc_Grouping_spread_q2 h_o0 hp I0
def w_Grouping_spread_q4 : List Nat := [700, 703, 757, 758, 759, 760, 761]
theorem tc_Grouping_spread_q4 {g : mj_G} {l : Launch} {d : Nat} {T0 : tm_H} {M0 : mj_M} {n0 x9 : Nat} {o0 : Nat} {x1 : Int32} {x2 : Int32} (h_o0 : T0 o0 = some (0, 7, 0)) (hp : 5 ≤ x1.toInt) (I0 : tm_I tm_FT (tm_in w_Grouping_spread_q4) x9 T0 M0 n0 T0 M0 n0) : mj_Met g l kY_Grouping_spread (d + 5) [.ref o0, .int x1, .int x2] M0 n0 0 0 (tm_Q tm_FT (tm_in w_Grouping_spread_q4) x9 T0 M0 n0 (fun r _ _ => r = none)) := tg_Grouping_spread (E := 2) (K := 5) (K1 := 6) (by decide) @tc_Grouping_spread_q3 h_o0 hp I0
def w_Grouping_spread_q5 : List Nat := [700, 703, 757, 758, 759, 760, 761]
theorem tc_Grouping_spread_q5 {g : mj_G} {l : Launch} {d : Nat} {T0 : tm_H} {M0 : mj_M} {n0 x9 : Nat} {o0 : Nat} {x1 : Int32} {x2 : Int32} (h_o0 : T0 o0 = some (0, 7, 0)) (hp : 4 ≤ x1.toInt) (I0 : tm_I tm_FT (tm_in w_Grouping_spread_q5) x9 T0 M0 n0 T0 M0 n0) : mj_Met g l kY_Grouping_spread (d + 6) [.ref o0, .int x1, .int x2] M0 n0 0 0 (tm_Q tm_FT (tm_in w_Grouping_spread_q5) x9 T0 M0 n0 (fun r _ _ => r = none)) := tg_Grouping_spread (E := 3) (K := 4) (K1 := 5) (by decide) @tc_Grouping_spread_q4 h_o0 hp I0
def w_Grouping_spread_q6 : List Nat := [700, 703, 757, 758, 759, 760, 761]
theorem tc_Grouping_spread_q6 {g : mj_G} {l : Launch} {d : Nat} {T0 : tm_H} {M0 : mj_M} {n0 x9 : Nat} {o0 : Nat} {x1 : Int32} {x2 : Int32} (h_o0 : T0 o0 = some (0, 7, 0)) (hp : 3 ≤ x1.toInt) (I0 : tm_I tm_FT (tm_in w_Grouping_spread_q6) x9 T0 M0 n0 T0 M0 n0) : mj_Met g l kY_Grouping_spread (d + 7) [.ref o0, .int x1, .int x2] M0 n0 0 0 (tm_Q tm_FT (tm_in w_Grouping_spread_q6) x9 T0 M0 n0 (fun r _ _ => r = none)) := tg_Grouping_spread (E := 4) (K := 3) (K1 := 4) (by decide) @tc_Grouping_spread_q5 h_o0 hp I0
