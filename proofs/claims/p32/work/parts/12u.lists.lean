abbrev kY_ArrayList_add_0 : mj_Y := (⟨"java/util/ArrayList", "add", "(Ljava/lang/Object;)Z"⟩, prog_33_method_25_code, 2, (Option.some Jvm.ClassFile.FieldType.boolean))
theorem d_ArrayList_add_0_0 : decode kY_ArrayList_add_0.2.1 0 = .ok (.aload_n 0, 1) := by decide +kernel
theorem d_ArrayList_add_0_1 : decode kY_ArrayList_add_0.2.1 1 = .ok (.dup, 1) := by decide +kernel
theorem d_ArrayList_add_0_2 : decode kY_ArrayList_add_0.2.1 2 = .ok (.getfield 63, 3) := by decide +kernel
theorem d_ArrayList_add_0_5 : decode kY_ArrayList_add_0.2.1 5 = .ok (.iconst 1, 1) := by decide +kernel
theorem d_ArrayList_add_0_6 : decode kY_ArrayList_add_0.2.1 6 = .ok (.iadd, 1) := by decide +kernel
theorem d_ArrayList_add_0_7 : decode kY_ArrayList_add_0.2.1 7 = .ok (.putfield 63, 3) := by decide +kernel
theorem d_ArrayList_add_0_10 : decode kY_ArrayList_add_0.2.1 10 = .ok (.aload_n 0, 1) := by decide +kernel
theorem d_ArrayList_add_0_11 : decode kY_ArrayList_add_0.2.1 11 = .ok (.aload_n 1, 1) := by decide +kernel
theorem d_ArrayList_add_0_12 : decode kY_ArrayList_add_0.2.1 12 = .ok (.aload_n 0, 1) := by decide +kernel
theorem d_ArrayList_add_0_13 : decode kY_ArrayList_add_0.2.1 13 = .ok (.getfield 9, 3) := by decide +kernel
theorem d_ArrayList_add_0_16 : decode kY_ArrayList_add_0.2.1 16 = .ok (.aload_n 0, 1) := by decide +kernel
theorem d_ArrayList_add_0_17 : decode kY_ArrayList_add_0.2.1 17 = .ok (.getfield 48, 3) := by decide +kernel
theorem d_ArrayList_add_0_20 : decode kY_ArrayList_add_0.2.1 20 = .ok (.invokevirtual 131, 3) := by decide +kernel
theorem d_ArrayList_add_0_23 : decode kY_ArrayList_add_0.2.1 23 = .ok (.iconst 1, 1) := by decide +kernel
theorem d_ArrayList_add_0_24 : decode kY_ArrayList_add_0.2.1 24 = .ok (.ireturn, 1) := by decide +kernel
abbrev kY_ArrayList_add_1 : mj_Y := (⟨"java/util/ArrayList", "add", "(Ljava/lang/Object;[Ljava/lang/Object;I)V"⟩, prog_33_method_24_code, 4, (Option.none : Option Jvm.ClassFile.FieldType))
theorem d_ArrayList_add_1_0 : decode kY_ArrayList_add_1.2.1 0 = .ok (.iload_n 3, 1) := by decide +kernel
theorem d_ArrayList_add_1_1 : decode kY_ArrayList_add_1.2.1 1 = .ok (.aload_n 2, 1) := by decide +kernel
theorem d_ArrayList_add_1_2 : decode kY_ArrayList_add_1.2.1 2 = .ok (.arraylength, 1) := by decide +kernel
theorem d_ArrayList_add_1_3 : decode kY_ArrayList_add_1.2.1 3 = .ok (.if_icmp .ne 8, 3) := by decide +kernel
theorem d_ArrayList_add_1_6 : decode kY_ArrayList_add_1.2.1 6 = .ok (.aload_n 0, 1) := by decide +kernel
theorem d_ArrayList_add_1_7 : decode kY_ArrayList_add_1.2.1 7 = .ok (.invokevirtual 129, 3) := by decide +kernel
theorem d_ArrayList_add_1_10 : decode kY_ArrayList_add_1.2.1 10 = .ok (.astore_n 2, 1) := by decide +kernel
theorem d_ArrayList_add_1_11 : decode kY_ArrayList_add_1.2.1 11 = .ok (.aload_n 2, 1) := by decide +kernel
theorem d_ArrayList_add_1_12 : decode kY_ArrayList_add_1.2.1 12 = .ok (.iload_n 3, 1) := by decide +kernel
theorem d_ArrayList_add_1_13 : decode kY_ArrayList_add_1.2.1 13 = .ok (.aload_n 1, 1) := by decide +kernel
theorem d_ArrayList_add_1_14 : decode kY_ArrayList_add_1.2.1 14 = .ok (.aastore, 1) := by decide +kernel
theorem d_ArrayList_add_1_15 : decode kY_ArrayList_add_1.2.1 15 = .ok (.aload_n 0, 1) := by decide +kernel
theorem d_ArrayList_add_1_16 : decode kY_ArrayList_add_1.2.1 16 = .ok (.iload_n 3, 1) := by decide +kernel
theorem d_ArrayList_add_1_17 : decode kY_ArrayList_add_1.2.1 17 = .ok (.iconst 1, 1) := by decide +kernel
theorem d_ArrayList_add_1_18 : decode kY_ArrayList_add_1.2.1 18 = .ok (.iadd, 1) := by decide +kernel
theorem d_ArrayList_add_1_19 : decode kY_ArrayList_add_1.2.1 19 = .ok (.putfield 48, 3) := by decide +kernel
theorem d_ArrayList_add_1_22 : decode kY_ArrayList_add_1.2.1 22 = .ok (.return_, 1) := by decide +kernel
abbrev kY_ArrayList_grow_0 : mj_Y := (⟨"java/util/ArrayList", "grow", "()[Ljava/lang/Object;"⟩, prog_33_method_7_code, 1, (Option.some (Jvm.ClassFile.FieldType.array (Jvm.ClassFile.FieldType.object "java/lang/Object"))))
theorem d_ArrayList_grow_0_0 : decode kY_ArrayList_grow_0.2.1 0 = .ok (.aload_n 0, 1) := by decide +kernel
theorem d_ArrayList_grow_0_1 : decode kY_ArrayList_grow_0.2.1 1 = .ok (.aload_n 0, 1) := by decide +kernel
theorem d_ArrayList_grow_0_2 : decode kY_ArrayList_grow_0.2.1 2 = .ok (.getfield 48, 3) := by decide +kernel
theorem d_ArrayList_grow_0_5 : decode kY_ArrayList_grow_0.2.1 5 = .ok (.iconst 1, 1) := by decide +kernel
theorem d_ArrayList_grow_0_6 : decode kY_ArrayList_grow_0.2.1 6 = .ok (.iadd, 1) := by decide +kernel
theorem d_ArrayList_grow_0_7 : decode kY_ArrayList_grow_0.2.1 7 = .ok (.invokevirtual 69, 3) := by decide +kernel
theorem d_ArrayList_grow_0_10 : decode kY_ArrayList_grow_0.2.1 10 = .ok (.areturn, 1) := by decide +kernel
abbrev kY_ArrayList_grow_1 : mj_Y := (⟨"java/util/ArrayList", "grow", "(I)[Ljava/lang/Object;"⟩, prog_33_method_6_code, 4, (Option.some (Jvm.ClassFile.FieldType.array (Jvm.ClassFile.FieldType.object "java/lang/Object"))))
theorem d_ArrayList_grow_1_0 : decode kY_ArrayList_grow_1.2.1 0 = .ok (.aload_n 0, 1) := by decide +kernel
theorem d_ArrayList_grow_1_1 : decode kY_ArrayList_grow_1.2.1 1 = .ok (.getfield 9, 3) := by decide +kernel
theorem d_ArrayList_grow_1_4 : decode kY_ArrayList_grow_1.2.1 4 = .ok (.arraylength, 1) := by decide +kernel
theorem d_ArrayList_grow_1_5 : decode kY_ArrayList_grow_1.2.1 5 = .ok (.istore_n 2, 1) := by decide +kernel
theorem d_ArrayList_grow_1_6 : decode kY_ArrayList_grow_1.2.1 6 = .ok (.iload_n 2, 1) := by decide +kernel
theorem d_ArrayList_grow_1_7 : decode kY_ArrayList_grow_1.2.1 7 = .ok (.ifCond .gt 13, 3) := by decide +kernel
theorem d_ArrayList_grow_1_10 : decode kY_ArrayList_grow_1.2.1 10 = .ok (.aload_n 0, 1) := by decide +kernel
theorem d_ArrayList_grow_1_11 : decode kY_ArrayList_grow_1.2.1 11 = .ok (.getfield 9, 3) := by decide +kernel
theorem d_ArrayList_grow_1_14 : decode kY_ArrayList_grow_1.2.1 14 = .ok (.getstatic 39, 3) := by decide +kernel
theorem d_ArrayList_grow_1_17 : decode kY_ArrayList_grow_1.2.1 17 = .ok (.if_acmp .eq 28, 3) := by decide +kernel
theorem d_ArrayList_grow_1_20 : decode kY_ArrayList_grow_1.2.1 20 = .ok (.iload_n 2, 1) := by decide +kernel
theorem d_ArrayList_grow_1_21 : decode kY_ArrayList_grow_1.2.1 21 = .ok (.iload_n 1, 1) := by decide +kernel
theorem d_ArrayList_grow_1_22 : decode kY_ArrayList_grow_1.2.1 22 = .ok (.iload_n 2, 1) := by decide +kernel
theorem d_ArrayList_grow_1_23 : decode kY_ArrayList_grow_1.2.1 23 = .ok (.isub, 1) := by decide +kernel
theorem d_ArrayList_grow_1_24 : decode kY_ArrayList_grow_1.2.1 24 = .ok (.iload_n 2, 1) := by decide +kernel
theorem d_ArrayList_grow_1_25 : decode kY_ArrayList_grow_1.2.1 25 = .ok (.iconst 1, 1) := by decide +kernel
theorem d_ArrayList_grow_1_26 : decode kY_ArrayList_grow_1.2.1 26 = .ok (.ishr, 1) := by decide +kernel
theorem d_ArrayList_grow_1_27 : decode kY_ArrayList_grow_1.2.1 27 = .ok (.invokestatic 73, 3) := by decide +kernel
theorem d_ArrayList_grow_1_30 : decode kY_ArrayList_grow_1.2.1 30 = .ok (.istore_n 3, 1) := by decide +kernel
theorem d_ArrayList_grow_1_31 : decode kY_ArrayList_grow_1.2.1 31 = .ok (.aload_n 0, 1) := by decide +kernel
theorem d_ArrayList_grow_1_32 : decode kY_ArrayList_grow_1.2.1 32 = .ok (.aload_n 0, 1) := by decide +kernel
theorem d_ArrayList_grow_1_33 : decode kY_ArrayList_grow_1.2.1 33 = .ok (.getfield 9, 3) := by decide +kernel
theorem d_ArrayList_grow_1_36 : decode kY_ArrayList_grow_1.2.1 36 = .ok (.iload_n 3, 1) := by decide +kernel
theorem d_ArrayList_grow_1_37 : decode kY_ArrayList_grow_1.2.1 37 = .ok (.invokestatic 66, 3) := by decide +kernel
theorem d_ArrayList_grow_1_40 : decode kY_ArrayList_grow_1.2.1 40 = .ok (.dup_x1, 1) := by decide +kernel
theorem d_ArrayList_grow_1_41 : decode kY_ArrayList_grow_1.2.1 41 = .ok (.putfield 9, 3) := by decide +kernel
theorem d_ArrayList_grow_1_44 : decode kY_ArrayList_grow_1.2.1 44 = .ok (.areturn, 1) := by decide +kernel
theorem d_ArrayList_grow_1_45 : decode kY_ArrayList_grow_1.2.1 45 = .ok (.aload_n 0, 1) := by decide +kernel
theorem d_ArrayList_grow_1_46 : decode kY_ArrayList_grow_1.2.1 46 = .ok (.bipush 10, 2) := by decide +kernel
theorem d_ArrayList_grow_1_48 : decode kY_ArrayList_grow_1.2.1 48 = .ok (.iload_n 1, 1) := by decide +kernel
theorem d_ArrayList_grow_1_49 : decode kY_ArrayList_grow_1.2.1 49 = .ok (.invokestatic 79, 3) := by decide +kernel
theorem d_ArrayList_grow_1_52 : decode kY_ArrayList_grow_1.2.1 52 = .ok (.anewarray 7, 3) := by decide +kernel
theorem d_ArrayList_grow_1_55 : decode kY_ArrayList_grow_1.2.1 55 = .ok (.dup_x1, 1) := by decide +kernel
theorem d_ArrayList_grow_1_56 : decode kY_ArrayList_grow_1.2.1 56 = .ok (.putfield 9, 3) := by decide +kernel
theorem d_ArrayList_grow_1_59 : decode kY_ArrayList_grow_1.2.1 59 = .ok (.areturn, 1) := by decide +kernel
abbrev kY_ArraysSupport_newLength : mj_Y := (⟨"jdk/internal/util/ArraysSupport", "newLength", "(III)I"⟩, prog_41_method_27_code, 4, (Option.some Jvm.ClassFile.FieldType.int))
theorem d_ArraysSupport_newLength_0 : decode kY_ArraysSupport_newLength.2.1 0 = .ok (.iload_n 0, 1) := by decide +kernel
theorem d_ArraysSupport_newLength_1 : decode kY_ArraysSupport_newLength.2.1 1 = .ok (.iload_n 1, 1) := by decide +kernel
theorem d_ArraysSupport_newLength_2 : decode kY_ArraysSupport_newLength.2.1 2 = .ok (.iload_n 2, 1) := by decide +kernel
theorem d_ArraysSupport_newLength_3 : decode kY_ArraysSupport_newLength.2.1 3 = .ok (.invokestatic 194, 3) := by decide +kernel
theorem d_ArraysSupport_newLength_6 : decode kY_ArraysSupport_newLength.2.1 6 = .ok (.iadd, 1) := by decide +kernel
theorem d_ArraysSupport_newLength_7 : decode kY_ArraysSupport_newLength.2.1 7 = .ok (.istore_n 3, 1) := by decide +kernel
theorem d_ArraysSupport_newLength_8 : decode kY_ArraysSupport_newLength.2.1 8 = .ok (.iconst 0, 1) := by decide +kernel
theorem d_ArraysSupport_newLength_9 : decode kY_ArraysSupport_newLength.2.1 9 = .ok (.iload_n 3, 1) := by decide +kernel
theorem d_ArraysSupport_newLength_10 : decode kY_ArraysSupport_newLength.2.1 10 = .ok (.if_icmp .ge 11, 3) := by decide +kernel
theorem d_ArraysSupport_newLength_13 : decode kY_ArraysSupport_newLength.2.1 13 = .ok (.iload_n 3, 1) := by decide +kernel
theorem d_ArraysSupport_newLength_14 : decode kY_ArraysSupport_newLength.2.1 14 = .ok (.ldc 200, 2) := by decide +kernel
theorem d_ArraysSupport_newLength_16 : decode kY_ArraysSupport_newLength.2.1 16 = .ok (.if_icmp .gt 5, 3) := by decide +kernel
theorem d_ArraysSupport_newLength_19 : decode kY_ArraysSupport_newLength.2.1 19 = .ok (.iload_n 3, 1) := by decide +kernel
theorem d_ArraysSupport_newLength_20 : decode kY_ArraysSupport_newLength.2.1 20 = .ok (.ireturn, 1) := by decide +kernel
abbrev kY_Arrays_copyOf_1 : mj_Y := (⟨"java/util/Arrays", "copyOf", "([Ljava/lang/Object;I)[Ljava/lang/Object;"⟩, prog_34_method_119_code, 2, (Option.some (Jvm.ClassFile.FieldType.array (Jvm.ClassFile.FieldType.object "java/lang/Object"))))
theorem d_Arrays_copyOf_1_0 : decode kY_Arrays_copyOf_1.2.1 0 = .ok (.aload_n 0, 1) := by decide +kernel
theorem d_Arrays_copyOf_1_1 : decode kY_Arrays_copyOf_1.2.1 1 = .ok (.iload_n 1, 1) := by decide +kernel
theorem d_Arrays_copyOf_1_2 : decode kY_Arrays_copyOf_1.2.1 2 = .ok (.aload_n 0, 1) := by decide +kernel
theorem d_Arrays_copyOf_1_3 : decode kY_Arrays_copyOf_1.2.1 3 = .ok (.invokevirtual 86, 3) := by decide +kernel
theorem d_Arrays_copyOf_1_6 : decode kY_Arrays_copyOf_1.2.1 6 = .ok (.invokestatic 300, 3) := by decide +kernel
theorem d_Arrays_copyOf_1_9 : decode kY_Arrays_copyOf_1.2.1 9 = .ok (.areturn, 1) := by decide +kernel
abbrev kY_Arrays_copyOf_2 : mj_Y := (⟨"java/util/Arrays", "copyOf", "([Ljava/lang/Object;ILjava/lang/Class;)[Ljava/lang/Object;"⟩, prog_34_method_120_code, 4, (Option.some (Jvm.ClassFile.FieldType.array (Jvm.ClassFile.FieldType.object "java/lang/Object"))))
theorem d_Arrays_copyOf_2_0 : decode kY_Arrays_copyOf_2.2.1 0 = .ok (.aload_n 2, 1) := by decide +kernel
theorem d_Arrays_copyOf_2_1 : decode kY_Arrays_copyOf_2.2.1 1 = .ok (.ldc 110, 2) := by decide +kernel
theorem d_Arrays_copyOf_2_3 : decode kY_Arrays_copyOf_2.2.1 3 = .ok (.if_acmp .ne 10, 3) := by decide +kernel
theorem d_Arrays_copyOf_2_6 : decode kY_Arrays_copyOf_2.2.1 6 = .ok (.iload_n 1, 1) := by decide +kernel
theorem d_Arrays_copyOf_2_7 : decode kY_Arrays_copyOf_2.2.1 7 = .ok (.anewarray 2, 3) := by decide +kernel
theorem d_Arrays_copyOf_2_10 : decode kY_Arrays_copyOf_2.2.1 10 = .ok (.goto 14, 3) := by decide +kernel
theorem d_Arrays_copyOf_2_24 : decode kY_Arrays_copyOf_2.2.1 24 = .ok (.astore_n 3, 1) := by decide +kernel
theorem d_Arrays_copyOf_2_25 : decode kY_Arrays_copyOf_2.2.1 25 = .ok (.aload_n 0, 1) := by decide +kernel
theorem d_Arrays_copyOf_2_26 : decode kY_Arrays_copyOf_2.2.1 26 = .ok (.iconst 0, 1) := by decide +kernel
theorem d_Arrays_copyOf_2_27 : decode kY_Arrays_copyOf_2.2.1 27 = .ok (.aload_n 3, 1) := by decide +kernel
theorem d_Arrays_copyOf_2_28 : decode kY_Arrays_copyOf_2.2.1 28 = .ok (.iconst 0, 1) := by decide +kernel
theorem d_Arrays_copyOf_2_29 : decode kY_Arrays_copyOf_2.2.1 29 = .ok (.aload_n 0, 1) := by decide +kernel
theorem d_Arrays_copyOf_2_30 : decode kY_Arrays_copyOf_2.2.1 30 = .ok (.arraylength, 1) := by decide +kernel
theorem d_Arrays_copyOf_2_31 : decode kY_Arrays_copyOf_2.2.1 31 = .ok (.iload_n 1, 1) := by decide +kernel
theorem d_Arrays_copyOf_2_32 : decode kY_Arrays_copyOf_2.2.1 32 = .ok (.invokestatic 304, 3) := by decide +kernel
theorem d_Arrays_copyOf_2_35 : decode kY_Arrays_copyOf_2.2.1 35 = .ok (.invokestatic 150, 3) := by decide +kernel
theorem d_Arrays_copyOf_2_38 : decode kY_Arrays_copyOf_2.2.1 38 = .ok (.aload_n 3, 1) := by decide +kernel
theorem d_Arrays_copyOf_2_39 : decode kY_Arrays_copyOf_2.2.1 39 = .ok (.areturn, 1) := by decide +kernel
abbrev kY_Arrays_copyOf_0 : mj_Y := (⟨"java/util/Arrays", "copyOf", "([II)[I"⟩, prog_34_method_123_code, 3, (Option.some (Jvm.ClassFile.FieldType.array Jvm.ClassFile.FieldType.int)))
theorem d_Arrays_copyOf_0_0 : decode kY_Arrays_copyOf_0.2.1 0 = .ok (.iload_n 1, 1) := by decide +kernel
theorem d_Arrays_copyOf_0_1 : decode kY_Arrays_copyOf_0.2.1 1 = .ok (.aload_n 0, 1) := by decide +kernel
theorem d_Arrays_copyOf_0_2 : decode kY_Arrays_copyOf_0.2.1 2 = .ok (.arraylength, 1) := by decide +kernel
theorem d_Arrays_copyOf_0_3 : decode kY_Arrays_copyOf_0.2.1 3 = .ok (.if_icmp .ne 11, 3) := by decide +kernel
theorem d_Arrays_copyOf_0_6 : decode kY_Arrays_copyOf_0.2.1 6 = .ok (.aload_n 0, 1) := by decide +kernel
theorem d_Arrays_copyOf_0_7 : decode kY_Arrays_copyOf_0.2.1 7 = .ok (.invokevirtual 316, 3) := by decide +kernel
theorem d_Arrays_copyOf_0_10 : decode kY_Arrays_copyOf_0.2.1 10 = .ok (.checkcast 317, 3) := by decide +kernel
theorem d_Arrays_copyOf_0_13 : decode kY_Arrays_copyOf_0.2.1 13 = .ok (.areturn, 1) := by decide +kernel
theorem d_Arrays_copyOf_0_14 : decode kY_Arrays_copyOf_0.2.1 14 = .ok (.iload_n 1, 1) := by decide +kernel
theorem d_Arrays_copyOf_0_15 : decode kY_Arrays_copyOf_0.2.1 15 = .ok (.newarray .int, 2) := by decide +kernel
theorem d_Arrays_copyOf_0_17 : decode kY_Arrays_copyOf_0.2.1 17 = .ok (.astore_n 2, 1) := by decide +kernel
theorem d_Arrays_copyOf_0_18 : decode kY_Arrays_copyOf_0.2.1 18 = .ok (.aload_n 0, 1) := by decide +kernel
theorem d_Arrays_copyOf_0_19 : decode kY_Arrays_copyOf_0.2.1 19 = .ok (.iconst 0, 1) := by decide +kernel
theorem d_Arrays_copyOf_0_20 : decode kY_Arrays_copyOf_0.2.1 20 = .ok (.aload_n 2, 1) := by decide +kernel
theorem d_Arrays_copyOf_0_21 : decode kY_Arrays_copyOf_0.2.1 21 = .ok (.iconst 0, 1) := by decide +kernel
theorem d_Arrays_copyOf_0_22 : decode kY_Arrays_copyOf_0.2.1 22 = .ok (.aload_n 0, 1) := by decide +kernel
theorem d_Arrays_copyOf_0_23 : decode kY_Arrays_copyOf_0.2.1 23 = .ok (.arraylength, 1) := by decide +kernel
theorem d_Arrays_copyOf_0_24 : decode kY_Arrays_copyOf_0.2.1 24 = .ok (.iload_n 1, 1) := by decide +kernel
theorem d_Arrays_copyOf_0_25 : decode kY_Arrays_copyOf_0.2.1 25 = .ok (.invokestatic 304, 3) := by decide +kernel
theorem d_Arrays_copyOf_0_28 : decode kY_Arrays_copyOf_0.2.1 28 = .ok (.invokestatic 150, 3) := by decide +kernel
theorem d_Arrays_copyOf_0_31 : decode kY_Arrays_copyOf_0.2.1 31 = .ok (.aload_n 2, 1) := by decide +kernel
theorem d_Arrays_copyOf_0_32 : decode kY_Arrays_copyOf_0.2.1 32 = .ok (.areturn, 1) := by decide +kernel
theorem f_ArrayList_63_0 : mj_fl "java/util/ArrayList" 63 0 0 := ⟨kR_ArrayList, kF_ArrayList, 3, "java/util/ArrayList", rfl, kg_0, by decide, (mj_in1 (List.mem_of_getElem? (i := 228) (by decide +kernel)) rfl), Or.inr (mj_in1 (List.mem_of_getElem? (i := 229) (by decide +kernel)) rfl)⟩
theorem f_ArrayList_9_0 : mj_fl "java/util/ArrayList" 9 0 1 := ⟨kR_ArrayList, kF_ArrayList, 3, "java/util/ArrayList", rfl, kg_0, by decide, (mj_in1 (List.mem_of_getElem? (i := 225) (by decide +kernel)) rfl), Or.inl rfl⟩
theorem f_ArrayList_48_0 : mj_fl "java/util/ArrayList" 48 0 2 := ⟨kR_ArrayList, kF_ArrayList, 3, "java/util/ArrayList", rfl, kg_0, by decide, (mj_in1 (List.mem_of_getElem? (i := 226) (by decide +kernel)) rfl), Or.inl rfl⟩
theorem p_ArrayList_63_0 : mj_fp "java/util/ArrayList" 63 0 0 (kt_ArrayList 0) false := ⟨kR_ArrayList, kF_ArrayList, 3, "java/util/ArrayList", kt_ArrayList, rfl, kg_0, by decide, (mj_in1 (List.mem_of_getElem? (i := 228) (by decide +kernel)) rfl), Or.inr (mj_in1 (List.mem_of_getElem? (i := 229) (by decide +kernel)) rfl), kto_ArrayList, kn_ArrayList, rfl, rfl, fun h => by cases h⟩
theorem p_ArrayList_48_0 : mj_fp "java/util/ArrayList" 48 0 2 (kt_ArrayList 2) false := ⟨kR_ArrayList, kF_ArrayList, 3, "java/util/ArrayList", kt_ArrayList, rfl, kg_0, by decide, (mj_in1 (List.mem_of_getElem? (i := 226) (by decide +kernel)) rfl), Or.inl rfl, kto_ArrayList, kn_ArrayList, rfl, rfl, fun h => by cases h⟩
theorem lV_ArrayList_131 : mj_lV "java/util/ArrayList" 131 kY_ArrayList_add_1 3 := ⟨⟨(mj_in1 (List.mem_of_getElem? (i := 563) (by decide +kernel)) rfl), (mj_in1 (List.mem_of_getElem? (i := 9) (by decide +kernel)) rfl), (mj_in1 (List.mem_of_getElem? (i := 566) (by decide +kernel)) rfl), by decide, rfl, by decide⟩, (mj_in1 (List.mem_of_getElem? (i := 565) (by decide +kernel)) rfl), (mj_in (List.mem_append_left _ (List.mem_of_getElem? (i := 30) (by decide +kernel))) rfl)⟩
theorem lV_ArrayList_129 : mj_lV "java/util/ArrayList" 129 kY_ArrayList_grow_0 0 := ⟨⟨(mj_in1 (List.mem_of_getElem? (i := 567) (by decide +kernel)) rfl), (mj_in1 (List.mem_of_getElem? (i := 9) (by decide +kernel)) rfl), (mj_in1 (List.mem_of_getElem? (i := 570) (by decide +kernel)) rfl), by decide, rfl, by decide⟩, (mj_in1 (List.mem_of_getElem? (i := 569) (by decide +kernel)) rfl), (mj_in (List.mem_append_left _ (List.mem_of_getElem? (i := 31) (by decide +kernel))) rfl)⟩
theorem lV_ArrayList_69 : mj_lV "java/util/ArrayList" 69 kY_ArrayList_grow_1 1 := ⟨⟨(mj_in1 (List.mem_of_getElem? (i := 571) (by decide +kernel)) rfl), (mj_in1 (List.mem_of_getElem? (i := 9) (by decide +kernel)) rfl), (mj_in1 (List.mem_of_getElem? (i := 574) (by decide +kernel)) rfl), by decide, rfl, by decide⟩, (mj_in1 (List.mem_of_getElem? (i := 573) (by decide +kernel)) rfl), (mj_in (List.mem_append_left _ (List.mem_of_getElem? (i := 32) (by decide +kernel))) rfl)⟩
theorem lS_ArrayList_73 : mj_lS "java/util/ArrayList" 73 kY_ArraysSupport_newLength 3 := ⟨⟨(mj_in1 (List.mem_of_getElem? (i := 575) (by decide +kernel)) rfl), (mj_in1 (List.mem_of_getElem? (i := 19) (by decide +kernel)) rfl), (mj_in1 (List.mem_of_getElem? (i := 577) (by decide +kernel)) rfl), by decide, rfl, by decide⟩, (mj_in1 (List.mem_of_getElem? (i := 576) (by decide +kernel)) rfl)⟩
theorem lS_ArrayList_66 : mj_lS "java/util/ArrayList" 66 kY_Arrays_copyOf_1 2 := ⟨⟨(mj_in1 (List.mem_of_getElem? (i := 583) (by decide +kernel)) rfl), (mj_in1 (List.mem_of_getElem? (i := 17) (by decide +kernel)) rfl), (mj_in1 (List.mem_of_getElem? (i := 585) (by decide +kernel)) rfl), by decide, rfl, by decide⟩, (mj_in1 (List.mem_of_getElem? (i := 584) (by decide +kernel)) rfl)⟩
theorem lS_Arrays_300 : mj_lS "java/util/Arrays" 300 kY_Arrays_copyOf_2 3 := ⟨⟨(mj_in1 (List.mem_of_getElem? (i := 605) (by decide +kernel)) rfl), (mj_in1 (List.mem_of_getElem? (i := 17) (by decide +kernel)) rfl), (mj_in1 (List.mem_of_getElem? (i := 607) (by decide +kernel)) rfl), by decide, rfl, by decide⟩, (mj_in1 (List.mem_of_getElem? (i := 606) (by decide +kernel)) rfl)⟩
theorem k_ArraysSupport_200 : Cond.constant "jdk/internal/util/ArraysSupport" 200 2147483639 ∈ mj_T := (mj_in1 (List.mem_of_getElem? (i := 579) (by decide +kernel)) rfl)
/-! LISTS THAT GROW -/
theorem mj_up_up (M : mj_M) (a : Nat) (c c1 : mj_C) : mj_up (mj_up M a c) a c1 = mj_up M a c1 := by
  funext q
  unfold mj_up
  cases Nat.beq q a <;> rfl
/-- the length that a full row grows to -/
def mj_gl (N : Nat) : Int32 := nI N + (if (1 : Int32) < (nI N >>> ((1 : Int32) &&& 31)) then (nI N >>> ((1 : Int32) &&& 31)) else 1)
theorem mj_gl_ok : ∀ N, N < 81 → 1 ≤ N → 0 < (mj_gl N).toInt ∧ (mj_gl N).toInt ≤ 200 ∧ N + 1 ≤ (mj_gl N).toNatClampNeg ∧ (mj_gl N).toNatClampNeg ≤ N + N / 2 + 1 := by decide +kernel
theorem mj_gl_1 : ∀ N, N < 81 → (nI N + 1) - nI N = 1 := by decide +kernel
abbrev mj_li (m : Int32) (e : Nat) (n : Int32) : mj_C := .inr (0, [.int m, .ref e, .int n])
abbrev mj_ro (N : Nat) (f : Nat → Option Nat) : mj_C := .inl (4, N, mj_q f)
theorem mz_clampI {n : Int32} {z : Nat} (h : n.toInt = (z : Int)) : n.toNatClampNeg = z := by
  have := mz_nat9 (i := n) (by omega)
  omega
theorem tc_AL_nl {g : mj_G} {l : Launch} {d nx : Nat} {M : mj_M} {N : Nat} (hN : N < 81) (hN1 : 1 ≤ N) : mj_Met g l kY_ArraysSupport_newLength (d + 1) [.int (nI N), .int 1, .int (nI N >>> ((1 : Int32) &&& 31))] M nx 0 0 (mj_E1 (some (.int (mj_gl N))) M nx) := by
  obtain ⟨g1, g2, g3, g4⟩ := mj_gl_ok N hN hN1
  refine mj_enter (by decide) (Nat.le_of_ble_eq_true rfl) ?_
  refine mv_iload_n d_ArraysSupport_newLength_0 rfl rfl ?_
  refine mv_iload_n d_ArraysSupport_newLength_1 rfl rfl ?_
  refine mv_iload_n d_ArraysSupport_newLength_2 rfl rfl ?_
  refine mv_mmax d_ArraysSupport_newLength_3 (mj_in1 (List.mem_of_getElem? (i := 578) (by decide +kernel)) rfl) (Nat.le_of_ble_eq_true rfl) rfl ?_
  refine mv_iaddv (v := mj_gl N) d_ArraysSupport_newLength_6 rfl ?_
  refine mv_istore_n (lv' := [(3, .int (mj_gl N)), (0, .int (nI N)), (1, .int 1), (2, .int (nI N >>> ((1 : Int32) &&& 31)))]) d_ArraysSupport_newLength_7 rfl (by decide) rfl ?_
  refine mv_iconst (v := 0) d_ArraysSupport_newLength_8 (by decide) ?_
  refine mv_iload_n d_ArraysSupport_newLength_9 rfl rfl ?_
  refine mv_icmp_geZ (tgt := 21) (a := 0) (b := (mj_gl N).toInt) d_ArraysSupport_newLength_10 (by decide) (by decide) rfl (fun h => absurd h (by omega)) (fun _ => ?_)
  refine mv_iload_n d_ArraysSupport_newLength_13 rfl rfl ?_
  refine mv_ldc d_ArraysSupport_newLength_14 k_ArraysSupport_200 ?_
  refine mv_icmp_gtZ (tgt := 21) (a := (mj_gl N).toInt) (b := 2147483639) d_ArraysSupport_newLength_16 (by decide) rfl (by decide) (fun h => absurd h (by omega)) (fun _ => ?_)
  refine mv_iload_n d_ArraysSupport_newLength_19 rfl rfl ?_
  exact mv_iret d_ArraysSupport_newLength_20 rfl rfl ⟨rfl, rfl, rfl⟩
theorem tc_AL_c3 {g : mj_G} {l : Launch} {d nx : Nat} {M : mj_M} {e N : Nat} {f : Nat → Option Nat} (hM : M e = some (mj_ro N f)) (he : e < nx) {k : Int32} {K : Nat} (hk : k.toInt = (K : Int)) (hK : N ≤ K) (hN : N < 81) (hK1 : K ≤ 200) {ci : Nat} {C : String} {T9 : u_T} {N9 : Nat} (hc : kcl[ci]? = some (C, T9, N9)) (hca : Cond.castable C "java/lang/Object" ∈ mj_T) (hel : ∀ i, i < N → ∀ b, f i = some b → b < nx ∧ ∃ fs, M b = some (.inr (ci, fs))) : mj_Met g l kY_Arrays_copyOf_2 (d + 1) [.ref e, .int k, .ref 8] M nx 1 K (mj_E1 (some (.ref nx)) (mj_up M nx (mj_ro K (va_cpy f (fun _ => none) 0 0 N))) (nx + 1)) := by
  have hk0 : ¬ k < 0 := by rw [Int32.lt_iff_toInt_lt, mz_0]; omega
  have hkK := mz_clampI hk
  have hNi : (nI N).toInt = (N : Int) := nI_toInt (by omega)
  have hne : e ≠ nx := Nat.ne_of_lt he
  refine mj_enter (by decide) (Nat.le_of_ble_eq_true rfl) ?_
  refine mv_aload_n d_Arrays_copyOf_2_0 rfl rfl ?_
  refine mv_ldcM d_Arrays_copyOf_2_1 (mj_in1 (List.mem_of_getElem? (i := 608) (by decide +kernel)) rfl) ?_
  refine mv_acmp_ne_f (r := some 8) (tgt := 13) d_Arrays_copyOf_2_3 (by decide) ?_
  refine mv_iload_n d_Arrays_copyOf_2_6 rfl rfl ?_
  refine mv_newq (N := K) (kc' := 0) (ks' := 0) d_Arrays_copyOf_2_7 (mj_in1 (List.mem_of_getElem? (i := 610) (by decide +kernel)) rfl) hk0 hkK (by omega) (Nat.le_refl _) (by omega) ?_
  refine mv_goto (tgt := 24) d_Arrays_copyOf_2_10 (by decide) ?_
  refine mv_astore_n (lv' := [(3, .ref nx), (0, .ref e), (1, .int k), (2, .ref 8)]) d_Arrays_copyOf_2_24 rfl (by decide) rfl ?_
  refine mv_aload_n d_Arrays_copyOf_2_25 rfl rfl ?_
  refine mv_iconst (v := 0) d_Arrays_copyOf_2_26 (by decide) ?_
  refine mv_aload_n d_Arrays_copyOf_2_27 rfl rfl ?_
  refine mv_iconst (v := 0) d_Arrays_copyOf_2_28 (by decide) ?_
  refine mv_aload_n d_Arrays_copyOf_2_29 rfl rfl ?_
  refine mv_alen (v := nI N) d_Arrays_copyOf_2_30 ((mj_up_ne M _ hne).trans hM) (by decide) rfl ?_
  refine mv_iload_n d_Arrays_copyOf_2_31 rfl rfl ?_
  refine mv_mmin (v := nI N) d_Arrays_copyOf_2_32 (mj_in1 (List.mem_of_getElem? (i := 540) (by decide +kernel)) rfl) (Nat.le_of_ble_eq_true rfl) (if_neg (by rw [Int32.lt_iff_toInt_lt]; omega)) ?_
  refine mv_copyq (n0 := N) (n1 := K) (f := f) (h := fun _ => none) d_Arrays_copyOf_2_35 (mj_in1 (List.mem_of_getElem? (i := 541) (by decide +kernel)) rfl) ((mj_up_ne M _ hne).trans hM) (mj_up_self _ _ _) hc hca (by rw [Int32.lt_iff_toInt_lt, mz_0]; omega) (by rw [mz_clampI hNi]; exact Nat.le_refl _) (by rw [mz_clampI hNi]; exact hK) (fun i hi b hb => ?_) (Nat.le_of_ble_eq_true rfl) ?_
  · rw [mz_clampI hNi] at hi
    obtain ⟨h1, fs, h2⟩ := hel i hi b hb
    exact ⟨fs, (mj_up_ne M _ (Nat.ne_of_lt h1)).trans h2⟩
  refine mv_aload_n d_Arrays_copyOf_2_38 rfl rfl ?_
  rw [mz_clampI hNi, mj_up_up]
  exact mv_aret (r := some nx) d_Arrays_copyOf_2_39 rfl (by first | exact Or.inl ⟨_, rfl⟩ | exact Or.inr ⟨_, rfl⟩) ⟨rfl, rfl, rfl⟩
theorem tc_AL_c2 {g : mj_G} {l : Launch} {d nx : Nat} {M : mj_M} {e N : Nat} {f : Nat → Option Nat} (hM : M e = some (mj_ro N f)) (he : e < nx) {k : Int32} {K : Nat} (hk : k.toInt = (K : Int)) (hK : N ≤ K) (hN : N < 81) (hK1 : K ≤ 200) {ci : Nat} {C : String} {T9 : u_T} {N9 : Nat} (hc : kcl[ci]? = some (C, T9, N9)) (hca : Cond.castable C "java/lang/Object" ∈ mj_T) (hel : ∀ i, i < N → ∀ b, f i = some b → b < nx ∧ ∃ fs, M b = some (.inr (ci, fs))) : mj_Met g l kY_Arrays_copyOf_1 (d + 2) [.ref e, .int k] M nx 1 K (mj_E1 (some (.ref nx)) (mj_up M nx (mj_ro K (va_cpy f (fun _ => none) 0 0 N))) (nx + 1)) := by
  refine mj_enter (by decide) (Nat.le_of_ble_eq_true rfl) ?_
  refine mv_aload_n d_Arrays_copyOf_1_0 rfl rfl ?_
  refine mv_iload_n d_Arrays_copyOf_1_1 rfl rfl ?_
  refine mv_aload_n d_Arrays_copyOf_1_2 rfl rfl ?_
  refine mv_getC d_Arrays_copyOf_1_3 (mj_in1 (List.mem_of_getElem? (i := 586) (by decide +kernel)) rfl) hM (Nat.le_of_ble_eq_true rfl) ?_
  refine mv_callS_s (kc' := 0) (ks' := 0) [.ref e, .int k, .ref 8] [.ref 8, .int k, .ref e] d_Arrays_copyOf_1_6 lS_Arrays_300 (tc_AL_c3 (d := d) hM he hk hK hN hK1 hc hca hel) rfl (Nat.le_of_ble_eq_true rfl) (Nat.le_refl _) (by omega) rfl ?_
  exact mv_aret (r := some nx) d_Arrays_copyOf_1_9 rfl (by first | exact Or.inl ⟨_, rfl⟩ | exact Or.inr ⟨_, rfl⟩) ⟨rfl, rfl, rfl⟩
theorem tc_AL_g1r {g : mj_G} {l : Launch} {d nx : Nat} {M : mj_M} {a e N : Nat} {m n : Int32} {f : Nat → Option Nat} (hL : M a = some (mj_li m e n)) (hM : M e = some (mj_ro N f)) (he : e < nx) (ha : a < nx) (hN : N < 81) (hN1 : 1 ≤ N) {k : Int32} (hk : k - nI N = 1) {ci : Nat} {C : String} {T9 : u_T} {N9 : Nat} (hc : kcl[ci]? = some (C, T9, N9)) (hca : Cond.castable C "java/lang/Object" ∈ mj_T) (hel : ∀ i, i < N → ∀ b, f i = some b → b < nx ∧ ∃ fs, M b = some (.inr (ci, fs))) : mj_Met g l kY_ArrayList_grow_1 (d + 3) [.ref a, .int k] M nx 1 (mj_gl N).toNatClampNeg (mj_E1 (some (.ref nx)) (mj_up (mj_up M nx (mj_ro (mj_gl N).toNatClampNeg (va_cpy f (fun _ => none) 0 0 N))) a (mj_li m nx n)) (nx + 1)) := by
  obtain ⟨g1, g2, g3, g4⟩ := mj_gl_ok N hN hN1
  have hNi : (nI N).toInt = (N : Int) := nI_toInt (by omega)
  have hg := mz_nat9 (i := mj_gl N) (by omega)
  refine mj_enter (by decide) (Nat.le_of_ble_eq_true rfl) ?_
  refine mv_aload_n d_ArrayList_grow_1_0 rfl rfl ?_
  refine mv_get d_ArrayList_grow_1_1 f_ArrayList_9_0 hL rfl ?_
  refine mv_alen (v := nI N) d_ArrayList_grow_1_4 hM (by decide) rfl ?_
  refine mv_istore_n (lv' := [(2, .int (nI N)), (0, .ref a), (1, .int k)]) d_ArrayList_grow_1_5 rfl (by decide) rfl ?_
  refine mv_iload_n d_ArrayList_grow_1_6 rfl rfl ?_
  refine mv_if_gtZ (tgt := 20) (a := (nI N).toInt) d_ArrayList_grow_1_7 (by decide) rfl (fun _ => ?_) (fun h => absurd h (by omega))
  refine mv_iload_n d_ArrayList_grow_1_20 rfl rfl ?_
  refine mv_iload_n d_ArrayList_grow_1_21 rfl rfl ?_
  refine mv_iload_n d_ArrayList_grow_1_22 rfl rfl ?_
  refine mv_isubv (v := 1) d_ArrayList_grow_1_23 hk ?_
  refine mv_iload_n d_ArrayList_grow_1_24 rfl rfl ?_
  refine mv_iconst (v := 1) d_ArrayList_grow_1_25 (by decide) ?_
  refine mv_ishr d_ArrayList_grow_1_26 ?_
  refine mv_callS_s (kc' := 1) (ks' := (mj_gl N).toNatClampNeg) [.int (nI N), .int 1, .int (nI N >>> ((1 : Int32) &&& 31))] [.int (nI N >>> ((1 : Int32) &&& 31)), .int 1, .int (nI N)] d_ArrayList_grow_1_27 lS_ArrayList_73 (tc_AL_nl (d := d + 1) hN hN1) rfl (Nat.le_of_ble_eq_true rfl) (Nat.le_refl _) (Nat.le_refl _) rfl ?_
  refine mv_istore_n (lv' := [(3, .int (mj_gl N)), (2, .int (nI N)), (0, .ref a), (1, .int k)]) d_ArrayList_grow_1_30 rfl (by decide) rfl ?_
  refine mv_aload_n d_ArrayList_grow_1_31 rfl rfl ?_
  refine mv_aload_n d_ArrayList_grow_1_32 rfl rfl ?_
  refine mv_get d_ArrayList_grow_1_33 f_ArrayList_9_0 hL rfl ?_
  refine mv_iload_n d_ArrayList_grow_1_36 rfl rfl ?_
  refine mv_callS_s (kc' := 0) (ks' := 0) [.ref e, .int (mj_gl N)] [.int (mj_gl N), .ref e, .ref a] d_ArrayList_grow_1_37 lS_ArrayList_66 (tc_AL_c2 (d := d) (K := (mj_gl N).toNatClampNeg) hM he hg.symm (by omega) hN (by omega) hc hca hel) rfl (Nat.le_of_ble_eq_true rfl) (Nat.le_refl _) (by omega) rfl ?_
  refine mv_dup_x1 d_ArrayList_grow_1_40 rfl rfl ?_
  refine mv_put (fs' := [.int m, .ref nx, .int n]) d_ArrayList_grow_1_41 p_ArrayList_9_0 ((mj_up_ne M _ (Nat.ne_of_lt ha)).trans hL) (Nat.le_of_ble_eq_true rfl) rfl rfl rfl ?_
  exact mv_aret (r := some nx) d_ArrayList_grow_1_44 rfl (by first | exact Or.inl ⟨_, rfl⟩ | exact Or.inr ⟨_, rfl⟩) ⟨rfl, rfl, rfl⟩
theorem tc_AL_g1z {g : mj_G} {l : Launch} {d nx : Nat} {M : mj_M} {a : Nat} {m n : Int32} (hL : M a = some (mj_li m 0 n)) (ha : a < nx) : mj_Met g l kY_ArrayList_grow_1 (d + 1) [.ref a, .int 1] M nx 1 10 (mj_E1 (some (.ref nx)) (mj_up (mj_up M nx (mj_ro 10 (fun _ => none))) a (mj_li m nx n)) (nx + 1)) := by
  refine mj_enter (by decide) (Nat.le_of_ble_eq_true rfl) ?_
  refine mv_aload_n d_ArrayList_grow_1_0 rfl rfl ?_
  refine mv_get d_ArrayList_grow_1_1 f_ArrayList_9_0 hL rfl ?_
  refine mv_alen0 d_ArrayList_grow_1_4 ?_
  refine mv_istore_n (lv' := [(2, .int 0), (0, .ref a), (1, .int 1)]) d_ArrayList_grow_1_5 rfl (by decide) rfl ?_
  refine mv_iload_n d_ArrayList_grow_1_6 rfl rfl ?_
  refine mv_if_gtZ (tgt := 20) (a := 0) d_ArrayList_grow_1_7 (by decide) (by decide) (fun h => absurd h (by decide)) (fun _ => ?_)
  refine mv_aload_n d_ArrayList_grow_1_10 rfl rfl ?_
  refine mv_get d_ArrayList_grow_1_11 f_ArrayList_9_0 hL rfl ?_
  refine mv_getsD d_ArrayList_grow_1_14 (mj_in1 (List.mem_of_getElem? (i := 223) (by decide +kernel)) rfl) ?_
  refine mv_acmp_eq_t (r := some 0) (tgt := 45) d_ArrayList_grow_1_17 (by decide) ?_
  refine mv_aload_n d_ArrayList_grow_1_45 rfl rfl ?_
  refine mv_bipush (v := 10) d_ArrayList_grow_1_46 (by decide) ?_
  refine mv_iload_n d_ArrayList_grow_1_48 rfl rfl ?_
  refine mv_mmax (v := 10) d_ArrayList_grow_1_49 (mj_in1 (List.mem_of_getElem? (i := 611) (by decide +kernel)) rfl) (Nat.le_of_ble_eq_true rfl) (by decide) ?_
  refine mv_newq (N := 10) (kc' := 0) (ks' := 0) d_ArrayList_grow_1_52 (mj_in1 (List.mem_of_getElem? (i := 612) (by decide +kernel)) rfl) (by decide) (by decide) (by decide) (by decide) (by decide) ?_
  refine mv_dup_x1 d_ArrayList_grow_1_55 rfl rfl ?_
  refine mv_put (fs' := [.int m, .ref nx, .int n]) d_ArrayList_grow_1_56 p_ArrayList_9_0 ((mj_up_ne M _ (Nat.ne_of_lt ha)).trans hL) (Nat.le_of_ble_eq_true rfl) rfl rfl rfl ?_
  exact mv_aret (r := some nx) d_ArrayList_grow_1_59 rfl (by first | exact Or.inl ⟨_, rfl⟩ | exact Or.inr ⟨_, rfl⟩) ⟨rfl, rfl, rfl⟩
theorem tc_AL_g0r {g : mj_G} {l : Launch} {d nx : Nat} {M : mj_M} {a : Nat} {m : Int32} {e N : Nat} {f : Nat → Option Nat} (hL : M a = some (mj_li m e (nI N))) (hM : M e = some (mj_ro N f)) (he : e < nx) (ha : a < nx) (hN : N < 81) (hN1 : 1 ≤ N) {ci : Nat} {C : String} {T9 : u_T} {N9 : Nat} (hc : kcl[ci]? = some (C, T9, N9)) (hca : Cond.castable C "java/lang/Object" ∈ mj_T) (hel : ∀ i, i < N → ∀ b, f i = some b → b < nx ∧ ∃ fs, M b = some (.inr (ci, fs))) : mj_Met g l kY_ArrayList_grow_0 (d + 4) [.ref a] M nx 1 (mj_gl N).toNatClampNeg (mj_E1 (some (.ref nx)) (mj_up (mj_up M nx (mj_ro (mj_gl N).toNatClampNeg (va_cpy f (fun _ => none) 0 0 N))) a (mj_li m nx (nI N))) (nx + 1)) := by
  refine mj_enter (by decide) (Nat.le_of_ble_eq_true rfl) ?_
  refine mv_aload_n d_ArrayList_grow_0_0 rfl rfl ?_
  refine mv_aload_n d_ArrayList_grow_0_1 rfl rfl ?_
  refine mv_get d_ArrayList_grow_0_2 f_ArrayList_48_0 hL rfl ?_
  refine mv_iconst (v := 1) d_ArrayList_grow_0_5 (by decide) ?_
  refine mv_iadd d_ArrayList_grow_0_6 ?_
  refine mv_callV_s (kc' := 0) (ks' := 0) [.int (nI N + 1)] [.int (nI N + 1), .ref a] d_ArrayList_grow_0_7 lV_ArrayList_69 hL rfl (tc_AL_g1r (d := d) hL hM he ha hN hN1 (mj_gl_1 N hN) hc hca hel) rfl (Nat.le_of_ble_eq_true rfl) (Nat.le_refl _) (by omega) rfl ?_
  exact mv_aret (r := some nx) d_ArrayList_grow_0_10 rfl (by first | exact Or.inl ⟨_, rfl⟩ | exact Or.inr ⟨_, rfl⟩) ⟨rfl, rfl, rfl⟩
theorem tc_AL_g0z {g : mj_G} {l : Launch} {d nx : Nat} {M : mj_M} {a : Nat} {m : Int32} (hL : M a = some (mj_li m 0 0)) (ha : a < nx) : mj_Met g l kY_ArrayList_grow_0 (d + 2) [.ref a] M nx 1 10 (mj_E1 (some (.ref nx)) (mj_up (mj_up M nx (mj_ro 10 (fun _ => none))) a (mj_li m nx 0)) (nx + 1)) := by
  refine mj_enter (by decide) (Nat.le_of_ble_eq_true rfl) ?_
  refine mv_aload_n d_ArrayList_grow_0_0 rfl rfl ?_
  refine mv_aload_n d_ArrayList_grow_0_1 rfl rfl ?_
  refine mv_get d_ArrayList_grow_0_2 f_ArrayList_48_0 hL rfl ?_
  refine mv_iconst (v := 1) d_ArrayList_grow_0_5 (by decide) ?_
  refine mv_iaddv (v := 1) d_ArrayList_grow_0_6 (by decide) ?_
  refine mv_callV_s (kc' := 0) (ks' := 0) [.int 1] [.int 1, .ref a] d_ArrayList_grow_0_7 lV_ArrayList_69 hL rfl (tc_AL_g1z (d := d) hL ha) rfl (Nat.le_of_ble_eq_true rfl) (Nat.le_refl _) (by omega) rfl ?_
  exact mv_aret (r := some nx) d_ArrayList_grow_0_10 rfl (by first | exact Or.inl ⟨_, rfl⟩ | exact Or.inr ⟨_, rfl⟩) ⟨rfl, rfl, rfl⟩
theorem tc_AL_a3r {g : mj_G} {l : Launch} {d nx : Nat} {M : mj_M} {a b e N : Nat} {m n : Int32} {f : Nat → Option Nat} (hL : M a = some (mj_li m e n)) (hM : M e = some (mj_ro N f)) (h0 : 0 ≤ n.toInt) (hn : n.toInt < (N : Int)) (hN : N < 200) {ci : Nat} {C : String} {T9 : u_T} {N9 : Nat} (hc : kcl[ci]? = some (C, T9, N9)) (hca : Cond.castable C "java/lang/Object" ∈ mj_T) {vs : List Value} (hb : M b = some (.inr (ci, vs))) : mj_Met g l kY_ArrayList_add_1 d [.ref a, .ref b, .ref e, .int n] M nx 0 0 (mj_E1 none (mj_up (mj_up M e (mj_ro N (va_up f n.toNatClampNeg (some b)))) a (mj_li m e (n + 1))) nx) := by
  have hNi : (nI N).toInt = (N : Int) := nI_toInt (by omega)
  have hea : a ≠ e := fun h => by subst h; cases hL.symm.trans hM
  refine mj_enter (by decide) (Nat.le_of_ble_eq_true rfl) ?_
  refine mv_iload_n d_ArrayList_add_1_0 rfl rfl ?_
  refine mv_aload_n d_ArrayList_add_1_1 rfl rfl ?_
  refine mv_alen (v := nI N) d_ArrayList_add_1_2 hM (by decide) rfl ?_
  refine mv_icmp_neZ (tgt := 11) (a := n.toInt) (b := (nI N).toInt) d_ArrayList_add_1_3 (by decide) rfl rfl (fun _ => ?_) (fun h => absurd h (by omega))
  refine mv_aload_n d_ArrayList_add_1_11 rfl rfl ?_
  refine mv_iload_n d_ArrayList_add_1_12 rfl rfl ?_
  refine mv_aload_n d_ArrayList_add_1_13 rfl rfl ?_
  refine mv_aast (f' := (va_up f n.toNatClampNeg (some b))) d_ArrayList_add_1_14 hM (vp_in_iff.mpr (by omega)) hb hc hca rfl ?_
  refine mv_aload_n d_ArrayList_add_1_15 rfl rfl ?_
  refine mv_iload_n d_ArrayList_add_1_16 rfl rfl ?_
  refine mv_iconst (v := 1) d_ArrayList_add_1_17 (by decide) ?_
  refine mv_iaddv (v := (n + 1)) d_ArrayList_add_1_18 rfl ?_
  refine mv_put (fs' := [.int m, .ref e, .int (n + 1)]) d_ArrayList_add_1_19 p_ArrayList_48_0 ((mj_up_ne _ _ hea).trans hL) (Nat.le_of_ble_eq_true rfl) rfl rfl rfl ?_
  exact mv_vret d_ArrayList_add_1_22 rfl ⟨rfl, rfl, rfl⟩
theorem tc_AL_a3g {g : mj_G} {l : Launch} {d nx : Nat} {M : mj_M} {a b e N : Nat} {m : Int32} {f : Nat → Option Nat} (hL : M a = some (mj_li m e (nI N))) (hM : M e = some (mj_ro N f)) (he : e < nx) (ha : a < nx) (hbx : b < nx) (hN : N < 81) (hN1 : 1 ≤ N) {ci : Nat} {C : String} {T9 : u_T} {N9 : Nat} (hc : kcl[ci]? = some (C, T9, N9)) (hca : Cond.castable C "java/lang/Object" ∈ mj_T) {vs : List Value} (hb : M b = some (.inr (ci, vs))) (hci0 : ci ≠ 0) (hel : ∀ i, i < N → ∀ b, f i = some b → b < nx ∧ ∃ fs, M b = some (.inr (ci, fs))) : mj_Met g l kY_ArrayList_add_1 (d + 5) [.ref a, .ref b, .ref e, .int (nI N)] M nx 1 (mj_gl N).toNatClampNeg (mj_E1 none (mj_up (mj_up (mj_up (mj_up M nx (mj_ro (mj_gl N).toNatClampNeg (va_cpy f (fun _ => none) 0 0 N))) a (mj_li m nx (nI N))) nx (mj_ro (mj_gl N).toNatClampNeg (va_up (va_cpy f (fun _ => none) 0 0 N) N (some b)))) a (mj_li m nx (nI N + 1))) (nx + 1)) := by
  obtain ⟨g1, g2, g3, g4⟩ := mj_gl_ok N hN hN1
  have hNi : (nI N).toInt = (N : Int) := nI_toInt (by omega)
  have hg := mz_nat9 (i := mj_gl N) (by omega)
  have hNn := mz_clampI hNi
  refine mj_enter (by decide) (Nat.le_of_ble_eq_true rfl) ?_
  refine mv_iload_n d_ArrayList_add_1_0 rfl rfl ?_
  refine mv_aload_n d_ArrayList_add_1_1 rfl rfl ?_
  refine mv_alen (v := nI N) d_ArrayList_add_1_2 hM (by decide) rfl ?_
  refine mv_icmp_neZ (tgt := 11) (a := (nI N).toInt) (b := (nI N).toInt) d_ArrayList_add_1_3 (by decide) rfl rfl (fun h => absurd rfl h) (fun _ => ?_)
  refine mv_aload_n d_ArrayList_add_1_6 rfl rfl ?_
  refine mv_callV_s (kc' := 0) (ks' := 0) [] [.ref a] d_ArrayList_add_1_7 lV_ArrayList_129 hL rfl (tc_AL_g0r (d := d) hL hM he ha hN hN1 hc hca hel) rfl (Nat.le_of_ble_eq_true rfl) (Nat.le_refl _) (by omega) rfl ?_
  refine mv_astore_n (lv' := [(2, .ref nx), (0, .ref a), (1, .ref b), (3, .int (nI N))]) d_ArrayList_add_1_10 rfl (by decide) rfl ?_
  have hax : nx ≠ a := Ne.symm (Nat.ne_of_lt ha)
  refine mv_aload_n d_ArrayList_add_1_11 rfl rfl ?_
  refine mv_iload_n d_ArrayList_add_1_12 rfl rfl ?_
  refine mv_aload_n d_ArrayList_add_1_13 rfl rfl ?_
  by_cases hba : b = a
  · subst hba
    cases hL.symm.trans hb
    exact absurd rfl hci0
  refine mv_aast (f' := (va_up (va_cpy f (fun _ => none) 0 0 N) N (some b))) d_ArrayList_add_1_14 ((mj_up_ne _ _ hax).trans (mj_up_self _ _ _)) (vp_in_iff.mpr (by omega)) ((mj_up_ne _ _ hba).trans ((mj_up_ne _ _ (Nat.ne_of_lt hbx)).trans hb)) hc hca (by rw [hNn]) ?_
  refine mv_aload_n d_ArrayList_add_1_15 rfl rfl ?_
  refine mv_iload_n d_ArrayList_add_1_16 rfl rfl ?_
  refine mv_iconst (v := 1) d_ArrayList_add_1_17 (by decide) ?_
  refine mv_iaddv (v := (nI N + 1)) d_ArrayList_add_1_18 rfl ?_
  refine mv_put (fs' := [.int m, .ref nx, .int (nI N + 1)]) d_ArrayList_add_1_19 p_ArrayList_48_0 ((mj_up_ne _ _ (Ne.symm hax)).trans (mj_up_self _ _ _)) (Nat.le_of_ble_eq_true rfl) rfl rfl rfl ?_
  exact mv_vret d_ArrayList_add_1_22 rfl ⟨rfl, rfl, rfl⟩
theorem tc_AL_a3z {g : mj_G} {l : Launch} {d nx : Nat} {M : mj_M} {a b : Nat} {m : Int32} (hL : M a = some (mj_li m 0 0)) (ha : a < nx) (hbx : b < nx) {ci : Nat} {C : String} {T9 : u_T} {N9 : Nat} (hc : kcl[ci]? = some (C, T9, N9)) (hca : Cond.castable C "java/lang/Object" ∈ mj_T) {vs : List Value} (hb : M b = some (.inr (ci, vs))) (hci0 : ci ≠ 0) : mj_Met g l kY_ArrayList_add_1 (d + 3) [.ref a, .ref b, .ref 0, .int 0] M nx 1 10 (mj_E1 none (mj_up (mj_up (mj_up (mj_up M nx (mj_ro 10 (fun _ => none))) a (mj_li m nx 0)) nx (mj_ro 10 (va_up (fun _ => none) 0 (some b)))) a (mj_li m nx 1)) (nx + 1)) := by
  have hax : nx ≠ a := Ne.symm (Nat.ne_of_lt ha)
  have hba : b ≠ a := fun h => by subst h; cases hL.symm.trans hb; exact hci0 rfl
  refine mj_enter (by decide) (Nat.le_of_ble_eq_true rfl) ?_
  refine mv_iload_n d_ArrayList_add_1_0 rfl rfl ?_
  refine mv_aload_n d_ArrayList_add_1_1 rfl rfl ?_
  refine mv_alen0 d_ArrayList_add_1_2 ?_
  refine mv_icmp_neZ (tgt := 11) (a := 0) (b := 0) d_ArrayList_add_1_3 (by decide) (by decide) (by decide) (fun h => absurd rfl h) (fun _ => ?_)
  refine mv_aload_n d_ArrayList_add_1_6 rfl rfl ?_
  refine mv_callV_s (kc' := 0) (ks' := 0) [] [.ref a] d_ArrayList_add_1_7 lV_ArrayList_129 hL rfl (tc_AL_g0z (d := d) hL ha) rfl (Nat.le_of_ble_eq_true rfl) (Nat.le_refl _) (by omega) rfl ?_
  refine mv_astore_n (lv' := [(2, .ref nx), (0, .ref a), (1, .ref b), (3, .int 0)]) d_ArrayList_add_1_10 rfl (by decide) rfl ?_
  refine mv_aload_n d_ArrayList_add_1_11 rfl rfl ?_
  refine mv_iload_n d_ArrayList_add_1_12 rfl rfl ?_
  refine mv_aload_n d_ArrayList_add_1_13 rfl rfl ?_
  refine mv_aast (f' := (va_up (fun _ => none) 0 (some b))) d_ArrayList_add_1_14 ((mj_up_ne _ _ hax).trans (mj_up_self _ _ _)) (by unfold vp_in; decide) ((mj_up_ne _ _ hba).trans ((mj_up_ne _ _ (Nat.ne_of_lt hbx)).trans hb)) hc hca rfl ?_
  refine mv_aload_n d_ArrayList_add_1_15 rfl rfl ?_
  refine mv_iload_n d_ArrayList_add_1_16 rfl rfl ?_
  refine mv_iconst (v := 1) d_ArrayList_add_1_17 (by decide) ?_
  refine mv_iaddv (v := 1) d_ArrayList_add_1_18 (by decide) ?_
  refine mv_put (fs' := [.int m, .ref nx, .int 1]) d_ArrayList_add_1_19 p_ArrayList_48_0 ((mj_up_ne _ _ (Ne.symm hax)).trans (mj_up_self _ _ _)) (Nat.le_of_ble_eq_true rfl) rfl rfl rfl ?_
  exact mv_vret d_ArrayList_add_1_22 rfl ⟨rfl, rfl, rfl⟩
