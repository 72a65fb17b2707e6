abbrev kY_TrustDesk_init : mj_Y := (⟨"TrustDesk", "<init>", "()V"⟩, prog_1_method_1_code, 1, (Option.none : Option Jvm.ClassFile.FieldType))
theorem d_TrustDesk_init_0 : decode kY_TrustDesk_init.2.1 0 = .ok (.aload_n 0, 1) := by decide +kernel
theorem d_TrustDesk_init_1 : decode kY_TrustDesk_init.2.1 1 = .ok (.invokespecial 1, 3) := by decide +kernel
theorem d_TrustDesk_init_4 : decode kY_TrustDesk_init.2.1 4 = .ok (.aload_n 0, 1) := by decide +kernel
theorem d_TrustDesk_init_5 : decode kY_TrustDesk_init.2.1 5 = .ok (.new 7, 3) := by decide +kernel
theorem kg_5 : ∀ w ∈ u_ws kR_Facts kF_Facts 5, w ∈ mj_T := fun w h => mj_in1 (ki_Facts w h) (List.all_eq_true.mp (show (u_ws kR_Facts kF_Facts 5).all mj_good = true by decide +kernel) w h)
theorem n_TrustDesk_7 : mj_nw "TrustDesk" 7 5 [.null, .null, .null, .null, .int 0] := ⟨kR_Facts, kF_Facts, 5, kt_Facts, rfl, kg_5, kto_Facts, (mj_in1 (List.mem_of_getElem? (i := 39) (by decide +kernel)) rfl), (mj_in1 (List.mem_of_getElem? (i := 40) (by decide +kernel)) rfl), (mj_in1 (List.mem_of_getElem? (i := 2) (by decide +kernel)) rfl), by decide +kernel, rfl, fun _ => rfl⟩
theorem d_TrustDesk_init_8 : decode kY_TrustDesk_init.2.1 8 = .ok (.dup, 1) := by decide +kernel
theorem d_TrustDesk_init_9 : decode kY_TrustDesk_init.2.1 9 = .ok (.invokespecial 9, 3) := by decide +kernel
abbrev kY_Facts_init : mj_Y := (⟨"TrustDesk$Facts", "<init>", "()V"⟩, prog_6_method_1_code, 1, (Option.none : Option Jvm.ClassFile.FieldType))
theorem lI_TrustDesk_9 : mj_lI "TrustDesk" 9 kY_Facts_init 0 := ⟨⟨(mj_in1 (List.mem_of_getElem? (i := 41) (by decide +kernel)) rfl), (mj_in1 (List.mem_of_getElem? (i := 2) (by decide +kernel)) rfl), (mj_in1 (List.mem_of_getElem? (i := 43) (by decide +kernel)) rfl), by decide, rfl, by decide⟩, rfl, (mj_in1 (List.mem_of_getElem? (i := 42) (by decide +kernel)) rfl), rfl⟩
theorem d_Facts_init_0 : decode kY_Facts_init.2.1 0 = .ok (.aload_n 0, 1) := by decide +kernel
theorem d_Facts_init_1 : decode kY_Facts_init.2.1 1 = .ok (.invokespecial 3, 3) := by decide +kernel
theorem d_Facts_init_4 : decode kY_Facts_init.2.1 4 = .ok (.aload_n 0, 1) := by decide +kernel
theorem d_Facts_init_5 : decode kY_Facts_init.2.1 5 = .ok (.sipush 300, 3) := by decide +kernel
theorem d_Facts_init_8 : decode kY_Facts_init.2.1 8 = .ok (.newarray .int, 2) := by decide +kernel
theorem d_Facts_init_10 : decode kY_Facts_init.2.1 10 = .ok (.putfield 9, 3) := by decide +kernel
theorem p_Facts_9_5 : mj_fp "TrustDesk$Facts" 9 5 0 (kt_Facts 0) true := ⟨kR_Facts, kF_Facts, 5, "TrustDesk$Facts", kt_Facts, rfl, kg_5, by decide, (mj_in1 (List.mem_of_getElem? (i := 45) (by decide +kernel)) rfl), Or.inl rfl, kto_Facts, kn_Facts, rfl, rfl, fun _ => rfl⟩
theorem d_Facts_init_13 : decode kY_Facts_init.2.1 13 = .ok (.aload_n 0, 1) := by decide +kernel
theorem d_Facts_init_14 : decode kY_Facts_init.2.1 14 = .ok (.sipush 300, 3) := by decide +kernel
theorem d_Facts_init_17 : decode kY_Facts_init.2.1 17 = .ok (.newarray .int, 2) := by decide +kernel
theorem d_Facts_init_19 : decode kY_Facts_init.2.1 19 = .ok (.putfield 15, 3) := by decide +kernel
theorem p_Facts_15_5 : mj_fp "TrustDesk$Facts" 15 5 1 (kt_Facts 1) true := ⟨kR_Facts, kF_Facts, 5, "TrustDesk$Facts", kt_Facts, rfl, kg_5, by decide, (mj_in1 (List.mem_of_getElem? (i := 46) (by decide +kernel)) rfl), Or.inl rfl, kto_Facts, kn_Facts, rfl, rfl, fun _ => rfl⟩
theorem d_Facts_init_22 : decode kY_Facts_init.2.1 22 = .ok (.aload_n 0, 1) := by decide +kernel
theorem d_Facts_init_23 : decode kY_Facts_init.2.1 23 = .ok (.sipush 300, 3) := by decide +kernel
theorem d_Facts_init_26 : decode kY_Facts_init.2.1 26 = .ok (.newarray .int, 2) := by decide +kernel
theorem d_Facts_init_28 : decode kY_Facts_init.2.1 28 = .ok (.putfield 18, 3) := by decide +kernel
theorem p_Facts_18_5 : mj_fp "TrustDesk$Facts" 18 5 2 (kt_Facts 2) true := ⟨kR_Facts, kF_Facts, 5, "TrustDesk$Facts", kt_Facts, rfl, kg_5, by decide, (mj_in1 (List.mem_of_getElem? (i := 47) (by decide +kernel)) rfl), Or.inl rfl, kto_Facts, kn_Facts, rfl, rfl, fun _ => rfl⟩
theorem d_Facts_init_31 : decode kY_Facts_init.2.1 31 = .ok (.aload_n 0, 1) := by decide +kernel
theorem d_Facts_init_32 : decode kY_Facts_init.2.1 32 = .ok (.sipush 300, 3) := by decide +kernel
theorem d_Facts_init_35 : decode kY_Facts_init.2.1 35 = .ok (.newarray .int, 2) := by decide +kernel
theorem d_Facts_init_37 : decode kY_Facts_init.2.1 37 = .ok (.putfield 21, 3) := by decide +kernel
theorem p_Facts_21_5 : mj_fp "TrustDesk$Facts" 21 5 3 (kt_Facts 3) true := ⟨kR_Facts, kF_Facts, 5, "TrustDesk$Facts", kt_Facts, rfl, kg_5, by decide, (mj_in1 (List.mem_of_getElem? (i := 48) (by decide +kernel)) rfl), Or.inl rfl, kto_Facts, kn_Facts, rfl, rfl, fun _ => rfl⟩
theorem d_Facts_init_40 : decode kY_Facts_init.2.1 40 = .ok (.return_, 1) := by decide +kernel
theorem c_Facts_init_0 {g : mj_G} {l : Launch} {d : Nat} {M : mj_M} (h_65 : M 65 = some (.inr (5, [.null, .null, .null, .null, .int 0]))) : mj_Met g l kY_Facts_init (d + 1) [.ref 65] M 66 4 1200 (mj_E1 none (mj_up (mj_up (mj_up (mj_up (mj_up (mj_up (mj_up (mj_up M 66 (.inl (0, 300, .inl (fun _ => 0)))) 65 (.inr (5, [.ref 66, .null, .null, .null, .int 0]))) 67 (.inl (0, 300, .inl (fun _ => 0)))) 65 (.inr (5, [.ref 66, .ref 67, .null, .null, .int 0]))) 68 (.inl (0, 300, .inl (fun _ => 0)))) 65 (.inr (5, [.ref 66, .ref 67, .ref 68, .null, .int 0]))) 69 (.inl (0, 300, .inl (fun _ => 0)))) 65 (.inr (5, [.ref 66, .ref 67, .ref 68, .ref 69, .int 0]))) 70) := by
  refine mj_enter (by decide) (Nat.le_of_ble_eq_true rfl) ?_
  refine mv_aload_n d_Facts_init_0 rfl rfl ?_
  refine mv_oinit d_Facts_init_1 (mj_in1 (List.mem_of_getElem? (i := 44) (by decide +kernel)) rfl) (by decide) ?_
  refine mv_aload_n d_Facts_init_4 rfl rfl ?_
  refine mv_sipush (v := 300) d_Facts_init_5 (by decide) ?_
  refine mv_newa_int (N := 300) (kc' := 3) (ks' := 900) d_Facts_init_8 (by decide) (by decide) (Nat.le_of_ble_eq_true rfl) (Nat.le_of_ble_eq_true rfl) (Nat.le_of_ble_eq_true rfl) ?_
  refine mv_putF (fs' := [.ref 66, .null, .null, .null, .int 0]) d_Facts_init_10 p_Facts_9_5 rfl ((mj_up_ne _ _ (Nat.ne_of_beq_eq_false rfl)).trans h_65) (by decide) rfl rfl rfl ?_
  refine mv_aload_n d_Facts_init_13 rfl rfl ?_
  refine mv_sipush (v := 300) d_Facts_init_14 (by decide) ?_
  refine mv_newa_int (N := 300) (kc' := 2) (ks' := 600) d_Facts_init_17 (by decide) (by decide) (Nat.le_of_ble_eq_true rfl) (Nat.le_of_ble_eq_true rfl) (Nat.le_of_ble_eq_true rfl) ?_
  refine mv_putF (fs' := [.ref 66, .ref 67, .null, .null, .int 0]) d_Facts_init_19 p_Facts_15_5 rfl ((mj_up_ne _ _ (Nat.ne_of_beq_eq_false rfl)).trans (mj_up_self _ _ _)) (by decide) rfl rfl rfl ?_
  refine mv_aload_n d_Facts_init_22 rfl rfl ?_
  refine mv_sipush (v := 300) d_Facts_init_23 (by decide) ?_
  refine mv_newa_int (N := 300) (kc' := 1) (ks' := 300) d_Facts_init_26 (by decide) (by decide) (Nat.le_of_ble_eq_true rfl) (Nat.le_of_ble_eq_true rfl) (Nat.le_of_ble_eq_true rfl) ?_
  refine mv_putF (fs' := [.ref 66, .ref 67, .ref 68, .null, .int 0]) d_Facts_init_28 p_Facts_18_5 rfl ((mj_up_ne _ _ (Nat.ne_of_beq_eq_false rfl)).trans (mj_up_self _ _ _)) (by decide) rfl rfl rfl ?_
  refine mv_aload_n d_Facts_init_31 rfl rfl ?_
  refine mv_sipush (v := 300) d_Facts_init_32 (by decide) ?_
  refine mv_newa_int (N := 300) (kc' := 0) (ks' := 0) d_Facts_init_35 (by decide) (by decide) (Nat.le_of_ble_eq_true rfl) (Nat.le_of_ble_eq_true rfl) (Nat.le_of_ble_eq_true rfl) ?_
  refine mv_putF (fs' := [.ref 66, .ref 67, .ref 68, .ref 69, .int 0]) d_Facts_init_37 p_Facts_21_5 rfl ((mj_up_ne _ _ (Nat.ne_of_beq_eq_false rfl)).trans (mj_up_self _ _ _)) (by decide) rfl rfl rfl ?_
  exact mv_vret d_Facts_init_40 rfl ⟨rfl, rfl, rfl⟩
theorem d_TrustDesk_init_12 : decode kY_TrustDesk_init.2.1 12 = .ok (.putfield 10, 3) := by decide +kernel
theorem kg_12 : ∀ w ∈ u_ws kR_TrustDesk kF_TrustDesk 13, w ∈ mj_T := fun w h => mj_in1 (ki_TrustDesk w h) (List.all_eq_true.mp (show (u_ws kR_TrustDesk kF_TrustDesk 13).all mj_good = true by decide +kernel) w h)
theorem p_TrustDesk_10_12 : mj_fp "TrustDesk" 10 12 0 (kt_TrustDesk 0) true := ⟨kR_TrustDesk, kF_TrustDesk, 13, "TrustDesk", kt_TrustDesk, rfl, kg_12, by decide, (mj_in1 (List.mem_of_getElem? (i := 267) (by decide +kernel)) rfl), Or.inl rfl, kto_TrustDesk, kn_TrustDesk, rfl, rfl, fun _ => rfl⟩
theorem d_TrustDesk_init_15 : decode kY_TrustDesk_init.2.1 15 = .ok (.aload_n 0, 1) := by decide +kernel
theorem d_TrustDesk_init_16 : decode kY_TrustDesk_init.2.1 16 = .ok (.new 16, 3) := by decide +kernel
theorem kg_9 : ∀ w ∈ u_ws kR_Reader kF_Reader 19, w ∈ mj_T := fun w h => mj_in1 (ki_Reader w h) (List.all_eq_true.mp (show (u_ws kR_Reader kF_Reader 19).all mj_good = true by decide +kernel) w h)
theorem n_TrustDesk_16 : mj_nw "TrustDesk" 16 9 [.int 0, .int 0, .int 0, .null, .null, .null, .null, .null, .int 0, .int 0, .int 0, .int 0, .int 0, .int 0, .int 0, .int 0, .int 0, .null, .int 0] := ⟨kR_Reader, kF_Reader, 19, kt_Reader, rfl, kg_9, kto_Reader, (mj_in1 (List.mem_of_getElem? (i := 63) (by decide +kernel)) rfl), (mj_in1 (List.mem_of_getElem? (i := 64) (by decide +kernel)) rfl), (mj_in1 (List.mem_of_getElem? (i := 3) (by decide +kernel)) rfl), by decide +kernel, rfl, fun _ => rfl⟩
theorem d_TrustDesk_init_19 : decode kY_TrustDesk_init.2.1 19 = .ok (.dup, 1) := by decide +kernel
theorem d_TrustDesk_init_20 : decode kY_TrustDesk_init.2.1 20 = .ok (.invokespecial 18, 3) := by decide +kernel
abbrev kY_Reader_init : mj_Y := (⟨"TrustDesk$Reader", "<init>", "()V"⟩, prog_10_method_1_code, 1, (Option.none : Option Jvm.ClassFile.FieldType))
theorem lI_TrustDesk_18 : mj_lI "TrustDesk" 18 kY_Reader_init 0 := ⟨⟨(mj_in1 (List.mem_of_getElem? (i := 65) (by decide +kernel)) rfl), (mj_in1 (List.mem_of_getElem? (i := 3) (by decide +kernel)) rfl), (mj_in1 (List.mem_of_getElem? (i := 67) (by decide +kernel)) rfl), by decide, rfl, by decide⟩, rfl, (mj_in1 (List.mem_of_getElem? (i := 66) (by decide +kernel)) rfl), rfl⟩
theorem d_Reader_init_0 : decode kY_Reader_init.2.1 0 = .ok (.aload_n 0, 1) := by decide +kernel
theorem d_Reader_init_1 : decode kY_Reader_init.2.1 1 = .ok (.invokespecial 5, 3) := by decide +kernel
theorem d_Reader_init_4 : decode kY_Reader_init.2.1 4 = .ok (.aload_n 0, 1) := by decide +kernel
theorem d_Reader_init_5 : decode kY_Reader_init.2.1 5 = .ok (.iconst (-1), 1) := by decide +kernel
theorem d_Reader_init_6 : decode kY_Reader_init.2.1 6 = .ok (.putfield 11, 3) := by decide +kernel
theorem p_Reader_11_9 : mj_fp "TrustDesk$Reader" 11 9 2 (kt_Reader 2) false := ⟨kR_Reader, kF_Reader, 19, "TrustDesk$Reader", kt_Reader, rfl, kg_9, by decide, (mj_in1 (List.mem_of_getElem? (i := 73) (by decide +kernel)) rfl), Or.inl rfl, kto_Reader, kn_Reader, rfl, rfl, fun h => by cases h⟩
theorem d_Reader_init_9 : decode kY_Reader_init.2.1 9 = .ok (.aload_n 0, 1) := by decide +kernel
theorem d_Reader_init_10 : decode kY_Reader_init.2.1 10 = .ok (.sipush 400, 3) := by decide +kernel
theorem d_Reader_init_13 : decode kY_Reader_init.2.1 13 = .ok (.newarray .int, 2) := by decide +kernel
theorem d_Reader_init_15 : decode kY_Reader_init.2.1 15 = .ok (.putfield 15, 3) := by decide +kernel
theorem p_Reader_15_9 : mj_fp "TrustDesk$Reader" 15 9 3 (kt_Reader 3) true := ⟨kR_Reader, kF_Reader, 19, "TrustDesk$Reader", kt_Reader, rfl, kg_9, by decide, (mj_in1 (List.mem_of_getElem? (i := 75) (by decide +kernel)) rfl), Or.inl rfl, kto_Reader, kn_Reader, rfl, rfl, fun _ => rfl⟩
theorem d_Reader_init_18 : decode kY_Reader_init.2.1 18 = .ok (.aload_n 0, 1) := by decide +kernel
theorem d_Reader_init_19 : decode kY_Reader_init.2.1 19 = .ok (.sipush 400, 3) := by decide +kernel
theorem d_Reader_init_22 : decode kY_Reader_init.2.1 22 = .ok (.newarray .int, 2) := by decide +kernel
theorem d_Reader_init_24 : decode kY_Reader_init.2.1 24 = .ok (.putfield 19, 3) := by decide +kernel
theorem p_Reader_19_9 : mj_fp "TrustDesk$Reader" 19 9 4 (kt_Reader 4) true := ⟨kR_Reader, kF_Reader, 19, "TrustDesk$Reader", kt_Reader, rfl, kg_9, by decide, (mj_in1 (List.mem_of_getElem? (i := 76) (by decide +kernel)) rfl), Or.inl rfl, kto_Reader, kn_Reader, rfl, rfl, fun _ => rfl⟩
theorem d_Reader_init_27 : decode kY_Reader_init.2.1 27 = .ok (.aload_n 0, 1) := by decide +kernel
theorem d_Reader_init_28 : decode kY_Reader_init.2.1 28 = .ok (.sipush 400, 3) := by decide +kernel
theorem d_Reader_init_31 : decode kY_Reader_init.2.1 31 = .ok (.newarray .int, 2) := by decide +kernel
theorem d_Reader_init_33 : decode kY_Reader_init.2.1 33 = .ok (.putfield 22, 3) := by decide +kernel
theorem p_Reader_22_9 : mj_fp "TrustDesk$Reader" 22 9 5 (kt_Reader 5) true := ⟨kR_Reader, kF_Reader, 19, "TrustDesk$Reader", kt_Reader, rfl, kg_9, by decide, (mj_in1 (List.mem_of_getElem? (i := 77) (by decide +kernel)) rfl), Or.inl rfl, kto_Reader, kn_Reader, rfl, rfl, fun _ => rfl⟩
theorem d_Reader_init_36 : decode kY_Reader_init.2.1 36 = .ok (.aload_n 0, 1) := by decide +kernel
theorem d_Reader_init_37 : decode kY_Reader_init.2.1 37 = .ok (.sipush 400, 3) := by decide +kernel
theorem d_Reader_init_40 : decode kY_Reader_init.2.1 40 = .ok (.newarray .int, 2) := by decide +kernel
theorem d_Reader_init_42 : decode kY_Reader_init.2.1 42 = .ok (.putfield 25, 3) := by decide +kernel
theorem p_Reader_25_9 : mj_fp "TrustDesk$Reader" 25 9 6 (kt_Reader 6) true := ⟨kR_Reader, kF_Reader, 19, "TrustDesk$Reader", kt_Reader, rfl, kg_9, by decide, (mj_in1 (List.mem_of_getElem? (i := 78) (by decide +kernel)) rfl), Or.inl rfl, kto_Reader, kn_Reader, rfl, rfl, fun _ => rfl⟩
theorem d_Reader_init_45 : decode kY_Reader_init.2.1 45 = .ok (.aload_n 0, 1) := by decide +kernel
theorem d_Reader_init_46 : decode kY_Reader_init.2.1 46 = .ok (.sipush 400, 3) := by decide +kernel
theorem d_Reader_init_49 : decode kY_Reader_init.2.1 49 = .ok (.newarray .int, 2) := by decide +kernel
theorem d_Reader_init_51 : decode kY_Reader_init.2.1 51 = .ok (.putfield 28, 3) := by decide +kernel
theorem p_Reader_28_9 : mj_fp "TrustDesk$Reader" 28 9 7 (kt_Reader 7) true := ⟨kR_Reader, kF_Reader, 19, "TrustDesk$Reader", kt_Reader, rfl, kg_9, by decide, (mj_in1 (List.mem_of_getElem? (i := 79) (by decide +kernel)) rfl), Or.inl rfl, kto_Reader, kn_Reader, rfl, rfl, fun _ => rfl⟩
theorem d_Reader_init_54 : decode kY_Reader_init.2.1 54 = .ok (.aload_n 0, 1) := by decide +kernel
theorem d_Reader_init_55 : decode kY_Reader_init.2.1 55 = .ok (.sipush 400, 3) := by decide +kernel
theorem d_Reader_init_58 : decode kY_Reader_init.2.1 58 = .ok (.newarray .int, 2) := by decide +kernel
theorem d_Reader_init_60 : decode kY_Reader_init.2.1 60 = .ok (.putfield 31, 3) := by decide +kernel
theorem p_Reader_31_9 : mj_fp "TrustDesk$Reader" 31 9 17 (kt_Reader 17) true := ⟨kR_Reader, kF_Reader, 19, "TrustDesk$Reader", kt_Reader, rfl, kg_9, by decide, (mj_in1 (List.mem_of_getElem? (i := 89) (by decide +kernel)) rfl), Or.inl rfl, kto_Reader, kn_Reader, rfl, rfl, fun _ => rfl⟩
theorem d_Reader_init_63 : decode kY_Reader_init.2.1 63 = .ok (.return_, 1) := by decide +kernel
theorem c_Reader_init_0 {g : mj_G} {l : Launch} {d : Nat} {M : mj_M} (h_70 : M 70 = some (.inr (9, [.int 0, .int 0, .int 0, .null, .null, .null, .null, .null, .int 0, .int 0, .int 0, .int 0, .int 0, .int 0, .int 0, .int 0, .int 0, .null, .int 0]))) : mj_Met g l kY_Reader_init (d + 1) [.ref 70] M 71 6 2400 (mj_E1 none (mj_up (mj_up (mj_up (mj_up (mj_up (mj_up (mj_up (mj_up (mj_up (mj_up (mj_up (mj_up (mj_up M 70 (.inr (9, [.int 0, .int 0, .int (-1), .null, .null, .null, .null, .null, .int 0, .int 0, .int 0, .int 0, .int 0, .int 0, .int 0, .int 0, .int 0, .null, .int 0]))) 71 (.inl (0, 400, .inl (fun _ => 0)))) 70 (.inr (9, [.int 0, .int 0, .int (-1), .ref 71, .null, .null, .null, .null, .int 0, .int 0, .int 0, .int 0, .int 0, .int 0, .int 0, .int 0, .int 0, .null, .int 0]))) 72 (.inl (0, 400, .inl (fun _ => 0)))) 70 (.inr (9, [.int 0, .int 0, .int (-1), .ref 71, .ref 72, .null, .null, .null, .int 0, .int 0, .int 0, .int 0, .int 0, .int 0, .int 0, .int 0, .int 0, .null, .int 0]))) 73 (.inl (0, 400, .inl (fun _ => 0)))) 70 (.inr (9, [.int 0, .int 0, .int (-1), .ref 71, .ref 72, .ref 73, .null, .null, .int 0, .int 0, .int 0, .int 0, .int 0, .int 0, .int 0, .int 0, .int 0, .null, .int 0]))) 74 (.inl (0, 400, .inl (fun _ => 0)))) 70 (.inr (9, [.int 0, .int 0, .int (-1), .ref 71, .ref 72, .ref 73, .ref 74, .null, .int 0, .int 0, .int 0, .int 0, .int 0, .int 0, .int 0, .int 0, .int 0, .null, .int 0]))) 75 (.inl (0, 400, .inl (fun _ => 0)))) 70 (.inr (9, [.int 0, .int 0, .int (-1), .ref 71, .ref 72, .ref 73, .ref 74, .ref 75, .int 0, .int 0, .int 0, .int 0, .int 0, .int 0, .int 0, .int 0, .int 0, .null, .int 0]))) 76 (.inl (0, 400, .inl (fun _ => 0)))) 70 (.inr (9, [.int 0, .int 0, .int (-1), .ref 71, .ref 72, .ref 73, .ref 74, .ref 75, .int 0, .int 0, .int 0, .int 0, .int 0, .int 0, .int 0, .int 0, .int 0, .ref 76, .int 0]))) 77) := by
  refine mj_enter (by decide) (Nat.le_of_ble_eq_true rfl) ?_
  refine mv_aload_n d_Reader_init_0 rfl rfl ?_
  refine mv_oinit d_Reader_init_1 (mj_in1 (List.mem_of_getElem? (i := 68) (by decide +kernel)) rfl) (by decide) ?_
  refine mv_aload_n d_Reader_init_4 rfl rfl ?_
  refine mv_iconst (v := (-1)) d_Reader_init_5 (by decide) ?_
  refine mv_put (fs' := [.int 0, .int 0, .int (-1), .null, .null, .null, .null, .null, .int 0, .int 0, .int 0, .int 0, .int 0, .int 0, .int 0, .int 0, .int 0, .null, .int 0]) d_Reader_init_6 p_Reader_11_9 h_70 (by decide) rfl rfl rfl ?_
  refine mv_aload_n d_Reader_init_9 rfl rfl ?_
  refine mv_sipush (v := 400) d_Reader_init_10 (by decide) ?_
  refine mv_newa_int (N := 400) (kc' := 5) (ks' := 2000) d_Reader_init_13 (by decide) (by decide) (Nat.le_of_ble_eq_true rfl) (Nat.le_of_ble_eq_true rfl) (Nat.le_of_ble_eq_true rfl) ?_
  refine mv_putF (fs' := [.int 0, .int 0, .int (-1), .ref 71, .null, .null, .null, .null, .int 0, .int 0, .int 0, .int 0, .int 0, .int 0, .int 0, .int 0, .int 0, .null, .int 0]) d_Reader_init_15 p_Reader_15_9 rfl ((mj_up_ne _ _ (Nat.ne_of_beq_eq_false rfl)).trans (mj_up_self _ _ _)) (by decide) rfl rfl rfl ?_
  refine mv_aload_n d_Reader_init_18 rfl rfl ?_
  refine mv_sipush (v := 400) d_Reader_init_19 (by decide) ?_
  refine mv_newa_int (N := 400) (kc' := 4) (ks' := 1600) d_Reader_init_22 (by decide) (by decide) (Nat.le_of_ble_eq_true rfl) (Nat.le_of_ble_eq_true rfl) (Nat.le_of_ble_eq_true rfl) ?_
  refine mv_putF (fs' := [.int 0, .int 0, .int (-1), .ref 71, .ref 72, .null, .null, .null, .int 0, .int 0, .int 0, .int 0, .int 0, .int 0, .int 0, .int 0, .int 0, .null, .int 0]) d_Reader_init_24 p_Reader_19_9 rfl ((mj_up_ne _ _ (Nat.ne_of_beq_eq_false rfl)).trans (mj_up_self _ _ _)) (by decide) rfl rfl rfl ?_
  refine mv_aload_n d_Reader_init_27 rfl rfl ?_
  refine mv_sipush (v := 400) d_Reader_init_28 (by decide) ?_
  refine mv_newa_int (N := 400) (kc' := 3) (ks' := 1200) d_Reader_init_31 (by decide) (by decide) (Nat.le_of_ble_eq_true rfl) (Nat.le_of_ble_eq_true rfl) (Nat.le_of_ble_eq_true rfl) ?_
  refine mv_putF (fs' := [.int 0, .int 0, .int (-1), .ref 71, .ref 72, .ref 73, .null, .null, .int 0, .int 0, .int 0, .int 0, .int 0, .int 0, .int 0, .int 0, .int 0, .null, .int 0]) d_Reader_init_33 p_Reader_22_9 rfl ((mj_up_ne _ _ (Nat.ne_of_beq_eq_false rfl)).trans (mj_up_self _ _ _)) (by decide) rfl rfl rfl ?_
  refine mv_aload_n d_Reader_init_36 rfl rfl ?_
  refine mv_sipush (v := 400) d_Reader_init_37 (by decide) ?_
  refine mv_newa_int (N := 400) (kc' := 2) (ks' := 800) d_Reader_init_40 (by decide) (by decide) (Nat.le_of_ble_eq_true rfl) (Nat.le_of_ble_eq_true rfl) (Nat.le_of_ble_eq_true rfl) ?_
  refine mv_putF (fs' := [.int 0, .int 0, .int (-1), .ref 71, .ref 72, .ref 73, .ref 74, .null, .int 0, .int 0, .int 0, .int 0, .int 0, .int 0, .int 0, .int 0, .int 0, .null, .int 0]) d_Reader_init_42 p_Reader_25_9 rfl ((mj_up_ne _ _ (Nat.ne_of_beq_eq_false rfl)).trans (mj_up_self _ _ _)) (by decide) rfl rfl rfl ?_
  refine mv_aload_n d_Reader_init_45 rfl rfl ?_
  refine mv_sipush (v := 400) d_Reader_init_46 (by decide) ?_
  refine mv_newa_int (N := 400) (kc' := 1) (ks' := 400) d_Reader_init_49 (by decide) (by decide) (Nat.le_of_ble_eq_true rfl) (Nat.le_of_ble_eq_true rfl) (Nat.le_of_ble_eq_true rfl) ?_
  refine mv_putF (fs' := [.int 0, .int 0, .int (-1), .ref 71, .ref 72, .ref 73, .ref 74, .ref 75, .int 0, .int 0, .int 0, .int 0, .int 0, .int 0, .int 0, .int 0, .int 0, .null, .int 0]) d_Reader_init_51 p_Reader_28_9 rfl ((mj_up_ne _ _ (Nat.ne_of_beq_eq_false rfl)).trans (mj_up_self _ _ _)) (by decide) rfl rfl rfl ?_
  refine mv_aload_n d_Reader_init_54 rfl rfl ?_
  refine mv_sipush (v := 400) d_Reader_init_55 (by decide) ?_
  refine mv_newa_int (N := 400) (kc' := 0) (ks' := 0) d_Reader_init_58 (by decide) (by decide) (Nat.le_of_ble_eq_true rfl) (Nat.le_of_ble_eq_true rfl) (Nat.le_of_ble_eq_true rfl) ?_
  refine mv_putF (fs' := [.int 0, .int 0, .int (-1), .ref 71, .ref 72, .ref 73, .ref 74, .ref 75, .int 0, .int 0, .int 0, .int 0, .int 0, .int 0, .int 0, .int 0, .int 0, .ref 76, .int 0]) d_Reader_init_60 p_Reader_31_9 rfl ((mj_up_ne _ _ (Nat.ne_of_beq_eq_false rfl)).trans (mj_up_self _ _ _)) (by decide) rfl rfl rfl ?_
  exact mv_vret d_Reader_init_63 rfl ⟨rfl, rfl, rfl⟩
theorem d_TrustDesk_init_23 : decode kY_TrustDesk_init.2.1 23 = .ok (.putfield 19, 3) := by decide +kernel
theorem p_TrustDesk_19_12 : mj_fp "TrustDesk" 19 12 1 (kt_TrustDesk 1) true := ⟨kR_TrustDesk, kF_TrustDesk, 13, "TrustDesk", kt_TrustDesk, rfl, kg_12, by decide, (mj_in1 (List.mem_of_getElem? (i := 268) (by decide +kernel)) rfl), Or.inl rfl, kto_TrustDesk, kn_TrustDesk, rfl, rfl, fun _ => rfl⟩
theorem d_TrustDesk_init_26 : decode kY_TrustDesk_init.2.1 26 = .ok (.aload_n 0, 1) := by decide +kernel
theorem d_TrustDesk_init_27 : decode kY_TrustDesk_init.2.1 27 = .ok (.new 23, 3) := by decide +kernel
theorem kg_10 : ∀ w ∈ u_ws kR_Reckoner kF_Reckoner 5, w ∈ mj_T := fun w h => mj_in1 (ki_Reckoner w h) (List.all_eq_true.mp (show (u_ws kR_Reckoner kF_Reckoner 5).all mj_good = true by decide +kernel) w h)
theorem n_TrustDesk_23 : mj_nw "TrustDesk" 23 10 [.null, .int 0, .null, .int 0, .int 0] := ⟨kR_Reckoner, kF_Reckoner, 5, kt_Reckoner, rfl, kg_10, kto_Reckoner, (mj_in1 (List.mem_of_getElem? (i := 130) (by decide +kernel)) rfl), (mj_in1 (List.mem_of_getElem? (i := 131) (by decide +kernel)) rfl), (mj_in1 (List.mem_of_getElem? (i := 4) (by decide +kernel)) rfl), by decide +kernel, rfl, fun _ => rfl⟩
theorem d_TrustDesk_init_30 : decode kY_TrustDesk_init.2.1 30 = .ok (.dup, 1) := by decide +kernel
theorem d_TrustDesk_init_31 : decode kY_TrustDesk_init.2.1 31 = .ok (.invokespecial 25, 3) := by decide +kernel
abbrev kY_Reckoner_init : mj_Y := (⟨"TrustDesk$Reckoner", "<init>", "()V"⟩, prog_11_method_1_code, 1, (Option.none : Option Jvm.ClassFile.FieldType))
theorem lI_TrustDesk_25 : mj_lI "TrustDesk" 25 kY_Reckoner_init 0 := ⟨⟨(mj_in1 (List.mem_of_getElem? (i := 132) (by decide +kernel)) rfl), (mj_in1 (List.mem_of_getElem? (i := 4) (by decide +kernel)) rfl), (mj_in1 (List.mem_of_getElem? (i := 134) (by decide +kernel)) rfl), by decide, rfl, by decide⟩, rfl, (mj_in1 (List.mem_of_getElem? (i := 133) (by decide +kernel)) rfl), rfl⟩
theorem d_Reckoner_init_0 : decode kY_Reckoner_init.2.1 0 = .ok (.aload_n 0, 1) := by decide +kernel
theorem d_Reckoner_init_1 : decode kY_Reckoner_init.2.1 1 = .ok (.invokespecial 3, 3) := by decide +kernel
theorem d_Reckoner_init_4 : decode kY_Reckoner_init.2.1 4 = .ok (.aload_n 0, 1) := by decide +kernel
theorem d_Reckoner_init_5 : decode kY_Reckoner_init.2.1 5 = .ok (.bipush 13, 2) := by decide +kernel
theorem d_Reckoner_init_7 : decode kY_Reckoner_init.2.1 7 = .ok (.newarray .long, 2) := by decide +kernel
theorem d_Reckoner_init_9 : decode kY_Reckoner_init.2.1 9 = .ok (.putfield 9, 3) := by decide +kernel
theorem p_Reckoner_9_10 : mj_fp "TrustDesk$Reckoner" 9 10 0 (kt_Reckoner 0) true := ⟨kR_Reckoner, kF_Reckoner, 5, "TrustDesk$Reckoner", kt_Reckoner, rfl, kg_10, by decide, (mj_in1 (List.mem_of_getElem? (i := 136) (by decide +kernel)) rfl), Or.inl rfl, kto_Reckoner, kn_Reckoner, rfl, rfl, fun _ => rfl⟩
theorem d_Reckoner_init_12 : decode kY_Reckoner_init.2.1 12 = .ok (.aload_n 0, 1) := by decide +kernel
theorem d_Reckoner_init_13 : decode kY_Reckoner_init.2.1 13 = .ok (.iconst (-1), 1) := by decide +kernel
theorem d_Reckoner_init_14 : decode kY_Reckoner_init.2.1 14 = .ok (.putfield 15, 3) := by decide +kernel
theorem p_Reckoner_15_10 : mj_fp "TrustDesk$Reckoner" 15 10 1 (kt_Reckoner 1) false := ⟨kR_Reckoner, kF_Reckoner, 5, "TrustDesk$Reckoner", kt_Reckoner, rfl, kg_10, by decide, (mj_in1 (List.mem_of_getElem? (i := 138) (by decide +kernel)) rfl), Or.inl rfl, kto_Reckoner, kn_Reckoner, rfl, rfl, fun h => by cases h⟩
theorem d_Reckoner_init_17 : decode kY_Reckoner_init.2.1 17 = .ok (.aload_n 0, 1) := by decide +kernel
theorem d_Reckoner_init_18 : decode kY_Reckoner_init.2.1 18 = .ok (.bipush 64, 2) := by decide +kernel
theorem d_Reckoner_init_20 : decode kY_Reckoner_init.2.1 20 = .ok (.newarray .long, 2) := by decide +kernel
theorem d_Reckoner_init_22 : decode kY_Reckoner_init.2.1 22 = .ok (.putfield 19, 3) := by decide +kernel
theorem p_Reckoner_19_10 : mj_fp "TrustDesk$Reckoner" 19 10 2 (kt_Reckoner 2) true := ⟨kR_Reckoner, kF_Reckoner, 5, "TrustDesk$Reckoner", kt_Reckoner, rfl, kg_10, by decide, (mj_in1 (List.mem_of_getElem? (i := 140) (by decide +kernel)) rfl), Or.inl rfl, kto_Reckoner, kn_Reckoner, rfl, rfl, fun _ => rfl⟩
theorem d_Reckoner_init_25 : decode kY_Reckoner_init.2.1 25 = .ok (.return_, 1) := by decide +kernel
theorem c_Reckoner_init_0 {g : mj_G} {l : Launch} {d : Nat} {M : mj_M} (h_77 : M 77 = some (.inr (10, [.null, .int 0, .null, .int 0, .int 0]))) : mj_Met g l kY_Reckoner_init (d + 1) [.ref 77] M 78 2 77 (mj_E1 none (mj_up (mj_up (mj_up (mj_up (mj_up M 78 (.inl (1, 13, .inr (.inl (fun _ => 0))))) 77 (.inr (10, [.ref 78, .int 0, .null, .int 0, .int 0]))) 77 (.inr (10, [.ref 78, .int (-1), .null, .int 0, .int 0]))) 79 (.inl (1, 64, .inr (.inl (fun _ => 0))))) 77 (.inr (10, [.ref 78, .int (-1), .ref 79, .int 0, .int 0]))) 80) := by
  refine mj_enter (by decide) (Nat.le_of_ble_eq_true rfl) ?_
  refine mv_aload_n d_Reckoner_init_0 rfl rfl ?_
  refine mv_oinit d_Reckoner_init_1 (mj_in1 (List.mem_of_getElem? (i := 135) (by decide +kernel)) rfl) (by decide) ?_
  refine mv_aload_n d_Reckoner_init_4 rfl rfl ?_
  refine mv_bipush (v := 13) d_Reckoner_init_5 (by decide) ?_
  refine mv_newa_long (N := 13) (kc' := 1) (ks' := 64) d_Reckoner_init_7 (by decide) (by decide) (Nat.le_of_ble_eq_true rfl) (Nat.le_of_ble_eq_true rfl) (Nat.le_of_ble_eq_true rfl) ?_
  refine mv_putF (fs' := [.ref 78, .int 0, .null, .int 0, .int 0]) d_Reckoner_init_9 p_Reckoner_9_10 rfl ((mj_up_ne _ _ (Nat.ne_of_beq_eq_false rfl)).trans h_77) (by decide) rfl rfl rfl ?_
  refine mv_aload_n d_Reckoner_init_12 rfl rfl ?_
  refine mv_iconst (v := (-1)) d_Reckoner_init_13 (by decide) ?_
  refine mv_put (fs' := [.ref 78, .int (-1), .null, .int 0, .int 0]) d_Reckoner_init_14 p_Reckoner_15_10 (mj_up_self _ _ _) (by decide) rfl rfl rfl ?_
  refine mv_aload_n d_Reckoner_init_17 rfl rfl ?_
  refine mv_bipush (v := 64) d_Reckoner_init_18 (by decide) ?_
  refine mv_newa_long (N := 64) (kc' := 0) (ks' := 0) d_Reckoner_init_20 (by decide) (by decide) (Nat.le_of_ble_eq_true rfl) (Nat.le_of_ble_eq_true rfl) (Nat.le_of_ble_eq_true rfl) ?_
  refine mv_putF (fs' := [.ref 78, .int (-1), .ref 79, .int 0, .int 0]) d_Reckoner_init_22 p_Reckoner_19_10 rfl ((mj_up_ne _ _ (Nat.ne_of_beq_eq_false rfl)).trans (mj_up_self _ _ _)) (by decide) rfl rfl rfl ?_
  exact mv_vret d_Reckoner_init_25 rfl ⟨rfl, rfl, rfl⟩
theorem d_TrustDesk_init_34 : decode kY_TrustDesk_init.2.1 34 = .ok (.putfield 26, 3) := by decide +kernel
theorem p_TrustDesk_26_12 : mj_fp "TrustDesk" 26 12 2 (kt_TrustDesk 2) true := ⟨kR_TrustDesk, kF_TrustDesk, 13, "TrustDesk", kt_TrustDesk, rfl, kg_12, by decide, (mj_in1 (List.mem_of_getElem? (i := 269) (by decide +kernel)) rfl), Or.inl rfl, kto_TrustDesk, kn_TrustDesk, rfl, rfl, fun _ => rfl⟩
theorem d_TrustDesk_init_37 : decode kY_TrustDesk_init.2.1 37 = .ok (.aload_n 0, 1) := by decide +kernel
theorem d_TrustDesk_init_38 : decode kY_TrustDesk_init.2.1 38 = .ok (.new 30, 3) := by decide +kernel
theorem kg_7 : ∀ w ∈ u_ws kR_Grouping kF_Grouping 14, w ∈ mj_T := fun w h => mj_in1 (ki_Grouping w h) (List.all_eq_true.mp (show (u_ws kR_Grouping kF_Grouping 14).all mj_good = true by decide +kernel) w h)
theorem n_TrustDesk_30 : mj_nw "TrustDesk" 30 7 [.long 0, .int 0, .int 0, .int 0, .null, .null, .null, .null, .null, .null, .null, .null, .null, .long 0] := ⟨kR_Grouping, kF_Grouping, 14, kt_Grouping, rfl, kg_7, kto_Grouping, (mj_in1 (List.mem_of_getElem? (i := 155) (by decide +kernel)) rfl), (mj_in1 (List.mem_of_getElem? (i := 156) (by decide +kernel)) rfl), (mj_in1 (List.mem_of_getElem? (i := 5) (by decide +kernel)) rfl), by decide +kernel, rfl, fun _ => rfl⟩
theorem d_TrustDesk_init_41 : decode kY_TrustDesk_init.2.1 41 = .ok (.dup, 1) := by decide +kernel
theorem d_TrustDesk_init_42 : decode kY_TrustDesk_init.2.1 42 = .ok (.invokespecial 32, 3) := by decide +kernel
abbrev kY_Grouping_init : mj_Y := (⟨"TrustDesk$Grouping", "<init>", "()V"⟩, prog_8_method_1_code, 1, (Option.none : Option Jvm.ClassFile.FieldType))
theorem lI_TrustDesk_32 : mj_lI "TrustDesk" 32 kY_Grouping_init 0 := ⟨⟨(mj_in1 (List.mem_of_getElem? (i := 157) (by decide +kernel)) rfl), (mj_in1 (List.mem_of_getElem? (i := 5) (by decide +kernel)) rfl), (mj_in1 (List.mem_of_getElem? (i := 159) (by decide +kernel)) rfl), by decide, rfl, by decide⟩, rfl, (mj_in1 (List.mem_of_getElem? (i := 158) (by decide +kernel)) rfl), rfl⟩
theorem d_Grouping_init_0 : decode kY_Grouping_init.2.1 0 = .ok (.aload_n 0, 1) := by decide +kernel
theorem d_Grouping_init_1 : decode kY_Grouping_init.2.1 1 = .ok (.invokespecial 3, 3) := by decide +kernel
theorem d_Grouping_init_4 : decode kY_Grouping_init.2.1 4 = .ok (.aload_n 0, 1) := by decide +kernel
theorem d_Grouping_init_5 : decode kY_Grouping_init.2.1 5 = .ok (.bipush 8, 2) := by decide +kernel
theorem d_Grouping_init_7 : decode kY_Grouping_init.2.1 7 = .ok (.newarray .int, 2) := by decide +kernel
theorem d_Grouping_init_9 : decode kY_Grouping_init.2.1 9 = .ok (.putfield 9, 3) := by decide +kernel
theorem p_Grouping_9_7 : mj_fp "TrustDesk$Grouping" 9 7 4 (kt_Grouping 4) true := ⟨kR_Grouping, kF_Grouping, 14, "TrustDesk$Grouping", kt_Grouping, rfl, kg_7, by decide, (mj_in1 (List.mem_of_getElem? (i := 166) (by decide +kernel)) rfl), Or.inl rfl, kto_Grouping, kn_Grouping, rfl, rfl, fun _ => rfl⟩
theorem d_Grouping_init_12 : decode kY_Grouping_init.2.1 12 = .ok (.aload_n 0, 1) := by decide +kernel
theorem d_Grouping_init_13 : decode kY_Grouping_init.2.1 13 = .ok (.bipush 8, 2) := by decide +kernel
theorem d_Grouping_init_15 : decode kY_Grouping_init.2.1 15 = .ok (.newarray .long, 2) := by decide +kernel
theorem d_Grouping_init_17 : decode kY_Grouping_init.2.1 17 = .ok (.putfield 15, 3) := by decide +kernel
theorem p_Grouping_15_7 : mj_fp "TrustDesk$Grouping" 15 7 5 (kt_Grouping 5) true := ⟨kR_Grouping, kF_Grouping, 14, "TrustDesk$Grouping", kt_Grouping, rfl, kg_7, by decide, (mj_in1 (List.mem_of_getElem? (i := 167) (by decide +kernel)) rfl), Or.inl rfl, kto_Grouping, kn_Grouping, rfl, rfl, fun _ => rfl⟩
theorem d_Grouping_init_20 : decode kY_Grouping_init.2.1 20 = .ok (.aload_n 0, 1) := by decide +kernel
theorem d_Grouping_init_21 : decode kY_Grouping_init.2.1 21 = .ok (.bipush 8, 2) := by decide +kernel
theorem d_Grouping_init_23 : decode kY_Grouping_init.2.1 23 = .ok (.newarray .int, 2) := by decide +kernel
theorem d_Grouping_init_25 : decode kY_Grouping_init.2.1 25 = .ok (.putfield 19, 3) := by decide +kernel
theorem p_Grouping_19_7 : mj_fp "TrustDesk$Grouping" 19 7 6 (kt_Grouping 6) true := ⟨kR_Grouping, kF_Grouping, 14, "TrustDesk$Grouping", kt_Grouping, rfl, kg_7, by decide, (mj_in1 (List.mem_of_getElem? (i := 168) (by decide +kernel)) rfl), Or.inl rfl, kto_Grouping, kn_Grouping, rfl, rfl, fun _ => rfl⟩
theorem d_Grouping_init_28 : decode kY_Grouping_init.2.1 28 = .ok (.aload_n 0, 1) := by decide +kernel
theorem d_Grouping_init_29 : decode kY_Grouping_init.2.1 29 = .ok (.bipush 8, 2) := by decide +kernel
theorem d_Grouping_init_31 : decode kY_Grouping_init.2.1 31 = .ok (.newarray .int, 2) := by decide +kernel
theorem d_Grouping_init_33 : decode kY_Grouping_init.2.1 33 = .ok (.putfield 22, 3) := by decide +kernel
theorem p_Grouping_22_7 : mj_fp "TrustDesk$Grouping" 22 7 7 (kt_Grouping 7) true := ⟨kR_Grouping, kF_Grouping, 14, "TrustDesk$Grouping", kt_Grouping, rfl, kg_7, by decide, (mj_in1 (List.mem_of_getElem? (i := 169) (by decide +kernel)) rfl), Or.inl rfl, kto_Grouping, kn_Grouping, rfl, rfl, fun _ => rfl⟩
theorem d_Grouping_init_36 : decode kY_Grouping_init.2.1 36 = .ok (.aload_n 0, 1) := by decide +kernel
theorem d_Grouping_init_37 : decode kY_Grouping_init.2.1 37 = .ok (.bipush 8, 2) := by decide +kernel
theorem d_Grouping_init_39 : decode kY_Grouping_init.2.1 39 = .ok (.newarray .int, 2) := by decide +kernel
theorem d_Grouping_init_41 : decode kY_Grouping_init.2.1 41 = .ok (.putfield 25, 3) := by decide +kernel
theorem p_Grouping_25_7 : mj_fp "TrustDesk$Grouping" 25 7 8 (kt_Grouping 8) true := ⟨kR_Grouping, kF_Grouping, 14, "TrustDesk$Grouping", kt_Grouping, rfl, kg_7, by decide, (mj_in1 (List.mem_of_getElem? (i := 170) (by decide +kernel)) rfl), Or.inl rfl, kto_Grouping, kn_Grouping, rfl, rfl, fun _ => rfl⟩
theorem d_Grouping_init_44 : decode kY_Grouping_init.2.1 44 = .ok (.aload_n 0, 1) := by decide +kernel
theorem d_Grouping_init_45 : decode kY_Grouping_init.2.1 45 = .ok (.bipush 8, 2) := by decide +kernel
theorem d_Grouping_init_47 : decode kY_Grouping_init.2.1 47 = .ok (.newarray .int, 2) := by decide +kernel
theorem d_Grouping_init_49 : decode kY_Grouping_init.2.1 49 = .ok (.putfield 28, 3) := by decide +kernel
theorem p_Grouping_28_7 : mj_fp "TrustDesk$Grouping" 28 7 9 (kt_Grouping 9) true := ⟨kR_Grouping, kF_Grouping, 14, "TrustDesk$Grouping", kt_Grouping, rfl, kg_7, by decide, (mj_in1 (List.mem_of_getElem? (i := 171) (by decide +kernel)) rfl), Or.inl rfl, kto_Grouping, kn_Grouping, rfl, rfl, fun _ => rfl⟩
theorem d_Grouping_init_52 : decode kY_Grouping_init.2.1 52 = .ok (.aload_n 0, 1) := by decide +kernel
theorem d_Grouping_init_53 : decode kY_Grouping_init.2.1 53 = .ok (.bipush 8, 2) := by decide +kernel
theorem d_Grouping_init_55 : decode kY_Grouping_init.2.1 55 = .ok (.newarray .int, 2) := by decide +kernel
theorem d_Grouping_init_57 : decode kY_Grouping_init.2.1 57 = .ok (.putfield 31, 3) := by decide +kernel
theorem p_Grouping_31_7 : mj_fp "TrustDesk$Grouping" 31 7 10 (kt_Grouping 10) true := ⟨kR_Grouping, kF_Grouping, 14, "TrustDesk$Grouping", kt_Grouping, rfl, kg_7, by decide, (mj_in1 (List.mem_of_getElem? (i := 172) (by decide +kernel)) rfl), Or.inl rfl, kto_Grouping, kn_Grouping, rfl, rfl, fun _ => rfl⟩
theorem d_Grouping_init_60 : decode kY_Grouping_init.2.1 60 = .ok (.aload_n 0, 1) := by decide +kernel
theorem d_Grouping_init_61 : decode kY_Grouping_init.2.1 61 = .ok (.bipush 8, 2) := by decide +kernel
theorem d_Grouping_init_63 : decode kY_Grouping_init.2.1 63 = .ok (.newarray .long, 2) := by decide +kernel
theorem d_Grouping_init_65 : decode kY_Grouping_init.2.1 65 = .ok (.putfield 34, 3) := by decide +kernel
theorem p_Grouping_34_7 : mj_fp "TrustDesk$Grouping" 34 7 11 (kt_Grouping 11) true := ⟨kR_Grouping, kF_Grouping, 14, "TrustDesk$Grouping", kt_Grouping, rfl, kg_7, by decide, (mj_in1 (List.mem_of_getElem? (i := 173) (by decide +kernel)) rfl), Or.inl rfl, kto_Grouping, kn_Grouping, rfl, rfl, fun _ => rfl⟩
theorem d_Grouping_init_68 : decode kY_Grouping_init.2.1 68 = .ok (.aload_n 0, 1) := by decide +kernel
theorem d_Grouping_init_69 : decode kY_Grouping_init.2.1 69 = .ok (.bipush 9, 2) := by decide +kernel
theorem d_Grouping_init_71 : decode kY_Grouping_init.2.1 71 = .ok (.newarray .long, 2) := by decide +kernel
theorem d_Grouping_init_73 : decode kY_Grouping_init.2.1 73 = .ok (.putfield 37, 3) := by decide +kernel
theorem p_Grouping_37_7 : mj_fp "TrustDesk$Grouping" 37 7 12 (kt_Grouping 12) true := ⟨kR_Grouping, kF_Grouping, 14, "TrustDesk$Grouping", kt_Grouping, rfl, kg_7, by decide, (mj_in1 (List.mem_of_getElem? (i := 174) (by decide +kernel)) rfl), Or.inl rfl, kto_Grouping, kn_Grouping, rfl, rfl, fun _ => rfl⟩
theorem d_Grouping_init_76 : decode kY_Grouping_init.2.1 76 = .ok (.return_, 1) := by decide +kernel
theorem c_Grouping_init_0 {g : mj_G} {l : Launch} {d : Nat} {M : mj_M} (h_80 : M 80 = some (.inr (7, [.long 0, .int 0, .int 0, .int 0, .null, .null, .null, .null, .null, .null, .null, .null, .null, .long 0]))) : mj_Met g l kY_Grouping_init (d + 1) [.ref 80] M 81 9 73 (mj_E1 none (mj_up (mj_up (mj_up (mj_up (mj_up (mj_up (mj_up (mj_up (mj_up (mj_up (mj_up (mj_up (mj_up (mj_up (mj_up (mj_up (mj_up (mj_up M 81 (.inl (0, 8, .inl (fun _ => 0)))) 80 (.inr (7, [.long 0, .int 0, .int 0, .int 0, .ref 81, .null, .null, .null, .null, .null, .null, .null, .null, .long 0]))) 82 (.inl (1, 8, .inr (.inl (fun _ => 0))))) 80 (.inr (7, [.long 0, .int 0, .int 0, .int 0, .ref 81, .ref 82, .null, .null, .null, .null, .null, .null, .null, .long 0]))) 83 (.inl (0, 8, .inl (fun _ => 0)))) 80 (.inr (7, [.long 0, .int 0, .int 0, .int 0, .ref 81, .ref 82, .ref 83, .null, .null, .null, .null, .null, .null, .long 0]))) 84 (.inl (0, 8, .inl (fun _ => 0)))) 80 (.inr (7, [.long 0, .int 0, .int 0, .int 0, .ref 81, .ref 82, .ref 83, .ref 84, .null, .null, .null, .null, .null, .long 0]))) 85 (.inl (0, 8, .inl (fun _ => 0)))) 80 (.inr (7, [.long 0, .int 0, .int 0, .int 0, .ref 81, .ref 82, .ref 83, .ref 84, .ref 85, .null, .null, .null, .null, .long 0]))) 86 (.inl (0, 8, .inl (fun _ => 0)))) 80 (.inr (7, [.long 0, .int 0, .int 0, .int 0, .ref 81, .ref 82, .ref 83, .ref 84, .ref 85, .ref 86, .null, .null, .null, .long 0]))) 87 (.inl (0, 8, .inl (fun _ => 0)))) 80 (.inr (7, [.long 0, .int 0, .int 0, .int 0, .ref 81, .ref 82, .ref 83, .ref 84, .ref 85, .ref 86, .ref 87, .null, .null, .long 0]))) 88 (.inl (1, 8, .inr (.inl (fun _ => 0))))) 80 (.inr (7, [.long 0, .int 0, .int 0, .int 0, .ref 81, .ref 82, .ref 83, .ref 84, .ref 85, .ref 86, .ref 87, .ref 88, .null, .long 0]))) 89 (.inl (1, 9, .inr (.inl (fun _ => 0))))) 80 (.inr (7, [.long 0, .int 0, .int 0, .int 0, .ref 81, .ref 82, .ref 83, .ref 84, .ref 85, .ref 86, .ref 87, .ref 88, .ref 89, .long 0]))) 90) := by
  refine mj_enter (by decide) (Nat.le_of_ble_eq_true rfl) ?_
  refine mv_aload_n d_Grouping_init_0 rfl rfl ?_
  refine mv_oinit d_Grouping_init_1 (mj_in1 (List.mem_of_getElem? (i := 160) (by decide +kernel)) rfl) (by decide) ?_
  refine mv_aload_n d_Grouping_init_4 rfl rfl ?_
  refine mv_bipush (v := 8) d_Grouping_init_5 (by decide) ?_
  refine mv_newa_int (N := 8) (kc' := 8) (ks' := 65) d_Grouping_init_7 (by decide) (by decide) (Nat.le_of_ble_eq_true rfl) (Nat.le_of_ble_eq_true rfl) (Nat.le_of_ble_eq_true rfl) ?_
  refine mv_putF (fs' := [.long 0, .int 0, .int 0, .int 0, .ref 81, .null, .null, .null, .null, .null, .null, .null, .null, .long 0]) d_Grouping_init_9 p_Grouping_9_7 rfl ((mj_up_ne _ _ (Nat.ne_of_beq_eq_false rfl)).trans h_80) (by decide) rfl rfl rfl ?_
  refine mv_aload_n d_Grouping_init_12 rfl rfl ?_
  refine mv_bipush (v := 8) d_Grouping_init_13 (by decide) ?_
  refine mv_newa_long (N := 8) (kc' := 7) (ks' := 57) d_Grouping_init_15 (by decide) (by decide) (Nat.le_of_ble_eq_true rfl) (Nat.le_of_ble_eq_true rfl) (Nat.le_of_ble_eq_true rfl) ?_
  refine mv_putF (fs' := [.long 0, .int 0, .int 0, .int 0, .ref 81, .ref 82, .null, .null, .null, .null, .null, .null, .null, .long 0]) d_Grouping_init_17 p_Grouping_15_7 rfl ((mj_up_ne _ _ (Nat.ne_of_beq_eq_false rfl)).trans (mj_up_self _ _ _)) (by decide) rfl rfl rfl ?_
  refine mv_aload_n d_Grouping_init_20 rfl rfl ?_
  refine mv_bipush (v := 8) d_Grouping_init_21 (by decide) ?_
  refine mv_newa_int (N := 8) (kc' := 6) (ks' := 49) d_Grouping_init_23 (by decide) (by decide) (Nat.le_of_ble_eq_true rfl) (Nat.le_of_ble_eq_true rfl) (Nat.le_of_ble_eq_true rfl) ?_
  refine mv_putF (fs' := [.long 0, .int 0, .int 0, .int 0, .ref 81, .ref 82, .ref 83, .null, .null, .null, .null, .null, .null, .long 0]) d_Grouping_init_25 p_Grouping_19_7 rfl ((mj_up_ne _ _ (Nat.ne_of_beq_eq_false rfl)).trans (mj_up_self _ _ _)) (by decide) rfl rfl rfl ?_
  refine mv_aload_n d_Grouping_init_28 rfl rfl ?_
  refine mv_bipush (v := 8) d_Grouping_init_29 (by decide) ?_
  refine mv_newa_int (N := 8) (kc' := 5) (ks' := 41) d_Grouping_init_31 (by decide) (by decide) (Nat.le_of_ble_eq_true rfl) (Nat.le_of_ble_eq_true rfl) (Nat.le_of_ble_eq_true rfl) ?_
  refine mv_putF (fs' := [.long 0, .int 0, .int 0, .int 0, .ref 81, .ref 82, .ref 83, .ref 84, .null, .null, .null, .null, .null, .long 0]) d_Grouping_init_33 p_Grouping_22_7 rfl ((mj_up_ne _ _ (Nat.ne_of_beq_eq_false rfl)).trans (mj_up_self _ _ _)) (by decide) rfl rfl rfl ?_
  refine mv_aload_n d_Grouping_init_36 rfl rfl ?_
  refine mv_bipush (v := 8) d_Grouping_init_37 (by decide) ?_
  refine mv_newa_int (N := 8) (kc' := 4) (ks' := 33) d_Grouping_init_39 (by decide) (by decide) (Nat.le_of_ble_eq_true rfl) (Nat.le_of_ble_eq_true rfl) (Nat.le_of_ble_eq_true rfl) ?_
  refine mv_putF (fs' := [.long 0, .int 0, .int 0, .int 0, .ref 81, .ref 82, .ref 83, .ref 84, .ref 85, .null, .null, .null, .null, .long 0]) d_Grouping_init_41 p_Grouping_25_7 rfl ((mj_up_ne _ _ (Nat.ne_of_beq_eq_false rfl)).trans (mj_up_self _ _ _)) (by decide) rfl rfl rfl ?_
  refine mv_aload_n d_Grouping_init_44 rfl rfl ?_
  refine mv_bipush (v := 8) d_Grouping_init_45 (by decide) ?_
  refine mv_newa_int (N := 8) (kc' := 3) (ks' := 25) d_Grouping_init_47 (by decide) (by decide) (Nat.le_of_ble_eq_true rfl) (Nat.le_of_ble_eq_true rfl) (Nat.le_of_ble_eq_true rfl) ?_
  refine mv_putF (fs' := [.long 0, .int 0, .int 0, .int 0, .ref 81, .ref 82, .ref 83, .ref 84, .ref 85, .ref 86, .null, .null, .null, .long 0]) d_Grouping_init_49 p_Grouping_28_7 rfl ((mj_up_ne _ _ (Nat.ne_of_beq_eq_false rfl)).trans (mj_up_self _ _ _)) (by decide) rfl rfl rfl ?_
  refine mv_aload_n d_Grouping_init_52 rfl rfl ?_
  refine mv_bipush (v := 8) d_Grouping_init_53 (by decide) ?_
  refine mv_newa_int (N := 8) (kc' := 2) (ks' := 17) d_Grouping_init_55 (by decide) (by decide) (Nat.le_of_ble_eq_true rfl) (Nat.le_of_ble_eq_true rfl) (Nat.le_of_ble_eq_true rfl) ?_
  refine mv_putF (fs' := [.long 0, .int 0, .int 0, .int 0, .ref 81, .ref 82, .ref 83, .ref 84, .ref 85, .ref 86, .ref 87, .null, .null, .long 0]) d_Grouping_init_57 p_Grouping_31_7 rfl ((mj_up_ne _ _ (Nat.ne_of_beq_eq_false rfl)).trans (mj_up_self _ _ _)) (by decide) rfl rfl rfl ?_
  refine mv_aload_n d_Grouping_init_60 rfl rfl ?_
  refine mv_bipush (v := 8) d_Grouping_init_61 (by decide) ?_
  refine mv_newa_long (N := 8) (kc' := 1) (ks' := 9) d_Grouping_init_63 (by decide) (by decide) (Nat.le_of_ble_eq_true rfl) (Nat.le_of_ble_eq_true rfl) (Nat.le_of_ble_eq_true rfl) ?_
  refine mv_putF (fs' := [.long 0, .int 0, .int 0, .int 0, .ref 81, .ref 82, .ref 83, .ref 84, .ref 85, .ref 86, .ref 87, .ref 88, .null, .long 0]) d_Grouping_init_65 p_Grouping_34_7 rfl ((mj_up_ne _ _ (Nat.ne_of_beq_eq_false rfl)).trans (mj_up_self _ _ _)) (by decide) rfl rfl rfl ?_
  refine mv_aload_n d_Grouping_init_68 rfl rfl ?_
  refine mv_bipush (v := 9) d_Grouping_init_69 (by decide) ?_
  refine mv_newa_long (N := 9) (kc' := 0) (ks' := 0) d_Grouping_init_71 (by decide) (by decide) (Nat.le_of_ble_eq_true rfl) (Nat.le_of_ble_eq_true rfl) (Nat.le_of_ble_eq_true rfl) ?_
  refine mv_putF (fs' := [.long 0, .int 0, .int 0, .int 0, .ref 81, .ref 82, .ref 83, .ref 84, .ref 85, .ref 86, .ref 87, .ref 88, .ref 89, .long 0]) d_Grouping_init_73 p_Grouping_37_7 rfl ((mj_up_ne _ _ (Nat.ne_of_beq_eq_false rfl)).trans (mj_up_self _ _ _)) (by decide) rfl rfl rfl ?_
  exact mv_vret d_Grouping_init_76 rfl ⟨rfl, rfl, rfl⟩
theorem d_TrustDesk_init_45 : decode kY_TrustDesk_init.2.1 45 = .ok (.putfield 33, 3) := by decide +kernel
theorem p_TrustDesk_33_12 : mj_fp "TrustDesk" 33 12 3 (kt_TrustDesk 3) true := ⟨kR_TrustDesk, kF_TrustDesk, 13, "TrustDesk", kt_TrustDesk, rfl, kg_12, by decide, (mj_in1 (List.mem_of_getElem? (i := 270) (by decide +kernel)) rfl), Or.inl rfl, kto_TrustDesk, kn_TrustDesk, rfl, rfl, fun _ => rfl⟩
theorem d_TrustDesk_init_48 : decode kY_TrustDesk_init.2.1 48 = .ok (.aload_n 0, 1) := by decide +kernel
theorem d_TrustDesk_init_49 : decode kY_TrustDesk_init.2.1 49 = .ok (.new 37, 3) := by decide +kernel
theorem kg_1 : ∀ w ∈ u_ws kR_Act kF_Act 5, w ∈ mj_T := fun w h => mj_in1 (ki_Act w h) (List.all_eq_true.mp (show (u_ws kR_Act kF_Act 5).all mj_good = true by decide +kernel) w h)
theorem n_TrustDesk_37 : mj_nw "TrustDesk" 37 1 [.int 0, .int 0, .null, .null, .null] := ⟨kR_Act, kF_Act, 5, kt_Act, rfl, kg_1, kto_Act, (mj_in1 (List.mem_of_getElem? (i := 205) (by decide +kernel)) rfl), (mj_in1 (List.mem_of_getElem? (i := 206) (by decide +kernel)) rfl), (mj_in1 (List.mem_of_getElem? (i := 6) (by decide +kernel)) rfl), by decide +kernel, rfl, fun _ => rfl⟩
theorem d_TrustDesk_init_52 : decode kY_TrustDesk_init.2.1 52 = .ok (.dup, 1) := by decide +kernel
theorem d_TrustDesk_init_53 : decode kY_TrustDesk_init.2.1 53 = .ok (.iconst 0, 1) := by decide +kernel
theorem d_TrustDesk_init_54 : decode kY_TrustDesk_init.2.1 54 = .ok (.invokespecial 39, 3) := by decide +kernel
abbrev kY_Act_init : mj_Y := (⟨"TrustDesk$Act", "<init>", "(I)V"⟩, prog_2_method_1_code, 2, (Option.none : Option Jvm.ClassFile.FieldType))
theorem lI_TrustDesk_39 : mj_lI "TrustDesk" 39 kY_Act_init 1 := ⟨⟨(mj_in1 (List.mem_of_getElem? (i := 207) (by decide +kernel)) rfl), (mj_in1 (List.mem_of_getElem? (i := 6) (by decide +kernel)) rfl), (mj_in1 (List.mem_of_getElem? (i := 209) (by decide +kernel)) rfl), by decide, rfl, by decide⟩, rfl, (mj_in1 (List.mem_of_getElem? (i := 208) (by decide +kernel)) rfl), rfl⟩
theorem d_Act_init_0 : decode kY_Act_init.2.1 0 = .ok (.aload_n 0, 1) := by decide +kernel
theorem d_Act_init_1 : decode kY_Act_init.2.1 1 = .ok (.invokespecial 3, 3) := by decide +kernel
theorem d_Act_init_4 : decode kY_Act_init.2.1 4 = .ok (.aload_n 0, 1) := by decide +kernel
theorem d_Act_init_5 : decode kY_Act_init.2.1 5 = .ok (.new 9, 3) := by decide +kernel
theorem kg_0 : ∀ w ∈ u_ws kR_ArrayList kF_ArrayList 3, w ∈ mj_T := fun w h => mj_in1 (ki_ArrayList w h) (List.all_eq_true.mp (show (u_ws kR_ArrayList kF_ArrayList 3).all mj_good = true by decide +kernel) w h)
theorem n_Act_9 : mj_nw "TrustDesk$Act" 9 0 [.int 0, .null, .int 0] := ⟨kR_ArrayList, kF_ArrayList, 3, kt_ArrayList, rfl, kg_0, kto_ArrayList, (mj_in1 (List.mem_of_getElem? (i := 211) (by decide +kernel)) rfl), (mj_in1 (List.mem_of_getElem? (i := 212) (by decide +kernel)) rfl), (mj_in1 (List.mem_of_getElem? (i := 9) (by decide +kernel)) rfl), by decide +kernel, rfl, fun _ => rfl⟩
theorem d_Act_init_8 : decode kY_Act_init.2.1 8 = .ok (.dup, 1) := by decide +kernel
theorem d_Act_init_9 : decode kY_Act_init.2.1 9 = .ok (.invokespecial 11, 3) := by decide +kernel
abbrev kY_ArrayList_init : mj_Y := (⟨"java/util/ArrayList", "<init>", "()V"⟩, prog_33_method_2_code, 1, (Option.none : Option Jvm.ClassFile.FieldType))
theorem lI_Act_11 : mj_lI "TrustDesk$Act" 11 kY_ArrayList_init 0 := ⟨⟨(mj_in1 (List.mem_of_getElem? (i := 213) (by decide +kernel)) rfl), (mj_in1 (List.mem_of_getElem? (i := 9) (by decide +kernel)) rfl), (mj_in1 (List.mem_of_getElem? (i := 215) (by decide +kernel)) rfl), by decide, rfl, by decide⟩, rfl, (mj_in1 (List.mem_of_getElem? (i := 214) (by decide +kernel)) rfl), rfl⟩
theorem d_ArrayList_init_0 : decode kY_ArrayList_init.2.1 0 = .ok (.aload_n 0, 1) := by decide +kernel
theorem d_ArrayList_init_1 : decode kY_ArrayList_init.2.1 1 = .ok (.invokespecial 1, 3) := by decide +kernel
abbrev kY_AbstractList_init : mj_Y := (⟨"java/util/AbstractList", "<init>", "()V"⟩, prog_32_method_1_code, 1, (Option.none : Option Jvm.ClassFile.FieldType))
theorem lI_ArrayList_1 : mj_lI "java/util/ArrayList" 1 kY_AbstractList_init 0 := ⟨⟨(mj_in1 (List.mem_of_getElem? (i := 216) (by decide +kernel)) rfl), (mj_in1 (List.mem_of_getElem? (i := 8) (by decide +kernel)) rfl), (mj_in1 (List.mem_of_getElem? (i := 218) (by decide +kernel)) rfl), by decide, rfl, by decide⟩, rfl, (mj_in1 (List.mem_of_getElem? (i := 217) (by decide +kernel)) rfl), rfl⟩
theorem d_AbstractList_init_0 : decode kY_AbstractList_init.2.1 0 = .ok (.aload_n 0, 1) := by decide +kernel
theorem d_AbstractList_init_1 : decode kY_AbstractList_init.2.1 1 = .ok (.invokespecial 1, 3) := by decide +kernel
abbrev kY_AbstractCollection_init : mj_Y := (⟨"java/util/AbstractCollection", "<init>", "()V"⟩, prog_31_method_1_code, 1, (Option.none : Option Jvm.ClassFile.FieldType))
theorem lI_AbstractList_1 : mj_lI "java/util/AbstractList" 1 kY_AbstractCollection_init 0 := ⟨⟨(mj_in1 (List.mem_of_getElem? (i := 219) (by decide +kernel)) rfl), (mj_in1 (List.mem_of_getElem? (i := 7) (by decide +kernel)) rfl), (mj_in1 (List.mem_of_getElem? (i := 221) (by decide +kernel)) rfl), by decide, rfl, by decide⟩, rfl, (mj_in1 (List.mem_of_getElem? (i := 220) (by decide +kernel)) rfl), rfl⟩
theorem d_AbstractCollection_init_0 : decode kY_AbstractCollection_init.2.1 0 = .ok (.aload_n 0, 1) := by decide +kernel
theorem d_AbstractCollection_init_1 : decode kY_AbstractCollection_init.2.1 1 = .ok (.invokespecial 1, 3) := by decide +kernel
theorem d_AbstractCollection_init_4 : decode kY_AbstractCollection_init.2.1 4 = .ok (.return_, 1) := by decide +kernel
theorem c_AbstractCollection_init_0 {g : mj_G} {l : Launch} {d nx : Nat} {M : mj_M} : mj_Met g l kY_AbstractCollection_init (d + 1) [.ref 91] M nx 0 0 (mj_E1 none M nx) := by
  refine mj_enter (by decide) (Nat.le_of_ble_eq_true rfl) ?_
  refine mv_aload_n d_AbstractCollection_init_0 rfl rfl ?_
  refine mv_oinit d_AbstractCollection_init_1 (mj_in1 (List.mem_of_getElem? (i := 222) (by decide +kernel)) rfl) (by decide) ?_
  exact mv_vret d_AbstractCollection_init_4 rfl ⟨rfl, rfl, rfl⟩
theorem d_AbstractList_init_4 : decode kY_AbstractList_init.2.1 4 = .ok (.aload_n 0, 1) := by decide +kernel
theorem d_AbstractList_init_5 : decode kY_AbstractList_init.2.1 5 = .ok (.iconst 0, 1) := by decide +kernel
theorem d_AbstractList_init_6 : decode kY_AbstractList_init.2.1 6 = .ok (.putfield 7, 3) := by decide +kernel
theorem p_AbstractList_7_0 : mj_fp "java/util/AbstractList" 7 0 0 (kt_ArrayList 0) false := ⟨kR_ArrayList, kF_ArrayList, 3, "java/util/AbstractList", kt_ArrayList, rfl, kg_0, by decide, (mj_in1 (List.mem_of_getElem? (i := 227) (by decide +kernel)) rfl), Or.inl rfl, kto_ArrayList, kn_ArrayList, rfl, rfl, fun h => by cases h⟩
theorem d_AbstractList_init_9 : decode kY_AbstractList_init.2.1 9 = .ok (.return_, 1) := by decide +kernel
theorem c_AbstractList_init_0 {g : mj_G} {l : Launch} {d nx : Nat} {M : mj_M} (h_91 : M 91 = some (.inr (0, [.int 0, .null, .int 0]))) : mj_Met g l kY_AbstractList_init (d + 2) [.ref 91] M nx 0 0 (mj_E1 none (mj_up M 91 (.inr (0, [.int 0, .null, .int 0]))) nx) := by
  refine mj_enter (by decide) (Nat.le_of_ble_eq_true rfl) ?_
  refine mv_aload_n d_AbstractList_init_0 rfl rfl ?_
  refine mv_callI_n (kc' := 0) (ks' := 0) [] [.ref 91] d_AbstractList_init_1 lI_AbstractList_1 (c_AbstractCollection_init_0 (d := d)) rfl (by decide) (Nat.le_of_ble_eq_true rfl) (Nat.le_of_ble_eq_true rfl) rfl ?_
  refine mv_aload_n d_AbstractList_init_4 rfl rfl ?_
  refine mv_iconst (v := 0) d_AbstractList_init_5 (by decide) ?_
  refine mv_put (fs' := [.int 0, .null, .int 0]) d_AbstractList_init_6 p_AbstractList_7_0 h_91 (by decide) rfl rfl rfl ?_
  exact mv_vret d_AbstractList_init_9 rfl ⟨rfl, rfl, rfl⟩
theorem d_ArrayList_init_4 : decode kY_ArrayList_init.2.1 4 = .ok (.aload_n 0, 1) := by decide +kernel
theorem d_ArrayList_init_5 : decode kY_ArrayList_init.2.1 5 = .ok (.getstatic 39, 3) := by decide +kernel
theorem d_ArrayList_init_8 : decode kY_ArrayList_init.2.1 8 = .ok (.putfield 9, 3) := by decide +kernel
theorem p_ArrayList_9_0 : mj_fp "java/util/ArrayList" 9 0 1 (kt_ArrayList 1) false := ⟨kR_ArrayList, kF_ArrayList, 3, "java/util/ArrayList", kt_ArrayList, rfl, kg_0, by decide, (mj_in1 (List.mem_of_getElem? (i := 225) (by decide +kernel)) rfl), Or.inl rfl, kto_ArrayList, kn_ArrayList, rfl, rfl, fun h => by cases h⟩
theorem d_ArrayList_init_11 : decode kY_ArrayList_init.2.1 11 = .ok (.return_, 1) := by decide +kernel
theorem c_ArrayList_init_0 {g : mj_G} {l : Launch} {d nx : Nat} {M : mj_M} (h_91 : M 91 = some (.inr (0, [.int 0, .null, .int 0]))) : mj_Met g l kY_ArrayList_init (d + 3) [.ref 91] M nx 0 0 (mj_E1 none (mj_up (mj_up M 91 (.inr (0, [.int 0, .null, .int 0]))) 91 (.inr (0, [.int 0, .ref 0, .int 0]))) nx) := by
  refine mj_enter (by decide) (Nat.le_of_ble_eq_true rfl) ?_
  refine mv_aload_n d_ArrayList_init_0 rfl rfl ?_
  refine mv_callI_n (kc' := 0) (ks' := 0) [] [.ref 91] d_ArrayList_init_1 lI_ArrayList_1 (c_AbstractList_init_0 (d := d) (h_91 := h_91)) rfl (by decide) (Nat.le_of_ble_eq_true rfl) (Nat.le_of_ble_eq_true rfl) rfl ?_
  refine mv_aload_n d_ArrayList_init_4 rfl rfl ?_
  refine mv_getsD d_ArrayList_init_5 (mj_in1 (List.mem_of_getElem? (i := 223) (by decide +kernel)) rfl) ?_
  refine mv_put (fs' := [.int 0, .ref 0, .int 0]) d_ArrayList_init_8 p_ArrayList_9_0 (mj_up_self _ _ _) (by decide) rfl rfl rfl ?_
  exact mv_vret d_ArrayList_init_11 rfl ⟨rfl, rfl, rfl⟩
theorem d_Act_init_12 : decode kY_Act_init.2.1 12 = .ok (.putfield 12, 3) := by decide +kernel
theorem p_Act_12_1 : mj_fp "TrustDesk$Act" 12 1 2 (kt_Act 2) true := ⟨kR_Act, kF_Act, 5, "TrustDesk$Act", kt_Act, rfl, kg_1, by decide, (mj_in1 (List.mem_of_getElem? (i := 250) (by decide +kernel)) rfl), Or.inl rfl, kto_Act, kn_Act, rfl, rfl, fun _ => rfl⟩
theorem d_Act_init_15 : decode kY_Act_init.2.1 15 = .ok (.aload_n 0, 1) := by decide +kernel
theorem d_Act_init_16 : decode kY_Act_init.2.1 16 = .ok (.getstatic 18, 3) := by decide +kernel
theorem d_Act_init_19 : decode kY_Act_init.2.1 19 = .ok (.invokevirtual 22, 3) := by decide +kernel
theorem d_Act_init_22 : decode kY_Act_init.2.1 22 = .ok (.checkcast 23, 3) := by decide +kernel
theorem d_Act_init_25 : decode kY_Act_init.2.1 25 = .ok (.putfield 27, 3) := by decide +kernel
theorem p_Act_27_1 : mj_fp "TrustDesk$Act" 27 1 3 (kt_Act 3) true := ⟨kR_Act, kF_Act, 5, "TrustDesk$Act", kt_Act, rfl, kg_1, by decide, (mj_in1 (List.mem_of_getElem? (i := 252) (by decide +kernel)) rfl), Or.inl rfl, kto_Act, kn_Act, rfl, rfl, fun _ => rfl⟩
theorem d_Act_init_28 : decode kY_Act_init.2.1 28 = .ok (.aload_n 0, 1) := by decide +kernel
theorem d_Act_init_29 : decode kY_Act_init.2.1 29 = .ok (.bipush 20, 2) := by decide +kernel
theorem d_Act_init_31 : decode kY_Act_init.2.1 31 = .ok (.newarray .int, 2) := by decide +kernel
theorem d_Act_init_33 : decode kY_Act_init.2.1 33 = .ok (.putfield 30, 3) := by decide +kernel
theorem p_Act_30_1 : mj_fp "TrustDesk$Act" 30 1 4 (kt_Act 4) true := ⟨kR_Act, kF_Act, 5, "TrustDesk$Act", kt_Act, rfl, kg_1, by decide, (mj_in1 (List.mem_of_getElem? (i := 253) (by decide +kernel)) rfl), Or.inl rfl, kto_Act, kn_Act, rfl, rfl, fun _ => rfl⟩
theorem d_Act_init_36 : decode kY_Act_init.2.1 36 = .ok (.aload_n 0, 1) := by decide +kernel
theorem d_Act_init_37 : decode kY_Act_init.2.1 37 = .ok (.iload_n 1, 1) := by decide +kernel
theorem d_Act_init_38 : decode kY_Act_init.2.1 38 = .ok (.putfield 33, 3) := by decide +kernel
theorem p_Act_33_1 : mj_fp "TrustDesk$Act" 33 1 0 (kt_Act 0) true := ⟨kR_Act, kF_Act, 5, "TrustDesk$Act", kt_Act, rfl, kg_1, by decide, (mj_in1 (List.mem_of_getElem? (i := 246) (by decide +kernel)) rfl), Or.inl rfl, kto_Act, kn_Act, rfl, rfl, fun _ => rfl⟩
theorem d_Act_init_41 : decode kY_Act_init.2.1 41 = .ok (.return_, 1) := by decide +kernel
theorem c_Act_init_0 {g : mj_G} {l : Launch} {d : Nat} {M : mj_M} (h_90 : M 90 = some (.inr (1, [.int 0, .int 0, .null, .null, .null]))) : mj_Met g l kY_Act_init (d + 4) [.ref 90, .int 0] M 91 3 29 (mj_E1 none (mj_up (mj_up (mj_up (mj_up (mj_up (mj_up (mj_up (mj_up (mj_up M 91 (.inr (0, [.int 0, .null, .int 0]))) 91 (.inr (0, [.int 0, .null, .int 0]))) 91 (.inr (0, [.int 0, .ref 0, .int 0]))) 90 (.inr (1, [.int 0, .int 0, .ref 91, .null, .null]))) 92 (.inl (0, 6, .inl mj_rwf))) 90 (.inr (1, [.int 0, .int 0, .ref 91, .ref 92, .null]))) 93 (.inl (0, 20, .inl (fun _ => 0)))) 90 (.inr (1, [.int 0, .int 0, .ref 91, .ref 92, .ref 93]))) 90 (.inr (1, [.int 0, .int 0, .ref 91, .ref 92, .ref 93]))) 94) := by
  refine mj_enter (by decide) (Nat.le_of_ble_eq_true rfl) ?_
  refine mv_aload_n d_Act_init_0 rfl rfl ?_
  refine mv_oinit d_Act_init_1 (mj_in1 (List.mem_of_getElem? (i := 210) (by decide +kernel)) rfl) (by decide) ?_
  refine mv_aload_n d_Act_init_4 rfl rfl ?_
  refine mv_new (kc' := 2) (ks' := 26) d_Act_init_5 n_Act_9 (Nat.le_of_ble_eq_true rfl) (Nat.le_of_ble_eq_true rfl) ?_
  refine mv_dup d_Act_init_8 rfl ?_
  refine mv_callI_n (kc' := 2) (ks' := 26) [] [.ref 91, .ref 91, .ref 90] d_Act_init_9 lI_Act_11 (c_ArrayList_init_0 (d := d) (h_91 := (mj_up_self _ _ _))) rfl (by decide) (Nat.le_of_ble_eq_true rfl) (Nat.le_of_ble_eq_true rfl) rfl ?_
  refine mv_putF (fs' := [.int 0, .int 0, .ref 91, .null, .null]) d_Act_init_12 p_Act_12_1 rfl ((mj_up_ne _ _ (Nat.ne_of_beq_eq_false rfl)).trans ((mj_up_ne _ _ (Nat.ne_of_beq_eq_false rfl)).trans ((mj_up_ne _ _ (Nat.ne_of_beq_eq_false rfl)).trans h_90))) (by decide) rfl rfl rfl ?_
  refine mv_aload_n d_Act_init_15 rfl rfl ?_
  refine mv_gets1 d_Act_init_16 (mj_in1 (List.mem_of_getElem? (i := 237) (by decide +kernel)) rfl) ?_
  refine mv_cloneR (kc' := 1) (ks' := 20) d_Act_init_19 (mj_in1 (List.mem_of_getElem? (i := 239) (by decide +kernel)) rfl) (by decide) (Nat.le_of_ble_eq_true rfl) (Nat.le_of_ble_eq_true rfl) ?_
  refine mv_castA d_Act_init_22 (mj_in1 (List.mem_of_getElem? (i := 245) (by decide +kernel)) rfl) (mj_up_self _ _ _) ?_
  refine mv_putF (fs' := [.int 0, .int 0, .ref 91, .ref 92, .null]) d_Act_init_25 p_Act_27_1 rfl ((mj_up_ne _ _ (Nat.ne_of_beq_eq_false rfl)).trans (mj_up_self _ _ _)) (by decide) rfl rfl rfl ?_
  refine mv_aload_n d_Act_init_28 rfl rfl ?_
  refine mv_bipush (v := 20) d_Act_init_29 (by decide) ?_
  refine mv_newa_int (N := 20) (kc' := 0) (ks' := 0) d_Act_init_31 (by decide) (by decide) (Nat.le_of_ble_eq_true rfl) (Nat.le_of_ble_eq_true rfl) (Nat.le_of_ble_eq_true rfl) ?_
  refine mv_putF (fs' := [.int 0, .int 0, .ref 91, .ref 92, .ref 93]) d_Act_init_33 p_Act_30_1 rfl ((mj_up_ne _ _ (Nat.ne_of_beq_eq_false rfl)).trans (mj_up_self _ _ _)) (by decide) rfl rfl rfl ?_
  refine mv_aload_n d_Act_init_36 rfl rfl ?_
  refine mv_iload_n d_Act_init_37 rfl rfl ?_
  refine mv_putF (fs' := [.int 0, .int 0, .ref 91, .ref 92, .ref 93]) d_Act_init_38 p_Act_33_1 rfl (mj_up_self _ _ _) (by decide) rfl rfl rfl ?_
  exact mv_vret d_Act_init_41 rfl ⟨rfl, rfl, rfl⟩
theorem d_TrustDesk_init_57 : decode kY_TrustDesk_init.2.1 57 = .ok (.putfield 42, 3) := by decide +kernel
theorem p_TrustDesk_42_12 : mj_fp "TrustDesk" 42 12 4 (kt_TrustDesk 4) true := ⟨kR_TrustDesk, kF_TrustDesk, 13, "TrustDesk", kt_TrustDesk, rfl, kg_12, by decide, (mj_in1 (List.mem_of_getElem? (i := 271) (by decide +kernel)) rfl), Or.inl rfl, kto_TrustDesk, kn_TrustDesk, rfl, rfl, fun _ => rfl⟩
theorem d_TrustDesk_init_60 : decode kY_TrustDesk_init.2.1 60 = .ok (.aload_n 0, 1) := by decide +kernel
theorem d_TrustDesk_init_61 : decode kY_TrustDesk_init.2.1 61 = .ok (.new 46, 3) := by decide +kernel
theorem n_TrustDesk_46 : mj_nw "TrustDesk" 46 0 [.int 0, .null, .int 0] := ⟨kR_ArrayList, kF_ArrayList, 3, kt_ArrayList, rfl, kg_0, kto_ArrayList, (mj_in1 (List.mem_of_getElem? (i := 265) (by decide +kernel)) rfl), (mj_in1 (List.mem_of_getElem? (i := 212) (by decide +kernel)) rfl), (mj_in1 (List.mem_of_getElem? (i := 9) (by decide +kernel)) rfl), by decide +kernel, rfl, fun _ => rfl⟩
theorem d_TrustDesk_init_64 : decode kY_TrustDesk_init.2.1 64 = .ok (.dup, 1) := by decide +kernel
theorem d_TrustDesk_init_65 : decode kY_TrustDesk_init.2.1 65 = .ok (.invokespecial 48, 3) := by decide +kernel
theorem lI_TrustDesk_48 : mj_lI "TrustDesk" 48 kY_ArrayList_init 0 := ⟨⟨(mj_in1 (List.mem_of_getElem? (i := 266) (by decide +kernel)) rfl), (mj_in1 (List.mem_of_getElem? (i := 9) (by decide +kernel)) rfl), (mj_in1 (List.mem_of_getElem? (i := 215) (by decide +kernel)) rfl), by decide, rfl, by decide⟩, rfl, (mj_in1 (List.mem_of_getElem? (i := 214) (by decide +kernel)) rfl), rfl⟩
theorem c_AbstractCollection_init_1 {g : mj_G} {l : Launch} {d nx : Nat} {M : mj_M} : mj_Met g l kY_AbstractCollection_init (d + 1) [.ref 94] M nx 0 0 (mj_E1 none M nx) := by
  refine mj_enter (by decide) (Nat.le_of_ble_eq_true rfl) ?_
  refine mv_aload_n d_AbstractCollection_init_0 rfl rfl ?_
  refine mv_oinit d_AbstractCollection_init_1 (mj_in1 (List.mem_of_getElem? (i := 222) (by decide +kernel)) rfl) (by decide) ?_
  exact mv_vret d_AbstractCollection_init_4 rfl ⟨rfl, rfl, rfl⟩
theorem c_AbstractList_init_1 {g : mj_G} {l : Launch} {d nx : Nat} {M : mj_M} (h_94 : M 94 = some (.inr (0, [.int 0, .null, .int 0]))) : mj_Met g l kY_AbstractList_init (d + 2) [.ref 94] M nx 0 0 (mj_E1 none (mj_up M 94 (.inr (0, [.int 0, .null, .int 0]))) nx) := by
  refine mj_enter (by decide) (Nat.le_of_ble_eq_true rfl) ?_
  refine mv_aload_n d_AbstractList_init_0 rfl rfl ?_
  refine mv_callI_n (kc' := 0) (ks' := 0) [] [.ref 94] d_AbstractList_init_1 lI_AbstractList_1 (c_AbstractCollection_init_1 (d := d)) rfl (by decide) (Nat.le_of_ble_eq_true rfl) (Nat.le_of_ble_eq_true rfl) rfl ?_
  refine mv_aload_n d_AbstractList_init_4 rfl rfl ?_
  refine mv_iconst (v := 0) d_AbstractList_init_5 (by decide) ?_
  refine mv_put (fs' := [.int 0, .null, .int 0]) d_AbstractList_init_6 p_AbstractList_7_0 h_94 (by decide) rfl rfl rfl ?_
  exact mv_vret d_AbstractList_init_9 rfl ⟨rfl, rfl, rfl⟩
theorem c_ArrayList_init_1 {g : mj_G} {l : Launch} {d nx : Nat} {M : mj_M} (h_94 : M 94 = some (.inr (0, [.int 0, .null, .int 0]))) : mj_Met g l kY_ArrayList_init (d + 3) [.ref 94] M nx 0 0 (mj_E1 none (mj_up (mj_up M 94 (.inr (0, [.int 0, .null, .int 0]))) 94 (.inr (0, [.int 0, .ref 0, .int 0]))) nx) := by
  refine mj_enter (by decide) (Nat.le_of_ble_eq_true rfl) ?_
  refine mv_aload_n d_ArrayList_init_0 rfl rfl ?_
  refine mv_callI_n (kc' := 0) (ks' := 0) [] [.ref 94] d_ArrayList_init_1 lI_ArrayList_1 (c_AbstractList_init_1 (d := d) (h_94 := h_94)) rfl (by decide) (Nat.le_of_ble_eq_true rfl) (Nat.le_of_ble_eq_true rfl) rfl ?_
  refine mv_aload_n d_ArrayList_init_4 rfl rfl ?_
  refine mv_getsD d_ArrayList_init_5 (mj_in1 (List.mem_of_getElem? (i := 223) (by decide +kernel)) rfl) ?_
  refine mv_put (fs' := [.int 0, .ref 0, .int 0]) d_ArrayList_init_8 p_ArrayList_9_0 (mj_up_self _ _ _) (by decide) rfl rfl rfl ?_
  exact mv_vret d_ArrayList_init_11 rfl ⟨rfl, rfl, rfl⟩
theorem d_TrustDesk_init_68 : decode kY_TrustDesk_init.2.1 68 = .ok (.putfield 49, 3) := by decide +kernel
theorem p_TrustDesk_49_12 : mj_fp "TrustDesk" 49 12 5 (kt_TrustDesk 5) true := ⟨kR_TrustDesk, kF_TrustDesk, 13, "TrustDesk", kt_TrustDesk, rfl, kg_12, by decide, (mj_in1 (List.mem_of_getElem? (i := 272) (by decide +kernel)) rfl), Or.inl rfl, kto_TrustDesk, kn_TrustDesk, rfl, rfl, fun _ => rfl⟩
theorem d_TrustDesk_init_71 : decode kY_TrustDesk_init.2.1 71 = .ok (.aload_n 0, 1) := by decide +kernel
theorem d_TrustDesk_init_72 : decode kY_TrustDesk_init.2.1 72 = .ok (.new 46, 3) := by decide +kernel
theorem d_TrustDesk_init_75 : decode kY_TrustDesk_init.2.1 75 = .ok (.dup, 1) := by decide +kernel
theorem d_TrustDesk_init_76 : decode kY_TrustDesk_init.2.1 76 = .ok (.invokespecial 48, 3) := by decide +kernel
theorem c_AbstractCollection_init_2 {g : mj_G} {l : Launch} {d nx : Nat} {M : mj_M} : mj_Met g l kY_AbstractCollection_init (d + 1) [.ref 95] M nx 0 0 (mj_E1 none M nx) := by
  refine mj_enter (by decide) (Nat.le_of_ble_eq_true rfl) ?_
  refine mv_aload_n d_AbstractCollection_init_0 rfl rfl ?_
  refine mv_oinit d_AbstractCollection_init_1 (mj_in1 (List.mem_of_getElem? (i := 222) (by decide +kernel)) rfl) (by decide) ?_
  exact mv_vret d_AbstractCollection_init_4 rfl ⟨rfl, rfl, rfl⟩
theorem c_AbstractList_init_2 {g : mj_G} {l : Launch} {d nx : Nat} {M : mj_M} (h_95 : M 95 = some (.inr (0, [.int 0, .null, .int 0]))) : mj_Met g l kY_AbstractList_init (d + 2) [.ref 95] M nx 0 0 (mj_E1 none (mj_up M 95 (.inr (0, [.int 0, .null, .int 0]))) nx) := by
  refine mj_enter (by decide) (Nat.le_of_ble_eq_true rfl) ?_
  refine mv_aload_n d_AbstractList_init_0 rfl rfl ?_
  refine mv_callI_n (kc' := 0) (ks' := 0) [] [.ref 95] d_AbstractList_init_1 lI_AbstractList_1 (c_AbstractCollection_init_2 (d := d)) rfl (by decide) (Nat.le_of_ble_eq_true rfl) (Nat.le_of_ble_eq_true rfl) rfl ?_
  refine mv_aload_n d_AbstractList_init_4 rfl rfl ?_
  refine mv_iconst (v := 0) d_AbstractList_init_5 (by decide) ?_
  refine mv_put (fs' := [.int 0, .null, .int 0]) d_AbstractList_init_6 p_AbstractList_7_0 h_95 (by decide) rfl rfl rfl ?_
  exact mv_vret d_AbstractList_init_9 rfl ⟨rfl, rfl, rfl⟩
theorem c_ArrayList_init_2 {g : mj_G} {l : Launch} {d nx : Nat} {M : mj_M} (h_95 : M 95 = some (.inr (0, [.int 0, .null, .int 0]))) : mj_Met g l kY_ArrayList_init (d + 3) [.ref 95] M nx 0 0 (mj_E1 none (mj_up (mj_up M 95 (.inr (0, [.int 0, .null, .int 0]))) 95 (.inr (0, [.int 0, .ref 0, .int 0]))) nx) := by
  refine mj_enter (by decide) (Nat.le_of_ble_eq_true rfl) ?_
  refine mv_aload_n d_ArrayList_init_0 rfl rfl ?_
  refine mv_callI_n (kc' := 0) (ks' := 0) [] [.ref 95] d_ArrayList_init_1 lI_ArrayList_1 (c_AbstractList_init_2 (d := d) (h_95 := h_95)) rfl (by decide) (Nat.le_of_ble_eq_true rfl) (Nat.le_of_ble_eq_true rfl) rfl ?_
  refine mv_aload_n d_ArrayList_init_4 rfl rfl ?_
  refine mv_getsD d_ArrayList_init_5 (mj_in1 (List.mem_of_getElem? (i := 223) (by decide +kernel)) rfl) ?_
  refine mv_put (fs' := [.int 0, .ref 0, .int 0]) d_ArrayList_init_8 p_ArrayList_9_0 (mj_up_self _ _ _) (by decide) rfl rfl rfl ?_
  exact mv_vret d_ArrayList_init_11 rfl ⟨rfl, rfl, rfl⟩
theorem d_TrustDesk_init_79 : decode kY_TrustDesk_init.2.1 79 = .ok (.putfield 53, 3) := by decide +kernel
theorem p_TrustDesk_53_12 : mj_fp "TrustDesk" 53 12 6 (kt_TrustDesk 6) true := ⟨kR_TrustDesk, kF_TrustDesk, 13, "TrustDesk", kt_TrustDesk, rfl, kg_12, by decide, (mj_in1 (List.mem_of_getElem? (i := 273) (by decide +kernel)) rfl), Or.inl rfl, kto_TrustDesk, kn_TrustDesk, rfl, rfl, fun _ => rfl⟩
theorem d_TrustDesk_init_82 : decode kY_TrustDesk_init.2.1 82 = .ok (.aload_n 0, 1) := by decide +kernel
theorem d_TrustDesk_init_83 : decode kY_TrustDesk_init.2.1 83 = .ok (.new 46, 3) := by decide +kernel
theorem d_TrustDesk_init_86 : decode kY_TrustDesk_init.2.1 86 = .ok (.dup, 1) := by decide +kernel
theorem d_TrustDesk_init_87 : decode kY_TrustDesk_init.2.1 87 = .ok (.invokespecial 48, 3) := by decide +kernel
theorem c_AbstractCollection_init_3 {g : mj_G} {l : Launch} {d nx : Nat} {M : mj_M} : mj_Met g l kY_AbstractCollection_init (d + 1) [.ref 96] M nx 0 0 (mj_E1 none M nx) := by
  refine mj_enter (by decide) (Nat.le_of_ble_eq_true rfl) ?_
  refine mv_aload_n d_AbstractCollection_init_0 rfl rfl ?_
  refine mv_oinit d_AbstractCollection_init_1 (mj_in1 (List.mem_of_getElem? (i := 222) (by decide +kernel)) rfl) (by decide) ?_
  exact mv_vret d_AbstractCollection_init_4 rfl ⟨rfl, rfl, rfl⟩
theorem c_AbstractList_init_3 {g : mj_G} {l : Launch} {d nx : Nat} {M : mj_M} (h_96 : M 96 = some (.inr (0, [.int 0, .null, .int 0]))) : mj_Met g l kY_AbstractList_init (d + 2) [.ref 96] M nx 0 0 (mj_E1 none (mj_up M 96 (.inr (0, [.int 0, .null, .int 0]))) nx) := by
  refine mj_enter (by decide) (Nat.le_of_ble_eq_true rfl) ?_
  refine mv_aload_n d_AbstractList_init_0 rfl rfl ?_
  refine mv_callI_n (kc' := 0) (ks' := 0) [] [.ref 96] d_AbstractList_init_1 lI_AbstractList_1 (c_AbstractCollection_init_3 (d := d)) rfl (by decide) (Nat.le_of_ble_eq_true rfl) (Nat.le_of_ble_eq_true rfl) rfl ?_
  refine mv_aload_n d_AbstractList_init_4 rfl rfl ?_
  refine mv_iconst (v := 0) d_AbstractList_init_5 (by decide) ?_
  refine mv_put (fs' := [.int 0, .null, .int 0]) d_AbstractList_init_6 p_AbstractList_7_0 h_96 (by decide) rfl rfl rfl ?_
  exact mv_vret d_AbstractList_init_9 rfl ⟨rfl, rfl, rfl⟩
theorem c_ArrayList_init_3 {g : mj_G} {l : Launch} {d nx : Nat} {M : mj_M} (h_96 : M 96 = some (.inr (0, [.int 0, .null, .int 0]))) : mj_Met g l kY_ArrayList_init (d + 3) [.ref 96] M nx 0 0 (mj_E1 none (mj_up (mj_up M 96 (.inr (0, [.int 0, .null, .int 0]))) 96 (.inr (0, [.int 0, .ref 0, .int 0]))) nx) := by
  refine mj_enter (by decide) (Nat.le_of_ble_eq_true rfl) ?_
  refine mv_aload_n d_ArrayList_init_0 rfl rfl ?_
  refine mv_callI_n (kc' := 0) (ks' := 0) [] [.ref 96] d_ArrayList_init_1 lI_ArrayList_1 (c_AbstractList_init_3 (d := d) (h_96 := h_96)) rfl (by decide) (Nat.le_of_ble_eq_true rfl) (Nat.le_of_ble_eq_true rfl) rfl ?_
  refine mv_aload_n d_ArrayList_init_4 rfl rfl ?_
  refine mv_getsD d_ArrayList_init_5 (mj_in1 (List.mem_of_getElem? (i := 223) (by decide +kernel)) rfl) ?_
  refine mv_put (fs' := [.int 0, .ref 0, .int 0]) d_ArrayList_init_8 p_ArrayList_9_0 (mj_up_self _ _ _) (by decide) rfl rfl rfl ?_
  exact mv_vret d_ArrayList_init_11 rfl ⟨rfl, rfl, rfl⟩
theorem d_TrustDesk_init_90 : decode kY_TrustDesk_init.2.1 90 = .ok (.putfield 56, 3) := by decide +kernel
theorem p_TrustDesk_56_12 : mj_fp "TrustDesk" 56 12 7 (kt_TrustDesk 7) true := ⟨kR_TrustDesk, kF_TrustDesk, 13, "TrustDesk", kt_TrustDesk, rfl, kg_12, by decide, (mj_in1 (List.mem_of_getElem? (i := 274) (by decide +kernel)) rfl), Or.inl rfl, kto_TrustDesk, kn_TrustDesk, rfl, rfl, fun _ => rfl⟩
theorem d_TrustDesk_init_93 : decode kY_TrustDesk_init.2.1 93 = .ok (.aload_n 0, 1) := by decide +kernel
theorem d_TrustDesk_init_94 : decode kY_TrustDesk_init.2.1 94 = .ok (.new 46, 3) := by decide +kernel
theorem d_TrustDesk_init_97 : decode kY_TrustDesk_init.2.1 97 = .ok (.dup, 1) := by decide +kernel
theorem d_TrustDesk_init_98 : decode kY_TrustDesk_init.2.1 98 = .ok (.invokespecial 48, 3) := by decide +kernel
theorem c_AbstractCollection_init_4 {g : mj_G} {l : Launch} {d nx : Nat} {M : mj_M} : mj_Met g l kY_AbstractCollection_init (d + 1) [.ref 97] M nx 0 0 (mj_E1 none M nx) := by
  refine mj_enter (by decide) (Nat.le_of_ble_eq_true rfl) ?_
  refine mv_aload_n d_AbstractCollection_init_0 rfl rfl ?_
  refine mv_oinit d_AbstractCollection_init_1 (mj_in1 (List.mem_of_getElem? (i := 222) (by decide +kernel)) rfl) (by decide) ?_
  exact mv_vret d_AbstractCollection_init_4 rfl ⟨rfl, rfl, rfl⟩
theorem c_AbstractList_init_4 {g : mj_G} {l : Launch} {d nx : Nat} {M : mj_M} (h_97 : M 97 = some (.inr (0, [.int 0, .null, .int 0]))) : mj_Met g l kY_AbstractList_init (d + 2) [.ref 97] M nx 0 0 (mj_E1 none (mj_up M 97 (.inr (0, [.int 0, .null, .int 0]))) nx) := by
  refine mj_enter (by decide) (Nat.le_of_ble_eq_true rfl) ?_
  refine mv_aload_n d_AbstractList_init_0 rfl rfl ?_
  refine mv_callI_n (kc' := 0) (ks' := 0) [] [.ref 97] d_AbstractList_init_1 lI_AbstractList_1 (c_AbstractCollection_init_4 (d := d)) rfl (by decide) (Nat.le_of_ble_eq_true rfl) (Nat.le_of_ble_eq_true rfl) rfl ?_
  refine mv_aload_n d_AbstractList_init_4 rfl rfl ?_
  refine mv_iconst (v := 0) d_AbstractList_init_5 (by decide) ?_
  refine mv_put (fs' := [.int 0, .null, .int 0]) d_AbstractList_init_6 p_AbstractList_7_0 h_97 (by decide) rfl rfl rfl ?_
  exact mv_vret d_AbstractList_init_9 rfl ⟨rfl, rfl, rfl⟩
theorem c_ArrayList_init_4 {g : mj_G} {l : Launch} {d nx : Nat} {M : mj_M} (h_97 : M 97 = some (.inr (0, [.int 0, .null, .int 0]))) : mj_Met g l kY_ArrayList_init (d + 3) [.ref 97] M nx 0 0 (mj_E1 none (mj_up (mj_up M 97 (.inr (0, [.int 0, .null, .int 0]))) 97 (.inr (0, [.int 0, .ref 0, .int 0]))) nx) := by
  refine mj_enter (by decide) (Nat.le_of_ble_eq_true rfl) ?_
  refine mv_aload_n d_ArrayList_init_0 rfl rfl ?_
  refine mv_callI_n (kc' := 0) (ks' := 0) [] [.ref 97] d_ArrayList_init_1 lI_ArrayList_1 (c_AbstractList_init_4 (d := d) (h_97 := h_97)) rfl (by decide) (Nat.le_of_ble_eq_true rfl) (Nat.le_of_ble_eq_true rfl) rfl ?_
  refine mv_aload_n d_ArrayList_init_4 rfl rfl ?_
  refine mv_getsD d_ArrayList_init_5 (mj_in1 (List.mem_of_getElem? (i := 223) (by decide +kernel)) rfl) ?_
  refine mv_put (fs' := [.int 0, .ref 0, .int 0]) d_ArrayList_init_8 p_ArrayList_9_0 (mj_up_self _ _ _) (by decide) rfl rfl rfl ?_
  exact mv_vret d_ArrayList_init_11 rfl ⟨rfl, rfl, rfl⟩
theorem d_TrustDesk_init_101 : decode kY_TrustDesk_init.2.1 101 = .ok (.putfield 59, 3) := by decide +kernel
theorem p_TrustDesk_59_12 : mj_fp "TrustDesk" 59 12 8 (kt_TrustDesk 8) true := ⟨kR_TrustDesk, kF_TrustDesk, 13, "TrustDesk", kt_TrustDesk, rfl, kg_12, by decide, (mj_in1 (List.mem_of_getElem? (i := 275) (by decide +kernel)) rfl), Or.inl rfl, kto_TrustDesk, kn_TrustDesk, rfl, rfl, fun _ => rfl⟩
theorem d_TrustDesk_init_104 : decode kY_TrustDesk_init.2.1 104 = .ok (.aload_n 0, 1) := by decide +kernel
theorem d_TrustDesk_init_105 : decode kY_TrustDesk_init.2.1 105 = .ok (.sipush 2400, 3) := by decide +kernel
theorem d_TrustDesk_init_108 : decode kY_TrustDesk_init.2.1 108 = .ok (.newarray .int, 2) := by decide +kernel
theorem d_TrustDesk_init_110 : decode kY_TrustDesk_init.2.1 110 = .ok (.putfield 62, 3) := by decide +kernel
theorem p_TrustDesk_62_12 : mj_fp "TrustDesk" 62 12 9 (kt_TrustDesk 9) true := ⟨kR_TrustDesk, kF_TrustDesk, 13, "TrustDesk", kt_TrustDesk, rfl, kg_12, by decide, (mj_in1 (List.mem_of_getElem? (i := 276) (by decide +kernel)) rfl), Or.inl rfl, kto_TrustDesk, kn_TrustDesk, rfl, rfl, fun _ => rfl⟩
theorem d_TrustDesk_init_113 : decode kY_TrustDesk_init.2.1 113 = .ok (.return_, 1) := by decide +kernel
theorem c_TrustDesk_init_0 {g : mj_G} {l : Launch} {d : Nat} {M : mj_M} (h_64 : M 64 = some (.inr (12, [.null, .null, .null, .null, .null, .null, .null, .null, .null, .null, .int 0, .int 0, .int 0]))) : mj_Met g l kY_TrustDesk_init (d + 5) [.ref 64] M 65 34 6239 (mj_E1 none (mj_up (mj_up (mj_up (mj_up (mj_up (mj_up (mj_up (mj_up (mj_up (mj_up (mj_up (mj_up (mj_up (mj_up (mj_up (mj_up (mj_up (mj_up (mj_up (mj_up (mj_up (mj_up (mj_up (mj_up (mj_up (mj_up (mj_up (mj_up (mj_up (mj_up (mj_up (mj_up (mj_up (mj_up (mj_up (mj_up (mj_up (mj_up (mj_up (mj_up (mj_up (mj_up (mj_up (mj_up (mj_up (mj_up (mj_up (mj_up (mj_up (mj_up (mj_up (mj_up (mj_up (mj_up (mj_up (mj_up (mj_up (mj_up (mj_up (mj_up (mj_up (mj_up (mj_up (mj_up (mj_up (mj_up (mj_up (mj_up (mj_up (mj_up (mj_up (mj_up (mj_up (mj_up (mj_up (mj_up (mj_up (mj_up (mj_up (mj_up (mj_up M 65 (.inr (5, [.null, .null, .null, .null, .int 0]))) 66 (.inl (0, 300, .inl (fun _ => 0)))) 65 (.inr (5, [.ref 66, .null, .null, .null, .int 0]))) 67 (.inl (0, 300, .inl (fun _ => 0)))) 65 (.inr (5, [.ref 66, .ref 67, .null, .null, .int 0]))) 68 (.inl (0, 300, .inl (fun _ => 0)))) 65 (.inr (5, [.ref 66, .ref 67, .ref 68, .null, .int 0]))) 69 (.inl (0, 300, .inl (fun _ => 0)))) 65 (.inr (5, [.ref 66, .ref 67, .ref 68, .ref 69, .int 0]))) 64 (.inr (12, [.ref 65, .null, .null, .null, .null, .null, .null, .null, .null, .null, .int 0, .int 0, .int 0]))) 70 (.inr (9, [.int 0, .int 0, .int 0, .null, .null, .null, .null, .null, .int 0, .int 0, .int 0, .int 0, .int 0, .int 0, .int 0, .int 0, .int 0, .null, .int 0]))) 70 (.inr (9, [.int 0, .int 0, .int (-1), .null, .null, .null, .null, .null, .int 0, .int 0, .int 0, .int 0, .int 0, .int 0, .int 0, .int 0, .int 0, .null, .int 0]))) 71 (.inl (0, 400, .inl (fun _ => 0)))) 70 (.inr (9, [.int 0, .int 0, .int (-1), .ref 71, .null, .null, .null, .null, .int 0, .int 0, .int 0, .int 0, .int 0, .int 0, .int 0, .int 0, .int 0, .null, .int 0]))) 72 (.inl (0, 400, .inl (fun _ => 0)))) 70 (.inr (9, [.int 0, .int 0, .int (-1), .ref 71, .ref 72, .null, .null, .null, .int 0, .int 0, .int 0, .int 0, .int 0, .int 0, .int 0, .int 0, .int 0, .null, .int 0]))) 73 (.inl (0, 400, .inl (fun _ => 0)))) 70 (.inr (9, [.int 0, .int 0, .int (-1), .ref 71, .ref 72, .ref 73, .null, .null, .int 0, .int 0, .int 0, .int 0, .int 0, .int 0, .int 0, .int 0, .int 0, .null, .int 0]))) 74 (.inl (0, 400, .inl (fun _ => 0)))) 70 (.inr (9, [.int 0, .int 0, .int (-1), .ref 71, .ref 72, .ref 73, .ref 74, .null, .int 0, .int 0, .int 0, .int 0, .int 0, .int 0, .int 0, .int 0, .int 0, .null, .int 0]))) 75 (.inl (0, 400, .inl (fun _ => 0)))) 70 (.inr (9, [.int 0, .int 0, .int (-1), .ref 71, .ref 72, .ref 73, .ref 74, .ref 75, .int 0, .int 0, .int 0, .int 0, .int 0, .int 0, .int 0, .int 0, .int 0, .null, .int 0]))) 76 (.inl (0, 400, .inl (fun _ => 0)))) 70 (.inr (9, [.int 0, .int 0, .int (-1), .ref 71, .ref 72, .ref 73, .ref 74, .ref 75, .int 0, .int 0, .int 0, .int 0, .int 0, .int 0, .int 0, .int 0, .int 0, .ref 76, .int 0]))) 64 (.inr (12, [.ref 65, .ref 70, .null, .null, .null, .null, .null, .null, .null, .null, .int 0, .int 0, .int 0]))) 77 (.inr (10, [.null, .int 0, .null, .int 0, .int 0]))) 78 (.inl (1, 13, .inr (.inl (fun _ => 0))))) 77 (.inr (10, [.ref 78, .int 0, .null, .int 0, .int 0]))) 77 (.inr (10, [.ref 78, .int (-1), .null, .int 0, .int 0]))) 79 (.inl (1, 64, .inr (.inl (fun _ => 0))))) 77 (.inr (10, [.ref 78, .int (-1), .ref 79, .int 0, .int 0]))) 64 (.inr (12, [.ref 65, .ref 70, .ref 77, .null, .null, .null, .null, .null, .null, .null, .int 0, .int 0, .int 0]))) 80 (.inr (7, [.long 0, .int 0, .int 0, .int 0, .null, .null, .null, .null, .null, .null, .null, .null, .null, .long 0]))) 81 (.inl (0, 8, .inl (fun _ => 0)))) 80 (.inr (7, [.long 0, .int 0, .int 0, .int 0, .ref 81, .null, .null, .null, .null, .null, .null, .null, .null, .long 0]))) 82 (.inl (1, 8, .inr (.inl (fun _ => 0))))) 80 (.inr (7, [.long 0, .int 0, .int 0, .int 0, .ref 81, .ref 82, .null, .null, .null, .null, .null, .null, .null, .long 0]))) 83 (.inl (0, 8, .inl (fun _ => 0)))) 80 (.inr (7, [.long 0, .int 0, .int 0, .int 0, .ref 81, .ref 82, .ref 83, .null, .null, .null, .null, .null, .null, .long 0]))) 84 (.inl (0, 8, .inl (fun _ => 0)))) 80 (.inr (7, [.long 0, .int 0, .int 0, .int 0, .ref 81, .ref 82, .ref 83, .ref 84, .null, .null, .null, .null, .null, .long 0]))) 85 (.inl (0, 8, .inl (fun _ => 0)))) 80 (.inr (7, [.long 0, .int 0, .int 0, .int 0, .ref 81, .ref 82, .ref 83, .ref 84, .ref 85, .null, .null, .null, .null, .long 0]))) 86 (.inl (0, 8, .inl (fun _ => 0)))) 80 (.inr (7, [.long 0, .int 0, .int 0, .int 0, .ref 81, .ref 82, .ref 83, .ref 84, .ref 85, .ref 86, .null, .null, .null, .long 0]))) 87 (.inl (0, 8, .inl (fun _ => 0)))) 80 (.inr (7, [.long 0, .int 0, .int 0, .int 0, .ref 81, .ref 82, .ref 83, .ref 84, .ref 85, .ref 86, .ref 87, .null, .null, .long 0]))) 88 (.inl (1, 8, .inr (.inl (fun _ => 0))))) 80 (.inr (7, [.long 0, .int 0, .int 0, .int 0, .ref 81, .ref 82, .ref 83, .ref 84, .ref 85, .ref 86, .ref 87, .ref 88, .null, .long 0]))) 89 (.inl (1, 9, .inr (.inl (fun _ => 0))))) 80 (.inr (7, [.long 0, .int 0, .int 0, .int 0, .ref 81, .ref 82, .ref 83, .ref 84, .ref 85, .ref 86, .ref 87, .ref 88, .ref 89, .long 0]))) 64 (.inr (12, [.ref 65, .ref 70, .ref 77, .ref 80, .null, .null, .null, .null, .null, .null, .int 0, .int 0, .int 0]))) 90 (.inr (1, [.int 0, .int 0, .null, .null, .null]))) 91 (.inr (0, [.int 0, .null, .int 0]))) 91 (.inr (0, [.int 0, .null, .int 0]))) 91 (.inr (0, [.int 0, .ref 0, .int 0]))) 90 (.inr (1, [.int 0, .int 0, .ref 91, .null, .null]))) 92 (.inl (0, 6, .inl mj_rwf))) 90 (.inr (1, [.int 0, .int 0, .ref 91, .ref 92, .null]))) 93 (.inl (0, 20, .inl (fun _ => 0)))) 90 (.inr (1, [.int 0, .int 0, .ref 91, .ref 92, .ref 93]))) 90 (.inr (1, [.int 0, .int 0, .ref 91, .ref 92, .ref 93]))) 64 (.inr (12, [.ref 65, .ref 70, .ref 77, .ref 80, .ref 90, .null, .null, .null, .null, .null, .int 0, .int 0, .int 0]))) 94 (.inr (0, [.int 0, .null, .int 0]))) 94 (.inr (0, [.int 0, .null, .int 0]))) 94 (.inr (0, [.int 0, .ref 0, .int 0]))) 64 (.inr (12, [.ref 65, .ref 70, .ref 77, .ref 80, .ref 90, .ref 94, .null, .null, .null, .null, .int 0, .int 0, .int 0]))) 95 (.inr (0, [.int 0, .null, .int 0]))) 95 (.inr (0, [.int 0, .null, .int 0]))) 95 (.inr (0, [.int 0, .ref 0, .int 0]))) 64 (.inr (12, [.ref 65, .ref 70, .ref 77, .ref 80, .ref 90, .ref 94, .ref 95, .null, .null, .null, .int 0, .int 0, .int 0]))) 96 (.inr (0, [.int 0, .null, .int 0]))) 96 (.inr (0, [.int 0, .null, .int 0]))) 96 (.inr (0, [.int 0, .ref 0, .int 0]))) 64 (.inr (12, [.ref 65, .ref 70, .ref 77, .ref 80, .ref 90, .ref 94, .ref 95, .ref 96, .null, .null, .int 0, .int 0, .int 0]))) 97 (.inr (0, [.int 0, .null, .int 0]))) 97 (.inr (0, [.int 0, .null, .int 0]))) 97 (.inr (0, [.int 0, .ref 0, .int 0]))) 64 (.inr (12, [.ref 65, .ref 70, .ref 77, .ref 80, .ref 90, .ref 94, .ref 95, .ref 96, .ref 97, .null, .int 0, .int 0, .int 0]))) 98 (.inl (0, 2400, .inl (fun _ => 0)))) 64 (.inr (12, [.ref 65, .ref 70, .ref 77, .ref 80, .ref 90, .ref 94, .ref 95, .ref 96, .ref 97, .ref 98, .int 0, .int 0, .int 0]))) 99) := by
  refine mj_enter (by decide) (Nat.le_of_ble_eq_true rfl) ?_
  refine mv_aload_n d_TrustDesk_init_0 rfl rfl ?_
  refine mv_oinit d_TrustDesk_init_1 (mj_in1 (List.mem_of_getElem? (i := 36) (by decide +kernel)) rfl) (by decide) ?_
  refine mv_aload_n d_TrustDesk_init_4 rfl rfl ?_
  refine mv_new (kc' := 33) (ks' := 6234) d_TrustDesk_init_5 n_TrustDesk_7 (Nat.le_of_ble_eq_true rfl) (Nat.le_of_ble_eq_true rfl) ?_
  refine mv_dup d_TrustDesk_init_8 rfl ?_
  refine mv_callI_n (kc' := 29) (ks' := 5034) [] [.ref 65, .ref 65, .ref 64] d_TrustDesk_init_9 lI_TrustDesk_9 (c_Facts_init_0 (d := (d + 3)) (h_65 := (mj_up_self _ _ _))) rfl (by decide) (Nat.le_of_ble_eq_true rfl) (Nat.le_of_ble_eq_true rfl) rfl ?_
  refine mv_putF (fs' := [.ref 65, .null, .null, .null, .null, .null, .null, .null, .null, .null, .int 0, .int 0, .int 0]) d_TrustDesk_init_12 p_TrustDesk_10_12 rfl ((mj_up_ne _ _ (Nat.ne_of_beq_eq_false rfl)).trans ((mj_up_ne _ _ (Nat.ne_of_beq_eq_false rfl)).trans ((mj_up_ne _ _ (Nat.ne_of_beq_eq_false rfl)).trans ((mj_up_ne _ _ (Nat.ne_of_beq_eq_false rfl)).trans ((mj_up_ne _ _ (Nat.ne_of_beq_eq_false rfl)).trans ((mj_up_ne _ _ (Nat.ne_of_beq_eq_false rfl)).trans ((mj_up_ne _ _ (Nat.ne_of_beq_eq_false rfl)).trans ((mj_up_ne _ _ (Nat.ne_of_beq_eq_false rfl)).trans ((mj_up_ne _ _ (Nat.ne_of_beq_eq_false rfl)).trans h_64))))))))) (by decide) rfl rfl rfl ?_
  refine mv_aload_n d_TrustDesk_init_15 rfl rfl ?_
  refine mv_new (kc' := 28) (ks' := 5015) d_TrustDesk_init_16 n_TrustDesk_16 (Nat.le_of_ble_eq_true rfl) (Nat.le_of_ble_eq_true rfl) ?_
  refine mv_dup d_TrustDesk_init_19 rfl ?_
  refine mv_callI_n (kc' := 22) (ks' := 2615) [] [.ref 70, .ref 70, .ref 64] d_TrustDesk_init_20 lI_TrustDesk_18 (c_Reader_init_0 (d := (d + 3)) (h_70 := (mj_up_self _ _ _))) rfl (by decide) (Nat.le_of_ble_eq_true rfl) (Nat.le_of_ble_eq_true rfl) rfl ?_
  refine mv_putF (fs' := [.ref 65, .ref 70, .null, .null, .null, .null, .null, .null, .null, .null, .int 0, .int 0, .int 0]) d_TrustDesk_init_23 p_TrustDesk_19_12 rfl ((mj_up_ne _ _ (Nat.ne_of_beq_eq_false rfl)).trans ((mj_up_ne _ _ (Nat.ne_of_beq_eq_false rfl)).trans ((mj_up_ne _ _ (Nat.ne_of_beq_eq_false rfl)).trans ((mj_up_ne _ _ (Nat.ne_of_beq_eq_false rfl)).trans ((mj_up_ne _ _ (Nat.ne_of_beq_eq_false rfl)).trans ((mj_up_ne _ _ (Nat.ne_of_beq_eq_false rfl)).trans ((mj_up_ne _ _ (Nat.ne_of_beq_eq_false rfl)).trans ((mj_up_ne _ _ (Nat.ne_of_beq_eq_false rfl)).trans ((mj_up_ne _ _ (Nat.ne_of_beq_eq_false rfl)).trans ((mj_up_ne _ _ (Nat.ne_of_beq_eq_false rfl)).trans ((mj_up_ne _ _ (Nat.ne_of_beq_eq_false rfl)).trans ((mj_up_ne _ _ (Nat.ne_of_beq_eq_false rfl)).trans ((mj_up_ne _ _ (Nat.ne_of_beq_eq_false rfl)).trans ((mj_up_ne _ _ (Nat.ne_of_beq_eq_false rfl)).trans (mj_up_self _ _ _))))))))))))))) (by decide) rfl rfl rfl ?_
  refine mv_aload_n d_TrustDesk_init_26 rfl rfl ?_
  refine mv_new (kc' := 21) (ks' := 2610) d_TrustDesk_init_27 n_TrustDesk_23 (Nat.le_of_ble_eq_true rfl) (Nat.le_of_ble_eq_true rfl) ?_
  refine mv_dup d_TrustDesk_init_30 rfl ?_
  refine mv_callI_n (kc' := 19) (ks' := 2533) [] [.ref 77, .ref 77, .ref 64] d_TrustDesk_init_31 lI_TrustDesk_25 (c_Reckoner_init_0 (d := (d + 3)) (h_77 := (mj_up_self _ _ _))) rfl (by decide) (Nat.le_of_ble_eq_true rfl) (Nat.le_of_ble_eq_true rfl) rfl ?_
  refine mv_putF (fs' := [.ref 65, .ref 70, .ref 77, .null, .null, .null, .null, .null, .null, .null, .int 0, .int 0, .int 0]) d_TrustDesk_init_34 p_TrustDesk_26_12 rfl ((mj_up_ne _ _ (Nat.ne_of_beq_eq_false rfl)).trans ((mj_up_ne _ _ (Nat.ne_of_beq_eq_false rfl)).trans ((mj_up_ne _ _ (Nat.ne_of_beq_eq_false rfl)).trans ((mj_up_ne _ _ (Nat.ne_of_beq_eq_false rfl)).trans ((mj_up_ne _ _ (Nat.ne_of_beq_eq_false rfl)).trans ((mj_up_ne _ _ (Nat.ne_of_beq_eq_false rfl)).trans (mj_up_self _ _ _))))))) (by decide) rfl rfl rfl ?_
  refine mv_aload_n d_TrustDesk_init_37 rfl rfl ?_
  refine mv_new (kc' := 18) (ks' := 2519) d_TrustDesk_init_38 n_TrustDesk_30 (Nat.le_of_ble_eq_true rfl) (Nat.le_of_ble_eq_true rfl) ?_
  refine mv_dup d_TrustDesk_init_41 rfl ?_
  refine mv_callI_n (kc' := 9) (ks' := 2446) [] [.ref 80, .ref 80, .ref 64] d_TrustDesk_init_42 lI_TrustDesk_32 (c_Grouping_init_0 (d := (d + 3)) (h_80 := (mj_up_self _ _ _))) rfl (by decide) (Nat.le_of_ble_eq_true rfl) (Nat.le_of_ble_eq_true rfl) rfl ?_
  refine mv_putF (fs' := [.ref 65, .ref 70, .ref 77, .ref 80, .null, .null, .null, .null, .null, .null, .int 0, .int 0, .int 0]) d_TrustDesk_init_45 p_TrustDesk_33_12 rfl ((mj_up_ne _ _ (Nat.ne_of_beq_eq_false rfl)).trans ((mj_up_ne _ _ (Nat.ne_of_beq_eq_false rfl)).trans ((mj_up_ne _ _ (Nat.ne_of_beq_eq_false rfl)).trans ((mj_up_ne _ _ (Nat.ne_of_beq_eq_false rfl)).trans ((mj_up_ne _ _ (Nat.ne_of_beq_eq_false rfl)).trans ((mj_up_ne _ _ (Nat.ne_of_beq_eq_false rfl)).trans ((mj_up_ne _ _ (Nat.ne_of_beq_eq_false rfl)).trans ((mj_up_ne _ _ (Nat.ne_of_beq_eq_false rfl)).trans ((mj_up_ne _ _ (Nat.ne_of_beq_eq_false rfl)).trans ((mj_up_ne _ _ (Nat.ne_of_beq_eq_false rfl)).trans ((mj_up_ne _ _ (Nat.ne_of_beq_eq_false rfl)).trans ((mj_up_ne _ _ (Nat.ne_of_beq_eq_false rfl)).trans ((mj_up_ne _ _ (Nat.ne_of_beq_eq_false rfl)).trans ((mj_up_ne _ _ (Nat.ne_of_beq_eq_false rfl)).trans ((mj_up_ne _ _ (Nat.ne_of_beq_eq_false rfl)).trans ((mj_up_ne _ _ (Nat.ne_of_beq_eq_false rfl)).trans ((mj_up_ne _ _ (Nat.ne_of_beq_eq_false rfl)).trans ((mj_up_ne _ _ (Nat.ne_of_beq_eq_false rfl)).trans ((mj_up_ne _ _ (Nat.ne_of_beq_eq_false rfl)).trans (mj_up_self _ _ _)))))))))))))))))))) (by decide) rfl rfl rfl ?_
  refine mv_aload_n d_TrustDesk_init_48 rfl rfl ?_
  refine mv_new (kc' := 8) (ks' := 2441) d_TrustDesk_init_49 n_TrustDesk_37 (Nat.le_of_ble_eq_true rfl) (Nat.le_of_ble_eq_true rfl) ?_
  refine mv_dup d_TrustDesk_init_52 rfl ?_
  refine mv_iconst (v := 0) d_TrustDesk_init_53 (by decide) ?_
  refine mv_callI_n (kc' := 5) (ks' := 2412) [.int 0] [.int 0, .ref 90, .ref 90, .ref 64] d_TrustDesk_init_54 lI_TrustDesk_39 (c_Act_init_0 (d := d) (h_90 := (mj_up_self _ _ _))) rfl (by decide) (Nat.le_of_ble_eq_true rfl) (Nat.le_of_ble_eq_true rfl) rfl ?_
  refine mv_putF (fs' := [.ref 65, .ref 70, .ref 77, .ref 80, .ref 90, .null, .null, .null, .null, .null, .int 0, .int 0, .int 0]) d_TrustDesk_init_57 p_TrustDesk_42_12 rfl ((mj_up_ne _ _ (Nat.ne_of_beq_eq_false rfl)).trans ((mj_up_ne _ _ (Nat.ne_of_beq_eq_false rfl)).trans ((mj_up_ne _ _ (Nat.ne_of_beq_eq_false rfl)).trans ((mj_up_ne _ _ (Nat.ne_of_beq_eq_false rfl)).trans ((mj_up_ne _ _ (Nat.ne_of_beq_eq_false rfl)).trans ((mj_up_ne _ _ (Nat.ne_of_beq_eq_false rfl)).trans ((mj_up_ne _ _ (Nat.ne_of_beq_eq_false rfl)).trans ((mj_up_ne _ _ (Nat.ne_of_beq_eq_false rfl)).trans ((mj_up_ne _ _ (Nat.ne_of_beq_eq_false rfl)).trans ((mj_up_ne _ _ (Nat.ne_of_beq_eq_false rfl)).trans (mj_up_self _ _ _))))))))))) (by decide) rfl rfl rfl ?_
  refine mv_aload_n d_TrustDesk_init_60 rfl rfl ?_
  refine mv_new (kc' := 4) (ks' := 2409) d_TrustDesk_init_61 n_TrustDesk_46 (Nat.le_of_ble_eq_true rfl) (Nat.le_of_ble_eq_true rfl) ?_
  refine mv_dup d_TrustDesk_init_64 rfl ?_
  refine mv_callI_n (kc' := 4) (ks' := 2409) [] [.ref 94, .ref 94, .ref 64] d_TrustDesk_init_65 lI_TrustDesk_48 (c_ArrayList_init_1 (d := (d + 1)) (h_94 := (mj_up_self _ _ _))) rfl (by decide) (Nat.le_of_ble_eq_true rfl) (Nat.le_of_ble_eq_true rfl) rfl ?_
  refine mv_putF (fs' := [.ref 65, .ref 70, .ref 77, .ref 80, .ref 90, .ref 94, .null, .null, .null, .null, .int 0, .int 0, .int 0]) d_TrustDesk_init_68 p_TrustDesk_49_12 rfl ((mj_up_ne _ _ (Nat.ne_of_beq_eq_false rfl)).trans ((mj_up_ne _ _ (Nat.ne_of_beq_eq_false rfl)).trans ((mj_up_ne _ _ (Nat.ne_of_beq_eq_false rfl)).trans (mj_up_self _ _ _)))) (by decide) rfl rfl rfl ?_
  refine mv_aload_n d_TrustDesk_init_71 rfl rfl ?_
  refine mv_new (kc' := 3) (ks' := 2406) d_TrustDesk_init_72 n_TrustDesk_46 (Nat.le_of_ble_eq_true rfl) (Nat.le_of_ble_eq_true rfl) ?_
  refine mv_dup d_TrustDesk_init_75 rfl ?_
  refine mv_callI_n (kc' := 3) (ks' := 2406) [] [.ref 95, .ref 95, .ref 64] d_TrustDesk_init_76 lI_TrustDesk_48 (c_ArrayList_init_2 (d := (d + 1)) (h_95 := (mj_up_self _ _ _))) rfl (by decide) (Nat.le_of_ble_eq_true rfl) (Nat.le_of_ble_eq_true rfl) rfl ?_
  refine mv_putF (fs' := [.ref 65, .ref 70, .ref 77, .ref 80, .ref 90, .ref 94, .ref 95, .null, .null, .null, .int 0, .int 0, .int 0]) d_TrustDesk_init_79 p_TrustDesk_53_12 rfl ((mj_up_ne _ _ (Nat.ne_of_beq_eq_false rfl)).trans ((mj_up_ne _ _ (Nat.ne_of_beq_eq_false rfl)).trans ((mj_up_ne _ _ (Nat.ne_of_beq_eq_false rfl)).trans (mj_up_self _ _ _)))) (by decide) rfl rfl rfl ?_
  refine mv_aload_n d_TrustDesk_init_82 rfl rfl ?_
  refine mv_new (kc' := 2) (ks' := 2403) d_TrustDesk_init_83 n_TrustDesk_46 (Nat.le_of_ble_eq_true rfl) (Nat.le_of_ble_eq_true rfl) ?_
  refine mv_dup d_TrustDesk_init_86 rfl ?_
  refine mv_callI_n (kc' := 2) (ks' := 2403) [] [.ref 96, .ref 96, .ref 64] d_TrustDesk_init_87 lI_TrustDesk_48 (c_ArrayList_init_3 (d := (d + 1)) (h_96 := (mj_up_self _ _ _))) rfl (by decide) (Nat.le_of_ble_eq_true rfl) (Nat.le_of_ble_eq_true rfl) rfl ?_
  refine mv_putF (fs' := [.ref 65, .ref 70, .ref 77, .ref 80, .ref 90, .ref 94, .ref 95, .ref 96, .null, .null, .int 0, .int 0, .int 0]) d_TrustDesk_init_90 p_TrustDesk_56_12 rfl ((mj_up_ne _ _ (Nat.ne_of_beq_eq_false rfl)).trans ((mj_up_ne _ _ (Nat.ne_of_beq_eq_false rfl)).trans ((mj_up_ne _ _ (Nat.ne_of_beq_eq_false rfl)).trans (mj_up_self _ _ _)))) (by decide) rfl rfl rfl ?_
  refine mv_aload_n d_TrustDesk_init_93 rfl rfl ?_
  refine mv_new (kc' := 1) (ks' := 2400) d_TrustDesk_init_94 n_TrustDesk_46 (Nat.le_of_ble_eq_true rfl) (Nat.le_of_ble_eq_true rfl) ?_
  refine mv_dup d_TrustDesk_init_97 rfl ?_
  refine mv_callI_n (kc' := 1) (ks' := 2400) [] [.ref 97, .ref 97, .ref 64] d_TrustDesk_init_98 lI_TrustDesk_48 (c_ArrayList_init_4 (d := (d + 1)) (h_97 := (mj_up_self _ _ _))) rfl (by decide) (Nat.le_of_ble_eq_true rfl) (Nat.le_of_ble_eq_true rfl) rfl ?_
  refine mv_putF (fs' := [.ref 65, .ref 70, .ref 77, .ref 80, .ref 90, .ref 94, .ref 95, .ref 96, .ref 97, .null, .int 0, .int 0, .int 0]) d_TrustDesk_init_101 p_TrustDesk_59_12 rfl ((mj_up_ne _ _ (Nat.ne_of_beq_eq_false rfl)).trans ((mj_up_ne _ _ (Nat.ne_of_beq_eq_false rfl)).trans ((mj_up_ne _ _ (Nat.ne_of_beq_eq_false rfl)).trans (mj_up_self _ _ _)))) (by decide) rfl rfl rfl ?_
  refine mv_aload_n d_TrustDesk_init_104 rfl rfl ?_
  refine mv_sipush (v := 2400) d_TrustDesk_init_105 (by decide) ?_
  refine mv_newa_int (N := 2400) (kc' := 0) (ks' := 0) d_TrustDesk_init_108 (by decide) (by decide) (Nat.le_of_ble_eq_true rfl) (Nat.le_of_ble_eq_true rfl) (Nat.le_of_ble_eq_true rfl) ?_
  refine mv_putF (fs' := [.ref 65, .ref 70, .ref 77, .ref 80, .ref 90, .ref 94, .ref 95, .ref 96, .ref 97, .ref 98, .int 0, .int 0, .int 0]) d_TrustDesk_init_110 p_TrustDesk_62_12 rfl ((mj_up_ne _ _ (Nat.ne_of_beq_eq_false rfl)).trans (mj_up_self _ _ _)) (by decide) rfl rfl rfl ?_
  exact mv_vret d_TrustDesk_init_113 rfl ⟨rfl, rfl, rfl⟩
