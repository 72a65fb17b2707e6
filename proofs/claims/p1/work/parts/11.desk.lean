def e_fact (a b c : Int32) : Int32 := if 0 ≤ a.toInt ∧ a.toInt ≤ 7 ∧ 0 ≤ b.toInt ∧ b.toInt ≤ 100 ∧ 0 ≤ c.toInt ∧ c.toInt ≤ 9999 then 1 else 0
def e_factOf (a b c : Int32) : Int32 := if 0 ≤ a.toInt ∧ a.toInt ≤ 7 ∧ 0 ≤ b.toInt ∧ b.toInt ≤ 100 ∧ 0 ≤ c.toInt ∧ c.toInt ≤ 0 then 0 else (-1)
def e_end (a : Int32) : Int32 := if 0 ≤ a.toInt ∧ a.toInt ≤ 0 then a else (-1)
def e_act (a : Int32) : Int32 := if 0 ≤ a.toInt ∧ a.toInt ≤ 36000 then 0 else (-1)
def e_fund (a b : Int32) : Int32 := if 0 ≤ a.toInt ∧ a.toInt ≤ 999 ∧ 0 ≤ b.toInt ∧ b.toInt ≤ 99999 then 0 else (-1)
def e_near (a : Int32) : Int32 := if 0 ≤ a.toInt ∧ a.toInt ≤ 255 then (-2) else (-1)
def e_count (a : Int32) : Int32 := if 0 ≤ a.toInt ∧ a.toInt ≤ 11 then 0 else (-1)
def e_holds (a b : Int32) : Int32 := if 0 ≤ a.toInt ∧ a.toInt ≤ 36000 ∧ 0 ≤ b.toInt ∧ b.toInt ≤ 5 then (mj_rwf b.toNatClampNeg) else (-1)
def e_days (a : Int32) : Int32 := if 1 ≤ a.toInt ∧ a.toInt ≤ 720 then a else (-1)
abbrev kY_TrustDesk_fact : mj_Y := (⟨"TrustDesk", "fact", "(III)Z"⟩, prog_1_method_2_code, 4, (Option.some Jvm.ClassFile.FieldType.boolean))
theorem d_TrustDesk_fact_0 : decode kY_TrustDesk_fact.2.1 0 = .ok (.iload_n 1, 1) := by decide +kernel
theorem d_TrustDesk_fact_1 : decode kY_TrustDesk_fact.2.1 1 = .ok (.invokestatic 66, 3) := by decide +kernel
abbrev kY_TrustDesk_isFact : mj_Y := (⟨"TrustDesk", "isFact", "(I)Z"⟩, prog_1_method_65_code, 1, (Option.some Jvm.ClassFile.FieldType.boolean))
theorem lS_TrustDesk_66 : mj_lS "TrustDesk" 66 kY_TrustDesk_isFact 1 := ⟨⟨(mj_in1 (List.mem_of_getElem? (i := 311) (by decide +kernel)) rfl), (mj_in1 (List.mem_of_getElem? (i := 1) (by decide +kernel)) rfl), (mj_in1 (List.mem_of_getElem? (i := 313) (by decide +kernel)) rfl), by decide, rfl, by decide⟩, (mj_in1 (List.mem_of_getElem? (i := 312) (by decide +kernel)) rfl)⟩
theorem d_TrustDesk_isFact_0 : decode kY_TrustDesk_isFact.2.1 0 = .ok (.iload_n 0, 1) := by decide +kernel
theorem d_TrustDesk_isFact_1 : decode kY_TrustDesk_isFact.2.1 1 = .ok (.ifCond .lt 13, 3) := by decide +kernel
theorem d_TrustDesk_isFact_14 : decode kY_TrustDesk_isFact.2.1 14 = .ok (.iconst 0, 1) := by decide +kernel
theorem d_TrustDesk_isFact_15 : decode kY_TrustDesk_isFact.2.1 15 = .ok (.ireturn, 1) := by decide +kernel
theorem d_TrustDesk_isFact_4 : decode kY_TrustDesk_isFact.2.1 4 = .ok (.iload_n 0, 1) := by decide +kernel
theorem d_TrustDesk_isFact_5 : decode kY_TrustDesk_isFact.2.1 5 = .ok (.bipush 8, 2) := by decide +kernel
theorem d_TrustDesk_isFact_7 : decode kY_TrustDesk_isFact.2.1 7 = .ok (.if_icmp .ge 7, 3) := by decide +kernel
theorem d_TrustDesk_isFact_10 : decode kY_TrustDesk_isFact.2.1 10 = .ok (.iconst 1, 1) := by decide +kernel
theorem d_TrustDesk_isFact_11 : decode kY_TrustDesk_isFact.2.1 11 = .ok (.goto 4, 3) := by decide +kernel
theorem c_TrustDesk_isFact_0 {g : mj_G} {l : Launch} {d nx : Nat} {M : mj_M} {x0 : Int32} : mj_Met g l kY_TrustDesk_isFact d [.int x0] M nx 0 0 (mj_B (0 ≤ x0.toInt ∧ x0.toInt ≤ 7) M nx) := by
  refine mj_enter (by decide) (Nat.le_of_ble_eq_true rfl) ?_
  refine mv_iload_n d_TrustDesk_isFact_0 rfl rfl ?_
  refine mv_if_ltZ (tgt := 14) (a := x0.toInt) d_TrustDesk_isFact_1 (by decide) rfl (fun b1 => ?_) (fun b1 => ?_)
  · refine mv_iconst (v := 0) d_TrustDesk_isFact_14 (by decide) ?_
    exact mv_iret d_TrustDesk_isFact_15 rfl (by first | rfl | decide) ⟨Or.inr ⟨by omega, rfl⟩, rfl, rfl⟩
  · refine mv_iload_n d_TrustDesk_isFact_4 rfl rfl ?_
    refine mv_bipush (v := 8) d_TrustDesk_isFact_5 (by decide) ?_
    refine mv_icmp_geZ (tgt := 14) (a := x0.toInt) (b := 8) d_TrustDesk_isFact_7 (by decide) rfl (by decide) (fun b2 => ?_) (fun b2 => ?_)
    · refine mv_iconst (v := 0) d_TrustDesk_isFact_14 (by decide) ?_
      exact mv_iret d_TrustDesk_isFact_15 rfl (by first | rfl | decide) ⟨Or.inr ⟨by omega, rfl⟩, rfl, rfl⟩
    · refine mv_iconst (v := 1) d_TrustDesk_isFact_10 (by decide) ?_
      refine mv_goto (tgt := 15) d_TrustDesk_isFact_11 (by decide) ?_
      exact mv_iret d_TrustDesk_isFact_15 rfl (by first | rfl | decide) ⟨Or.inl ⟨by omega, rfl⟩, rfl, rfl⟩
theorem d_TrustDesk_fact_4 : decode kY_TrustDesk_fact.2.1 4 = .ok (.ifCond .eq 21, 3) := by decide +kernel
theorem d_TrustDesk_fact_7 : decode kY_TrustDesk_fact.2.1 7 = .ok (.iload_n 2, 1) := by decide +kernel
theorem d_TrustDesk_fact_8 : decode kY_TrustDesk_fact.2.1 8 = .ok (.invokestatic 70, 3) := by decide +kernel
abbrev kY_TrustDesk_isYear : mj_Y := (⟨"TrustDesk", "isYear", "(I)Z"⟩, prog_1_method_66_code, 1, (Option.some Jvm.ClassFile.FieldType.boolean))
theorem lS_TrustDesk_70 : mj_lS "TrustDesk" 70 kY_TrustDesk_isYear 1 := ⟨⟨(mj_in1 (List.mem_of_getElem? (i := 314) (by decide +kernel)) rfl), (mj_in1 (List.mem_of_getElem? (i := 1) (by decide +kernel)) rfl), (mj_in1 (List.mem_of_getElem? (i := 316) (by decide +kernel)) rfl), by decide, rfl, by decide⟩, (mj_in1 (List.mem_of_getElem? (i := 315) (by decide +kernel)) rfl)⟩
theorem d_TrustDesk_isYear_0 : decode kY_TrustDesk_isYear.2.1 0 = .ok (.iload_n 0, 1) := by decide +kernel
theorem d_TrustDesk_isYear_1 : decode kY_TrustDesk_isYear.2.1 1 = .ok (.ifCond .lt 13, 3) := by decide +kernel
theorem d_TrustDesk_isYear_14 : decode kY_TrustDesk_isYear.2.1 14 = .ok (.iconst 0, 1) := by decide +kernel
theorem d_TrustDesk_isYear_15 : decode kY_TrustDesk_isYear.2.1 15 = .ok (.ireturn, 1) := by decide +kernel
theorem d_TrustDesk_isYear_4 : decode kY_TrustDesk_isYear.2.1 4 = .ok (.iload_n 0, 1) := by decide +kernel
theorem d_TrustDesk_isYear_5 : decode kY_TrustDesk_isYear.2.1 5 = .ok (.bipush 100, 2) := by decide +kernel
theorem d_TrustDesk_isYear_7 : decode kY_TrustDesk_isYear.2.1 7 = .ok (.if_icmp .gt 7, 3) := by decide +kernel
theorem d_TrustDesk_isYear_10 : decode kY_TrustDesk_isYear.2.1 10 = .ok (.iconst 1, 1) := by decide +kernel
theorem d_TrustDesk_isYear_11 : decode kY_TrustDesk_isYear.2.1 11 = .ok (.goto 4, 3) := by decide +kernel
theorem c_TrustDesk_isYear_0 {g : mj_G} {l : Launch} {d nx : Nat} {M : mj_M} {x0 : Int32} : mj_Met g l kY_TrustDesk_isYear d [.int x0] M nx 0 0 (mj_B (0 ≤ x0.toInt ∧ x0.toInt ≤ 100) M nx) := by
  refine mj_enter (by decide) (Nat.le_of_ble_eq_true rfl) ?_
  refine mv_iload_n d_TrustDesk_isYear_0 rfl rfl ?_
  refine mv_if_ltZ (tgt := 14) (a := x0.toInt) d_TrustDesk_isYear_1 (by decide) rfl (fun b1 => ?_) (fun b1 => ?_)
  · refine mv_iconst (v := 0) d_TrustDesk_isYear_14 (by decide) ?_
    exact mv_iret d_TrustDesk_isYear_15 rfl (by first | rfl | decide) ⟨Or.inr ⟨by omega, rfl⟩, rfl, rfl⟩
  · refine mv_iload_n d_TrustDesk_isYear_4 rfl rfl ?_
    refine mv_bipush (v := 100) d_TrustDesk_isYear_5 (by decide) ?_
    refine mv_icmp_gtZ (tgt := 14) (a := x0.toInt) (b := 100) d_TrustDesk_isYear_7 (by decide) rfl (by decide) (fun b2 => ?_) (fun b2 => ?_)
    · refine mv_iconst (v := 0) d_TrustDesk_isYear_14 (by decide) ?_
      exact mv_iret d_TrustDesk_isYear_15 rfl (by first | rfl | decide) ⟨Or.inr ⟨by omega, rfl⟩, rfl, rfl⟩
    · refine mv_iconst (v := 1) d_TrustDesk_isYear_10 (by decide) ?_
      refine mv_goto (tgt := 15) d_TrustDesk_isYear_11 (by decide) ?_
      exact mv_iret d_TrustDesk_isYear_15 rfl (by first | rfl | decide) ⟨Or.inl ⟨by omega, rfl⟩, rfl, rfl⟩
theorem d_TrustDesk_fact_11 : decode kY_TrustDesk_fact.2.1 11 = .ok (.ifCond .eq 14, 3) := by decide +kernel
theorem d_TrustDesk_fact_14 : decode kY_TrustDesk_fact.2.1 14 = .ok (.iload_n 3, 1) := by decide +kernel
theorem d_TrustDesk_fact_15 : decode kY_TrustDesk_fact.2.1 15 = .ok (.ifCond .lt 10, 3) := by decide +kernel
theorem d_TrustDesk_fact_25 : decode kY_TrustDesk_fact.2.1 25 = .ok (.iconst 0, 1) := by decide +kernel
theorem d_TrustDesk_fact_26 : decode kY_TrustDesk_fact.2.1 26 = .ok (.ireturn, 1) := by decide +kernel
theorem d_TrustDesk_fact_18 : decode kY_TrustDesk_fact.2.1 18 = .ok (.iload_n 3, 1) := by decide +kernel
theorem d_TrustDesk_fact_19 : decode kY_TrustDesk_fact.2.1 19 = .ok (.sipush 9999, 3) := by decide +kernel
theorem d_TrustDesk_fact_22 : decode kY_TrustDesk_fact.2.1 22 = .ok (.if_icmp .le 5, 3) := by decide +kernel
theorem d_TrustDesk_fact_27 : decode kY_TrustDesk_fact.2.1 27 = .ok (.aload_n 0, 1) := by decide +kernel
theorem d_TrustDesk_fact_28 : decode kY_TrustDesk_fact.2.1 28 = .ok (.getfield 10, 3) := by decide +kernel
theorem f_TrustDesk_10_12 : mj_fl "TrustDesk" 10 12 0 := ⟨kR_TrustDesk, kF_TrustDesk, 13, "TrustDesk", rfl, kg_12, by decide, (mj_in1 (List.mem_of_getElem? (i := 267) (by decide +kernel)) rfl), Or.inl rfl⟩
theorem d_TrustDesk_fact_31 : decode kY_TrustDesk_fact.2.1 31 = .ok (.iload_n 1, 1) := by decide +kernel
theorem d_TrustDesk_fact_32 : decode kY_TrustDesk_fact.2.1 32 = .ok (.iload_n 2, 1) := by decide +kernel
theorem d_TrustDesk_fact_33 : decode kY_TrustDesk_fact.2.1 33 = .ok (.iload_n 3, 1) := by decide +kernel
theorem d_TrustDesk_fact_34 : decode kY_TrustDesk_fact.2.1 34 = .ok (.aload_n 0, 1) := by decide +kernel
theorem d_TrustDesk_fact_35 : decode kY_TrustDesk_fact.2.1 35 = .ok (.getfield 73, 3) := by decide +kernel
theorem f_TrustDesk_73_12 : mj_fl "TrustDesk" 73 12 12 := ⟨kR_TrustDesk, kF_TrustDesk, 13, "TrustDesk", rfl, kg_12, by decide, (mj_in1 (List.mem_of_getElem? (i := 279) (by decide +kernel)) rfl), Or.inl rfl⟩
theorem d_TrustDesk_fact_38 : decode kY_TrustDesk_fact.2.1 38 = .ok (.invokevirtual 77, 3) := by decide +kernel
abbrev kY_Facts_tell : mj_Y := (⟨"TrustDesk$Facts", "tell", "(IIII)Z"⟩, prog_6_method_2_code, 6, (Option.some Jvm.ClassFile.FieldType.boolean))
theorem lV_TrustDesk_77 : mj_lV "TrustDesk" 77 kY_Facts_tell 4 := ⟨⟨(mj_in1 (List.mem_of_getElem? (i := 317) (by decide +kernel)) rfl), (mj_in1 (List.mem_of_getElem? (i := 2) (by decide +kernel)) rfl), (mj_in1 (List.mem_of_getElem? (i := 320) (by decide +kernel)) rfl), by decide, rfl, by decide⟩, (mj_in1 (List.mem_of_getElem? (i := 318) (by decide +kernel)) rfl), (mj_in1 (List.mem_of_getElem? (i := 319) (by decide +kernel)) rfl)⟩
theorem d_Facts_tell_0 : decode kY_Facts_tell.2.1 0 = .ok (.aload_n 0, 1) := by decide +kernel
theorem d_Facts_tell_1 : decode kY_Facts_tell.2.1 1 = .ok (.getfield 24, 3) := by decide +kernel
theorem f_Facts_24_5 : mj_fl "TrustDesk$Facts" 24 5 4 := ⟨kR_Facts, kF_Facts, 5, "TrustDesk$Facts", rfl, kg_5, by decide, (mj_in1 (List.mem_of_getElem? (i := 49) (by decide +kernel)) rfl), Or.inl rfl⟩
theorem d_Facts_tell_4 : decode kY_Facts_tell.2.1 4 = .ok (.istore 5, 2) := by decide +kernel
theorem d_Facts_tell_6 : decode kY_Facts_tell.2.1 6 = .ok (.iload 5, 2) := by decide +kernel
theorem d_Facts_tell_8 : decode kY_Facts_tell.2.1 8 = .ok (.ifCond .lt 11, 3) := by decide +kernel
theorem d_Facts_tell_11 : decode kY_Facts_tell.2.1 11 = .ok (.iload 5, 2) := by decide +kernel
theorem d_Facts_tell_13 : decode kY_Facts_tell.2.1 13 = .ok (.sipush 300, 3) := by decide +kernel
theorem d_Facts_tell_16 : decode kY_Facts_tell.2.1 16 = .ok (.if_icmp .lt 5, 3) := by decide +kernel
theorem d_Facts_tell_21 : decode kY_Facts_tell.2.1 21 = .ok (.aload_n 0, 1) := by decide +kernel
theorem d_Facts_tell_22 : decode kY_Facts_tell.2.1 22 = .ok (.getfield 9, 3) := by decide +kernel
theorem f_Facts_9_5 : mj_fl "TrustDesk$Facts" 9 5 0 := ⟨kR_Facts, kF_Facts, 5, "TrustDesk$Facts", rfl, kg_5, by decide, (mj_in1 (List.mem_of_getElem? (i := 45) (by decide +kernel)) rfl), Or.inl rfl⟩
theorem d_Facts_tell_25 : decode kY_Facts_tell.2.1 25 = .ok (.iload 5, 2) := by decide +kernel
theorem d_Facts_tell_27 : decode kY_Facts_tell.2.1 27 = .ok (.iload_n 1, 1) := by decide +kernel
theorem d_Facts_tell_28 : decode kY_Facts_tell.2.1 28 = .ok (.iastore, 1) := by decide +kernel
theorem d_Facts_tell_29 : decode kY_Facts_tell.2.1 29 = .ok (.aload_n 0, 1) := by decide +kernel
theorem d_Facts_tell_30 : decode kY_Facts_tell.2.1 30 = .ok (.getfield 15, 3) := by decide +kernel
theorem f_Facts_15_5 : mj_fl "TrustDesk$Facts" 15 5 1 := ⟨kR_Facts, kF_Facts, 5, "TrustDesk$Facts", rfl, kg_5, by decide, (mj_in1 (List.mem_of_getElem? (i := 46) (by decide +kernel)) rfl), Or.inl rfl⟩
theorem d_Facts_tell_33 : decode kY_Facts_tell.2.1 33 = .ok (.iload 5, 2) := by decide +kernel
theorem d_Facts_tell_35 : decode kY_Facts_tell.2.1 35 = .ok (.iload_n 2, 1) := by decide +kernel
theorem d_Facts_tell_36 : decode kY_Facts_tell.2.1 36 = .ok (.iastore, 1) := by decide +kernel
theorem d_Facts_tell_37 : decode kY_Facts_tell.2.1 37 = .ok (.aload_n 0, 1) := by decide +kernel
theorem d_Facts_tell_38 : decode kY_Facts_tell.2.1 38 = .ok (.getfield 18, 3) := by decide +kernel
theorem f_Facts_18_5 : mj_fl "TrustDesk$Facts" 18 5 2 := ⟨kR_Facts, kF_Facts, 5, "TrustDesk$Facts", rfl, kg_5, by decide, (mj_in1 (List.mem_of_getElem? (i := 47) (by decide +kernel)) rfl), Or.inl rfl⟩
theorem d_Facts_tell_41 : decode kY_Facts_tell.2.1 41 = .ok (.iload 5, 2) := by decide +kernel
theorem d_Facts_tell_43 : decode kY_Facts_tell.2.1 43 = .ok (.iload_n 3, 1) := by decide +kernel
theorem d_Facts_tell_44 : decode kY_Facts_tell.2.1 44 = .ok (.iastore, 1) := by decide +kernel
theorem d_Facts_tell_45 : decode kY_Facts_tell.2.1 45 = .ok (.aload_n 0, 1) := by decide +kernel
theorem d_Facts_tell_46 : decode kY_Facts_tell.2.1 46 = .ok (.getfield 21, 3) := by decide +kernel
theorem f_Facts_21_5 : mj_fl "TrustDesk$Facts" 21 5 3 := ⟨kR_Facts, kF_Facts, 5, "TrustDesk$Facts", rfl, kg_5, by decide, (mj_in1 (List.mem_of_getElem? (i := 48) (by decide +kernel)) rfl), Or.inl rfl⟩
theorem d_Facts_tell_49 : decode kY_Facts_tell.2.1 49 = .ok (.iload 5, 2) := by decide +kernel
theorem d_Facts_tell_51 : decode kY_Facts_tell.2.1 51 = .ok (.iload 4, 2) := by decide +kernel
theorem d_Facts_tell_53 : decode kY_Facts_tell.2.1 53 = .ok (.iastore, 1) := by decide +kernel
theorem d_Facts_tell_54 : decode kY_Facts_tell.2.1 54 = .ok (.aload_n 0, 1) := by decide +kernel
theorem d_Facts_tell_55 : decode kY_Facts_tell.2.1 55 = .ok (.dup, 1) := by decide +kernel
theorem d_Facts_tell_56 : decode kY_Facts_tell.2.1 56 = .ok (.getfield 24, 3) := by decide +kernel
theorem d_Facts_tell_59 : decode kY_Facts_tell.2.1 59 = .ok (.iconst 1, 1) := by decide +kernel
theorem d_Facts_tell_60 : decode kY_Facts_tell.2.1 60 = .ok (.iadd, 1) := by decide +kernel
theorem d_Facts_tell_61 : decode kY_Facts_tell.2.1 61 = .ok (.putfield 24, 3) := by decide +kernel
theorem p_Facts_24_5 : mj_fp "TrustDesk$Facts" 24 5 4 (kt_Facts 4) false := ⟨kR_Facts, kF_Facts, 5, "TrustDesk$Facts", kt_Facts, rfl, kg_5, by decide, (mj_in1 (List.mem_of_getElem? (i := 49) (by decide +kernel)) rfl), Or.inl rfl, kto_Facts, kn_Facts, rfl, rfl, fun h => by cases h⟩
theorem d_Facts_tell_64 : decode kY_Facts_tell.2.1 64 = .ok (.iconst 1, 1) := by decide +kernel
theorem d_Facts_tell_65 : decode kY_Facts_tell.2.1 65 = .ok (.ireturn, 1) := by decide +kernel
theorem c_Facts_tell_0 {g : mj_G} {l : Launch} {d nx : Nat} {M : mj_M} {x1 : Int32} {x2 : Int32} {x3 : Int32} (h_65 : M 65 = some (.inr (5, [.ref 66, .ref 67, .ref 68, .ref 69, .int 0]))) (h_66 : M 66 = some (.inl (0, 300, .inl (fun _ => 0)))) (h_67 : M 67 = some (.inl (0, 300, .inl (fun _ => 0)))) (h_68 : M 68 = some (.inl (0, 300, .inl (fun _ => 0)))) (h_69 : M 69 = some (.inl (0, 300, .inl (fun _ => 0)))) : mj_Met g l kY_Facts_tell d [.ref 65, .int x1, .int x2, .int x3, .int 0] M nx 0 0 (mj_E1 (some (.int 1)) (mj_up (mj_up (mj_up (mj_up (mj_up M 66 (.inl (0, 300, .inl (upd (fun _ => 0) 0 x1)))) 67 (.inl (0, 300, .inl (upd (fun _ => 0) 0 x2)))) 68 (.inl (0, 300, .inl (upd (fun _ => 0) 0 x3)))) 69 (.inl (0, 300, .inl (upd (fun _ => 0) 0 0)))) 65 (.inr (5, [.ref 66, .ref 67, .ref 68, .ref 69, .int 1]))) nx) := by
  refine mj_enter (by decide) (Nat.le_of_ble_eq_true rfl) ?_
  refine mv_aload_n d_Facts_tell_0 rfl rfl ?_
  refine mv_get d_Facts_tell_1 f_Facts_24_5 h_65 rfl ?_
  refine mv_istore (lv' := [(5, .int 0), (0, .ref 65), (1, .int x1), (2, .int x2), (3, .int x3), (4, .int 0)]) d_Facts_tell_4 (by decide) rfl ?_
  refine mv_iload d_Facts_tell_6 rfl ?_
  refine mv_if_lt_f (tgt := 19) d_Facts_tell_8 (by decide) (by decide) ?_
  refine mv_iload d_Facts_tell_11 rfl ?_
  refine mv_sipush (v := 300) d_Facts_tell_13 (by decide) ?_
  refine mv_icmp_lt_t (tgt := 21) d_Facts_tell_16 (by decide) (by decide) ?_
  refine mv_aload_n d_Facts_tell_21 rfl rfl ?_
  refine mv_get d_Facts_tell_22 f_Facts_9_5 h_65 rfl ?_
  refine mv_iload d_Facts_tell_25 rfl ?_
  refine mv_iload_n d_Facts_tell_27 rfl rfl ?_
  refine mv_iast (f' := (upd (fun _ => 0) 0 x1)) d_Facts_tell_28 h_66 (by unfold vp_in; decide) rfl ?_
  refine mv_aload_n d_Facts_tell_29 rfl rfl ?_
  refine mv_get d_Facts_tell_30 f_Facts_15_5 ((mj_up_ne _ _ (Nat.ne_of_beq_eq_false rfl)).trans h_65) rfl ?_
  refine mv_iload d_Facts_tell_33 rfl ?_
  refine mv_iload_n d_Facts_tell_35 rfl rfl ?_
  refine mv_iast (f' := (upd (fun _ => 0) 0 x2)) d_Facts_tell_36 ((mj_up_ne _ _ (Nat.ne_of_beq_eq_false rfl)).trans h_67) (by unfold vp_in; decide) rfl ?_
  refine mv_aload_n d_Facts_tell_37 rfl rfl ?_
  refine mv_get d_Facts_tell_38 f_Facts_18_5 ((mj_up_ne _ _ (Nat.ne_of_beq_eq_false rfl)).trans ((mj_up_ne _ _ (Nat.ne_of_beq_eq_false rfl)).trans h_65)) rfl ?_
  refine mv_iload d_Facts_tell_41 rfl ?_
  refine mv_iload_n d_Facts_tell_43 rfl rfl ?_
  refine mv_iast (f' := (upd (fun _ => 0) 0 x3)) d_Facts_tell_44 ((mj_up_ne _ _ (Nat.ne_of_beq_eq_false rfl)).trans ((mj_up_ne _ _ (Nat.ne_of_beq_eq_false rfl)).trans h_68)) (by unfold vp_in; decide) rfl ?_
  refine mv_aload_n d_Facts_tell_45 rfl rfl ?_
  refine mv_get d_Facts_tell_46 f_Facts_21_5 ((mj_up_ne _ _ (Nat.ne_of_beq_eq_false rfl)).trans ((mj_up_ne _ _ (Nat.ne_of_beq_eq_false rfl)).trans ((mj_up_ne _ _ (Nat.ne_of_beq_eq_false rfl)).trans h_65))) rfl ?_
  refine mv_iload d_Facts_tell_49 rfl ?_
  refine mv_iload d_Facts_tell_51 rfl ?_
  refine mv_iast (f' := (upd (fun _ => 0) 0 0)) d_Facts_tell_53 ((mj_up_ne _ _ (Nat.ne_of_beq_eq_false rfl)).trans ((mj_up_ne _ _ (Nat.ne_of_beq_eq_false rfl)).trans ((mj_up_ne _ _ (Nat.ne_of_beq_eq_false rfl)).trans h_69))) (by unfold vp_in; decide) rfl ?_
  refine mv_aload_n d_Facts_tell_54 rfl rfl ?_
  refine mv_dup d_Facts_tell_55 rfl ?_
  refine mv_get d_Facts_tell_56 f_Facts_24_5 ((mj_up_ne _ _ (Nat.ne_of_beq_eq_false rfl)).trans ((mj_up_ne _ _ (Nat.ne_of_beq_eq_false rfl)).trans ((mj_up_ne _ _ (Nat.ne_of_beq_eq_false rfl)).trans ((mj_up_ne _ _ (Nat.ne_of_beq_eq_false rfl)).trans h_65)))) rfl ?_
  refine mv_iconst (v := 1) d_Facts_tell_59 (by decide) ?_
  refine mv_iaddv (v := 1) d_Facts_tell_60 (by decide) ?_
  refine mv_put (fs' := [.ref 66, .ref 67, .ref 68, .ref 69, .int 1]) d_Facts_tell_61 p_Facts_24_5 ((mj_up_ne _ _ (Nat.ne_of_beq_eq_false rfl)).trans ((mj_up_ne _ _ (Nat.ne_of_beq_eq_false rfl)).trans ((mj_up_ne _ _ (Nat.ne_of_beq_eq_false rfl)).trans ((mj_up_ne _ _ (Nat.ne_of_beq_eq_false rfl)).trans h_65)))) (Nat.le_of_ble_eq_true rfl) rfl rfl rfl ?_
  refine mv_iconst (v := 1) d_Facts_tell_64 (by decide) ?_
  exact mv_iret d_Facts_tell_65 rfl (by first | rfl | decide) ⟨rfl, rfl, rfl⟩
theorem d_TrustDesk_fact_41 : decode kY_TrustDesk_fact.2.1 41 = .ok (.ireturn, 1) := by decide +kernel
theorem c_TrustDesk_fact_0 {g : mj_G} {l : Launch} {d nx : Nat} {M : mj_M} {x1 : Int32} {x2 : Int32} {x3 : Int32} (h_64 : M 64 = some (.inr (12, [.ref 65, .ref 70, .ref 77, .ref 80, .ref 90, .ref 94, .ref 95, .ref 96, .ref 97, .ref 98, .int 0, .int 0, .int 0]))) (h_65 : M 65 = some (.inr (5, [.ref 66, .ref 67, .ref 68, .ref 69, .int 0]))) (h_66 : M 66 = some (.inl (0, 300, .inl (fun _ => 0)))) (h_67 : M 67 = some (.inl (0, 300, .inl (fun _ => 0)))) (h_68 : M 68 = some (.inl (0, 300, .inl (fun _ => 0)))) (h_69 : M 69 = some (.inl (0, 300, .inl (fun _ => 0)))) : mj_Met g l kY_TrustDesk_fact (d + 1) [.ref 64, .int x1, .int x2, .int x3] M nx 0 0 (mj_KP (some (.int (e_fact x1 x2 x3))) M 99 149) := by
  refine mj_enter (by decide) (Nat.le_of_ble_eq_true rfl) ?_
  refine mv_iload_n d_TrustDesk_fact_0 rfl rfl ?_
  refine mv_callS_b (kc' := 0) (ks' := 0) [.int x1] [.int x1] d_TrustDesk_fact_1 lS_TrustDesk_66 (c_TrustDesk_isFact_0 (d := d) (x0 := x1)) rfl (Nat.le_of_ble_eq_true rfl) (Nat.le_of_ble_eq_true rfl) (Nat.le_of_ble_eq_true rfl) rfl (fun b1 => ?_) (fun b1 => ?_)
  · refine mv_if_eq_f (tgt := 25) d_TrustDesk_fact_4 (by decide) (by decide) ?_
    refine mv_iload_n d_TrustDesk_fact_7 rfl rfl ?_
    refine mv_callS_b (kc' := 0) (ks' := 0) [.int x2] [.int x2] d_TrustDesk_fact_8 lS_TrustDesk_70 (c_TrustDesk_isYear_0 (d := d) (x0 := x2)) rfl (Nat.le_of_ble_eq_true rfl) (Nat.le_of_ble_eq_true rfl) (Nat.le_of_ble_eq_true rfl) rfl (fun b2 => ?_) (fun b2 => ?_)
    · refine mv_if_eq_f (tgt := 25) d_TrustDesk_fact_11 (by decide) (by decide) ?_
      refine mv_iload_n d_TrustDesk_fact_14 rfl rfl ?_
      refine mv_if_ltZ (tgt := 25) (a := x3.toInt) d_TrustDesk_fact_15 (by decide) rfl (fun b3 => ?_) (fun b3 => ?_)
      · refine mv_iconst (v := 0) d_TrustDesk_fact_25 (by decide) ?_
        exact mv_iret d_TrustDesk_fact_26 rfl (by first | rfl | decide) ⟨(by unfold e_fact; first | rw [if_pos (by omega)] | rw [if_neg (by omega)]), fun a ha1 ha2 => rfl⟩
      · refine mv_iload_n d_TrustDesk_fact_18 rfl rfl ?_
        refine mv_sipush (v := 9999) d_TrustDesk_fact_19 (by decide) ?_
        refine mv_icmp_leZ (tgt := 27) (a := x3.toInt) (b := 9999) d_TrustDesk_fact_22 (by decide) rfl (by decide) (fun b4 => ?_) (fun b4 => ?_)
        · refine mv_aload_n d_TrustDesk_fact_27 rfl rfl ?_
          refine mv_get d_TrustDesk_fact_28 f_TrustDesk_10_12 h_64 rfl ?_
          refine mv_iload_n d_TrustDesk_fact_31 rfl rfl ?_
          refine mv_iload_n d_TrustDesk_fact_32 rfl rfl ?_
          refine mv_iload_n d_TrustDesk_fact_33 rfl rfl ?_
          refine mv_aload_n d_TrustDesk_fact_34 rfl rfl ?_
          refine mv_get d_TrustDesk_fact_35 f_TrustDesk_73_12 h_64 rfl ?_
          refine mv_callV_s (kc' := 0) (ks' := 0) [.int x1, .int x2, .int x3, .int 0] [.int 0, .int x3, .int x2, .int x1, .ref 65] d_TrustDesk_fact_38 lV_TrustDesk_77 h_65 rfl (c_Facts_tell_0 (d := d) (x1 := x1) (x2 := x2) (x3 := x3) (h_65 := h_65) (h_66 := h_66) (h_67 := h_67) (h_68 := h_68) (h_69 := h_69)) rfl (Nat.le_of_ble_eq_true rfl) (Nat.le_of_ble_eq_true rfl) (Nat.le_of_ble_eq_true rfl) rfl ?_
          exact mv_iret d_TrustDesk_fact_41 rfl (by first | rfl | decide) ⟨(by unfold e_fact; first | rw [if_pos (by omega)] | rw [if_neg (by omega)]), fun a ha1 ha2 => (mj_up_ne _ _ (show a ≠ 65 by omega)).trans ((mj_up_ne _ _ (show a ≠ 69 by omega)).trans ((mj_up_ne _ _ (show a ≠ 68 by omega)).trans ((mj_up_ne _ _ (show a ≠ 67 by omega)).trans ((mj_up_ne _ _ (show a ≠ 66 by omega)).trans (rfl)))))⟩
        · refine mv_iconst (v := 0) d_TrustDesk_fact_25 (by decide) ?_
          exact mv_iret d_TrustDesk_fact_26 rfl (by first | rfl | decide) ⟨(by unfold e_fact; first | rw [if_pos (by omega)] | rw [if_neg (by omega)]), fun a ha1 ha2 => rfl⟩
    · refine mv_if_eq_t (tgt := 25) d_TrustDesk_fact_11 (by decide) (by decide) ?_
      refine mv_iconst (v := 0) d_TrustDesk_fact_25 (by decide) ?_
      exact mv_iret d_TrustDesk_fact_26 rfl (by first | rfl | decide) ⟨(by unfold e_fact; first | rw [if_pos (by omega)] | rw [if_neg (by omega)]), fun a ha1 ha2 => rfl⟩
  · refine mv_if_eq_t (tgt := 25) d_TrustDesk_fact_4 (by decide) (by decide) ?_
    refine mv_iconst (v := 0) d_TrustDesk_fact_25 (by decide) ?_
    exact mv_iret d_TrustDesk_fact_26 rfl (by first | rfl | decide) ⟨(by unfold e_fact; first | rw [if_pos (by omega)] | rw [if_neg (by omega)]), fun a ha1 ha2 => rfl⟩
abbrev kY_TrustDesk_factOf : mj_Y := (⟨"TrustDesk", "factOf", "(III)I"⟩, prog_1_method_3_code, 4, (Option.some Jvm.ClassFile.FieldType.int))
theorem d_TrustDesk_factOf_0 : decode kY_TrustDesk_factOf.2.1 0 = .ok (.iload_n 1, 1) := by decide +kernel
theorem d_TrustDesk_factOf_1 : decode kY_TrustDesk_factOf.2.1 1 = .ok (.invokestatic 66, 3) := by decide +kernel
theorem d_TrustDesk_factOf_4 : decode kY_TrustDesk_factOf.2.1 4 = .ok (.ifCond .eq 18, 3) := by decide +kernel
theorem d_TrustDesk_factOf_7 : decode kY_TrustDesk_factOf.2.1 7 = .ok (.iload_n 2, 1) := by decide +kernel
theorem d_TrustDesk_factOf_8 : decode kY_TrustDesk_factOf.2.1 8 = .ok (.invokestatic 70, 3) := by decide +kernel
theorem d_TrustDesk_factOf_11 : decode kY_TrustDesk_factOf.2.1 11 = .ok (.ifCond .eq 11, 3) := by decide +kernel
theorem d_TrustDesk_factOf_14 : decode kY_TrustDesk_factOf.2.1 14 = .ok (.aload_n 0, 1) := by decide +kernel
theorem d_TrustDesk_factOf_15 : decode kY_TrustDesk_factOf.2.1 15 = .ok (.iload_n 3, 1) := by decide +kernel
theorem d_TrustDesk_factOf_16 : decode kY_TrustDesk_factOf.2.1 16 = .ok (.invokevirtual 81, 3) := by decide +kernel
abbrev kY_TrustDesk_isKnown : mj_Y := (⟨"TrustDesk", "isKnown", "(I)Z"⟩, prog_1_method_69_code, 2, (Option.some Jvm.ClassFile.FieldType.boolean))
theorem lV_TrustDesk_81 : mj_lV "TrustDesk" 81 kY_TrustDesk_isKnown 1 := ⟨⟨(mj_in1 (List.mem_of_getElem? (i := 325) (by decide +kernel)) rfl), (mj_in1 (List.mem_of_getElem? (i := 1) (by decide +kernel)) rfl), (mj_in1 (List.mem_of_getElem? (i := 328) (by decide +kernel)) rfl), by decide, rfl, by decide⟩, (mj_in1 (List.mem_of_getElem? (i := 327) (by decide +kernel)) rfl), (mj_in (List.mem_append_left _ (List.mem_of_getElem? (i := 0) (by decide +kernel))) rfl)⟩
theorem d_TrustDesk_isKnown_0 : decode kY_TrustDesk_isKnown.2.1 0 = .ok (.iload_n 1, 1) := by decide +kernel
theorem d_TrustDesk_isKnown_1 : decode kY_TrustDesk_isKnown.2.1 1 = .ok (.ifCond .lt 15, 3) := by decide +kernel
theorem d_TrustDesk_isKnown_16 : decode kY_TrustDesk_isKnown.2.1 16 = .ok (.iconst 0, 1) := by decide +kernel
theorem d_TrustDesk_isKnown_17 : decode kY_TrustDesk_isKnown.2.1 17 = .ok (.ireturn, 1) := by decide +kernel
theorem d_TrustDesk_isKnown_4 : decode kY_TrustDesk_isKnown.2.1 4 = .ok (.iload_n 1, 1) := by decide +kernel
theorem d_TrustDesk_isKnown_5 : decode kY_TrustDesk_isKnown.2.1 5 = .ok (.aload_n 0, 1) := by decide +kernel
theorem d_TrustDesk_isKnown_6 : decode kY_TrustDesk_isKnown.2.1 6 = .ok (.getfield 73, 3) := by decide +kernel
theorem d_TrustDesk_isKnown_9 : decode kY_TrustDesk_isKnown.2.1 9 = .ok (.if_icmp .gt 7, 3) := by decide +kernel
theorem d_TrustDesk_isKnown_12 : decode kY_TrustDesk_isKnown.2.1 12 = .ok (.iconst 1, 1) := by decide +kernel
theorem d_TrustDesk_isKnown_13 : decode kY_TrustDesk_isKnown.2.1 13 = .ok (.goto 4, 3) := by decide +kernel
theorem c_TrustDesk_isKnown_0 {g : mj_G} {l : Launch} {d nx : Nat} {M : mj_M} {x1 : Int32} (h_64 : M 64 = some (.inr (12, [.ref 65, .ref 70, .ref 77, .ref 80, .ref 90, .ref 94, .ref 95, .ref 96, .ref 97, .ref 98, .int 0, .int 0, .int 0]))) : mj_Met g l kY_TrustDesk_isKnown d [.ref 64, .int x1] M nx 0 0 (mj_B (0 ≤ x1.toInt ∧ x1.toInt ≤ 0) M nx) := by
  refine mj_enter (by decide) (Nat.le_of_ble_eq_true rfl) ?_
  refine mv_iload_n d_TrustDesk_isKnown_0 rfl rfl ?_
  refine mv_if_ltZ (tgt := 16) (a := x1.toInt) d_TrustDesk_isKnown_1 (by decide) rfl (fun b1 => ?_) (fun b1 => ?_)
  · refine mv_iconst (v := 0) d_TrustDesk_isKnown_16 (by decide) ?_
    exact mv_iret d_TrustDesk_isKnown_17 rfl (by first | rfl | decide) ⟨Or.inr ⟨by omega, rfl⟩, rfl, rfl⟩
  · refine mv_iload_n d_TrustDesk_isKnown_4 rfl rfl ?_
    refine mv_aload_n d_TrustDesk_isKnown_5 rfl rfl ?_
    refine mv_get d_TrustDesk_isKnown_6 f_TrustDesk_73_12 h_64 rfl ?_
    refine mv_icmp_gtZ (tgt := 16) (a := x1.toInt) (b := 0) d_TrustDesk_isKnown_9 (by decide) rfl (by decide) (fun b2 => ?_) (fun b2 => ?_)
    · refine mv_iconst (v := 0) d_TrustDesk_isKnown_16 (by decide) ?_
      exact mv_iret d_TrustDesk_isKnown_17 rfl (by first | rfl | decide) ⟨Or.inr ⟨by omega, rfl⟩, rfl, rfl⟩
    · refine mv_iconst (v := 1) d_TrustDesk_isKnown_12 (by decide) ?_
      refine mv_goto (tgt := 17) d_TrustDesk_isKnown_13 (by decide) ?_
      exact mv_iret d_TrustDesk_isKnown_17 rfl (by first | rfl | decide) ⟨Or.inl ⟨by omega, rfl⟩, rfl, rfl⟩
theorem d_TrustDesk_factOf_19 : decode kY_TrustDesk_factOf.2.1 19 = .ok (.ifCond .ne 5, 3) := by decide +kernel
theorem d_TrustDesk_factOf_24 : decode kY_TrustDesk_factOf.2.1 24 = .ok (.aload_n 0, 1) := by decide +kernel
theorem d_TrustDesk_factOf_25 : decode kY_TrustDesk_factOf.2.1 25 = .ok (.getfield 10, 3) := by decide +kernel
theorem d_TrustDesk_factOf_28 : decode kY_TrustDesk_factOf.2.1 28 = .ok (.iload_n 1, 1) := by decide +kernel
theorem d_TrustDesk_factOf_29 : decode kY_TrustDesk_factOf.2.1 29 = .ok (.iload_n 2, 1) := by decide +kernel
theorem d_TrustDesk_factOf_30 : decode kY_TrustDesk_factOf.2.1 30 = .ok (.iload_n 3, 1) := by decide +kernel
theorem d_TrustDesk_factOf_31 : decode kY_TrustDesk_factOf.2.1 31 = .ok (.invokevirtual 84, 3) := by decide +kernel
abbrev kY_Facts_asKnown : mj_Y := (⟨"TrustDesk$Facts", "asKnown", "(III)I"⟩, prog_6_method_3_code, 7, (Option.some Jvm.ClassFile.FieldType.int))
theorem lV_TrustDesk_84 : mj_lV "TrustDesk" 84 kY_Facts_asKnown 3 := ⟨⟨(mj_in1 (List.mem_of_getElem? (i := 329) (by decide +kernel)) rfl), (mj_in1 (List.mem_of_getElem? (i := 2) (by decide +kernel)) rfl), (mj_in1 (List.mem_of_getElem? (i := 332) (by decide +kernel)) rfl), by decide, rfl, by decide⟩, (mj_in1 (List.mem_of_getElem? (i := 330) (by decide +kernel)) rfl), (mj_in1 (List.mem_of_getElem? (i := 331) (by decide +kernel)) rfl)⟩
theorem d_Facts_asKnown_0 : decode kY_Facts_asKnown.2.1 0 = .ok (.iconst (-1), 1) := by decide +kernel
theorem d_Facts_asKnown_1 : decode kY_Facts_asKnown.2.1 1 = .ok (.istore 4, 2) := by decide +kernel
theorem d_Facts_asKnown_3 : decode kY_Facts_asKnown.2.1 3 = .ok (.iconst 0, 1) := by decide +kernel
theorem d_Facts_asKnown_4 : decode kY_Facts_asKnown.2.1 4 = .ok (.istore 5, 2) := by decide +kernel
theorem d_Facts_asKnown_6 : decode kY_Facts_asKnown.2.1 6 = .ok (.iconst 0, 1) := by decide +kernel
theorem d_Facts_asKnown_7 : decode kY_Facts_asKnown.2.1 7 = .ok (.istore 6, 2) := by decide +kernel
theorem d_Facts_asKnown_9 : decode kY_Facts_asKnown.2.1 9 = .ok (.iload 6, 2) := by decide +kernel
theorem d_Facts_asKnown_11 : decode kY_Facts_asKnown.2.1 11 = .ok (.aload_n 0, 1) := by decide +kernel
theorem d_Facts_asKnown_12 : decode kY_Facts_asKnown.2.1 12 = .ok (.getfield 24, 3) := by decide +kernel
theorem d_Facts_asKnown_15 : decode kY_Facts_asKnown.2.1 15 = .ok (.if_icmp .ge 80, 3) := by decide +kernel
theorem d_Facts_asKnown_95 : decode kY_Facts_asKnown.2.1 95 = .ok (.iload 5, 2) := by decide +kernel
theorem d_Facts_asKnown_97 : decode kY_Facts_asKnown.2.1 97 = .ok (.ireturn, 1) := by decide +kernel
theorem c_Facts_asKnown_0 {g : mj_G} {l : Launch} {d nx : Nat} {M : mj_M} {x1 : Int32} {x2 : Int32} {x3 : Int32} (h_65 : M 65 = some (.inr (5, [.ref 66, .ref 67, .ref 68, .ref 69, .int 0]))) : mj_Met g l kY_Facts_asKnown d [.ref 65, .int x1, .int x2, .int x3] M nx 0 0 (mj_E1 (some (.int 0)) M nx) := by
  refine mj_enter (by decide) (Nat.le_of_ble_eq_true rfl) ?_
  refine mv_iconst (v := (-1)) d_Facts_asKnown_0 (by decide) ?_
  refine mv_istore (lv' := [(4, .int (-1)), (0, .ref 65), (1, .int x1), (2, .int x2), (3, .int x3)]) d_Facts_asKnown_1 (by decide) rfl ?_
  refine mv_iconst (v := 0) d_Facts_asKnown_3 (by decide) ?_
  refine mv_istore (lv' := [(5, .int 0), (4, .int (-1)), (0, .ref 65), (1, .int x1), (2, .int x2), (3, .int x3)]) d_Facts_asKnown_4 (by decide) rfl ?_
  refine mv_iconst (v := 0) d_Facts_asKnown_6 (by decide) ?_
  refine mv_istore (lv' := [(6, .int 0), (5, .int 0), (4, .int (-1)), (0, .ref 65), (1, .int x1), (2, .int x2), (3, .int x3)]) d_Facts_asKnown_7 (by decide) rfl ?_
  refine mv_iload d_Facts_asKnown_9 rfl ?_
  refine mv_aload_n d_Facts_asKnown_11 rfl rfl ?_
  refine mv_get d_Facts_asKnown_12 f_Facts_24_5 h_65 rfl ?_
  refine mv_icmp_ge_t (tgt := 95) d_Facts_asKnown_15 (by decide) (by decide) ?_
  refine mv_iload d_Facts_asKnown_95 rfl ?_
  exact mv_iret d_Facts_asKnown_97 rfl (by first | rfl | decide) ⟨rfl, rfl, rfl⟩
theorem d_TrustDesk_factOf_34 : decode kY_TrustDesk_factOf.2.1 34 = .ok (.ireturn, 1) := by decide +kernel
theorem d_TrustDesk_factOf_22 : decode kY_TrustDesk_factOf.2.1 22 = .ok (.iconst (-1), 1) := by decide +kernel
theorem d_TrustDesk_factOf_23 : decode kY_TrustDesk_factOf.2.1 23 = .ok (.ireturn, 1) := by decide +kernel
theorem c_TrustDesk_factOf_0 {g : mj_G} {l : Launch} {d nx : Nat} {M : mj_M} {x1 : Int32} {x2 : Int32} {x3 : Int32} (h_64 : M 64 = some (.inr (12, [.ref 65, .ref 70, .ref 77, .ref 80, .ref 90, .ref 94, .ref 95, .ref 96, .ref 97, .ref 98, .int 0, .int 0, .int 0]))) (h_65 : M 65 = some (.inr (5, [.ref 66, .ref 67, .ref 68, .ref 69, .int 0]))) : mj_Met g l kY_TrustDesk_factOf (d + 1) [.ref 64, .int x1, .int x2, .int x3] M nx 0 0 (mj_KP (some (.int (e_factOf x1 x2 x3))) M 99 149) := by
  refine mj_enter (by decide) (Nat.le_of_ble_eq_true rfl) ?_
  refine mv_iload_n d_TrustDesk_factOf_0 rfl rfl ?_
  refine mv_callS_b (kc' := 0) (ks' := 0) [.int x1] [.int x1] d_TrustDesk_factOf_1 lS_TrustDesk_66 (c_TrustDesk_isFact_0 (d := d) (x0 := x1)) rfl (Nat.le_of_ble_eq_true rfl) (Nat.le_of_ble_eq_true rfl) (Nat.le_of_ble_eq_true rfl) rfl (fun b1 => ?_) (fun b1 => ?_)
  · refine mv_if_eq_f (tgt := 22) d_TrustDesk_factOf_4 (by decide) (by decide) ?_
    refine mv_iload_n d_TrustDesk_factOf_7 rfl rfl ?_
    refine mv_callS_b (kc' := 0) (ks' := 0) [.int x2] [.int x2] d_TrustDesk_factOf_8 lS_TrustDesk_70 (c_TrustDesk_isYear_0 (d := d) (x0 := x2)) rfl (Nat.le_of_ble_eq_true rfl) (Nat.le_of_ble_eq_true rfl) (Nat.le_of_ble_eq_true rfl) rfl (fun b2 => ?_) (fun b2 => ?_)
    · refine mv_if_eq_f (tgt := 22) d_TrustDesk_factOf_11 (by decide) (by decide) ?_
      refine mv_aload_n d_TrustDesk_factOf_14 rfl rfl ?_
      refine mv_iload_n d_TrustDesk_factOf_15 rfl rfl ?_
      refine mv_callV_b (kc' := 0) (ks' := 0) [.int x3] [.int x3, .ref 64] d_TrustDesk_factOf_16 lV_TrustDesk_81 h_64 rfl (c_TrustDesk_isKnown_0 (d := d) (x1 := x3) (h_64 := h_64)) rfl (Nat.le_of_ble_eq_true rfl) (Nat.le_of_ble_eq_true rfl) (Nat.le_of_ble_eq_true rfl) rfl (fun b3 => ?_) (fun b3 => ?_)
      · refine mv_if_ne_t (tgt := 24) d_TrustDesk_factOf_19 (by decide) (by decide) ?_
        refine mv_aload_n d_TrustDesk_factOf_24 rfl rfl ?_
        refine mv_get d_TrustDesk_factOf_25 f_TrustDesk_10_12 h_64 rfl ?_
        refine mv_iload_n d_TrustDesk_factOf_28 rfl rfl ?_
        refine mv_iload_n d_TrustDesk_factOf_29 rfl rfl ?_
        refine mv_iload_n d_TrustDesk_factOf_30 rfl rfl ?_
        refine mv_callV_s (kc' := 0) (ks' := 0) [.int x1, .int x2, .int x3] [.int x3, .int x2, .int x1, .ref 65] d_TrustDesk_factOf_31 lV_TrustDesk_84 h_65 rfl (c_Facts_asKnown_0 (d := d) (x1 := x1) (x2 := x2) (x3 := x3) (h_65 := h_65)) rfl (Nat.le_of_ble_eq_true rfl) (Nat.le_of_ble_eq_true rfl) (Nat.le_of_ble_eq_true rfl) rfl ?_
        exact mv_iret d_TrustDesk_factOf_34 rfl (by first | rfl | decide) ⟨(by unfold e_factOf; first | rw [if_pos (by omega)] | rw [if_neg (by omega)]), fun a ha1 ha2 => rfl⟩
      · refine mv_if_ne_f (tgt := 24) d_TrustDesk_factOf_19 (by decide) (by decide) ?_
        refine mv_iconst (v := (-1)) d_TrustDesk_factOf_22 (by decide) ?_
        exact mv_iret d_TrustDesk_factOf_23 rfl (by first | rfl | decide) ⟨(by unfold e_factOf; first | rw [if_pos (by omega)] | rw [if_neg (by omega)]), fun a ha1 ha2 => rfl⟩
    · refine mv_if_eq_t (tgt := 22) d_TrustDesk_factOf_11 (by decide) (by decide) ?_
      refine mv_iconst (v := (-1)) d_TrustDesk_factOf_22 (by decide) ?_
      exact mv_iret d_TrustDesk_factOf_23 rfl (by first | rfl | decide) ⟨(by unfold e_factOf; first | rw [if_pos (by omega)] | rw [if_neg (by omega)]), fun a ha1 ha2 => rfl⟩
  · refine mv_if_eq_t (tgt := 22) d_TrustDesk_factOf_4 (by decide) (by decide) ?_
    refine mv_iconst (v := (-1)) d_TrustDesk_factOf_22 (by decide) ?_
    exact mv_iret d_TrustDesk_factOf_23 rfl (by first | rfl | decide) ⟨(by unfold e_factOf; first | rw [if_pos (by omega)] | rw [if_neg (by omega)]), fun a ha1 ha2 => rfl⟩
abbrev kY_TrustDesk_feed : mj_Y := (⟨"TrustDesk", "feed", "(IIIII)I"⟩, prog_1_method_4_code, 6, (Option.some Jvm.ClassFile.FieldType.int))
theorem d_TrustDesk_feed_0 : decode kY_TrustDesk_feed.2.1 0 = .ok (.aload_n 0, 1) := by decide +kernel
theorem d_TrustDesk_feed_1 : decode kY_TrustDesk_feed.2.1 1 = .ok (.getfield 19, 3) := by decide +kernel
theorem f_TrustDesk_19_12 : mj_fl "TrustDesk" 19 12 1 := ⟨kR_TrustDesk, kF_TrustDesk, 13, "TrustDesk", rfl, kg_12, by decide, (mj_in1 (List.mem_of_getElem? (i := 268) (by decide +kernel)) rfl), Or.inl rfl⟩
theorem d_TrustDesk_feed_4 : decode kY_TrustDesk_feed.2.1 4 = .ok (.getfield 88, 3) := by decide +kernel
theorem f_TrustDesk_88_9 : mj_fl "TrustDesk" 88 9 0 := ⟨kR_Reader, kF_Reader, 19, "TrustDesk$Reader", rfl, kg_9, by decide, (mj_in1 (List.mem_of_getElem? (i := 70) (by decide +kernel)) rfl), Or.inl rfl⟩
theorem d_TrustDesk_feed_7 : decode kY_TrustDesk_feed.2.1 7 = .ok (.sipush 380, 3) := by decide +kernel
theorem d_TrustDesk_feed_10 : decode kY_TrustDesk_feed.2.1 10 = .ok (.if_icmp .le 5, 3) := by decide +kernel
theorem d_TrustDesk_feed_15 : decode kY_TrustDesk_feed.2.1 15 = .ok (.aload_n 0, 1) := by decide +kernel
theorem d_TrustDesk_feed_16 : decode kY_TrustDesk_feed.2.1 16 = .ok (.getfield 19, 3) := by decide +kernel
theorem d_TrustDesk_feed_19 : decode kY_TrustDesk_feed.2.1 19 = .ok (.iload_n 1, 1) := by decide +kernel
theorem d_TrustDesk_feed_20 : decode kY_TrustDesk_feed.2.1 20 = .ok (.invokevirtual 91, 3) := by decide +kernel
abbrev kY_Reader_takeFour : mj_Y := (⟨"TrustDesk$Reader", "takeFour", "(I)V"⟩, prog_10_method_2_code, 3, (Option.none : Option Jvm.ClassFile.FieldType))
theorem lV_TrustDesk_91 : mj_lV "TrustDesk" 91 kY_Reader_takeFour 1 := ⟨⟨(mj_in1 (List.mem_of_getElem? (i := 337) (by decide +kernel)) rfl), (mj_in1 (List.mem_of_getElem? (i := 3) (by decide +kernel)) rfl), (mj_in1 (List.mem_of_getElem? (i := 340) (by decide +kernel)) rfl), by decide, rfl, by decide⟩, (mj_in1 (List.mem_of_getElem? (i := 338) (by decide +kernel)) rfl), (mj_in1 (List.mem_of_getElem? (i := 339) (by decide +kernel)) rfl)⟩
theorem d_Reader_takeFour_0 : decode kY_Reader_takeFour.2.1 0 = .ok (.bipush 24, 2) := by decide +kernel
theorem d_Reader_takeFour_2 : decode kY_Reader_takeFour.2.1 2 = .ok (.istore_n 2, 1) := by decide +kernel
theorem d_Reader_takeFour_3 : decode kY_Reader_takeFour.2.1 3 = .ok (.iload_n 2, 1) := by decide +kernel
theorem d_Reader_takeFour_4 : decode kY_Reader_takeFour.2.1 4 = .ok (.ifCond .lt 52, 3) := by decide +kernel
theorem d_Reader_takeFour_7 : decode kY_Reader_takeFour.2.1 7 = .ok (.aload_n 0, 1) := by decide +kernel
theorem d_Reader_takeFour_8 : decode kY_Reader_takeFour.2.1 8 = .ok (.getfield 34, 3) := by decide +kernel
theorem f_Reader_34_9 : mj_fl "TrustDesk$Reader" 34 9 0 := ⟨kR_Reader, kF_Reader, 19, "TrustDesk$Reader", rfl, kg_9, by decide, (mj_in1 (List.mem_of_getElem? (i := 69) (by decide +kernel)) rfl), Or.inl rfl⟩
theorem d_Reader_takeFour_11 : decode kY_Reader_takeFour.2.1 11 = .ok (.ifCond .lt 39, 3) := by decide +kernel
theorem d_Reader_takeFour_14 : decode kY_Reader_takeFour.2.1 14 = .ok (.aload_n 0, 1) := by decide +kernel
theorem d_Reader_takeFour_15 : decode kY_Reader_takeFour.2.1 15 = .ok (.getfield 34, 3) := by decide +kernel
theorem d_Reader_takeFour_18 : decode kY_Reader_takeFour.2.1 18 = .ok (.sipush 400, 3) := by decide +kernel
theorem d_Reader_takeFour_21 : decode kY_Reader_takeFour.2.1 21 = .ok (.if_icmp .ge 29, 3) := by decide +kernel
theorem d_Reader_takeFour_24 : decode kY_Reader_takeFour.2.1 24 = .ok (.aload_n 0, 1) := by decide +kernel
theorem d_Reader_takeFour_25 : decode kY_Reader_takeFour.2.1 25 = .ok (.getfield 15, 3) := by decide +kernel
theorem f_Reader_15_9 : mj_fl "TrustDesk$Reader" 15 9 3 := ⟨kR_Reader, kF_Reader, 19, "TrustDesk$Reader", rfl, kg_9, by decide, (mj_in1 (List.mem_of_getElem? (i := 75) (by decide +kernel)) rfl), Or.inl rfl⟩
theorem d_Reader_takeFour_28 : decode kY_Reader_takeFour.2.1 28 = .ok (.aload_n 0, 1) := by decide +kernel
theorem d_Reader_takeFour_29 : decode kY_Reader_takeFour.2.1 29 = .ok (.getfield 34, 3) := by decide +kernel
theorem d_Reader_takeFour_32 : decode kY_Reader_takeFour.2.1 32 = .ok (.iload_n 1, 1) := by decide +kernel
theorem d_Reader_takeFour_33 : decode kY_Reader_takeFour.2.1 33 = .ok (.iload_n 2, 1) := by decide +kernel
theorem d_Reader_takeFour_34 : decode kY_Reader_takeFour.2.1 34 = .ok (.iushr, 1) := by decide +kernel
theorem d_Reader_takeFour_35 : decode kY_Reader_takeFour.2.1 35 = .ok (.sipush 255, 3) := by decide +kernel
theorem d_Reader_takeFour_38 : decode kY_Reader_takeFour.2.1 38 = .ok (.iand, 1) := by decide +kernel
theorem d_Reader_takeFour_39 : decode kY_Reader_takeFour.2.1 39 = .ok (.iastore, 1) := by decide +kernel
theorem d_Reader_takeFour_40 : decode kY_Reader_takeFour.2.1 40 = .ok (.aload_n 0, 1) := by decide +kernel
theorem d_Reader_takeFour_41 : decode kY_Reader_takeFour.2.1 41 = .ok (.dup, 1) := by decide +kernel
theorem d_Reader_takeFour_42 : decode kY_Reader_takeFour.2.1 42 = .ok (.getfield 34, 3) := by decide +kernel
theorem d_Reader_takeFour_45 : decode kY_Reader_takeFour.2.1 45 = .ok (.iconst 1, 1) := by decide +kernel
theorem d_Reader_takeFour_46 : decode kY_Reader_takeFour.2.1 46 = .ok (.iadd, 1) := by decide +kernel
theorem d_Reader_takeFour_47 : decode kY_Reader_takeFour.2.1 47 = .ok (.putfield 34, 3) := by decide +kernel
theorem p_Reader_34_9 : mj_fp "TrustDesk$Reader" 34 9 0 (kt_Reader 0) false := ⟨kR_Reader, kF_Reader, 19, "TrustDesk$Reader", kt_Reader, rfl, kg_9, by decide, (mj_in1 (List.mem_of_getElem? (i := 69) (by decide +kernel)) rfl), Or.inl rfl, kto_Reader, kn_Reader, rfl, rfl, fun h => by cases h⟩
theorem d_Reader_takeFour_50 : decode kY_Reader_takeFour.2.1 50 = .ok (.iinc 2 (-8), 3) := by decide +kernel
theorem d_Reader_takeFour_53 : decode kY_Reader_takeFour.2.1 53 = .ok (.goto (-50), 3) := by decide +kernel
theorem d_Reader_takeFour_56 : decode kY_Reader_takeFour.2.1 56 = .ok (.return_, 1) := by decide +kernel
theorem c_Reader_takeFour_0 {g : mj_G} {l : Launch} {d nx : Nat} {M : mj_M} {x1 : Int32} (h_70 : M 70 = some (.inr (9, [.int 0, .int 0, .int (-1), .ref 71, .ref 72, .ref 73, .ref 74, .ref 75, .int 0, .int 0, .int 0, .int 0, .int 0, .int 0, .int 0, .int 0, .int 0, .ref 76, .int 0]))) (h_71 : M 71 = some (.inl (0, 400, .inl (fun _ => 0)))) : mj_Met g l kY_Reader_takeFour d [.ref 70, .int x1] M nx 0 0 (mj_E1 none (mj_up (mj_up (mj_up (mj_up (mj_up (mj_up (mj_up (mj_up M 71 (.inl (0, 400, .inl (upd (fun _ => 0) 0 (((x1.toUInt32 >>> ((24 : Int32).toUInt32 &&& Int32.toUInt32 31)).toInt32) &&& 255))))) 70 (.inr (9, [.int 1, .int 0, .int (-1), .ref 71, .ref 72, .ref 73, .ref 74, .ref 75, .int 0, .int 0, .int 0, .int 0, .int 0, .int 0, .int 0, .int 0, .int 0, .ref 76, .int 0]))) 71 (.inl (0, 400, .inl (upd (upd (fun _ => 0) 0 (((x1.toUInt32 >>> ((24 : Int32).toUInt32 &&& Int32.toUInt32 31)).toInt32) &&& 255)) 1 (((x1.toUInt32 >>> ((16 : Int32).toUInt32 &&& Int32.toUInt32 31)).toInt32) &&& 255))))) 70 (.inr (9, [.int 2, .int 0, .int (-1), .ref 71, .ref 72, .ref 73, .ref 74, .ref 75, .int 0, .int 0, .int 0, .int 0, .int 0, .int 0, .int 0, .int 0, .int 0, .ref 76, .int 0]))) 71 (.inl (0, 400, .inl (upd (upd (upd (fun _ => 0) 0 (((x1.toUInt32 >>> ((24 : Int32).toUInt32 &&& Int32.toUInt32 31)).toInt32) &&& 255)) 1 (((x1.toUInt32 >>> ((16 : Int32).toUInt32 &&& Int32.toUInt32 31)).toInt32) &&& 255)) 2 (((x1.toUInt32 >>> ((8 : Int32).toUInt32 &&& Int32.toUInt32 31)).toInt32) &&& 255))))) 70 (.inr (9, [.int 3, .int 0, .int (-1), .ref 71, .ref 72, .ref 73, .ref 74, .ref 75, .int 0, .int 0, .int 0, .int 0, .int 0, .int 0, .int 0, .int 0, .int 0, .ref 76, .int 0]))) 71 (.inl (0, 400, .inl (upd (upd (upd (upd (fun _ => 0) 0 (((x1.toUInt32 >>> ((24 : Int32).toUInt32 &&& Int32.toUInt32 31)).toInt32) &&& 255)) 1 (((x1.toUInt32 >>> ((16 : Int32).toUInt32 &&& Int32.toUInt32 31)).toInt32) &&& 255)) 2 (((x1.toUInt32 >>> ((8 : Int32).toUInt32 &&& Int32.toUInt32 31)).toInt32) &&& 255)) 3 (((x1.toUInt32 >>> ((0 : Int32).toUInt32 &&& Int32.toUInt32 31)).toInt32) &&& 255))))) 70 (.inr (9, [.int 4, .int 0, .int (-1), .ref 71, .ref 72, .ref 73, .ref 74, .ref 75, .int 0, .int 0, .int 0, .int 0, .int 0, .int 0, .int 0, .int 0, .int 0, .ref 76, .int 0]))) nx) := by
  refine mj_enter (by decide) (Nat.le_of_ble_eq_true rfl) ?_
  refine mv_bipush (v := 24) d_Reader_takeFour_0 (by decide) ?_
  refine mv_istore_n (lv' := [(2, .int 24), (0, .ref 70), (1, .int x1)]) d_Reader_takeFour_2 rfl (by decide) rfl ?_
  refine mv_iload_n d_Reader_takeFour_3 rfl rfl ?_
  refine mv_if_lt_f (tgt := 56) d_Reader_takeFour_4 (by decide) (by decide) ?_
  refine mv_aload_n d_Reader_takeFour_7 rfl rfl ?_
  refine mv_get d_Reader_takeFour_8 f_Reader_34_9 h_70 rfl ?_
  refine mv_if_lt_f (tgt := 50) d_Reader_takeFour_11 (by decide) (by decide) ?_
  refine mv_aload_n d_Reader_takeFour_14 rfl rfl ?_
  refine mv_get d_Reader_takeFour_15 f_Reader_34_9 h_70 rfl ?_
  refine mv_sipush (v := 400) d_Reader_takeFour_18 (by decide) ?_
  refine mv_icmp_ge_f (tgt := 50) d_Reader_takeFour_21 (by decide) (by decide) ?_
  refine mv_aload_n d_Reader_takeFour_24 rfl rfl ?_
  refine mv_get d_Reader_takeFour_25 f_Reader_15_9 h_70 rfl ?_
  refine mv_aload_n d_Reader_takeFour_28 rfl rfl ?_
  refine mv_get d_Reader_takeFour_29 f_Reader_34_9 h_70 rfl ?_
  refine mv_iload_n d_Reader_takeFour_32 rfl rfl ?_
  refine mv_iload_n d_Reader_takeFour_33 rfl rfl ?_
  refine mv_iushr (v := (x1.toUInt32 >>> ((24 : Int32).toUInt32 &&& Int32.toUInt32 31)).toInt32) d_Reader_takeFour_34 rfl ?_
  refine mv_sipush (v := 255) d_Reader_takeFour_35 (by decide) ?_
  refine mv_iand d_Reader_takeFour_38 ?_
  refine mv_iast (f' := (upd (fun _ => 0) 0 (((x1.toUInt32 >>> ((24 : Int32).toUInt32 &&& Int32.toUInt32 31)).toInt32) &&& 255))) d_Reader_takeFour_39 h_71 (by unfold vp_in; decide) rfl ?_
  refine mv_aload_n d_Reader_takeFour_40 rfl rfl ?_
  refine mv_dup d_Reader_takeFour_41 rfl ?_
  refine mv_get d_Reader_takeFour_42 f_Reader_34_9 ((mj_up_ne _ _ (Nat.ne_of_beq_eq_false rfl)).trans h_70) rfl ?_
  refine mv_iconst (v := 1) d_Reader_takeFour_45 (by decide) ?_
  refine mv_iaddv (v := 1) d_Reader_takeFour_46 (by decide) ?_
  refine mv_put (fs' := [.int 1, .int 0, .int (-1), .ref 71, .ref 72, .ref 73, .ref 74, .ref 75, .int 0, .int 0, .int 0, .int 0, .int 0, .int 0, .int 0, .int 0, .int 0, .ref 76, .int 0]) d_Reader_takeFour_47 p_Reader_34_9 ((mj_up_ne _ _ (Nat.ne_of_beq_eq_false rfl)).trans h_70) (Nat.le_of_ble_eq_true rfl) rfl rfl rfl ?_
  refine mv_iinc (v := 16) (lv' := [(2, .int 16), (0, .ref 70), (1, .int x1)]) d_Reader_takeFour_50 rfl (by decide) (by decide) rfl ?_
  refine mv_goto (tgt := 3) d_Reader_takeFour_53 (by decide) ?_
  refine mv_iload_n d_Reader_takeFour_3 rfl rfl ?_
  refine mv_if_lt_f (tgt := 56) d_Reader_takeFour_4 (by decide) (by decide) ?_
  refine mv_aload_n d_Reader_takeFour_7 rfl rfl ?_
  refine mv_get d_Reader_takeFour_8 f_Reader_34_9 (mj_up_self _ _ _) rfl ?_
  refine mv_if_lt_f (tgt := 50) d_Reader_takeFour_11 (by decide) (by decide) ?_
  refine mv_aload_n d_Reader_takeFour_14 rfl rfl ?_
  refine mv_get d_Reader_takeFour_15 f_Reader_34_9 (mj_up_self _ _ _) rfl ?_
  refine mv_sipush (v := 400) d_Reader_takeFour_18 (by decide) ?_
  refine mv_icmp_ge_f (tgt := 50) d_Reader_takeFour_21 (by decide) (by decide) ?_
  refine mv_aload_n d_Reader_takeFour_24 rfl rfl ?_
  refine mv_get d_Reader_takeFour_25 f_Reader_15_9 (mj_up_self _ _ _) rfl ?_
  refine mv_aload_n d_Reader_takeFour_28 rfl rfl ?_
  refine mv_get d_Reader_takeFour_29 f_Reader_34_9 (mj_up_self _ _ _) rfl ?_
  refine mv_iload_n d_Reader_takeFour_32 rfl rfl ?_
  refine mv_iload_n d_Reader_takeFour_33 rfl rfl ?_
  refine mv_iushr (v := (x1.toUInt32 >>> ((16 : Int32).toUInt32 &&& Int32.toUInt32 31)).toInt32) d_Reader_takeFour_34 rfl ?_
  refine mv_sipush (v := 255) d_Reader_takeFour_35 (by decide) ?_
  refine mv_iand d_Reader_takeFour_38 ?_
  refine mv_iast (f' := (upd (upd (fun _ => 0) 0 (((x1.toUInt32 >>> ((24 : Int32).toUInt32 &&& Int32.toUInt32 31)).toInt32) &&& 255)) 1 (((x1.toUInt32 >>> ((16 : Int32).toUInt32 &&& Int32.toUInt32 31)).toInt32) &&& 255))) d_Reader_takeFour_39 ((mj_up_ne _ _ (Nat.ne_of_beq_eq_false rfl)).trans (mj_up_self _ _ _)) (by unfold vp_in; decide) rfl ?_
  refine mv_aload_n d_Reader_takeFour_40 rfl rfl ?_
  refine mv_dup d_Reader_takeFour_41 rfl ?_
  refine mv_get d_Reader_takeFour_42 f_Reader_34_9 ((mj_up_ne _ _ (Nat.ne_of_beq_eq_false rfl)).trans (mj_up_self _ _ _)) rfl ?_
  refine mv_iconst (v := 1) d_Reader_takeFour_45 (by decide) ?_
  refine mv_iaddv (v := 2) d_Reader_takeFour_46 (by decide) ?_
  refine mv_put (fs' := [.int 2, .int 0, .int (-1), .ref 71, .ref 72, .ref 73, .ref 74, .ref 75, .int 0, .int 0, .int 0, .int 0, .int 0, .int 0, .int 0, .int 0, .int 0, .ref 76, .int 0]) d_Reader_takeFour_47 p_Reader_34_9 ((mj_up_ne _ _ (Nat.ne_of_beq_eq_false rfl)).trans (mj_up_self _ _ _)) (Nat.le_of_ble_eq_true rfl) rfl rfl rfl ?_
  refine mv_iinc (v := 8) (lv' := [(2, .int 8), (0, .ref 70), (1, .int x1)]) d_Reader_takeFour_50 rfl (by decide) (by decide) rfl ?_
  refine mv_goto (tgt := 3) d_Reader_takeFour_53 (by decide) ?_
  refine mv_iload_n d_Reader_takeFour_3 rfl rfl ?_
  refine mv_if_lt_f (tgt := 56) d_Reader_takeFour_4 (by decide) (by decide) ?_
  refine mv_aload_n d_Reader_takeFour_7 rfl rfl ?_
  refine mv_get d_Reader_takeFour_8 f_Reader_34_9 (mj_up_self _ _ _) rfl ?_
  refine mv_if_lt_f (tgt := 50) d_Reader_takeFour_11 (by decide) (by decide) ?_
  refine mv_aload_n d_Reader_takeFour_14 rfl rfl ?_
  refine mv_get d_Reader_takeFour_15 f_Reader_34_9 (mj_up_self _ _ _) rfl ?_
  refine mv_sipush (v := 400) d_Reader_takeFour_18 (by decide) ?_
  refine mv_icmp_ge_f (tgt := 50) d_Reader_takeFour_21 (by decide) (by decide) ?_
  refine mv_aload_n d_Reader_takeFour_24 rfl rfl ?_
  refine mv_get d_Reader_takeFour_25 f_Reader_15_9 (mj_up_self _ _ _) rfl ?_
  refine mv_aload_n d_Reader_takeFour_28 rfl rfl ?_
  refine mv_get d_Reader_takeFour_29 f_Reader_34_9 (mj_up_self _ _ _) rfl ?_
  refine mv_iload_n d_Reader_takeFour_32 rfl rfl ?_
  refine mv_iload_n d_Reader_takeFour_33 rfl rfl ?_
  refine mv_iushr (v := (x1.toUInt32 >>> ((8 : Int32).toUInt32 &&& Int32.toUInt32 31)).toInt32) d_Reader_takeFour_34 rfl ?_
  refine mv_sipush (v := 255) d_Reader_takeFour_35 (by decide) ?_
  refine mv_iand d_Reader_takeFour_38 ?_
  refine mv_iast (f' := (upd (upd (upd (fun _ => 0) 0 (((x1.toUInt32 >>> ((24 : Int32).toUInt32 &&& Int32.toUInt32 31)).toInt32) &&& 255)) 1 (((x1.toUInt32 >>> ((16 : Int32).toUInt32 &&& Int32.toUInt32 31)).toInt32) &&& 255)) 2 (((x1.toUInt32 >>> ((8 : Int32).toUInt32 &&& Int32.toUInt32 31)).toInt32) &&& 255))) d_Reader_takeFour_39 ((mj_up_ne _ _ (Nat.ne_of_beq_eq_false rfl)).trans (mj_up_self _ _ _)) (by unfold vp_in; decide) rfl ?_
  refine mv_aload_n d_Reader_takeFour_40 rfl rfl ?_
  refine mv_dup d_Reader_takeFour_41 rfl ?_
  refine mv_get d_Reader_takeFour_42 f_Reader_34_9 ((mj_up_ne _ _ (Nat.ne_of_beq_eq_false rfl)).trans (mj_up_self _ _ _)) rfl ?_
  refine mv_iconst (v := 1) d_Reader_takeFour_45 (by decide) ?_
  refine mv_iaddv (v := 3) d_Reader_takeFour_46 (by decide) ?_
  refine mv_put (fs' := [.int 3, .int 0, .int (-1), .ref 71, .ref 72, .ref 73, .ref 74, .ref 75, .int 0, .int 0, .int 0, .int 0, .int 0, .int 0, .int 0, .int 0, .int 0, .ref 76, .int 0]) d_Reader_takeFour_47 p_Reader_34_9 ((mj_up_ne _ _ (Nat.ne_of_beq_eq_false rfl)).trans (mj_up_self _ _ _)) (Nat.le_of_ble_eq_true rfl) rfl rfl rfl ?_
  refine mv_iinc (v := 0) (lv' := [(2, .int 0), (0, .ref 70), (1, .int x1)]) d_Reader_takeFour_50 rfl (by decide) (by decide) rfl ?_
  refine mv_goto (tgt := 3) d_Reader_takeFour_53 (by decide) ?_
  refine mv_iload_n d_Reader_takeFour_3 rfl rfl ?_
  refine mv_if_lt_f (tgt := 56) d_Reader_takeFour_4 (by decide) (by decide) ?_
  refine mv_aload_n d_Reader_takeFour_7 rfl rfl ?_
  refine mv_get d_Reader_takeFour_8 f_Reader_34_9 (mj_up_self _ _ _) rfl ?_
  refine mv_if_lt_f (tgt := 50) d_Reader_takeFour_11 (by decide) (by decide) ?_
  refine mv_aload_n d_Reader_takeFour_14 rfl rfl ?_
  refine mv_get d_Reader_takeFour_15 f_Reader_34_9 (mj_up_self _ _ _) rfl ?_
  refine mv_sipush (v := 400) d_Reader_takeFour_18 (by decide) ?_
  refine mv_icmp_ge_f (tgt := 50) d_Reader_takeFour_21 (by decide) (by decide) ?_
  refine mv_aload_n d_Reader_takeFour_24 rfl rfl ?_
  refine mv_get d_Reader_takeFour_25 f_Reader_15_9 (mj_up_self _ _ _) rfl ?_
  refine mv_aload_n d_Reader_takeFour_28 rfl rfl ?_
  refine mv_get d_Reader_takeFour_29 f_Reader_34_9 (mj_up_self _ _ _) rfl ?_
  refine mv_iload_n d_Reader_takeFour_32 rfl rfl ?_
  refine mv_iload_n d_Reader_takeFour_33 rfl rfl ?_
  refine mv_iushr (v := (x1.toUInt32 >>> ((0 : Int32).toUInt32 &&& Int32.toUInt32 31)).toInt32) d_Reader_takeFour_34 rfl ?_
  refine mv_sipush (v := 255) d_Reader_takeFour_35 (by decide) ?_
  refine mv_iand d_Reader_takeFour_38 ?_
  refine mv_iast (f' := (upd (upd (upd (upd (fun _ => 0) 0 (((x1.toUInt32 >>> ((24 : Int32).toUInt32 &&& Int32.toUInt32 31)).toInt32) &&& 255)) 1 (((x1.toUInt32 >>> ((16 : Int32).toUInt32 &&& Int32.toUInt32 31)).toInt32) &&& 255)) 2 (((x1.toUInt32 >>> ((8 : Int32).toUInt32 &&& Int32.toUInt32 31)).toInt32) &&& 255)) 3 (((x1.toUInt32 >>> ((0 : Int32).toUInt32 &&& Int32.toUInt32 31)).toInt32) &&& 255))) d_Reader_takeFour_39 ((mj_up_ne _ _ (Nat.ne_of_beq_eq_false rfl)).trans (mj_up_self _ _ _)) (by unfold vp_in; decide) rfl ?_
  refine mv_aload_n d_Reader_takeFour_40 rfl rfl ?_
  refine mv_dup d_Reader_takeFour_41 rfl ?_
  refine mv_get d_Reader_takeFour_42 f_Reader_34_9 ((mj_up_ne _ _ (Nat.ne_of_beq_eq_false rfl)).trans (mj_up_self _ _ _)) rfl ?_
  refine mv_iconst (v := 1) d_Reader_takeFour_45 (by decide) ?_
  refine mv_iaddv (v := 4) d_Reader_takeFour_46 (by decide) ?_
  refine mv_put (fs' := [.int 4, .int 0, .int (-1), .ref 71, .ref 72, .ref 73, .ref 74, .ref 75, .int 0, .int 0, .int 0, .int 0, .int 0, .int 0, .int 0, .int 0, .int 0, .ref 76, .int 0]) d_Reader_takeFour_47 p_Reader_34_9 ((mj_up_ne _ _ (Nat.ne_of_beq_eq_false rfl)).trans (mj_up_self _ _ _)) (Nat.le_of_ble_eq_true rfl) rfl rfl rfl ?_
  refine mv_iinc (v := (-8)) (lv' := [(2, .int (-8)), (0, .ref 70), (1, .int x1)]) d_Reader_takeFour_50 rfl (by decide) (by decide) rfl ?_
  refine mv_goto (tgt := 3) d_Reader_takeFour_53 (by decide) ?_
  refine mv_iload_n d_Reader_takeFour_3 rfl rfl ?_
  refine mv_if_lt_t (tgt := 56) d_Reader_takeFour_4 (by decide) (by decide) ?_
  exact mv_vret d_Reader_takeFour_56 rfl ⟨rfl, rfl, rfl⟩
theorem d_TrustDesk_feed_23 : decode kY_TrustDesk_feed.2.1 23 = .ok (.aload_n 0, 1) := by decide +kernel
theorem d_TrustDesk_feed_24 : decode kY_TrustDesk_feed.2.1 24 = .ok (.getfield 19, 3) := by decide +kernel
theorem d_TrustDesk_feed_27 : decode kY_TrustDesk_feed.2.1 27 = .ok (.iload_n 2, 1) := by decide +kernel
theorem d_TrustDesk_feed_28 : decode kY_TrustDesk_feed.2.1 28 = .ok (.invokevirtual 91, 3) := by decide +kernel
theorem c_Reader_takeFour_1 {g : mj_G} {l : Launch} {d nx : Nat} {M : mj_M} {x1 : Int32} {f0 : Nat → Int32} (h_70 : M 70 = some (.inr (9, [.int 4, .int 0, .int (-1), .ref 71, .ref 72, .ref 73, .ref 74, .ref 75, .int 0, .int 0, .int 0, .int 0, .int 0, .int 0, .int 0, .int 0, .int 0, .ref 76, .int 0]))) (h_71 : M 71 = some (.inl (0, 400, .inl f0))) : mj_Met g l kY_Reader_takeFour d [.ref 70, .int x1] M nx 0 0 (mj_E1 none (mj_up (mj_up (mj_up (mj_up (mj_up (mj_up (mj_up (mj_up M 71 (.inl (0, 400, .inl (upd f0 4 (((x1.toUInt32 >>> ((24 : Int32).toUInt32 &&& Int32.toUInt32 31)).toInt32) &&& 255))))) 70 (.inr (9, [.int 5, .int 0, .int (-1), .ref 71, .ref 72, .ref 73, .ref 74, .ref 75, .int 0, .int 0, .int 0, .int 0, .int 0, .int 0, .int 0, .int 0, .int 0, .ref 76, .int 0]))) 71 (.inl (0, 400, .inl (upd (upd f0 4 (((x1.toUInt32 >>> ((24 : Int32).toUInt32 &&& Int32.toUInt32 31)).toInt32) &&& 255)) 5 (((x1.toUInt32 >>> ((16 : Int32).toUInt32 &&& Int32.toUInt32 31)).toInt32) &&& 255))))) 70 (.inr (9, [.int 6, .int 0, .int (-1), .ref 71, .ref 72, .ref 73, .ref 74, .ref 75, .int 0, .int 0, .int 0, .int 0, .int 0, .int 0, .int 0, .int 0, .int 0, .ref 76, .int 0]))) 71 (.inl (0, 400, .inl (upd (upd (upd f0 4 (((x1.toUInt32 >>> ((24 : Int32).toUInt32 &&& Int32.toUInt32 31)).toInt32) &&& 255)) 5 (((x1.toUInt32 >>> ((16 : Int32).toUInt32 &&& Int32.toUInt32 31)).toInt32) &&& 255)) 6 (((x1.toUInt32 >>> ((8 : Int32).toUInt32 &&& Int32.toUInt32 31)).toInt32) &&& 255))))) 70 (.inr (9, [.int 7, .int 0, .int (-1), .ref 71, .ref 72, .ref 73, .ref 74, .ref 75, .int 0, .int 0, .int 0, .int 0, .int 0, .int 0, .int 0, .int 0, .int 0, .ref 76, .int 0]))) 71 (.inl (0, 400, .inl (upd (upd (upd (upd f0 4 (((x1.toUInt32 >>> ((24 : Int32).toUInt32 &&& Int32.toUInt32 31)).toInt32) &&& 255)) 5 (((x1.toUInt32 >>> ((16 : Int32).toUInt32 &&& Int32.toUInt32 31)).toInt32) &&& 255)) 6 (((x1.toUInt32 >>> ((8 : Int32).toUInt32 &&& Int32.toUInt32 31)).toInt32) &&& 255)) 7 (((x1.toUInt32 >>> ((0 : Int32).toUInt32 &&& Int32.toUInt32 31)).toInt32) &&& 255))))) 70 (.inr (9, [.int 8, .int 0, .int (-1), .ref 71, .ref 72, .ref 73, .ref 74, .ref 75, .int 0, .int 0, .int 0, .int 0, .int 0, .int 0, .int 0, .int 0, .int 0, .ref 76, .int 0]))) nx) := by
  refine mj_enter (by decide) (Nat.le_of_ble_eq_true rfl) ?_
  refine mv_bipush (v := 24) d_Reader_takeFour_0 (by decide) ?_
  refine mv_istore_n (lv' := [(2, .int 24), (0, .ref 70), (1, .int x1)]) d_Reader_takeFour_2 rfl (by decide) rfl ?_
  refine mv_iload_n d_Reader_takeFour_3 rfl rfl ?_
  refine mv_if_lt_f (tgt := 56) d_Reader_takeFour_4 (by decide) (by decide) ?_
  refine mv_aload_n d_Reader_takeFour_7 rfl rfl ?_
  refine mv_get d_Reader_takeFour_8 f_Reader_34_9 h_70 rfl ?_
  refine mv_if_lt_f (tgt := 50) d_Reader_takeFour_11 (by decide) (by decide) ?_
  refine mv_aload_n d_Reader_takeFour_14 rfl rfl ?_
  refine mv_get d_Reader_takeFour_15 f_Reader_34_9 h_70 rfl ?_
  refine mv_sipush (v := 400) d_Reader_takeFour_18 (by decide) ?_
  refine mv_icmp_ge_f (tgt := 50) d_Reader_takeFour_21 (by decide) (by decide) ?_
  refine mv_aload_n d_Reader_takeFour_24 rfl rfl ?_
  refine mv_get d_Reader_takeFour_25 f_Reader_15_9 h_70 rfl ?_
  refine mv_aload_n d_Reader_takeFour_28 rfl rfl ?_
  refine mv_get d_Reader_takeFour_29 f_Reader_34_9 h_70 rfl ?_
  refine mv_iload_n d_Reader_takeFour_32 rfl rfl ?_
  refine mv_iload_n d_Reader_takeFour_33 rfl rfl ?_
  refine mv_iushr (v := (x1.toUInt32 >>> ((24 : Int32).toUInt32 &&& Int32.toUInt32 31)).toInt32) d_Reader_takeFour_34 rfl ?_
  refine mv_sipush (v := 255) d_Reader_takeFour_35 (by decide) ?_
  refine mv_iand d_Reader_takeFour_38 ?_
  refine mv_iast (f' := (upd f0 4 (((x1.toUInt32 >>> ((24 : Int32).toUInt32 &&& Int32.toUInt32 31)).toInt32) &&& 255))) d_Reader_takeFour_39 h_71 (by unfold vp_in; decide) rfl ?_
  refine mv_aload_n d_Reader_takeFour_40 rfl rfl ?_
  refine mv_dup d_Reader_takeFour_41 rfl ?_
  refine mv_get d_Reader_takeFour_42 f_Reader_34_9 ((mj_up_ne _ _ (Nat.ne_of_beq_eq_false rfl)).trans h_70) rfl ?_
  refine mv_iconst (v := 1) d_Reader_takeFour_45 (by decide) ?_
  refine mv_iaddv (v := 5) d_Reader_takeFour_46 (by decide) ?_
  refine mv_put (fs' := [.int 5, .int 0, .int (-1), .ref 71, .ref 72, .ref 73, .ref 74, .ref 75, .int 0, .int 0, .int 0, .int 0, .int 0, .int 0, .int 0, .int 0, .int 0, .ref 76, .int 0]) d_Reader_takeFour_47 p_Reader_34_9 ((mj_up_ne _ _ (Nat.ne_of_beq_eq_false rfl)).trans h_70) (Nat.le_of_ble_eq_true rfl) rfl rfl rfl ?_
  refine mv_iinc (v := 16) (lv' := [(2, .int 16), (0, .ref 70), (1, .int x1)]) d_Reader_takeFour_50 rfl (by decide) (by decide) rfl ?_
  refine mv_goto (tgt := 3) d_Reader_takeFour_53 (by decide) ?_
  refine mv_iload_n d_Reader_takeFour_3 rfl rfl ?_
  refine mv_if_lt_f (tgt := 56) d_Reader_takeFour_4 (by decide) (by decide) ?_
  refine mv_aload_n d_Reader_takeFour_7 rfl rfl ?_
  refine mv_get d_Reader_takeFour_8 f_Reader_34_9 (mj_up_self _ _ _) rfl ?_
  refine mv_if_lt_f (tgt := 50) d_Reader_takeFour_11 (by decide) (by decide) ?_
  refine mv_aload_n d_Reader_takeFour_14 rfl rfl ?_
  refine mv_get d_Reader_takeFour_15 f_Reader_34_9 (mj_up_self _ _ _) rfl ?_
  refine mv_sipush (v := 400) d_Reader_takeFour_18 (by decide) ?_
  refine mv_icmp_ge_f (tgt := 50) d_Reader_takeFour_21 (by decide) (by decide) ?_
  refine mv_aload_n d_Reader_takeFour_24 rfl rfl ?_
  refine mv_get d_Reader_takeFour_25 f_Reader_15_9 (mj_up_self _ _ _) rfl ?_
  refine mv_aload_n d_Reader_takeFour_28 rfl rfl ?_
  refine mv_get d_Reader_takeFour_29 f_Reader_34_9 (mj_up_self _ _ _) rfl ?_
  refine mv_iload_n d_Reader_takeFour_32 rfl rfl ?_
  refine mv_iload_n d_Reader_takeFour_33 rfl rfl ?_
  refine mv_iushr (v := (x1.toUInt32 >>> ((16 : Int32).toUInt32 &&& Int32.toUInt32 31)).toInt32) d_Reader_takeFour_34 rfl ?_
  refine mv_sipush (v := 255) d_Reader_takeFour_35 (by decide) ?_
  refine mv_iand d_Reader_takeFour_38 ?_
  refine mv_iast (f' := (upd (upd f0 4 (((x1.toUInt32 >>> ((24 : Int32).toUInt32 &&& Int32.toUInt32 31)).toInt32) &&& 255)) 5 (((x1.toUInt32 >>> ((16 : Int32).toUInt32 &&& Int32.toUInt32 31)).toInt32) &&& 255))) d_Reader_takeFour_39 ((mj_up_ne _ _ (Nat.ne_of_beq_eq_false rfl)).trans (mj_up_self _ _ _)) (by unfold vp_in; decide) rfl ?_
  refine mv_aload_n d_Reader_takeFour_40 rfl rfl ?_
  refine mv_dup d_Reader_takeFour_41 rfl ?_
  refine mv_get d_Reader_takeFour_42 f_Reader_34_9 ((mj_up_ne _ _ (Nat.ne_of_beq_eq_false rfl)).trans (mj_up_self _ _ _)) rfl ?_
  refine mv_iconst (v := 1) d_Reader_takeFour_45 (by decide) ?_
  refine mv_iaddv (v := 6) d_Reader_takeFour_46 (by decide) ?_
  refine mv_put (fs' := [.int 6, .int 0, .int (-1), .ref 71, .ref 72, .ref 73, .ref 74, .ref 75, .int 0, .int 0, .int 0, .int 0, .int 0, .int 0, .int 0, .int 0, .int 0, .ref 76, .int 0]) d_Reader_takeFour_47 p_Reader_34_9 ((mj_up_ne _ _ (Nat.ne_of_beq_eq_false rfl)).trans (mj_up_self _ _ _)) (Nat.le_of_ble_eq_true rfl) rfl rfl rfl ?_
  refine mv_iinc (v := 8) (lv' := [(2, .int 8), (0, .ref 70), (1, .int x1)]) d_Reader_takeFour_50 rfl (by decide) (by decide) rfl ?_
  refine mv_goto (tgt := 3) d_Reader_takeFour_53 (by decide) ?_
  refine mv_iload_n d_Reader_takeFour_3 rfl rfl ?_
  refine mv_if_lt_f (tgt := 56) d_Reader_takeFour_4 (by decide) (by decide) ?_
  refine mv_aload_n d_Reader_takeFour_7 rfl rfl ?_
  refine mv_get d_Reader_takeFour_8 f_Reader_34_9 (mj_up_self _ _ _) rfl ?_
  refine mv_if_lt_f (tgt := 50) d_Reader_takeFour_11 (by decide) (by decide) ?_
  refine mv_aload_n d_Reader_takeFour_14 rfl rfl ?_
  refine mv_get d_Reader_takeFour_15 f_Reader_34_9 (mj_up_self _ _ _) rfl ?_
  refine mv_sipush (v := 400) d_Reader_takeFour_18 (by decide) ?_
  refine mv_icmp_ge_f (tgt := 50) d_Reader_takeFour_21 (by decide) (by decide) ?_
  refine mv_aload_n d_Reader_takeFour_24 rfl rfl ?_
  refine mv_get d_Reader_takeFour_25 f_Reader_15_9 (mj_up_self _ _ _) rfl ?_
  refine mv_aload_n d_Reader_takeFour_28 rfl rfl ?_
  refine mv_get d_Reader_takeFour_29 f_Reader_34_9 (mj_up_self _ _ _) rfl ?_
  refine mv_iload_n d_Reader_takeFour_32 rfl rfl ?_
  refine mv_iload_n d_Reader_takeFour_33 rfl rfl ?_
  refine mv_iushr (v := (x1.toUInt32 >>> ((8 : Int32).toUInt32 &&& Int32.toUInt32 31)).toInt32) d_Reader_takeFour_34 rfl ?_
  refine mv_sipush (v := 255) d_Reader_takeFour_35 (by decide) ?_
  refine mv_iand d_Reader_takeFour_38 ?_
  refine mv_iast (f' := (upd (upd (upd f0 4 (((x1.toUInt32 >>> ((24 : Int32).toUInt32 &&& Int32.toUInt32 31)).toInt32) &&& 255)) 5 (((x1.toUInt32 >>> ((16 : Int32).toUInt32 &&& Int32.toUInt32 31)).toInt32) &&& 255)) 6 (((x1.toUInt32 >>> ((8 : Int32).toUInt32 &&& Int32.toUInt32 31)).toInt32) &&& 255))) d_Reader_takeFour_39 ((mj_up_ne _ _ (Nat.ne_of_beq_eq_false rfl)).trans (mj_up_self _ _ _)) (by unfold vp_in; decide) rfl ?_
  refine mv_aload_n d_Reader_takeFour_40 rfl rfl ?_
  refine mv_dup d_Reader_takeFour_41 rfl ?_
  refine mv_get d_Reader_takeFour_42 f_Reader_34_9 ((mj_up_ne _ _ (Nat.ne_of_beq_eq_false rfl)).trans (mj_up_self _ _ _)) rfl ?_
  refine mv_iconst (v := 1) d_Reader_takeFour_45 (by decide) ?_
  refine mv_iaddv (v := 7) d_Reader_takeFour_46 (by decide) ?_
  refine mv_put (fs' := [.int 7, .int 0, .int (-1), .ref 71, .ref 72, .ref 73, .ref 74, .ref 75, .int 0, .int 0, .int 0, .int 0, .int 0, .int 0, .int 0, .int 0, .int 0, .ref 76, .int 0]) d_Reader_takeFour_47 p_Reader_34_9 ((mj_up_ne _ _ (Nat.ne_of_beq_eq_false rfl)).trans (mj_up_self _ _ _)) (Nat.le_of_ble_eq_true rfl) rfl rfl rfl ?_
  refine mv_iinc (v := 0) (lv' := [(2, .int 0), (0, .ref 70), (1, .int x1)]) d_Reader_takeFour_50 rfl (by decide) (by decide) rfl ?_
  refine mv_goto (tgt := 3) d_Reader_takeFour_53 (by decide) ?_
  refine mv_iload_n d_Reader_takeFour_3 rfl rfl ?_
  refine mv_if_lt_f (tgt := 56) d_Reader_takeFour_4 (by decide) (by decide) ?_
  refine mv_aload_n d_Reader_takeFour_7 rfl rfl ?_
  refine mv_get d_Reader_takeFour_8 f_Reader_34_9 (mj_up_self _ _ _) rfl ?_
  refine mv_if_lt_f (tgt := 50) d_Reader_takeFour_11 (by decide) (by decide) ?_
  refine mv_aload_n d_Reader_takeFour_14 rfl rfl ?_
  refine mv_get d_Reader_takeFour_15 f_Reader_34_9 (mj_up_self _ _ _) rfl ?_
  refine mv_sipush (v := 400) d_Reader_takeFour_18 (by decide) ?_
  refine mv_icmp_ge_f (tgt := 50) d_Reader_takeFour_21 (by decide) (by decide) ?_
  refine mv_aload_n d_Reader_takeFour_24 rfl rfl ?_
  refine mv_get d_Reader_takeFour_25 f_Reader_15_9 (mj_up_self _ _ _) rfl ?_
  refine mv_aload_n d_Reader_takeFour_28 rfl rfl ?_
  refine mv_get d_Reader_takeFour_29 f_Reader_34_9 (mj_up_self _ _ _) rfl ?_
  refine mv_iload_n d_Reader_takeFour_32 rfl rfl ?_
  refine mv_iload_n d_Reader_takeFour_33 rfl rfl ?_
  refine mv_iushr (v := (x1.toUInt32 >>> ((0 : Int32).toUInt32 &&& Int32.toUInt32 31)).toInt32) d_Reader_takeFour_34 rfl ?_
  refine mv_sipush (v := 255) d_Reader_takeFour_35 (by decide) ?_
  refine mv_iand d_Reader_takeFour_38 ?_
  refine mv_iast (f' := (upd (upd (upd (upd f0 4 (((x1.toUInt32 >>> ((24 : Int32).toUInt32 &&& Int32.toUInt32 31)).toInt32) &&& 255)) 5 (((x1.toUInt32 >>> ((16 : Int32).toUInt32 &&& Int32.toUInt32 31)).toInt32) &&& 255)) 6 (((x1.toUInt32 >>> ((8 : Int32).toUInt32 &&& Int32.toUInt32 31)).toInt32) &&& 255)) 7 (((x1.toUInt32 >>> ((0 : Int32).toUInt32 &&& Int32.toUInt32 31)).toInt32) &&& 255))) d_Reader_takeFour_39 ((mj_up_ne _ _ (Nat.ne_of_beq_eq_false rfl)).trans (mj_up_self _ _ _)) (by unfold vp_in; decide) rfl ?_
  refine mv_aload_n d_Reader_takeFour_40 rfl rfl ?_
  refine mv_dup d_Reader_takeFour_41 rfl ?_
  refine mv_get d_Reader_takeFour_42 f_Reader_34_9 ((mj_up_ne _ _ (Nat.ne_of_beq_eq_false rfl)).trans (mj_up_self _ _ _)) rfl ?_
  refine mv_iconst (v := 1) d_Reader_takeFour_45 (by decide) ?_
  refine mv_iaddv (v := 8) d_Reader_takeFour_46 (by decide) ?_
  refine mv_put (fs' := [.int 8, .int 0, .int (-1), .ref 71, .ref 72, .ref 73, .ref 74, .ref 75, .int 0, .int 0, .int 0, .int 0, .int 0, .int 0, .int 0, .int 0, .int 0, .ref 76, .int 0]) d_Reader_takeFour_47 p_Reader_34_9 ((mj_up_ne _ _ (Nat.ne_of_beq_eq_false rfl)).trans (mj_up_self _ _ _)) (Nat.le_of_ble_eq_true rfl) rfl rfl rfl ?_
  refine mv_iinc (v := (-8)) (lv' := [(2, .int (-8)), (0, .ref 70), (1, .int x1)]) d_Reader_takeFour_50 rfl (by decide) (by decide) rfl ?_
  refine mv_goto (tgt := 3) d_Reader_takeFour_53 (by decide) ?_
  refine mv_iload_n d_Reader_takeFour_3 rfl rfl ?_
  refine mv_if_lt_t (tgt := 56) d_Reader_takeFour_4 (by decide) (by decide) ?_
  exact mv_vret d_Reader_takeFour_56 rfl ⟨rfl, rfl, rfl⟩
theorem d_TrustDesk_feed_31 : decode kY_TrustDesk_feed.2.1 31 = .ok (.aload_n 0, 1) := by decide +kernel
theorem d_TrustDesk_feed_32 : decode kY_TrustDesk_feed.2.1 32 = .ok (.getfield 19, 3) := by decide +kernel
theorem d_TrustDesk_feed_35 : decode kY_TrustDesk_feed.2.1 35 = .ok (.iload_n 3, 1) := by decide +kernel
theorem d_TrustDesk_feed_36 : decode kY_TrustDesk_feed.2.1 36 = .ok (.invokevirtual 91, 3) := by decide +kernel
theorem c_Reader_takeFour_2 {g : mj_G} {l : Launch} {d nx : Nat} {M : mj_M} {x1 : Int32} {f0 : Nat → Int32} (h_70 : M 70 = some (.inr (9, [.int 8, .int 0, .int (-1), .ref 71, .ref 72, .ref 73, .ref 74, .ref 75, .int 0, .int 0, .int 0, .int 0, .int 0, .int 0, .int 0, .int 0, .int 0, .ref 76, .int 0]))) (h_71 : M 71 = some (.inl (0, 400, .inl f0))) : mj_Met g l kY_Reader_takeFour d [.ref 70, .int x1] M nx 0 0 (mj_E1 none (mj_up (mj_up (mj_up (mj_up (mj_up (mj_up (mj_up (mj_up M 71 (.inl (0, 400, .inl (upd f0 8 (((x1.toUInt32 >>> ((24 : Int32).toUInt32 &&& Int32.toUInt32 31)).toInt32) &&& 255))))) 70 (.inr (9, [.int 9, .int 0, .int (-1), .ref 71, .ref 72, .ref 73, .ref 74, .ref 75, .int 0, .int 0, .int 0, .int 0, .int 0, .int 0, .int 0, .int 0, .int 0, .ref 76, .int 0]))) 71 (.inl (0, 400, .inl (upd (upd f0 8 (((x1.toUInt32 >>> ((24 : Int32).toUInt32 &&& Int32.toUInt32 31)).toInt32) &&& 255)) 9 (((x1.toUInt32 >>> ((16 : Int32).toUInt32 &&& Int32.toUInt32 31)).toInt32) &&& 255))))) 70 (.inr (9, [.int 10, .int 0, .int (-1), .ref 71, .ref 72, .ref 73, .ref 74, .ref 75, .int 0, .int 0, .int 0, .int 0, .int 0, .int 0, .int 0, .int 0, .int 0, .ref 76, .int 0]))) 71 (.inl (0, 400, .inl (upd (upd (upd f0 8 (((x1.toUInt32 >>> ((24 : Int32).toUInt32 &&& Int32.toUInt32 31)).toInt32) &&& 255)) 9 (((x1.toUInt32 >>> ((16 : Int32).toUInt32 &&& Int32.toUInt32 31)).toInt32) &&& 255)) 10 (((x1.toUInt32 >>> ((8 : Int32).toUInt32 &&& Int32.toUInt32 31)).toInt32) &&& 255))))) 70 (.inr (9, [.int 11, .int 0, .int (-1), .ref 71, .ref 72, .ref 73, .ref 74, .ref 75, .int 0, .int 0, .int 0, .int 0, .int 0, .int 0, .int 0, .int 0, .int 0, .ref 76, .int 0]))) 71 (.inl (0, 400, .inl (upd (upd (upd (upd f0 8 (((x1.toUInt32 >>> ((24 : Int32).toUInt32 &&& Int32.toUInt32 31)).toInt32) &&& 255)) 9 (((x1.toUInt32 >>> ((16 : Int32).toUInt32 &&& Int32.toUInt32 31)).toInt32) &&& 255)) 10 (((x1.toUInt32 >>> ((8 : Int32).toUInt32 &&& Int32.toUInt32 31)).toInt32) &&& 255)) 11 (((x1.toUInt32 >>> ((0 : Int32).toUInt32 &&& Int32.toUInt32 31)).toInt32) &&& 255))))) 70 (.inr (9, [.int 12, .int 0, .int (-1), .ref 71, .ref 72, .ref 73, .ref 74, .ref 75, .int 0, .int 0, .int 0, .int 0, .int 0, .int 0, .int 0, .int 0, .int 0, .ref 76, .int 0]))) nx) := by
  refine mj_enter (by decide) (Nat.le_of_ble_eq_true rfl) ?_
  refine mv_bipush (v := 24) d_Reader_takeFour_0 (by decide) ?_
  refine mv_istore_n (lv' := [(2, .int 24), (0, .ref 70), (1, .int x1)]) d_Reader_takeFour_2 rfl (by decide) rfl ?_
  refine mv_iload_n d_Reader_takeFour_3 rfl rfl ?_
  refine mv_if_lt_f (tgt := 56) d_Reader_takeFour_4 (by decide) (by decide) ?_
  refine mv_aload_n d_Reader_takeFour_7 rfl rfl ?_
  refine mv_get d_Reader_takeFour_8 f_Reader_34_9 h_70 rfl ?_
  refine mv_if_lt_f (tgt := 50) d_Reader_takeFour_11 (by decide) (by decide) ?_
  refine mv_aload_n d_Reader_takeFour_14 rfl rfl ?_
  refine mv_get d_Reader_takeFour_15 f_Reader_34_9 h_70 rfl ?_
  refine mv_sipush (v := 400) d_Reader_takeFour_18 (by decide) ?_
  refine mv_icmp_ge_f (tgt := 50) d_Reader_takeFour_21 (by decide) (by decide) ?_
  refine mv_aload_n d_Reader_takeFour_24 rfl rfl ?_
  refine mv_get d_Reader_takeFour_25 f_Reader_15_9 h_70 rfl ?_
  refine mv_aload_n d_Reader_takeFour_28 rfl rfl ?_
  refine mv_get d_Reader_takeFour_29 f_Reader_34_9 h_70 rfl ?_
  refine mv_iload_n d_Reader_takeFour_32 rfl rfl ?_
  refine mv_iload_n d_Reader_takeFour_33 rfl rfl ?_
  refine mv_iushr (v := (x1.toUInt32 >>> ((24 : Int32).toUInt32 &&& Int32.toUInt32 31)).toInt32) d_Reader_takeFour_34 rfl ?_
  refine mv_sipush (v := 255) d_Reader_takeFour_35 (by decide) ?_
  refine mv_iand d_Reader_takeFour_38 ?_
  refine mv_iast (f' := (upd f0 8 (((x1.toUInt32 >>> ((24 : Int32).toUInt32 &&& Int32.toUInt32 31)).toInt32) &&& 255))) d_Reader_takeFour_39 h_71 (by unfold vp_in; decide) rfl ?_
  refine mv_aload_n d_Reader_takeFour_40 rfl rfl ?_
  refine mv_dup d_Reader_takeFour_41 rfl ?_
  refine mv_get d_Reader_takeFour_42 f_Reader_34_9 ((mj_up_ne _ _ (Nat.ne_of_beq_eq_false rfl)).trans h_70) rfl ?_
  refine mv_iconst (v := 1) d_Reader_takeFour_45 (by decide) ?_
  refine mv_iaddv (v := 9) d_Reader_takeFour_46 (by decide) ?_
  refine mv_put (fs' := [.int 9, .int 0, .int (-1), .ref 71, .ref 72, .ref 73, .ref 74, .ref 75, .int 0, .int 0, .int 0, .int 0, .int 0, .int 0, .int 0, .int 0, .int 0, .ref 76, .int 0]) d_Reader_takeFour_47 p_Reader_34_9 ((mj_up_ne _ _ (Nat.ne_of_beq_eq_false rfl)).trans h_70) (Nat.le_of_ble_eq_true rfl) rfl rfl rfl ?_
  refine mv_iinc (v := 16) (lv' := [(2, .int 16), (0, .ref 70), (1, .int x1)]) d_Reader_takeFour_50 rfl (by decide) (by decide) rfl ?_
  refine mv_goto (tgt := 3) d_Reader_takeFour_53 (by decide) ?_
  refine mv_iload_n d_Reader_takeFour_3 rfl rfl ?_
  refine mv_if_lt_f (tgt := 56) d_Reader_takeFour_4 (by decide) (by decide) ?_
  refine mv_aload_n d_Reader_takeFour_7 rfl rfl ?_
  refine mv_get d_Reader_takeFour_8 f_Reader_34_9 (mj_up_self _ _ _) rfl ?_
  refine mv_if_lt_f (tgt := 50) d_Reader_takeFour_11 (by decide) (by decide) ?_
  refine mv_aload_n d_Reader_takeFour_14 rfl rfl ?_
  refine mv_get d_Reader_takeFour_15 f_Reader_34_9 (mj_up_self _ _ _) rfl ?_
  refine mv_sipush (v := 400) d_Reader_takeFour_18 (by decide) ?_
  refine mv_icmp_ge_f (tgt := 50) d_Reader_takeFour_21 (by decide) (by decide) ?_
  refine mv_aload_n d_Reader_takeFour_24 rfl rfl ?_
  refine mv_get d_Reader_takeFour_25 f_Reader_15_9 (mj_up_self _ _ _) rfl ?_
  refine mv_aload_n d_Reader_takeFour_28 rfl rfl ?_
  refine mv_get d_Reader_takeFour_29 f_Reader_34_9 (mj_up_self _ _ _) rfl ?_
  refine mv_iload_n d_Reader_takeFour_32 rfl rfl ?_
  refine mv_iload_n d_Reader_takeFour_33 rfl rfl ?_
  refine mv_iushr (v := (x1.toUInt32 >>> ((16 : Int32).toUInt32 &&& Int32.toUInt32 31)).toInt32) d_Reader_takeFour_34 rfl ?_
  refine mv_sipush (v := 255) d_Reader_takeFour_35 (by decide) ?_
  refine mv_iand d_Reader_takeFour_38 ?_
  refine mv_iast (f' := (upd (upd f0 8 (((x1.toUInt32 >>> ((24 : Int32).toUInt32 &&& Int32.toUInt32 31)).toInt32) &&& 255)) 9 (((x1.toUInt32 >>> ((16 : Int32).toUInt32 &&& Int32.toUInt32 31)).toInt32) &&& 255))) d_Reader_takeFour_39 ((mj_up_ne _ _ (Nat.ne_of_beq_eq_false rfl)).trans (mj_up_self _ _ _)) (by unfold vp_in; decide) rfl ?_
  refine mv_aload_n d_Reader_takeFour_40 rfl rfl ?_
  refine mv_dup d_Reader_takeFour_41 rfl ?_
  refine mv_get d_Reader_takeFour_42 f_Reader_34_9 ((mj_up_ne _ _ (Nat.ne_of_beq_eq_false rfl)).trans (mj_up_self _ _ _)) rfl ?_
  refine mv_iconst (v := 1) d_Reader_takeFour_45 (by decide) ?_
  refine mv_iaddv (v := 10) d_Reader_takeFour_46 (by decide) ?_
  refine mv_put (fs' := [.int 10, .int 0, .int (-1), .ref 71, .ref 72, .ref 73, .ref 74, .ref 75, .int 0, .int 0, .int 0, .int 0, .int 0, .int 0, .int 0, .int 0, .int 0, .ref 76, .int 0]) d_Reader_takeFour_47 p_Reader_34_9 ((mj_up_ne _ _ (Nat.ne_of_beq_eq_false rfl)).trans (mj_up_self _ _ _)) (Nat.le_of_ble_eq_true rfl) rfl rfl rfl ?_
  refine mv_iinc (v := 8) (lv' := [(2, .int 8), (0, .ref 70), (1, .int x1)]) d_Reader_takeFour_50 rfl (by decide) (by decide) rfl ?_
  refine mv_goto (tgt := 3) d_Reader_takeFour_53 (by decide) ?_
  refine mv_iload_n d_Reader_takeFour_3 rfl rfl ?_
  refine mv_if_lt_f (tgt := 56) d_Reader_takeFour_4 (by decide) (by decide) ?_
  refine mv_aload_n d_Reader_takeFour_7 rfl rfl ?_
  refine mv_get d_Reader_takeFour_8 f_Reader_34_9 (mj_up_self _ _ _) rfl ?_
  refine mv_if_lt_f (tgt := 50) d_Reader_takeFour_11 (by decide) (by decide) ?_
  refine mv_aload_n d_Reader_takeFour_14 rfl rfl ?_
  refine mv_get d_Reader_takeFour_15 f_Reader_34_9 (mj_up_self _ _ _) rfl ?_
  refine mv_sipush (v := 400) d_Reader_takeFour_18 (by decide) ?_
  refine mv_icmp_ge_f (tgt := 50) d_Reader_takeFour_21 (by decide) (by decide) ?_
  refine mv_aload_n d_Reader_takeFour_24 rfl rfl ?_
  refine mv_get d_Reader_takeFour_25 f_Reader_15_9 (mj_up_self _ _ _) rfl ?_
  refine mv_aload_n d_Reader_takeFour_28 rfl rfl ?_
  refine mv_get d_Reader_takeFour_29 f_Reader_34_9 (mj_up_self _ _ _) rfl ?_
  refine mv_iload_n d_Reader_takeFour_32 rfl rfl ?_
  refine mv_iload_n d_Reader_takeFour_33 rfl rfl ?_
  refine mv_iushr (v := (x1.toUInt32 >>> ((8 : Int32).toUInt32 &&& Int32.toUInt32 31)).toInt32) d_Reader_takeFour_34 rfl ?_
  refine mv_sipush (v := 255) d_Reader_takeFour_35 (by decide) ?_
  refine mv_iand d_Reader_takeFour_38 ?_
  refine mv_iast (f' := (upd (upd (upd f0 8 (((x1.toUInt32 >>> ((24 : Int32).toUInt32 &&& Int32.toUInt32 31)).toInt32) &&& 255)) 9 (((x1.toUInt32 >>> ((16 : Int32).toUInt32 &&& Int32.toUInt32 31)).toInt32) &&& 255)) 10 (((x1.toUInt32 >>> ((8 : Int32).toUInt32 &&& Int32.toUInt32 31)).toInt32) &&& 255))) d_Reader_takeFour_39 ((mj_up_ne _ _ (Nat.ne_of_beq_eq_false rfl)).trans (mj_up_self _ _ _)) (by unfold vp_in; decide) rfl ?_
  refine mv_aload_n d_Reader_takeFour_40 rfl rfl ?_
  refine mv_dup d_Reader_takeFour_41 rfl ?_
  refine mv_get d_Reader_takeFour_42 f_Reader_34_9 ((mj_up_ne _ _ (Nat.ne_of_beq_eq_false rfl)).trans (mj_up_self _ _ _)) rfl ?_
  refine mv_iconst (v := 1) d_Reader_takeFour_45 (by decide) ?_
  refine mv_iaddv (v := 11) d_Reader_takeFour_46 (by decide) ?_
  refine mv_put (fs' := [.int 11, .int 0, .int (-1), .ref 71, .ref 72, .ref 73, .ref 74, .ref 75, .int 0, .int 0, .int 0, .int 0, .int 0, .int 0, .int 0, .int 0, .int 0, .ref 76, .int 0]) d_Reader_takeFour_47 p_Reader_34_9 ((mj_up_ne _ _ (Nat.ne_of_beq_eq_false rfl)).trans (mj_up_self _ _ _)) (Nat.le_of_ble_eq_true rfl) rfl rfl rfl ?_
  refine mv_iinc (v := 0) (lv' := [(2, .int 0), (0, .ref 70), (1, .int x1)]) d_Reader_takeFour_50 rfl (by decide) (by decide) rfl ?_
  refine mv_goto (tgt := 3) d_Reader_takeFour_53 (by decide) ?_
  refine mv_iload_n d_Reader_takeFour_3 rfl rfl ?_
  refine mv_if_lt_f (tgt := 56) d_Reader_takeFour_4 (by decide) (by decide) ?_
  refine mv_aload_n d_Reader_takeFour_7 rfl rfl ?_
  refine mv_get d_Reader_takeFour_8 f_Reader_34_9 (mj_up_self _ _ _) rfl ?_
  refine mv_if_lt_f (tgt := 50) d_Reader_takeFour_11 (by decide) (by decide) ?_
  refine mv_aload_n d_Reader_takeFour_14 rfl rfl ?_
  refine mv_get d_Reader_takeFour_15 f_Reader_34_9 (mj_up_self _ _ _) rfl ?_
  refine mv_sipush (v := 400) d_Reader_takeFour_18 (by decide) ?_
  refine mv_icmp_ge_f (tgt := 50) d_Reader_takeFour_21 (by decide) (by decide) ?_
  refine mv_aload_n d_Reader_takeFour_24 rfl rfl ?_
  refine mv_get d_Reader_takeFour_25 f_Reader_15_9 (mj_up_self _ _ _) rfl ?_
  refine mv_aload_n d_Reader_takeFour_28 rfl rfl ?_
  refine mv_get d_Reader_takeFour_29 f_Reader_34_9 (mj_up_self _ _ _) rfl ?_
  refine mv_iload_n d_Reader_takeFour_32 rfl rfl ?_
  refine mv_iload_n d_Reader_takeFour_33 rfl rfl ?_
  refine mv_iushr (v := (x1.toUInt32 >>> ((0 : Int32).toUInt32 &&& Int32.toUInt32 31)).toInt32) d_Reader_takeFour_34 rfl ?_
  refine mv_sipush (v := 255) d_Reader_takeFour_35 (by decide) ?_
  refine mv_iand d_Reader_takeFour_38 ?_
  refine mv_iast (f' := (upd (upd (upd (upd f0 8 (((x1.toUInt32 >>> ((24 : Int32).toUInt32 &&& Int32.toUInt32 31)).toInt32) &&& 255)) 9 (((x1.toUInt32 >>> ((16 : Int32).toUInt32 &&& Int32.toUInt32 31)).toInt32) &&& 255)) 10 (((x1.toUInt32 >>> ((8 : Int32).toUInt32 &&& Int32.toUInt32 31)).toInt32) &&& 255)) 11 (((x1.toUInt32 >>> ((0 : Int32).toUInt32 &&& Int32.toUInt32 31)).toInt32) &&& 255))) d_Reader_takeFour_39 ((mj_up_ne _ _ (Nat.ne_of_beq_eq_false rfl)).trans (mj_up_self _ _ _)) (by unfold vp_in; decide) rfl ?_
  refine mv_aload_n d_Reader_takeFour_40 rfl rfl ?_
  refine mv_dup d_Reader_takeFour_41 rfl ?_
  refine mv_get d_Reader_takeFour_42 f_Reader_34_9 ((mj_up_ne _ _ (Nat.ne_of_beq_eq_false rfl)).trans (mj_up_self _ _ _)) rfl ?_
  refine mv_iconst (v := 1) d_Reader_takeFour_45 (by decide) ?_
  refine mv_iaddv (v := 12) d_Reader_takeFour_46 (by decide) ?_
  refine mv_put (fs' := [.int 12, .int 0, .int (-1), .ref 71, .ref 72, .ref 73, .ref 74, .ref 75, .int 0, .int 0, .int 0, .int 0, .int 0, .int 0, .int 0, .int 0, .int 0, .ref 76, .int 0]) d_Reader_takeFour_47 p_Reader_34_9 ((mj_up_ne _ _ (Nat.ne_of_beq_eq_false rfl)).trans (mj_up_self _ _ _)) (Nat.le_of_ble_eq_true rfl) rfl rfl rfl ?_
  refine mv_iinc (v := (-8)) (lv' := [(2, .int (-8)), (0, .ref 70), (1, .int x1)]) d_Reader_takeFour_50 rfl (by decide) (by decide) rfl ?_
  refine mv_goto (tgt := 3) d_Reader_takeFour_53 (by decide) ?_
  refine mv_iload_n d_Reader_takeFour_3 rfl rfl ?_
  refine mv_if_lt_t (tgt := 56) d_Reader_takeFour_4 (by decide) (by decide) ?_
  exact mv_vret d_Reader_takeFour_56 rfl ⟨rfl, rfl, rfl⟩
theorem d_TrustDesk_feed_39 : decode kY_TrustDesk_feed.2.1 39 = .ok (.aload_n 0, 1) := by decide +kernel
theorem d_TrustDesk_feed_40 : decode kY_TrustDesk_feed.2.1 40 = .ok (.getfield 19, 3) := by decide +kernel
theorem d_TrustDesk_feed_43 : decode kY_TrustDesk_feed.2.1 43 = .ok (.iload 4, 2) := by decide +kernel
theorem d_TrustDesk_feed_45 : decode kY_TrustDesk_feed.2.1 45 = .ok (.invokevirtual 91, 3) := by decide +kernel
theorem c_Reader_takeFour_3 {g : mj_G} {l : Launch} {d nx : Nat} {M : mj_M} {x1 : Int32} {f0 : Nat → Int32} (h_70 : M 70 = some (.inr (9, [.int 12, .int 0, .int (-1), .ref 71, .ref 72, .ref 73, .ref 74, .ref 75, .int 0, .int 0, .int 0, .int 0, .int 0, .int 0, .int 0, .int 0, .int 0, .ref 76, .int 0]))) (h_71 : M 71 = some (.inl (0, 400, .inl f0))) : mj_Met g l kY_Reader_takeFour d [.ref 70, .int x1] M nx 0 0 (mj_E1 none (mj_up (mj_up (mj_up (mj_up (mj_up (mj_up (mj_up (mj_up M 71 (.inl (0, 400, .inl (upd f0 12 (((x1.toUInt32 >>> ((24 : Int32).toUInt32 &&& Int32.toUInt32 31)).toInt32) &&& 255))))) 70 (.inr (9, [.int 13, .int 0, .int (-1), .ref 71, .ref 72, .ref 73, .ref 74, .ref 75, .int 0, .int 0, .int 0, .int 0, .int 0, .int 0, .int 0, .int 0, .int 0, .ref 76, .int 0]))) 71 (.inl (0, 400, .inl (upd (upd f0 12 (((x1.toUInt32 >>> ((24 : Int32).toUInt32 &&& Int32.toUInt32 31)).toInt32) &&& 255)) 13 (((x1.toUInt32 >>> ((16 : Int32).toUInt32 &&& Int32.toUInt32 31)).toInt32) &&& 255))))) 70 (.inr (9, [.int 14, .int 0, .int (-1), .ref 71, .ref 72, .ref 73, .ref 74, .ref 75, .int 0, .int 0, .int 0, .int 0, .int 0, .int 0, .int 0, .int 0, .int 0, .ref 76, .int 0]))) 71 (.inl (0, 400, .inl (upd (upd (upd f0 12 (((x1.toUInt32 >>> ((24 : Int32).toUInt32 &&& Int32.toUInt32 31)).toInt32) &&& 255)) 13 (((x1.toUInt32 >>> ((16 : Int32).toUInt32 &&& Int32.toUInt32 31)).toInt32) &&& 255)) 14 (((x1.toUInt32 >>> ((8 : Int32).toUInt32 &&& Int32.toUInt32 31)).toInt32) &&& 255))))) 70 (.inr (9, [.int 15, .int 0, .int (-1), .ref 71, .ref 72, .ref 73, .ref 74, .ref 75, .int 0, .int 0, .int 0, .int 0, .int 0, .int 0, .int 0, .int 0, .int 0, .ref 76, .int 0]))) 71 (.inl (0, 400, .inl (upd (upd (upd (upd f0 12 (((x1.toUInt32 >>> ((24 : Int32).toUInt32 &&& Int32.toUInt32 31)).toInt32) &&& 255)) 13 (((x1.toUInt32 >>> ((16 : Int32).toUInt32 &&& Int32.toUInt32 31)).toInt32) &&& 255)) 14 (((x1.toUInt32 >>> ((8 : Int32).toUInt32 &&& Int32.toUInt32 31)).toInt32) &&& 255)) 15 (((x1.toUInt32 >>> ((0 : Int32).toUInt32 &&& Int32.toUInt32 31)).toInt32) &&& 255))))) 70 (.inr (9, [.int 16, .int 0, .int (-1), .ref 71, .ref 72, .ref 73, .ref 74, .ref 75, .int 0, .int 0, .int 0, .int 0, .int 0, .int 0, .int 0, .int 0, .int 0, .ref 76, .int 0]))) nx) := by
  refine mj_enter (by decide) (Nat.le_of_ble_eq_true rfl) ?_
  refine mv_bipush (v := 24) d_Reader_takeFour_0 (by decide) ?_
  refine mv_istore_n (lv' := [(2, .int 24), (0, .ref 70), (1, .int x1)]) d_Reader_takeFour_2 rfl (by decide) rfl ?_
  refine mv_iload_n d_Reader_takeFour_3 rfl rfl ?_
  refine mv_if_lt_f (tgt := 56) d_Reader_takeFour_4 (by decide) (by decide) ?_
  refine mv_aload_n d_Reader_takeFour_7 rfl rfl ?_
  refine mv_get d_Reader_takeFour_8 f_Reader_34_9 h_70 rfl ?_
  refine mv_if_lt_f (tgt := 50) d_Reader_takeFour_11 (by decide) (by decide) ?_
  refine mv_aload_n d_Reader_takeFour_14 rfl rfl ?_
  refine mv_get d_Reader_takeFour_15 f_Reader_34_9 h_70 rfl ?_
  refine mv_sipush (v := 400) d_Reader_takeFour_18 (by decide) ?_
  refine mv_icmp_ge_f (tgt := 50) d_Reader_takeFour_21 (by decide) (by decide) ?_
  refine mv_aload_n d_Reader_takeFour_24 rfl rfl ?_
  refine mv_get d_Reader_takeFour_25 f_Reader_15_9 h_70 rfl ?_
  refine mv_aload_n d_Reader_takeFour_28 rfl rfl ?_
  refine mv_get d_Reader_takeFour_29 f_Reader_34_9 h_70 rfl ?_
  refine mv_iload_n d_Reader_takeFour_32 rfl rfl ?_
  refine mv_iload_n d_Reader_takeFour_33 rfl rfl ?_
  refine mv_iushr (v := (x1.toUInt32 >>> ((24 : Int32).toUInt32 &&& Int32.toUInt32 31)).toInt32) d_Reader_takeFour_34 rfl ?_
  refine mv_sipush (v := 255) d_Reader_takeFour_35 (by decide) ?_
  refine mv_iand d_Reader_takeFour_38 ?_
  refine mv_iast (f' := (upd f0 12 (((x1.toUInt32 >>> ((24 : Int32).toUInt32 &&& Int32.toUInt32 31)).toInt32) &&& 255))) d_Reader_takeFour_39 h_71 (by unfold vp_in; decide) rfl ?_
  refine mv_aload_n d_Reader_takeFour_40 rfl rfl ?_
  refine mv_dup d_Reader_takeFour_41 rfl ?_
  refine mv_get d_Reader_takeFour_42 f_Reader_34_9 ((mj_up_ne _ _ (Nat.ne_of_beq_eq_false rfl)).trans h_70) rfl ?_
  refine mv_iconst (v := 1) d_Reader_takeFour_45 (by decide) ?_
  refine mv_iaddv (v := 13) d_Reader_takeFour_46 (by decide) ?_
  refine mv_put (fs' := [.int 13, .int 0, .int (-1), .ref 71, .ref 72, .ref 73, .ref 74, .ref 75, .int 0, .int 0, .int 0, .int 0, .int 0, .int 0, .int 0, .int 0, .int 0, .ref 76, .int 0]) d_Reader_takeFour_47 p_Reader_34_9 ((mj_up_ne _ _ (Nat.ne_of_beq_eq_false rfl)).trans h_70) (Nat.le_of_ble_eq_true rfl) rfl rfl rfl ?_
  refine mv_iinc (v := 16) (lv' := [(2, .int 16), (0, .ref 70), (1, .int x1)]) d_Reader_takeFour_50 rfl (by decide) (by decide) rfl ?_
  refine mv_goto (tgt := 3) d_Reader_takeFour_53 (by decide) ?_
  refine mv_iload_n d_Reader_takeFour_3 rfl rfl ?_
  refine mv_if_lt_f (tgt := 56) d_Reader_takeFour_4 (by decide) (by decide) ?_
  refine mv_aload_n d_Reader_takeFour_7 rfl rfl ?_
  refine mv_get d_Reader_takeFour_8 f_Reader_34_9 (mj_up_self _ _ _) rfl ?_
  refine mv_if_lt_f (tgt := 50) d_Reader_takeFour_11 (by decide) (by decide) ?_
  refine mv_aload_n d_Reader_takeFour_14 rfl rfl ?_
  refine mv_get d_Reader_takeFour_15 f_Reader_34_9 (mj_up_self _ _ _) rfl ?_
  refine mv_sipush (v := 400) d_Reader_takeFour_18 (by decide) ?_
  refine mv_icmp_ge_f (tgt := 50) d_Reader_takeFour_21 (by decide) (by decide) ?_
  refine mv_aload_n d_Reader_takeFour_24 rfl rfl ?_
  refine mv_get d_Reader_takeFour_25 f_Reader_15_9 (mj_up_self _ _ _) rfl ?_
  refine mv_aload_n d_Reader_takeFour_28 rfl rfl ?_
  refine mv_get d_Reader_takeFour_29 f_Reader_34_9 (mj_up_self _ _ _) rfl ?_
  refine mv_iload_n d_Reader_takeFour_32 rfl rfl ?_
  refine mv_iload_n d_Reader_takeFour_33 rfl rfl ?_
  refine mv_iushr (v := (x1.toUInt32 >>> ((16 : Int32).toUInt32 &&& Int32.toUInt32 31)).toInt32) d_Reader_takeFour_34 rfl ?_
  refine mv_sipush (v := 255) d_Reader_takeFour_35 (by decide) ?_
  refine mv_iand d_Reader_takeFour_38 ?_
  refine mv_iast (f' := (upd (upd f0 12 (((x1.toUInt32 >>> ((24 : Int32).toUInt32 &&& Int32.toUInt32 31)).toInt32) &&& 255)) 13 (((x1.toUInt32 >>> ((16 : Int32).toUInt32 &&& Int32.toUInt32 31)).toInt32) &&& 255))) d_Reader_takeFour_39 ((mj_up_ne _ _ (Nat.ne_of_beq_eq_false rfl)).trans (mj_up_self _ _ _)) (by unfold vp_in; decide) rfl ?_
  refine mv_aload_n d_Reader_takeFour_40 rfl rfl ?_
  refine mv_dup d_Reader_takeFour_41 rfl ?_
  refine mv_get d_Reader_takeFour_42 f_Reader_34_9 ((mj_up_ne _ _ (Nat.ne_of_beq_eq_false rfl)).trans (mj_up_self _ _ _)) rfl ?_
  refine mv_iconst (v := 1) d_Reader_takeFour_45 (by decide) ?_
  refine mv_iaddv (v := 14) d_Reader_takeFour_46 (by decide) ?_
  refine mv_put (fs' := [.int 14, .int 0, .int (-1), .ref 71, .ref 72, .ref 73, .ref 74, .ref 75, .int 0, .int 0, .int 0, .int 0, .int 0, .int 0, .int 0, .int 0, .int 0, .ref 76, .int 0]) d_Reader_takeFour_47 p_Reader_34_9 ((mj_up_ne _ _ (Nat.ne_of_beq_eq_false rfl)).trans (mj_up_self _ _ _)) (Nat.le_of_ble_eq_true rfl) rfl rfl rfl ?_
  refine mv_iinc (v := 8) (lv' := [(2, .int 8), (0, .ref 70), (1, .int x1)]) d_Reader_takeFour_50 rfl (by decide) (by decide) rfl ?_
  refine mv_goto (tgt := 3) d_Reader_takeFour_53 (by decide) ?_
  refine mv_iload_n d_Reader_takeFour_3 rfl rfl ?_
  refine mv_if_lt_f (tgt := 56) d_Reader_takeFour_4 (by decide) (by decide) ?_
  refine mv_aload_n d_Reader_takeFour_7 rfl rfl ?_
  refine mv_get d_Reader_takeFour_8 f_Reader_34_9 (mj_up_self _ _ _) rfl ?_
  refine mv_if_lt_f (tgt := 50) d_Reader_takeFour_11 (by decide) (by decide) ?_
  refine mv_aload_n d_Reader_takeFour_14 rfl rfl ?_
  refine mv_get d_Reader_takeFour_15 f_Reader_34_9 (mj_up_self _ _ _) rfl ?_
  refine mv_sipush (v := 400) d_Reader_takeFour_18 (by decide) ?_
  refine mv_icmp_ge_f (tgt := 50) d_Reader_takeFour_21 (by decide) (by decide) ?_
  refine mv_aload_n d_Reader_takeFour_24 rfl rfl ?_
  refine mv_get d_Reader_takeFour_25 f_Reader_15_9 (mj_up_self _ _ _) rfl ?_
  refine mv_aload_n d_Reader_takeFour_28 rfl rfl ?_
  refine mv_get d_Reader_takeFour_29 f_Reader_34_9 (mj_up_self _ _ _) rfl ?_
  refine mv_iload_n d_Reader_takeFour_32 rfl rfl ?_
  refine mv_iload_n d_Reader_takeFour_33 rfl rfl ?_
  refine mv_iushr (v := (x1.toUInt32 >>> ((8 : Int32).toUInt32 &&& Int32.toUInt32 31)).toInt32) d_Reader_takeFour_34 rfl ?_
  refine mv_sipush (v := 255) d_Reader_takeFour_35 (by decide) ?_
  refine mv_iand d_Reader_takeFour_38 ?_
  refine mv_iast (f' := (upd (upd (upd f0 12 (((x1.toUInt32 >>> ((24 : Int32).toUInt32 &&& Int32.toUInt32 31)).toInt32) &&& 255)) 13 (((x1.toUInt32 >>> ((16 : Int32).toUInt32 &&& Int32.toUInt32 31)).toInt32) &&& 255)) 14 (((x1.toUInt32 >>> ((8 : Int32).toUInt32 &&& Int32.toUInt32 31)).toInt32) &&& 255))) d_Reader_takeFour_39 ((mj_up_ne _ _ (Nat.ne_of_beq_eq_false rfl)).trans (mj_up_self _ _ _)) (by unfold vp_in; decide) rfl ?_
  refine mv_aload_n d_Reader_takeFour_40 rfl rfl ?_
  refine mv_dup d_Reader_takeFour_41 rfl ?_
  refine mv_get d_Reader_takeFour_42 f_Reader_34_9 ((mj_up_ne _ _ (Nat.ne_of_beq_eq_false rfl)).trans (mj_up_self _ _ _)) rfl ?_
  refine mv_iconst (v := 1) d_Reader_takeFour_45 (by decide) ?_
  refine mv_iaddv (v := 15) d_Reader_takeFour_46 (by decide) ?_
  refine mv_put (fs' := [.int 15, .int 0, .int (-1), .ref 71, .ref 72, .ref 73, .ref 74, .ref 75, .int 0, .int 0, .int 0, .int 0, .int 0, .int 0, .int 0, .int 0, .int 0, .ref 76, .int 0]) d_Reader_takeFour_47 p_Reader_34_9 ((mj_up_ne _ _ (Nat.ne_of_beq_eq_false rfl)).trans (mj_up_self _ _ _)) (Nat.le_of_ble_eq_true rfl) rfl rfl rfl ?_
  refine mv_iinc (v := 0) (lv' := [(2, .int 0), (0, .ref 70), (1, .int x1)]) d_Reader_takeFour_50 rfl (by decide) (by decide) rfl ?_
  refine mv_goto (tgt := 3) d_Reader_takeFour_53 (by decide) ?_
  refine mv_iload_n d_Reader_takeFour_3 rfl rfl ?_
  refine mv_if_lt_f (tgt := 56) d_Reader_takeFour_4 (by decide) (by decide) ?_
  refine mv_aload_n d_Reader_takeFour_7 rfl rfl ?_
  refine mv_get d_Reader_takeFour_8 f_Reader_34_9 (mj_up_self _ _ _) rfl ?_
  refine mv_if_lt_f (tgt := 50) d_Reader_takeFour_11 (by decide) (by decide) ?_
  refine mv_aload_n d_Reader_takeFour_14 rfl rfl ?_
  refine mv_get d_Reader_takeFour_15 f_Reader_34_9 (mj_up_self _ _ _) rfl ?_
  refine mv_sipush (v := 400) d_Reader_takeFour_18 (by decide) ?_
  refine mv_icmp_ge_f (tgt := 50) d_Reader_takeFour_21 (by decide) (by decide) ?_
  refine mv_aload_n d_Reader_takeFour_24 rfl rfl ?_
  refine mv_get d_Reader_takeFour_25 f_Reader_15_9 (mj_up_self _ _ _) rfl ?_
  refine mv_aload_n d_Reader_takeFour_28 rfl rfl ?_
  refine mv_get d_Reader_takeFour_29 f_Reader_34_9 (mj_up_self _ _ _) rfl ?_
  refine mv_iload_n d_Reader_takeFour_32 rfl rfl ?_
  refine mv_iload_n d_Reader_takeFour_33 rfl rfl ?_
  refine mv_iushr (v := (x1.toUInt32 >>> ((0 : Int32).toUInt32 &&& Int32.toUInt32 31)).toInt32) d_Reader_takeFour_34 rfl ?_
  refine mv_sipush (v := 255) d_Reader_takeFour_35 (by decide) ?_
  refine mv_iand d_Reader_takeFour_38 ?_
  refine mv_iast (f' := (upd (upd (upd (upd f0 12 (((x1.toUInt32 >>> ((24 : Int32).toUInt32 &&& Int32.toUInt32 31)).toInt32) &&& 255)) 13 (((x1.toUInt32 >>> ((16 : Int32).toUInt32 &&& Int32.toUInt32 31)).toInt32) &&& 255)) 14 (((x1.toUInt32 >>> ((8 : Int32).toUInt32 &&& Int32.toUInt32 31)).toInt32) &&& 255)) 15 (((x1.toUInt32 >>> ((0 : Int32).toUInt32 &&& Int32.toUInt32 31)).toInt32) &&& 255))) d_Reader_takeFour_39 ((mj_up_ne _ _ (Nat.ne_of_beq_eq_false rfl)).trans (mj_up_self _ _ _)) (by unfold vp_in; decide) rfl ?_
  refine mv_aload_n d_Reader_takeFour_40 rfl rfl ?_
  refine mv_dup d_Reader_takeFour_41 rfl ?_
  refine mv_get d_Reader_takeFour_42 f_Reader_34_9 ((mj_up_ne _ _ (Nat.ne_of_beq_eq_false rfl)).trans (mj_up_self _ _ _)) rfl ?_
  refine mv_iconst (v := 1) d_Reader_takeFour_45 (by decide) ?_
  refine mv_iaddv (v := 16) d_Reader_takeFour_46 (by decide) ?_
  refine mv_put (fs' := [.int 16, .int 0, .int (-1), .ref 71, .ref 72, .ref 73, .ref 74, .ref 75, .int 0, .int 0, .int 0, .int 0, .int 0, .int 0, .int 0, .int 0, .int 0, .ref 76, .int 0]) d_Reader_takeFour_47 p_Reader_34_9 ((mj_up_ne _ _ (Nat.ne_of_beq_eq_false rfl)).trans (mj_up_self _ _ _)) (Nat.le_of_ble_eq_true rfl) rfl rfl rfl ?_
  refine mv_iinc (v := (-8)) (lv' := [(2, .int (-8)), (0, .ref 70), (1, .int x1)]) d_Reader_takeFour_50 rfl (by decide) (by decide) rfl ?_
  refine mv_goto (tgt := 3) d_Reader_takeFour_53 (by decide) ?_
  refine mv_iload_n d_Reader_takeFour_3 rfl rfl ?_
  refine mv_if_lt_t (tgt := 56) d_Reader_takeFour_4 (by decide) (by decide) ?_
  exact mv_vret d_Reader_takeFour_56 rfl ⟨rfl, rfl, rfl⟩
theorem d_TrustDesk_feed_48 : decode kY_TrustDesk_feed.2.1 48 = .ok (.aload_n 0, 1) := by decide +kernel
theorem d_TrustDesk_feed_49 : decode kY_TrustDesk_feed.2.1 49 = .ok (.getfield 19, 3) := by decide +kernel
theorem d_TrustDesk_feed_52 : decode kY_TrustDesk_feed.2.1 52 = .ok (.iload 5, 2) := by decide +kernel
theorem d_TrustDesk_feed_54 : decode kY_TrustDesk_feed.2.1 54 = .ok (.invokevirtual 91, 3) := by decide +kernel
theorem c_Reader_takeFour_4 {g : mj_G} {l : Launch} {d nx : Nat} {M : mj_M} {x1 : Int32} {f0 : Nat → Int32} (h_70 : M 70 = some (.inr (9, [.int 16, .int 0, .int (-1), .ref 71, .ref 72, .ref 73, .ref 74, .ref 75, .int 0, .int 0, .int 0, .int 0, .int 0, .int 0, .int 0, .int 0, .int 0, .ref 76, .int 0]))) (h_71 : M 71 = some (.inl (0, 400, .inl f0))) : mj_Met g l kY_Reader_takeFour d [.ref 70, .int x1] M nx 0 0 (mj_E1 none (mj_up (mj_up (mj_up (mj_up (mj_up (mj_up (mj_up (mj_up M 71 (.inl (0, 400, .inl (upd f0 16 (((x1.toUInt32 >>> ((24 : Int32).toUInt32 &&& Int32.toUInt32 31)).toInt32) &&& 255))))) 70 (.inr (9, [.int 17, .int 0, .int (-1), .ref 71, .ref 72, .ref 73, .ref 74, .ref 75, .int 0, .int 0, .int 0, .int 0, .int 0, .int 0, .int 0, .int 0, .int 0, .ref 76, .int 0]))) 71 (.inl (0, 400, .inl (upd (upd f0 16 (((x1.toUInt32 >>> ((24 : Int32).toUInt32 &&& Int32.toUInt32 31)).toInt32) &&& 255)) 17 (((x1.toUInt32 >>> ((16 : Int32).toUInt32 &&& Int32.toUInt32 31)).toInt32) &&& 255))))) 70 (.inr (9, [.int 18, .int 0, .int (-1), .ref 71, .ref 72, .ref 73, .ref 74, .ref 75, .int 0, .int 0, .int 0, .int 0, .int 0, .int 0, .int 0, .int 0, .int 0, .ref 76, .int 0]))) 71 (.inl (0, 400, .inl (upd (upd (upd f0 16 (((x1.toUInt32 >>> ((24 : Int32).toUInt32 &&& Int32.toUInt32 31)).toInt32) &&& 255)) 17 (((x1.toUInt32 >>> ((16 : Int32).toUInt32 &&& Int32.toUInt32 31)).toInt32) &&& 255)) 18 (((x1.toUInt32 >>> ((8 : Int32).toUInt32 &&& Int32.toUInt32 31)).toInt32) &&& 255))))) 70 (.inr (9, [.int 19, .int 0, .int (-1), .ref 71, .ref 72, .ref 73, .ref 74, .ref 75, .int 0, .int 0, .int 0, .int 0, .int 0, .int 0, .int 0, .int 0, .int 0, .ref 76, .int 0]))) 71 (.inl (0, 400, .inl (upd (upd (upd (upd f0 16 (((x1.toUInt32 >>> ((24 : Int32).toUInt32 &&& Int32.toUInt32 31)).toInt32) &&& 255)) 17 (((x1.toUInt32 >>> ((16 : Int32).toUInt32 &&& Int32.toUInt32 31)).toInt32) &&& 255)) 18 (((x1.toUInt32 >>> ((8 : Int32).toUInt32 &&& Int32.toUInt32 31)).toInt32) &&& 255)) 19 (((x1.toUInt32 >>> ((0 : Int32).toUInt32 &&& Int32.toUInt32 31)).toInt32) &&& 255))))) 70 (.inr (9, [.int 20, .int 0, .int (-1), .ref 71, .ref 72, .ref 73, .ref 74, .ref 75, .int 0, .int 0, .int 0, .int 0, .int 0, .int 0, .int 0, .int 0, .int 0, .ref 76, .int 0]))) nx) := by
  refine mj_enter (by decide) (Nat.le_of_ble_eq_true rfl) ?_
  refine mv_bipush (v := 24) d_Reader_takeFour_0 (by decide) ?_
  refine mv_istore_n (lv' := [(2, .int 24), (0, .ref 70), (1, .int x1)]) d_Reader_takeFour_2 rfl (by decide) rfl ?_
  refine mv_iload_n d_Reader_takeFour_3 rfl rfl ?_
  refine mv_if_lt_f (tgt := 56) d_Reader_takeFour_4 (by decide) (by decide) ?_
  refine mv_aload_n d_Reader_takeFour_7 rfl rfl ?_
  refine mv_get d_Reader_takeFour_8 f_Reader_34_9 h_70 rfl ?_
  refine mv_if_lt_f (tgt := 50) d_Reader_takeFour_11 (by decide) (by decide) ?_
  refine mv_aload_n d_Reader_takeFour_14 rfl rfl ?_
  refine mv_get d_Reader_takeFour_15 f_Reader_34_9 h_70 rfl ?_
  refine mv_sipush (v := 400) d_Reader_takeFour_18 (by decide) ?_
  refine mv_icmp_ge_f (tgt := 50) d_Reader_takeFour_21 (by decide) (by decide) ?_
  refine mv_aload_n d_Reader_takeFour_24 rfl rfl ?_
  refine mv_get d_Reader_takeFour_25 f_Reader_15_9 h_70 rfl ?_
  refine mv_aload_n d_Reader_takeFour_28 rfl rfl ?_
  refine mv_get d_Reader_takeFour_29 f_Reader_34_9 h_70 rfl ?_
  refine mv_iload_n d_Reader_takeFour_32 rfl rfl ?_
  refine mv_iload_n d_Reader_takeFour_33 rfl rfl ?_
  refine mv_iushr (v := (x1.toUInt32 >>> ((24 : Int32).toUInt32 &&& Int32.toUInt32 31)).toInt32) d_Reader_takeFour_34 rfl ?_
  refine mv_sipush (v := 255) d_Reader_takeFour_35 (by decide) ?_
  refine mv_iand d_Reader_takeFour_38 ?_
  refine mv_iast (f' := (upd f0 16 (((x1.toUInt32 >>> ((24 : Int32).toUInt32 &&& Int32.toUInt32 31)).toInt32) &&& 255))) d_Reader_takeFour_39 h_71 (by unfold vp_in; decide) rfl ?_
  refine mv_aload_n d_Reader_takeFour_40 rfl rfl ?_
  refine mv_dup d_Reader_takeFour_41 rfl ?_
  refine mv_get d_Reader_takeFour_42 f_Reader_34_9 ((mj_up_ne _ _ (Nat.ne_of_beq_eq_false rfl)).trans h_70) rfl ?_
  refine mv_iconst (v := 1) d_Reader_takeFour_45 (by decide) ?_
  refine mv_iaddv (v := 17) d_Reader_takeFour_46 (by decide) ?_
  refine mv_put (fs' := [.int 17, .int 0, .int (-1), .ref 71, .ref 72, .ref 73, .ref 74, .ref 75, .int 0, .int 0, .int 0, .int 0, .int 0, .int 0, .int 0, .int 0, .int 0, .ref 76, .int 0]) d_Reader_takeFour_47 p_Reader_34_9 ((mj_up_ne _ _ (Nat.ne_of_beq_eq_false rfl)).trans h_70) (Nat.le_of_ble_eq_true rfl) rfl rfl rfl ?_
  refine mv_iinc (v := 16) (lv' := [(2, .int 16), (0, .ref 70), (1, .int x1)]) d_Reader_takeFour_50 rfl (by decide) (by decide) rfl ?_
  refine mv_goto (tgt := 3) d_Reader_takeFour_53 (by decide) ?_
  refine mv_iload_n d_Reader_takeFour_3 rfl rfl ?_
  refine mv_if_lt_f (tgt := 56) d_Reader_takeFour_4 (by decide) (by decide) ?_
  refine mv_aload_n d_Reader_takeFour_7 rfl rfl ?_
  refine mv_get d_Reader_takeFour_8 f_Reader_34_9 (mj_up_self _ _ _) rfl ?_
  refine mv_if_lt_f (tgt := 50) d_Reader_takeFour_11 (by decide) (by decide) ?_
  refine mv_aload_n d_Reader_takeFour_14 rfl rfl ?_
  refine mv_get d_Reader_takeFour_15 f_Reader_34_9 (mj_up_self _ _ _) rfl ?_
  refine mv_sipush (v := 400) d_Reader_takeFour_18 (by decide) ?_
  refine mv_icmp_ge_f (tgt := 50) d_Reader_takeFour_21 (by decide) (by decide) ?_
  refine mv_aload_n d_Reader_takeFour_24 rfl rfl ?_
  refine mv_get d_Reader_takeFour_25 f_Reader_15_9 (mj_up_self _ _ _) rfl ?_
  refine mv_aload_n d_Reader_takeFour_28 rfl rfl ?_
  refine mv_get d_Reader_takeFour_29 f_Reader_34_9 (mj_up_self _ _ _) rfl ?_
  refine mv_iload_n d_Reader_takeFour_32 rfl rfl ?_
  refine mv_iload_n d_Reader_takeFour_33 rfl rfl ?_
  refine mv_iushr (v := (x1.toUInt32 >>> ((16 : Int32).toUInt32 &&& Int32.toUInt32 31)).toInt32) d_Reader_takeFour_34 rfl ?_
  refine mv_sipush (v := 255) d_Reader_takeFour_35 (by decide) ?_
  refine mv_iand d_Reader_takeFour_38 ?_
  refine mv_iast (f' := (upd (upd f0 16 (((x1.toUInt32 >>> ((24 : Int32).toUInt32 &&& Int32.toUInt32 31)).toInt32) &&& 255)) 17 (((x1.toUInt32 >>> ((16 : Int32).toUInt32 &&& Int32.toUInt32 31)).toInt32) &&& 255))) d_Reader_takeFour_39 ((mj_up_ne _ _ (Nat.ne_of_beq_eq_false rfl)).trans (mj_up_self _ _ _)) (by unfold vp_in; decide) rfl ?_
  refine mv_aload_n d_Reader_takeFour_40 rfl rfl ?_
  refine mv_dup d_Reader_takeFour_41 rfl ?_
  refine mv_get d_Reader_takeFour_42 f_Reader_34_9 ((mj_up_ne _ _ (Nat.ne_of_beq_eq_false rfl)).trans (mj_up_self _ _ _)) rfl ?_
  refine mv_iconst (v := 1) d_Reader_takeFour_45 (by decide) ?_
  refine mv_iaddv (v := 18) d_Reader_takeFour_46 (by decide) ?_
  refine mv_put (fs' := [.int 18, .int 0, .int (-1), .ref 71, .ref 72, .ref 73, .ref 74, .ref 75, .int 0, .int 0, .int 0, .int 0, .int 0, .int 0, .int 0, .int 0, .int 0, .ref 76, .int 0]) d_Reader_takeFour_47 p_Reader_34_9 ((mj_up_ne _ _ (Nat.ne_of_beq_eq_false rfl)).trans (mj_up_self _ _ _)) (Nat.le_of_ble_eq_true rfl) rfl rfl rfl ?_
  refine mv_iinc (v := 8) (lv' := [(2, .int 8), (0, .ref 70), (1, .int x1)]) d_Reader_takeFour_50 rfl (by decide) (by decide) rfl ?_
  refine mv_goto (tgt := 3) d_Reader_takeFour_53 (by decide) ?_
  refine mv_iload_n d_Reader_takeFour_3 rfl rfl ?_
  refine mv_if_lt_f (tgt := 56) d_Reader_takeFour_4 (by decide) (by decide) ?_
  refine mv_aload_n d_Reader_takeFour_7 rfl rfl ?_
  refine mv_get d_Reader_takeFour_8 f_Reader_34_9 (mj_up_self _ _ _) rfl ?_
  refine mv_if_lt_f (tgt := 50) d_Reader_takeFour_11 (by decide) (by decide) ?_
  refine mv_aload_n d_Reader_takeFour_14 rfl rfl ?_
  refine mv_get d_Reader_takeFour_15 f_Reader_34_9 (mj_up_self _ _ _) rfl ?_
  refine mv_sipush (v := 400) d_Reader_takeFour_18 (by decide) ?_
  refine mv_icmp_ge_f (tgt := 50) d_Reader_takeFour_21 (by decide) (by decide) ?_
  refine mv_aload_n d_Reader_takeFour_24 rfl rfl ?_
  refine mv_get d_Reader_takeFour_25 f_Reader_15_9 (mj_up_self _ _ _) rfl ?_
  refine mv_aload_n d_Reader_takeFour_28 rfl rfl ?_
  refine mv_get d_Reader_takeFour_29 f_Reader_34_9 (mj_up_self _ _ _) rfl ?_
  refine mv_iload_n d_Reader_takeFour_32 rfl rfl ?_
  refine mv_iload_n d_Reader_takeFour_33 rfl rfl ?_
  refine mv_iushr (v := (x1.toUInt32 >>> ((8 : Int32).toUInt32 &&& Int32.toUInt32 31)).toInt32) d_Reader_takeFour_34 rfl ?_
  refine mv_sipush (v := 255) d_Reader_takeFour_35 (by decide) ?_
  refine mv_iand d_Reader_takeFour_38 ?_
  refine mv_iast (f' := (upd (upd (upd f0 16 (((x1.toUInt32 >>> ((24 : Int32).toUInt32 &&& Int32.toUInt32 31)).toInt32) &&& 255)) 17 (((x1.toUInt32 >>> ((16 : Int32).toUInt32 &&& Int32.toUInt32 31)).toInt32) &&& 255)) 18 (((x1.toUInt32 >>> ((8 : Int32).toUInt32 &&& Int32.toUInt32 31)).toInt32) &&& 255))) d_Reader_takeFour_39 ((mj_up_ne _ _ (Nat.ne_of_beq_eq_false rfl)).trans (mj_up_self _ _ _)) (by unfold vp_in; decide) rfl ?_
  refine mv_aload_n d_Reader_takeFour_40 rfl rfl ?_
  refine mv_dup d_Reader_takeFour_41 rfl ?_
  refine mv_get d_Reader_takeFour_42 f_Reader_34_9 ((mj_up_ne _ _ (Nat.ne_of_beq_eq_false rfl)).trans (mj_up_self _ _ _)) rfl ?_
  refine mv_iconst (v := 1) d_Reader_takeFour_45 (by decide) ?_
  refine mv_iaddv (v := 19) d_Reader_takeFour_46 (by decide) ?_
  refine mv_put (fs' := [.int 19, .int 0, .int (-1), .ref 71, .ref 72, .ref 73, .ref 74, .ref 75, .int 0, .int 0, .int 0, .int 0, .int 0, .int 0, .int 0, .int 0, .int 0, .ref 76, .int 0]) d_Reader_takeFour_47 p_Reader_34_9 ((mj_up_ne _ _ (Nat.ne_of_beq_eq_false rfl)).trans (mj_up_self _ _ _)) (Nat.le_of_ble_eq_true rfl) rfl rfl rfl ?_
  refine mv_iinc (v := 0) (lv' := [(2, .int 0), (0, .ref 70), (1, .int x1)]) d_Reader_takeFour_50 rfl (by decide) (by decide) rfl ?_
  refine mv_goto (tgt := 3) d_Reader_takeFour_53 (by decide) ?_
  refine mv_iload_n d_Reader_takeFour_3 rfl rfl ?_
  refine mv_if_lt_f (tgt := 56) d_Reader_takeFour_4 (by decide) (by decide) ?_
  refine mv_aload_n d_Reader_takeFour_7 rfl rfl ?_
  refine mv_get d_Reader_takeFour_8 f_Reader_34_9 (mj_up_self _ _ _) rfl ?_
  refine mv_if_lt_f (tgt := 50) d_Reader_takeFour_11 (by decide) (by decide) ?_
  refine mv_aload_n d_Reader_takeFour_14 rfl rfl ?_
  refine mv_get d_Reader_takeFour_15 f_Reader_34_9 (mj_up_self _ _ _) rfl ?_
  refine mv_sipush (v := 400) d_Reader_takeFour_18 (by decide) ?_
  refine mv_icmp_ge_f (tgt := 50) d_Reader_takeFour_21 (by decide) (by decide) ?_
  refine mv_aload_n d_Reader_takeFour_24 rfl rfl ?_
  refine mv_get d_Reader_takeFour_25 f_Reader_15_9 (mj_up_self _ _ _) rfl ?_
  refine mv_aload_n d_Reader_takeFour_28 rfl rfl ?_
  refine mv_get d_Reader_takeFour_29 f_Reader_34_9 (mj_up_self _ _ _) rfl ?_
  refine mv_iload_n d_Reader_takeFour_32 rfl rfl ?_
  refine mv_iload_n d_Reader_takeFour_33 rfl rfl ?_
  refine mv_iushr (v := (x1.toUInt32 >>> ((0 : Int32).toUInt32 &&& Int32.toUInt32 31)).toInt32) d_Reader_takeFour_34 rfl ?_
  refine mv_sipush (v := 255) d_Reader_takeFour_35 (by decide) ?_
  refine mv_iand d_Reader_takeFour_38 ?_
  refine mv_iast (f' := (upd (upd (upd (upd f0 16 (((x1.toUInt32 >>> ((24 : Int32).toUInt32 &&& Int32.toUInt32 31)).toInt32) &&& 255)) 17 (((x1.toUInt32 >>> ((16 : Int32).toUInt32 &&& Int32.toUInt32 31)).toInt32) &&& 255)) 18 (((x1.toUInt32 >>> ((8 : Int32).toUInt32 &&& Int32.toUInt32 31)).toInt32) &&& 255)) 19 (((x1.toUInt32 >>> ((0 : Int32).toUInt32 &&& Int32.toUInt32 31)).toInt32) &&& 255))) d_Reader_takeFour_39 ((mj_up_ne _ _ (Nat.ne_of_beq_eq_false rfl)).trans (mj_up_self _ _ _)) (by unfold vp_in; decide) rfl ?_
  refine mv_aload_n d_Reader_takeFour_40 rfl rfl ?_
  refine mv_dup d_Reader_takeFour_41 rfl ?_
  refine mv_get d_Reader_takeFour_42 f_Reader_34_9 ((mj_up_ne _ _ (Nat.ne_of_beq_eq_false rfl)).trans (mj_up_self _ _ _)) rfl ?_
  refine mv_iconst (v := 1) d_Reader_takeFour_45 (by decide) ?_
  refine mv_iaddv (v := 20) d_Reader_takeFour_46 (by decide) ?_
  refine mv_put (fs' := [.int 20, .int 0, .int (-1), .ref 71, .ref 72, .ref 73, .ref 74, .ref 75, .int 0, .int 0, .int 0, .int 0, .int 0, .int 0, .int 0, .int 0, .int 0, .ref 76, .int 0]) d_Reader_takeFour_47 p_Reader_34_9 ((mj_up_ne _ _ (Nat.ne_of_beq_eq_false rfl)).trans (mj_up_self _ _ _)) (Nat.le_of_ble_eq_true rfl) rfl rfl rfl ?_
  refine mv_iinc (v := (-8)) (lv' := [(2, .int (-8)), (0, .ref 70), (1, .int x1)]) d_Reader_takeFour_50 rfl (by decide) (by decide) rfl ?_
  refine mv_goto (tgt := 3) d_Reader_takeFour_53 (by decide) ?_
  refine mv_iload_n d_Reader_takeFour_3 rfl rfl ?_
  refine mv_if_lt_t (tgt := 56) d_Reader_takeFour_4 (by decide) (by decide) ?_
  exact mv_vret d_Reader_takeFour_56 rfl ⟨rfl, rfl, rfl⟩
theorem d_TrustDesk_feed_57 : decode kY_TrustDesk_feed.2.1 57 = .ok (.aload_n 0, 1) := by decide +kernel
theorem d_TrustDesk_feed_58 : decode kY_TrustDesk_feed.2.1 58 = .ok (.getfield 19, 3) := by decide +kernel
theorem d_TrustDesk_feed_61 : decode kY_TrustDesk_feed.2.1 61 = .ok (.getfield 88, 3) := by decide +kernel
theorem d_TrustDesk_feed_64 : decode kY_TrustDesk_feed.2.1 64 = .ok (.ireturn, 1) := by decide +kernel
theorem c_TrustDesk_feed_0 {g : mj_G} {l : Launch} {d nx : Nat} {M : mj_M} {x1 : Int32} {x2 : Int32} {x3 : Int32} {x4 : Int32} {x5 : Int32} (h_64 : M 64 = some (.inr (12, [.ref 65, .ref 70, .ref 77, .ref 80, .ref 90, .ref 94, .ref 95, .ref 96, .ref 97, .ref 98, .int 0, .int 0, .int 0]))) (h_70 : M 70 = some (.inr (9, [.int 0, .int 0, .int (-1), .ref 71, .ref 72, .ref 73, .ref 74, .ref 75, .int 0, .int 0, .int 0, .int 0, .int 0, .int 0, .int 0, .int 0, .int 0, .ref 76, .int 0]))) (h_71 : M 71 = some (.inl (0, 400, .inl (fun _ => 0)))) : mj_Met g l kY_TrustDesk_feed (d + 1) [.ref 64, .int x1, .int x2, .int x3, .int x4, .int x5] M nx 0 0 (mj_E1 (some (.int 20)) (mj_up (mj_up (mj_up (mj_up (mj_up (mj_up (mj_up (mj_up (mj_up (mj_up (mj_up (mj_up (mj_up (mj_up (mj_up (mj_up (mj_up (mj_up (mj_up (mj_up (mj_up (mj_up (mj_up (mj_up (mj_up (mj_up (mj_up (mj_up (mj_up (mj_up (mj_up (mj_up (mj_up (mj_up (mj_up (mj_up (mj_up (mj_up (mj_up (mj_up M 71 (.inl (0, 400, .inl (upd (fun _ => 0) 0 (((x1.toUInt32 >>> ((24 : Int32).toUInt32 &&& Int32.toUInt32 31)).toInt32) &&& 255))))) 70 (.inr (9, [.int 1, .int 0, .int (-1), .ref 71, .ref 72, .ref 73, .ref 74, .ref 75, .int 0, .int 0, .int 0, .int 0, .int 0, .int 0, .int 0, .int 0, .int 0, .ref 76, .int 0]))) 71 (.inl (0, 400, .inl (upd (upd (fun _ => 0) 0 (((x1.toUInt32 >>> ((24 : Int32).toUInt32 &&& Int32.toUInt32 31)).toInt32) &&& 255)) 1 (((x1.toUInt32 >>> ((16 : Int32).toUInt32 &&& Int32.toUInt32 31)).toInt32) &&& 255))))) 70 (.inr (9, [.int 2, .int 0, .int (-1), .ref 71, .ref 72, .ref 73, .ref 74, .ref 75, .int 0, .int 0, .int 0, .int 0, .int 0, .int 0, .int 0, .int 0, .int 0, .ref 76, .int 0]))) 71 (.inl (0, 400, .inl (upd (upd (upd (fun _ => 0) 0 (((x1.toUInt32 >>> ((24 : Int32).toUInt32 &&& Int32.toUInt32 31)).toInt32) &&& 255)) 1 (((x1.toUInt32 >>> ((16 : Int32).toUInt32 &&& Int32.toUInt32 31)).toInt32) &&& 255)) 2 (((x1.toUInt32 >>> ((8 : Int32).toUInt32 &&& Int32.toUInt32 31)).toInt32) &&& 255))))) 70 (.inr (9, [.int 3, .int 0, .int (-1), .ref 71, .ref 72, .ref 73, .ref 74, .ref 75, .int 0, .int 0, .int 0, .int 0, .int 0, .int 0, .int 0, .int 0, .int 0, .ref 76, .int 0]))) 71 (.inl (0, 400, .inl (upd (upd (upd (upd (fun _ => 0) 0 (((x1.toUInt32 >>> ((24 : Int32).toUInt32 &&& Int32.toUInt32 31)).toInt32) &&& 255)) 1 (((x1.toUInt32 >>> ((16 : Int32).toUInt32 &&& Int32.toUInt32 31)).toInt32) &&& 255)) 2 (((x1.toUInt32 >>> ((8 : Int32).toUInt32 &&& Int32.toUInt32 31)).toInt32) &&& 255)) 3 (((x1.toUInt32 >>> ((0 : Int32).toUInt32 &&& Int32.toUInt32 31)).toInt32) &&& 255))))) 70 (.inr (9, [.int 4, .int 0, .int (-1), .ref 71, .ref 72, .ref 73, .ref 74, .ref 75, .int 0, .int 0, .int 0, .int 0, .int 0, .int 0, .int 0, .int 0, .int 0, .ref 76, .int 0]))) 71 (.inl (0, 400, .inl (upd (upd (upd (upd (upd (fun _ => 0) 0 (((x1.toUInt32 >>> ((24 : Int32).toUInt32 &&& Int32.toUInt32 31)).toInt32) &&& 255)) 1 (((x1.toUInt32 >>> ((16 : Int32).toUInt32 &&& Int32.toUInt32 31)).toInt32) &&& 255)) 2 (((x1.toUInt32 >>> ((8 : Int32).toUInt32 &&& Int32.toUInt32 31)).toInt32) &&& 255)) 3 (((x1.toUInt32 >>> ((0 : Int32).toUInt32 &&& Int32.toUInt32 31)).toInt32) &&& 255)) 4 (((x2.toUInt32 >>> ((24 : Int32).toUInt32 &&& Int32.toUInt32 31)).toInt32) &&& 255))))) 70 (.inr (9, [.int 5, .int 0, .int (-1), .ref 71, .ref 72, .ref 73, .ref 74, .ref 75, .int 0, .int 0, .int 0, .int 0, .int 0, .int 0, .int 0, .int 0, .int 0, .ref 76, .int 0]))) 71 (.inl (0, 400, .inl (upd (upd (upd (upd (upd (upd (fun _ => 0) 0 (((x1.toUInt32 >>> ((24 : Int32).toUInt32 &&& Int32.toUInt32 31)).toInt32) &&& 255)) 1 (((x1.toUInt32 >>> ((16 : Int32).toUInt32 &&& Int32.toUInt32 31)).toInt32) &&& 255)) 2 (((x1.toUInt32 >>> ((8 : Int32).toUInt32 &&& Int32.toUInt32 31)).toInt32) &&& 255)) 3 (((x1.toUInt32 >>> ((0 : Int32).toUInt32 &&& Int32.toUInt32 31)).toInt32) &&& 255)) 4 (((x2.toUInt32 >>> ((24 : Int32).toUInt32 &&& Int32.toUInt32 31)).toInt32) &&& 255)) 5 (((x2.toUInt32 >>> ((16 : Int32).toUInt32 &&& Int32.toUInt32 31)).toInt32) &&& 255))))) 70 (.inr (9, [.int 6, .int 0, .int (-1), .ref 71, .ref 72, .ref 73, .ref 74, .ref 75, .int 0, .int 0, .int 0, .int 0, .int 0, .int 0, .int 0, .int 0, .int 0, .ref 76, .int 0]))) 71 (.inl (0, 400, .inl (upd (upd (upd (upd (upd (upd (upd (fun _ => 0) 0 (((x1.toUInt32 >>> ((24 : Int32).toUInt32 &&& Int32.toUInt32 31)).toInt32) &&& 255)) 1 (((x1.toUInt32 >>> ((16 : Int32).toUInt32 &&& Int32.toUInt32 31)).toInt32) &&& 255)) 2 (((x1.toUInt32 >>> ((8 : Int32).toUInt32 &&& Int32.toUInt32 31)).toInt32) &&& 255)) 3 (((x1.toUInt32 >>> ((0 : Int32).toUInt32 &&& Int32.toUInt32 31)).toInt32) &&& 255)) 4 (((x2.toUInt32 >>> ((24 : Int32).toUInt32 &&& Int32.toUInt32 31)).toInt32) &&& 255)) 5 (((x2.toUInt32 >>> ((16 : Int32).toUInt32 &&& Int32.toUInt32 31)).toInt32) &&& 255)) 6 (((x2.toUInt32 >>> ((8 : Int32).toUInt32 &&& Int32.toUInt32 31)).toInt32) &&& 255))))) 70 (.inr (9, [.int 7, .int 0, .int (-1), .ref 71, .ref 72, .ref 73, .ref 74, .ref 75, .int 0, .int 0, .int 0, .int 0, .int 0, .int 0, .int 0, .int 0, .int 0, .ref 76, .int 0]))) 71 (.inl (0, 400, .inl (upd (upd (upd (upd (upd (upd (upd (upd (fun _ => 0) 0 (((x1.toUInt32 >>> ((24 : Int32).toUInt32 &&& Int32.toUInt32 31)).toInt32) &&& 255)) 1 (((x1.toUInt32 >>> ((16 : Int32).toUInt32 &&& Int32.toUInt32 31)).toInt32) &&& 255)) 2 (((x1.toUInt32 >>> ((8 : Int32).toUInt32 &&& Int32.toUInt32 31)).toInt32) &&& 255)) 3 (((x1.toUInt32 >>> ((0 : Int32).toUInt32 &&& Int32.toUInt32 31)).toInt32) &&& 255)) 4 (((x2.toUInt32 >>> ((24 : Int32).toUInt32 &&& Int32.toUInt32 31)).toInt32) &&& 255)) 5 (((x2.toUInt32 >>> ((16 : Int32).toUInt32 &&& Int32.toUInt32 31)).toInt32) &&& 255)) 6 (((x2.toUInt32 >>> ((8 : Int32).toUInt32 &&& Int32.toUInt32 31)).toInt32) &&& 255)) 7 (((x2.toUInt32 >>> ((0 : Int32).toUInt32 &&& Int32.toUInt32 31)).toInt32) &&& 255))))) 70 (.inr (9, [.int 8, .int 0, .int (-1), .ref 71, .ref 72, .ref 73, .ref 74, .ref 75, .int 0, .int 0, .int 0, .int 0, .int 0, .int 0, .int 0, .int 0, .int 0, .ref 76, .int 0]))) 71 (.inl (0, 400, .inl (upd (upd (upd (upd (upd (upd (upd (upd (upd (fun _ => 0) 0 (((x1.toUInt32 >>> ((24 : Int32).toUInt32 &&& Int32.toUInt32 31)).toInt32) &&& 255)) 1 (((x1.toUInt32 >>> ((16 : Int32).toUInt32 &&& Int32.toUInt32 31)).toInt32) &&& 255)) 2 (((x1.toUInt32 >>> ((8 : Int32).toUInt32 &&& Int32.toUInt32 31)).toInt32) &&& 255)) 3 (((x1.toUInt32 >>> ((0 : Int32).toUInt32 &&& Int32.toUInt32 31)).toInt32) &&& 255)) 4 (((x2.toUInt32 >>> ((24 : Int32).toUInt32 &&& Int32.toUInt32 31)).toInt32) &&& 255)) 5 (((x2.toUInt32 >>> ((16 : Int32).toUInt32 &&& Int32.toUInt32 31)).toInt32) &&& 255)) 6 (((x2.toUInt32 >>> ((8 : Int32).toUInt32 &&& Int32.toUInt32 31)).toInt32) &&& 255)) 7 (((x2.toUInt32 >>> ((0 : Int32).toUInt32 &&& Int32.toUInt32 31)).toInt32) &&& 255)) 8 (((x3.toUInt32 >>> ((24 : Int32).toUInt32 &&& Int32.toUInt32 31)).toInt32) &&& 255))))) 70 (.inr (9, [.int 9, .int 0, .int (-1), .ref 71, .ref 72, .ref 73, .ref 74, .ref 75, .int 0, .int 0, .int 0, .int 0, .int 0, .int 0, .int 0, .int 0, .int 0, .ref 76, .int 0]))) 71 (.inl (0, 400, .inl (upd (upd (upd (upd (upd (upd (upd (upd (upd (upd (fun _ => 0) 0 (((x1.toUInt32 >>> ((24 : Int32).toUInt32 &&& Int32.toUInt32 31)).toInt32) &&& 255)) 1 (((x1.toUInt32 >>> ((16 : Int32).toUInt32 &&& Int32.toUInt32 31)).toInt32) &&& 255)) 2 (((x1.toUInt32 >>> ((8 : Int32).toUInt32 &&& Int32.toUInt32 31)).toInt32) &&& 255)) 3 (((x1.toUInt32 >>> ((0 : Int32).toUInt32 &&& Int32.toUInt32 31)).toInt32) &&& 255)) 4 (((x2.toUInt32 >>> ((24 : Int32).toUInt32 &&& Int32.toUInt32 31)).toInt32) &&& 255)) 5 (((x2.toUInt32 >>> ((16 : Int32).toUInt32 &&& Int32.toUInt32 31)).toInt32) &&& 255)) 6 (((x2.toUInt32 >>> ((8 : Int32).toUInt32 &&& Int32.toUInt32 31)).toInt32) &&& 255)) 7 (((x2.toUInt32 >>> ((0 : Int32).toUInt32 &&& Int32.toUInt32 31)).toInt32) &&& 255)) 8 (((x3.toUInt32 >>> ((24 : Int32).toUInt32 &&& Int32.toUInt32 31)).toInt32) &&& 255)) 9 (((x3.toUInt32 >>> ((16 : Int32).toUInt32 &&& Int32.toUInt32 31)).toInt32) &&& 255))))) 70 (.inr (9, [.int 10, .int 0, .int (-1), .ref 71, .ref 72, .ref 73, .ref 74, .ref 75, .int 0, .int 0, .int 0, .int 0, .int 0, .int 0, .int 0, .int 0, .int 0, .ref 76, .int 0]))) 71 (.inl (0, 400, .inl (upd (upd (upd (upd (upd (upd (upd (upd (upd (upd (upd (fun _ => 0) 0 (((x1.toUInt32 >>> ((24 : Int32).toUInt32 &&& Int32.toUInt32 31)).toInt32) &&& 255)) 1 (((x1.toUInt32 >>> ((16 : Int32).toUInt32 &&& Int32.toUInt32 31)).toInt32) &&& 255)) 2 (((x1.toUInt32 >>> ((8 : Int32).toUInt32 &&& Int32.toUInt32 31)).toInt32) &&& 255)) 3 (((x1.toUInt32 >>> ((0 : Int32).toUInt32 &&& Int32.toUInt32 31)).toInt32) &&& 255)) 4 (((x2.toUInt32 >>> ((24 : Int32).toUInt32 &&& Int32.toUInt32 31)).toInt32) &&& 255)) 5 (((x2.toUInt32 >>> ((16 : Int32).toUInt32 &&& Int32.toUInt32 31)).toInt32) &&& 255)) 6 (((x2.toUInt32 >>> ((8 : Int32).toUInt32 &&& Int32.toUInt32 31)).toInt32) &&& 255)) 7 (((x2.toUInt32 >>> ((0 : Int32).toUInt32 &&& Int32.toUInt32 31)).toInt32) &&& 255)) 8 (((x3.toUInt32 >>> ((24 : Int32).toUInt32 &&& Int32.toUInt32 31)).toInt32) &&& 255)) 9 (((x3.toUInt32 >>> ((16 : Int32).toUInt32 &&& Int32.toUInt32 31)).toInt32) &&& 255)) 10 (((x3.toUInt32 >>> ((8 : Int32).toUInt32 &&& Int32.toUInt32 31)).toInt32) &&& 255))))) 70 (.inr (9, [.int 11, .int 0, .int (-1), .ref 71, .ref 72, .ref 73, .ref 74, .ref 75, .int 0, .int 0, .int 0, .int 0, .int 0, .int 0, .int 0, .int 0, .int 0, .ref 76, .int 0]))) 71 (.inl (0, 400, .inl (upd (upd (upd (upd (upd (upd (upd (upd (upd (upd (upd (upd (fun _ => 0) 0 (((x1.toUInt32 >>> ((24 : Int32).toUInt32 &&& Int32.toUInt32 31)).toInt32) &&& 255)) 1 (((x1.toUInt32 >>> ((16 : Int32).toUInt32 &&& Int32.toUInt32 31)).toInt32) &&& 255)) 2 (((x1.toUInt32 >>> ((8 : Int32).toUInt32 &&& Int32.toUInt32 31)).toInt32) &&& 255)) 3 (((x1.toUInt32 >>> ((0 : Int32).toUInt32 &&& Int32.toUInt32 31)).toInt32) &&& 255)) 4 (((x2.toUInt32 >>> ((24 : Int32).toUInt32 &&& Int32.toUInt32 31)).toInt32) &&& 255)) 5 (((x2.toUInt32 >>> ((16 : Int32).toUInt32 &&& Int32.toUInt32 31)).toInt32) &&& 255)) 6 (((x2.toUInt32 >>> ((8 : Int32).toUInt32 &&& Int32.toUInt32 31)).toInt32) &&& 255)) 7 (((x2.toUInt32 >>> ((0 : Int32).toUInt32 &&& Int32.toUInt32 31)).toInt32) &&& 255)) 8 (((x3.toUInt32 >>> ((24 : Int32).toUInt32 &&& Int32.toUInt32 31)).toInt32) &&& 255)) 9 (((x3.toUInt32 >>> ((16 : Int32).toUInt32 &&& Int32.toUInt32 31)).toInt32) &&& 255)) 10 (((x3.toUInt32 >>> ((8 : Int32).toUInt32 &&& Int32.toUInt32 31)).toInt32) &&& 255)) 11 (((x3.toUInt32 >>> ((0 : Int32).toUInt32 &&& Int32.toUInt32 31)).toInt32) &&& 255))))) 70 (.inr (9, [.int 12, .int 0, .int (-1), .ref 71, .ref 72, .ref 73, .ref 74, .ref 75, .int 0, .int 0, .int 0, .int 0, .int 0, .int 0, .int 0, .int 0, .int 0, .ref 76, .int 0]))) 71 (.inl (0, 400, .inl (upd (upd (upd (upd (upd (upd (upd (upd (upd (upd (upd (upd (upd (fun _ => 0) 0 (((x1.toUInt32 >>> ((24 : Int32).toUInt32 &&& Int32.toUInt32 31)).toInt32) &&& 255)) 1 (((x1.toUInt32 >>> ((16 : Int32).toUInt32 &&& Int32.toUInt32 31)).toInt32) &&& 255)) 2 (((x1.toUInt32 >>> ((8 : Int32).toUInt32 &&& Int32.toUInt32 31)).toInt32) &&& 255)) 3 (((x1.toUInt32 >>> ((0 : Int32).toUInt32 &&& Int32.toUInt32 31)).toInt32) &&& 255)) 4 (((x2.toUInt32 >>> ((24 : Int32).toUInt32 &&& Int32.toUInt32 31)).toInt32) &&& 255)) 5 (((x2.toUInt32 >>> ((16 : Int32).toUInt32 &&& Int32.toUInt32 31)).toInt32) &&& 255)) 6 (((x2.toUInt32 >>> ((8 : Int32).toUInt32 &&& Int32.toUInt32 31)).toInt32) &&& 255)) 7 (((x2.toUInt32 >>> ((0 : Int32).toUInt32 &&& Int32.toUInt32 31)).toInt32) &&& 255)) 8 (((x3.toUInt32 >>> ((24 : Int32).toUInt32 &&& Int32.toUInt32 31)).toInt32) &&& 255)) 9 (((x3.toUInt32 >>> ((16 : Int32).toUInt32 &&& Int32.toUInt32 31)).toInt32) &&& 255)) 10 (((x3.toUInt32 >>> ((8 : Int32).toUInt32 &&& Int32.toUInt32 31)).toInt32) &&& 255)) 11 (((x3.toUInt32 >>> ((0 : Int32).toUInt32 &&& Int32.toUInt32 31)).toInt32) &&& 255)) 12 (((x4.toUInt32 >>> ((24 : Int32).toUInt32 &&& Int32.toUInt32 31)).toInt32) &&& 255))))) 70 (.inr (9, [.int 13, .int 0, .int (-1), .ref 71, .ref 72, .ref 73, .ref 74, .ref 75, .int 0, .int 0, .int 0, .int 0, .int 0, .int 0, .int 0, .int 0, .int 0, .ref 76, .int 0]))) 71 (.inl (0, 400, .inl (upd (upd (upd (upd (upd (upd (upd (upd (upd (upd (upd (upd (upd (upd (fun _ => 0) 0 (((x1.toUInt32 >>> ((24 : Int32).toUInt32 &&& Int32.toUInt32 31)).toInt32) &&& 255)) 1 (((x1.toUInt32 >>> ((16 : Int32).toUInt32 &&& Int32.toUInt32 31)).toInt32) &&& 255)) 2 (((x1.toUInt32 >>> ((8 : Int32).toUInt32 &&& Int32.toUInt32 31)).toInt32) &&& 255)) 3 (((x1.toUInt32 >>> ((0 : Int32).toUInt32 &&& Int32.toUInt32 31)).toInt32) &&& 255)) 4 (((x2.toUInt32 >>> ((24 : Int32).toUInt32 &&& Int32.toUInt32 31)).toInt32) &&& 255)) 5 (((x2.toUInt32 >>> ((16 : Int32).toUInt32 &&& Int32.toUInt32 31)).toInt32) &&& 255)) 6 (((x2.toUInt32 >>> ((8 : Int32).toUInt32 &&& Int32.toUInt32 31)).toInt32) &&& 255)) 7 (((x2.toUInt32 >>> ((0 : Int32).toUInt32 &&& Int32.toUInt32 31)).toInt32) &&& 255)) 8 (((x3.toUInt32 >>> ((24 : Int32).toUInt32 &&& Int32.toUInt32 31)).toInt32) &&& 255)) 9 (((x3.toUInt32 >>> ((16 : Int32).toUInt32 &&& Int32.toUInt32 31)).toInt32) &&& 255)) 10 (((x3.toUInt32 >>> ((8 : Int32).toUInt32 &&& Int32.toUInt32 31)).toInt32) &&& 255)) 11 (((x3.toUInt32 >>> ((0 : Int32).toUInt32 &&& Int32.toUInt32 31)).toInt32) &&& 255)) 12 (((x4.toUInt32 >>> ((24 : Int32).toUInt32 &&& Int32.toUInt32 31)).toInt32) &&& 255)) 13 (((x4.toUInt32 >>> ((16 : Int32).toUInt32 &&& Int32.toUInt32 31)).toInt32) &&& 255))))) 70 (.inr (9, [.int 14, .int 0, .int (-1), .ref 71, .ref 72, .ref 73, .ref 74, .ref 75, .int 0, .int 0, .int 0, .int 0, .int 0, .int 0, .int 0, .int 0, .int 0, .ref 76, .int 0]))) 71 (.inl (0, 400, .inl (upd (upd (upd (upd (upd (upd (upd (upd (upd (upd (upd (upd (upd (upd (upd (fun _ => 0) 0 (((x1.toUInt32 >>> ((24 : Int32).toUInt32 &&& Int32.toUInt32 31)).toInt32) &&& 255)) 1 (((x1.toUInt32 >>> ((16 : Int32).toUInt32 &&& Int32.toUInt32 31)).toInt32) &&& 255)) 2 (((x1.toUInt32 >>> ((8 : Int32).toUInt32 &&& Int32.toUInt32 31)).toInt32) &&& 255)) 3 (((x1.toUInt32 >>> ((0 : Int32).toUInt32 &&& Int32.toUInt32 31)).toInt32) &&& 255)) 4 (((x2.toUInt32 >>> ((24 : Int32).toUInt32 &&& Int32.toUInt32 31)).toInt32) &&& 255)) 5 (((x2.toUInt32 >>> ((16 : Int32).toUInt32 &&& Int32.toUInt32 31)).toInt32) &&& 255)) 6 (((x2.toUInt32 >>> ((8 : Int32).toUInt32 &&& Int32.toUInt32 31)).toInt32) &&& 255)) 7 (((x2.toUInt32 >>> ((0 : Int32).toUInt32 &&& Int32.toUInt32 31)).toInt32) &&& 255)) 8 (((x3.toUInt32 >>> ((24 : Int32).toUInt32 &&& Int32.toUInt32 31)).toInt32) &&& 255)) 9 (((x3.toUInt32 >>> ((16 : Int32).toUInt32 &&& Int32.toUInt32 31)).toInt32) &&& 255)) 10 (((x3.toUInt32 >>> ((8 : Int32).toUInt32 &&& Int32.toUInt32 31)).toInt32) &&& 255)) 11 (((x3.toUInt32 >>> ((0 : Int32).toUInt32 &&& Int32.toUInt32 31)).toInt32) &&& 255)) 12 (((x4.toUInt32 >>> ((24 : Int32).toUInt32 &&& Int32.toUInt32 31)).toInt32) &&& 255)) 13 (((x4.toUInt32 >>> ((16 : Int32).toUInt32 &&& Int32.toUInt32 31)).toInt32) &&& 255)) 14 (((x4.toUInt32 >>> ((8 : Int32).toUInt32 &&& Int32.toUInt32 31)).toInt32) &&& 255))))) 70 (.inr (9, [.int 15, .int 0, .int (-1), .ref 71, .ref 72, .ref 73, .ref 74, .ref 75, .int 0, .int 0, .int 0, .int 0, .int 0, .int 0, .int 0, .int 0, .int 0, .ref 76, .int 0]))) 71 (.inl (0, 400, .inl (upd (upd (upd (upd (upd (upd (upd (upd (upd (upd (upd (upd (upd (upd (upd (upd (fun _ => 0) 0 (((x1.toUInt32 >>> ((24 : Int32).toUInt32 &&& Int32.toUInt32 31)).toInt32) &&& 255)) 1 (((x1.toUInt32 >>> ((16 : Int32).toUInt32 &&& Int32.toUInt32 31)).toInt32) &&& 255)) 2 (((x1.toUInt32 >>> ((8 : Int32).toUInt32 &&& Int32.toUInt32 31)).toInt32) &&& 255)) 3 (((x1.toUInt32 >>> ((0 : Int32).toUInt32 &&& Int32.toUInt32 31)).toInt32) &&& 255)) 4 (((x2.toUInt32 >>> ((24 : Int32).toUInt32 &&& Int32.toUInt32 31)).toInt32) &&& 255)) 5 (((x2.toUInt32 >>> ((16 : Int32).toUInt32 &&& Int32.toUInt32 31)).toInt32) &&& 255)) 6 (((x2.toUInt32 >>> ((8 : Int32).toUInt32 &&& Int32.toUInt32 31)).toInt32) &&& 255)) 7 (((x2.toUInt32 >>> ((0 : Int32).toUInt32 &&& Int32.toUInt32 31)).toInt32) &&& 255)) 8 (((x3.toUInt32 >>> ((24 : Int32).toUInt32 &&& Int32.toUInt32 31)).toInt32) &&& 255)) 9 (((x3.toUInt32 >>> ((16 : Int32).toUInt32 &&& Int32.toUInt32 31)).toInt32) &&& 255)) 10 (((x3.toUInt32 >>> ((8 : Int32).toUInt32 &&& Int32.toUInt32 31)).toInt32) &&& 255)) 11 (((x3.toUInt32 >>> ((0 : Int32).toUInt32 &&& Int32.toUInt32 31)).toInt32) &&& 255)) 12 (((x4.toUInt32 >>> ((24 : Int32).toUInt32 &&& Int32.toUInt32 31)).toInt32) &&& 255)) 13 (((x4.toUInt32 >>> ((16 : Int32).toUInt32 &&& Int32.toUInt32 31)).toInt32) &&& 255)) 14 (((x4.toUInt32 >>> ((8 : Int32).toUInt32 &&& Int32.toUInt32 31)).toInt32) &&& 255)) 15 (((x4.toUInt32 >>> ((0 : Int32).toUInt32 &&& Int32.toUInt32 31)).toInt32) &&& 255))))) 70 (.inr (9, [.int 16, .int 0, .int (-1), .ref 71, .ref 72, .ref 73, .ref 74, .ref 75, .int 0, .int 0, .int 0, .int 0, .int 0, .int 0, .int 0, .int 0, .int 0, .ref 76, .int 0]))) 71 (.inl (0, 400, .inl (upd (upd (upd (upd (upd (upd (upd (upd (upd (upd (upd (upd (upd (upd (upd (upd (upd (fun _ => 0) 0 (((x1.toUInt32 >>> ((24 : Int32).toUInt32 &&& Int32.toUInt32 31)).toInt32) &&& 255)) 1 (((x1.toUInt32 >>> ((16 : Int32).toUInt32 &&& Int32.toUInt32 31)).toInt32) &&& 255)) 2 (((x1.toUInt32 >>> ((8 : Int32).toUInt32 &&& Int32.toUInt32 31)).toInt32) &&& 255)) 3 (((x1.toUInt32 >>> ((0 : Int32).toUInt32 &&& Int32.toUInt32 31)).toInt32) &&& 255)) 4 (((x2.toUInt32 >>> ((24 : Int32).toUInt32 &&& Int32.toUInt32 31)).toInt32) &&& 255)) 5 (((x2.toUInt32 >>> ((16 : Int32).toUInt32 &&& Int32.toUInt32 31)).toInt32) &&& 255)) 6 (((x2.toUInt32 >>> ((8 : Int32).toUInt32 &&& Int32.toUInt32 31)).toInt32) &&& 255)) 7 (((x2.toUInt32 >>> ((0 : Int32).toUInt32 &&& Int32.toUInt32 31)).toInt32) &&& 255)) 8 (((x3.toUInt32 >>> ((24 : Int32).toUInt32 &&& Int32.toUInt32 31)).toInt32) &&& 255)) 9 (((x3.toUInt32 >>> ((16 : Int32).toUInt32 &&& Int32.toUInt32 31)).toInt32) &&& 255)) 10 (((x3.toUInt32 >>> ((8 : Int32).toUInt32 &&& Int32.toUInt32 31)).toInt32) &&& 255)) 11 (((x3.toUInt32 >>> ((0 : Int32).toUInt32 &&& Int32.toUInt32 31)).toInt32) &&& 255)) 12 (((x4.toUInt32 >>> ((24 : Int32).toUInt32 &&& Int32.toUInt32 31)).toInt32) &&& 255)) 13 (((x4.toUInt32 >>> ((16 : Int32).toUInt32 &&& Int32.toUInt32 31)).toInt32) &&& 255)) 14 (((x4.toUInt32 >>> ((8 : Int32).toUInt32 &&& Int32.toUInt32 31)).toInt32) &&& 255)) 15 (((x4.toUInt32 >>> ((0 : Int32).toUInt32 &&& Int32.toUInt32 31)).toInt32) &&& 255)) 16 (((x5.toUInt32 >>> ((24 : Int32).toUInt32 &&& Int32.toUInt32 31)).toInt32) &&& 255))))) 70 (.inr (9, [.int 17, .int 0, .int (-1), .ref 71, .ref 72, .ref 73, .ref 74, .ref 75, .int 0, .int 0, .int 0, .int 0, .int 0, .int 0, .int 0, .int 0, .int 0, .ref 76, .int 0]))) 71 (.inl (0, 400, .inl (upd (upd (upd (upd (upd (upd (upd (upd (upd (upd (upd (upd (upd (upd (upd (upd (upd (upd (fun _ => 0) 0 (((x1.toUInt32 >>> ((24 : Int32).toUInt32 &&& Int32.toUInt32 31)).toInt32) &&& 255)) 1 (((x1.toUInt32 >>> ((16 : Int32).toUInt32 &&& Int32.toUInt32 31)).toInt32) &&& 255)) 2 (((x1.toUInt32 >>> ((8 : Int32).toUInt32 &&& Int32.toUInt32 31)).toInt32) &&& 255)) 3 (((x1.toUInt32 >>> ((0 : Int32).toUInt32 &&& Int32.toUInt32 31)).toInt32) &&& 255)) 4 (((x2.toUInt32 >>> ((24 : Int32).toUInt32 &&& Int32.toUInt32 31)).toInt32) &&& 255)) 5 (((x2.toUInt32 >>> ((16 : Int32).toUInt32 &&& Int32.toUInt32 31)).toInt32) &&& 255)) 6 (((x2.toUInt32 >>> ((8 : Int32).toUInt32 &&& Int32.toUInt32 31)).toInt32) &&& 255)) 7 (((x2.toUInt32 >>> ((0 : Int32).toUInt32 &&& Int32.toUInt32 31)).toInt32) &&& 255)) 8 (((x3.toUInt32 >>> ((24 : Int32).toUInt32 &&& Int32.toUInt32 31)).toInt32) &&& 255)) 9 (((x3.toUInt32 >>> ((16 : Int32).toUInt32 &&& Int32.toUInt32 31)).toInt32) &&& 255)) 10 (((x3.toUInt32 >>> ((8 : Int32).toUInt32 &&& Int32.toUInt32 31)).toInt32) &&& 255)) 11 (((x3.toUInt32 >>> ((0 : Int32).toUInt32 &&& Int32.toUInt32 31)).toInt32) &&& 255)) 12 (((x4.toUInt32 >>> ((24 : Int32).toUInt32 &&& Int32.toUInt32 31)).toInt32) &&& 255)) 13 (((x4.toUInt32 >>> ((16 : Int32).toUInt32 &&& Int32.toUInt32 31)).toInt32) &&& 255)) 14 (((x4.toUInt32 >>> ((8 : Int32).toUInt32 &&& Int32.toUInt32 31)).toInt32) &&& 255)) 15 (((x4.toUInt32 >>> ((0 : Int32).toUInt32 &&& Int32.toUInt32 31)).toInt32) &&& 255)) 16 (((x5.toUInt32 >>> ((24 : Int32).toUInt32 &&& Int32.toUInt32 31)).toInt32) &&& 255)) 17 (((x5.toUInt32 >>> ((16 : Int32).toUInt32 &&& Int32.toUInt32 31)).toInt32) &&& 255))))) 70 (.inr (9, [.int 18, .int 0, .int (-1), .ref 71, .ref 72, .ref 73, .ref 74, .ref 75, .int 0, .int 0, .int 0, .int 0, .int 0, .int 0, .int 0, .int 0, .int 0, .ref 76, .int 0]))) 71 (.inl (0, 400, .inl (upd (upd (upd (upd (upd (upd (upd (upd (upd (upd (upd (upd (upd (upd (upd (upd (upd (upd (upd (fun _ => 0) 0 (((x1.toUInt32 >>> ((24 : Int32).toUInt32 &&& Int32.toUInt32 31)).toInt32) &&& 255)) 1 (((x1.toUInt32 >>> ((16 : Int32).toUInt32 &&& Int32.toUInt32 31)).toInt32) &&& 255)) 2 (((x1.toUInt32 >>> ((8 : Int32).toUInt32 &&& Int32.toUInt32 31)).toInt32) &&& 255)) 3 (((x1.toUInt32 >>> ((0 : Int32).toUInt32 &&& Int32.toUInt32 31)).toInt32) &&& 255)) 4 (((x2.toUInt32 >>> ((24 : Int32).toUInt32 &&& Int32.toUInt32 31)).toInt32) &&& 255)) 5 (((x2.toUInt32 >>> ((16 : Int32).toUInt32 &&& Int32.toUInt32 31)).toInt32) &&& 255)) 6 (((x2.toUInt32 >>> ((8 : Int32).toUInt32 &&& Int32.toUInt32 31)).toInt32) &&& 255)) 7 (((x2.toUInt32 >>> ((0 : Int32).toUInt32 &&& Int32.toUInt32 31)).toInt32) &&& 255)) 8 (((x3.toUInt32 >>> ((24 : Int32).toUInt32 &&& Int32.toUInt32 31)).toInt32) &&& 255)) 9 (((x3.toUInt32 >>> ((16 : Int32).toUInt32 &&& Int32.toUInt32 31)).toInt32) &&& 255)) 10 (((x3.toUInt32 >>> ((8 : Int32).toUInt32 &&& Int32.toUInt32 31)).toInt32) &&& 255)) 11 (((x3.toUInt32 >>> ((0 : Int32).toUInt32 &&& Int32.toUInt32 31)).toInt32) &&& 255)) 12 (((x4.toUInt32 >>> ((24 : Int32).toUInt32 &&& Int32.toUInt32 31)).toInt32) &&& 255)) 13 (((x4.toUInt32 >>> ((16 : Int32).toUInt32 &&& Int32.toUInt32 31)).toInt32) &&& 255)) 14 (((x4.toUInt32 >>> ((8 : Int32).toUInt32 &&& Int32.toUInt32 31)).toInt32) &&& 255)) 15 (((x4.toUInt32 >>> ((0 : Int32).toUInt32 &&& Int32.toUInt32 31)).toInt32) &&& 255)) 16 (((x5.toUInt32 >>> ((24 : Int32).toUInt32 &&& Int32.toUInt32 31)).toInt32) &&& 255)) 17 (((x5.toUInt32 >>> ((16 : Int32).toUInt32 &&& Int32.toUInt32 31)).toInt32) &&& 255)) 18 (((x5.toUInt32 >>> ((8 : Int32).toUInt32 &&& Int32.toUInt32 31)).toInt32) &&& 255))))) 70 (.inr (9, [.int 19, .int 0, .int (-1), .ref 71, .ref 72, .ref 73, .ref 74, .ref 75, .int 0, .int 0, .int 0, .int 0, .int 0, .int 0, .int 0, .int 0, .int 0, .ref 76, .int 0]))) 71 (.inl (0, 400, .inl (upd (upd (upd (upd (upd (upd (upd (upd (upd (upd (upd (upd (upd (upd (upd (upd (upd (upd (upd (upd (fun _ => 0) 0 (((x1.toUInt32 >>> ((24 : Int32).toUInt32 &&& Int32.toUInt32 31)).toInt32) &&& 255)) 1 (((x1.toUInt32 >>> ((16 : Int32).toUInt32 &&& Int32.toUInt32 31)).toInt32) &&& 255)) 2 (((x1.toUInt32 >>> ((8 : Int32).toUInt32 &&& Int32.toUInt32 31)).toInt32) &&& 255)) 3 (((x1.toUInt32 >>> ((0 : Int32).toUInt32 &&& Int32.toUInt32 31)).toInt32) &&& 255)) 4 (((x2.toUInt32 >>> ((24 : Int32).toUInt32 &&& Int32.toUInt32 31)).toInt32) &&& 255)) 5 (((x2.toUInt32 >>> ((16 : Int32).toUInt32 &&& Int32.toUInt32 31)).toInt32) &&& 255)) 6 (((x2.toUInt32 >>> ((8 : Int32).toUInt32 &&& Int32.toUInt32 31)).toInt32) &&& 255)) 7 (((x2.toUInt32 >>> ((0 : Int32).toUInt32 &&& Int32.toUInt32 31)).toInt32) &&& 255)) 8 (((x3.toUInt32 >>> ((24 : Int32).toUInt32 &&& Int32.toUInt32 31)).toInt32) &&& 255)) 9 (((x3.toUInt32 >>> ((16 : Int32).toUInt32 &&& Int32.toUInt32 31)).toInt32) &&& 255)) 10 (((x3.toUInt32 >>> ((8 : Int32).toUInt32 &&& Int32.toUInt32 31)).toInt32) &&& 255)) 11 (((x3.toUInt32 >>> ((0 : Int32).toUInt32 &&& Int32.toUInt32 31)).toInt32) &&& 255)) 12 (((x4.toUInt32 >>> ((24 : Int32).toUInt32 &&& Int32.toUInt32 31)).toInt32) &&& 255)) 13 (((x4.toUInt32 >>> ((16 : Int32).toUInt32 &&& Int32.toUInt32 31)).toInt32) &&& 255)) 14 (((x4.toUInt32 >>> ((8 : Int32).toUInt32 &&& Int32.toUInt32 31)).toInt32) &&& 255)) 15 (((x4.toUInt32 >>> ((0 : Int32).toUInt32 &&& Int32.toUInt32 31)).toInt32) &&& 255)) 16 (((x5.toUInt32 >>> ((24 : Int32).toUInt32 &&& Int32.toUInt32 31)).toInt32) &&& 255)) 17 (((x5.toUInt32 >>> ((16 : Int32).toUInt32 &&& Int32.toUInt32 31)).toInt32) &&& 255)) 18 (((x5.toUInt32 >>> ((8 : Int32).toUInt32 &&& Int32.toUInt32 31)).toInt32) &&& 255)) 19 (((x5.toUInt32 >>> ((0 : Int32).toUInt32 &&& Int32.toUInt32 31)).toInt32) &&& 255))))) 70 (.inr (9, [.int 20, .int 0, .int (-1), .ref 71, .ref 72, .ref 73, .ref 74, .ref 75, .int 0, .int 0, .int 0, .int 0, .int 0, .int 0, .int 0, .int 0, .int 0, .ref 76, .int 0]))) nx) := by
  refine mj_enter (by decide) (Nat.le_of_ble_eq_true rfl) ?_
  refine mv_aload_n d_TrustDesk_feed_0 rfl rfl ?_
  refine mv_get d_TrustDesk_feed_1 f_TrustDesk_19_12 h_64 rfl ?_
  refine mv_get d_TrustDesk_feed_4 f_TrustDesk_88_9 h_70 rfl ?_
  refine mv_sipush (v := 380) d_TrustDesk_feed_7 (by decide) ?_
  refine mv_icmp_le_t (tgt := 15) d_TrustDesk_feed_10 (by decide) (by decide) ?_
  refine mv_aload_n d_TrustDesk_feed_15 rfl rfl ?_
  refine mv_get d_TrustDesk_feed_16 f_TrustDesk_19_12 h_64 rfl ?_
  refine mv_iload_n d_TrustDesk_feed_19 rfl rfl ?_
  refine mv_callV_n (kc' := 0) (ks' := 0) [.int x1] [.int x1, .ref 70] d_TrustDesk_feed_20 lV_TrustDesk_91 h_70 rfl (c_Reader_takeFour_0 (d := d) (x1 := x1) (h_70 := h_70) (h_71 := h_71)) rfl (Nat.le_of_ble_eq_true rfl) (Nat.le_of_ble_eq_true rfl) (Nat.le_of_ble_eq_true rfl) rfl ?_
  refine mv_aload_n d_TrustDesk_feed_23 rfl rfl ?_
  refine mv_get d_TrustDesk_feed_24 f_TrustDesk_19_12 ((mj_up_ne _ _ (Nat.ne_of_beq_eq_false rfl)).trans ((mj_up_ne _ _ (Nat.ne_of_beq_eq_false rfl)).trans ((mj_up_ne _ _ (Nat.ne_of_beq_eq_false rfl)).trans ((mj_up_ne _ _ (Nat.ne_of_beq_eq_false rfl)).trans ((mj_up_ne _ _ (Nat.ne_of_beq_eq_false rfl)).trans ((mj_up_ne _ _ (Nat.ne_of_beq_eq_false rfl)).trans ((mj_up_ne _ _ (Nat.ne_of_beq_eq_false rfl)).trans ((mj_up_ne _ _ (Nat.ne_of_beq_eq_false rfl)).trans h_64)))))))) rfl ?_
  refine mv_iload_n d_TrustDesk_feed_27 rfl rfl ?_
  refine mv_callV_n (kc' := 0) (ks' := 0) [.int x2] [.int x2, .ref 70] d_TrustDesk_feed_28 lV_TrustDesk_91 (mj_up_self _ _ _) rfl (c_Reader_takeFour_1 (d := d) (x1 := x2) (f0 := (upd (upd (upd (upd (fun _ => 0) 0 (((x1.toUInt32 >>> ((24 : Int32).toUInt32 &&& Int32.toUInt32 31)).toInt32) &&& 255)) 1 (((x1.toUInt32 >>> ((16 : Int32).toUInt32 &&& Int32.toUInt32 31)).toInt32) &&& 255)) 2 (((x1.toUInt32 >>> ((8 : Int32).toUInt32 &&& Int32.toUInt32 31)).toInt32) &&& 255)) 3 (((x1.toUInt32 >>> ((0 : Int32).toUInt32 &&& Int32.toUInt32 31)).toInt32) &&& 255))) (h_70 := (mj_up_self _ _ _)) (h_71 := ((mj_up_ne _ _ (Nat.ne_of_beq_eq_false rfl)).trans (mj_up_self _ _ _)))) rfl (Nat.le_of_ble_eq_true rfl) (Nat.le_of_ble_eq_true rfl) (Nat.le_of_ble_eq_true rfl) rfl ?_
  refine mv_aload_n d_TrustDesk_feed_31 rfl rfl ?_
  refine mv_get d_TrustDesk_feed_32 f_TrustDesk_19_12 ((mj_up_ne _ _ (Nat.ne_of_beq_eq_false rfl)).trans ((mj_up_ne _ _ (Nat.ne_of_beq_eq_false rfl)).trans ((mj_up_ne _ _ (Nat.ne_of_beq_eq_false rfl)).trans ((mj_up_ne _ _ (Nat.ne_of_beq_eq_false rfl)).trans ((mj_up_ne _ _ (Nat.ne_of_beq_eq_false rfl)).trans ((mj_up_ne _ _ (Nat.ne_of_beq_eq_false rfl)).trans ((mj_up_ne _ _ (Nat.ne_of_beq_eq_false rfl)).trans ((mj_up_ne _ _ (Nat.ne_of_beq_eq_false rfl)).trans ((mj_up_ne _ _ (Nat.ne_of_beq_eq_false rfl)).trans ((mj_up_ne _ _ (Nat.ne_of_beq_eq_false rfl)).trans ((mj_up_ne _ _ (Nat.ne_of_beq_eq_false rfl)).trans ((mj_up_ne _ _ (Nat.ne_of_beq_eq_false rfl)).trans ((mj_up_ne _ _ (Nat.ne_of_beq_eq_false rfl)).trans ((mj_up_ne _ _ (Nat.ne_of_beq_eq_false rfl)).trans ((mj_up_ne _ _ (Nat.ne_of_beq_eq_false rfl)).trans ((mj_up_ne _ _ (Nat.ne_of_beq_eq_false rfl)).trans h_64)))))))))))))))) rfl ?_
  refine mv_iload_n d_TrustDesk_feed_35 rfl rfl ?_
  refine mv_callV_n (kc' := 0) (ks' := 0) [.int x3] [.int x3, .ref 70] d_TrustDesk_feed_36 lV_TrustDesk_91 (mj_up_self _ _ _) rfl (c_Reader_takeFour_2 (d := d) (x1 := x3) (f0 := (upd (upd (upd (upd (upd (upd (upd (upd (fun _ => 0) 0 (((x1.toUInt32 >>> ((24 : Int32).toUInt32 &&& Int32.toUInt32 31)).toInt32) &&& 255)) 1 (((x1.toUInt32 >>> ((16 : Int32).toUInt32 &&& Int32.toUInt32 31)).toInt32) &&& 255)) 2 (((x1.toUInt32 >>> ((8 : Int32).toUInt32 &&& Int32.toUInt32 31)).toInt32) &&& 255)) 3 (((x1.toUInt32 >>> ((0 : Int32).toUInt32 &&& Int32.toUInt32 31)).toInt32) &&& 255)) 4 (((x2.toUInt32 >>> ((24 : Int32).toUInt32 &&& Int32.toUInt32 31)).toInt32) &&& 255)) 5 (((x2.toUInt32 >>> ((16 : Int32).toUInt32 &&& Int32.toUInt32 31)).toInt32) &&& 255)) 6 (((x2.toUInt32 >>> ((8 : Int32).toUInt32 &&& Int32.toUInt32 31)).toInt32) &&& 255)) 7 (((x2.toUInt32 >>> ((0 : Int32).toUInt32 &&& Int32.toUInt32 31)).toInt32) &&& 255))) (h_70 := (mj_up_self _ _ _)) (h_71 := ((mj_up_ne _ _ (Nat.ne_of_beq_eq_false rfl)).trans (mj_up_self _ _ _)))) rfl (Nat.le_of_ble_eq_true rfl) (Nat.le_of_ble_eq_true rfl) (Nat.le_of_ble_eq_true rfl) rfl ?_
  refine mv_aload_n d_TrustDesk_feed_39 rfl rfl ?_
  refine mv_get d_TrustDesk_feed_40 f_TrustDesk_19_12 ((mj_up_ne _ _ (Nat.ne_of_beq_eq_false rfl)).trans ((mj_up_ne _ _ (Nat.ne_of_beq_eq_false rfl)).trans ((mj_up_ne _ _ (Nat.ne_of_beq_eq_false rfl)).trans ((mj_up_ne _ _ (Nat.ne_of_beq_eq_false rfl)).trans ((mj_up_ne _ _ (Nat.ne_of_beq_eq_false rfl)).trans ((mj_up_ne _ _ (Nat.ne_of_beq_eq_false rfl)).trans ((mj_up_ne _ _ (Nat.ne_of_beq_eq_false rfl)).trans ((mj_up_ne _ _ (Nat.ne_of_beq_eq_false rfl)).trans ((mj_up_ne _ _ (Nat.ne_of_beq_eq_false rfl)).trans ((mj_up_ne _ _ (Nat.ne_of_beq_eq_false rfl)).trans ((mj_up_ne _ _ (Nat.ne_of_beq_eq_false rfl)).trans ((mj_up_ne _ _ (Nat.ne_of_beq_eq_false rfl)).trans ((mj_up_ne _ _ (Nat.ne_of_beq_eq_false rfl)).trans ((mj_up_ne _ _ (Nat.ne_of_beq_eq_false rfl)).trans ((mj_up_ne _ _ (Nat.ne_of_beq_eq_false rfl)).trans ((mj_up_ne _ _ (Nat.ne_of_beq_eq_false rfl)).trans ((mj_up_ne _ _ (Nat.ne_of_beq_eq_false rfl)).trans ((mj_up_ne _ _ (Nat.ne_of_beq_eq_false rfl)).trans ((mj_up_ne _ _ (Nat.ne_of_beq_eq_false rfl)).trans ((mj_up_ne _ _ (Nat.ne_of_beq_eq_false rfl)).trans ((mj_up_ne _ _ (Nat.ne_of_beq_eq_false rfl)).trans ((mj_up_ne _ _ (Nat.ne_of_beq_eq_false rfl)).trans ((mj_up_ne _ _ (Nat.ne_of_beq_eq_false rfl)).trans ((mj_up_ne _ _ (Nat.ne_of_beq_eq_false rfl)).trans h_64)))))))))))))))))))))))) rfl ?_
  refine mv_iload d_TrustDesk_feed_43 rfl ?_
  refine mv_callV_n (kc' := 0) (ks' := 0) [.int x4] [.int x4, .ref 70] d_TrustDesk_feed_45 lV_TrustDesk_91 (mj_up_self _ _ _) rfl (c_Reader_takeFour_3 (d := d) (x1 := x4) (f0 := (upd (upd (upd (upd (upd (upd (upd (upd (upd (upd (upd (upd (fun _ => 0) 0 (((x1.toUInt32 >>> ((24 : Int32).toUInt32 &&& Int32.toUInt32 31)).toInt32) &&& 255)) 1 (((x1.toUInt32 >>> ((16 : Int32).toUInt32 &&& Int32.toUInt32 31)).toInt32) &&& 255)) 2 (((x1.toUInt32 >>> ((8 : Int32).toUInt32 &&& Int32.toUInt32 31)).toInt32) &&& 255)) 3 (((x1.toUInt32 >>> ((0 : Int32).toUInt32 &&& Int32.toUInt32 31)).toInt32) &&& 255)) 4 (((x2.toUInt32 >>> ((24 : Int32).toUInt32 &&& Int32.toUInt32 31)).toInt32) &&& 255)) 5 (((x2.toUInt32 >>> ((16 : Int32).toUInt32 &&& Int32.toUInt32 31)).toInt32) &&& 255)) 6 (((x2.toUInt32 >>> ((8 : Int32).toUInt32 &&& Int32.toUInt32 31)).toInt32) &&& 255)) 7 (((x2.toUInt32 >>> ((0 : Int32).toUInt32 &&& Int32.toUInt32 31)).toInt32) &&& 255)) 8 (((x3.toUInt32 >>> ((24 : Int32).toUInt32 &&& Int32.toUInt32 31)).toInt32) &&& 255)) 9 (((x3.toUInt32 >>> ((16 : Int32).toUInt32 &&& Int32.toUInt32 31)).toInt32) &&& 255)) 10 (((x3.toUInt32 >>> ((8 : Int32).toUInt32 &&& Int32.toUInt32 31)).toInt32) &&& 255)) 11 (((x3.toUInt32 >>> ((0 : Int32).toUInt32 &&& Int32.toUInt32 31)).toInt32) &&& 255))) (h_70 := (mj_up_self _ _ _)) (h_71 := ((mj_up_ne _ _ (Nat.ne_of_beq_eq_false rfl)).trans (mj_up_self _ _ _)))) rfl (Nat.le_of_ble_eq_true rfl) (Nat.le_of_ble_eq_true rfl) (Nat.le_of_ble_eq_true rfl) rfl ?_
  refine mv_aload_n d_TrustDesk_feed_48 rfl rfl ?_
  refine mv_get d_TrustDesk_feed_49 f_TrustDesk_19_12 ((mj_up_ne _ _ (Nat.ne_of_beq_eq_false rfl)).trans ((mj_up_ne _ _ (Nat.ne_of_beq_eq_false rfl)).trans ((mj_up_ne _ _ (Nat.ne_of_beq_eq_false rfl)).trans ((mj_up_ne _ _ (Nat.ne_of_beq_eq_false rfl)).trans ((mj_up_ne _ _ (Nat.ne_of_beq_eq_false rfl)).trans ((mj_up_ne _ _ (Nat.ne_of_beq_eq_false rfl)).trans ((mj_up_ne _ _ (Nat.ne_of_beq_eq_false rfl)).trans ((mj_up_ne _ _ (Nat.ne_of_beq_eq_false rfl)).trans ((mj_up_ne _ _ (Nat.ne_of_beq_eq_false rfl)).trans ((mj_up_ne _ _ (Nat.ne_of_beq_eq_false rfl)).trans ((mj_up_ne _ _ (Nat.ne_of_beq_eq_false rfl)).trans ((mj_up_ne _ _ (Nat.ne_of_beq_eq_false rfl)).trans ((mj_up_ne _ _ (Nat.ne_of_beq_eq_false rfl)).trans ((mj_up_ne _ _ (Nat.ne_of_beq_eq_false rfl)).trans ((mj_up_ne _ _ (Nat.ne_of_beq_eq_false rfl)).trans ((mj_up_ne _ _ (Nat.ne_of_beq_eq_false rfl)).trans ((mj_up_ne _ _ (Nat.ne_of_beq_eq_false rfl)).trans ((mj_up_ne _ _ (Nat.ne_of_beq_eq_false rfl)).trans ((mj_up_ne _ _ (Nat.ne_of_beq_eq_false rfl)).trans ((mj_up_ne _ _ (Nat.ne_of_beq_eq_false rfl)).trans ((mj_up_ne _ _ (Nat.ne_of_beq_eq_false rfl)).trans ((mj_up_ne _ _ (Nat.ne_of_beq_eq_false rfl)).trans ((mj_up_ne _ _ (Nat.ne_of_beq_eq_false rfl)).trans ((mj_up_ne _ _ (Nat.ne_of_beq_eq_false rfl)).trans ((mj_up_ne _ _ (Nat.ne_of_beq_eq_false rfl)).trans ((mj_up_ne _ _ (Nat.ne_of_beq_eq_false rfl)).trans ((mj_up_ne _ _ (Nat.ne_of_beq_eq_false rfl)).trans ((mj_up_ne _ _ (Nat.ne_of_beq_eq_false rfl)).trans ((mj_up_ne _ _ (Nat.ne_of_beq_eq_false rfl)).trans ((mj_up_ne _ _ (Nat.ne_of_beq_eq_false rfl)).trans ((mj_up_ne _ _ (Nat.ne_of_beq_eq_false rfl)).trans ((mj_up_ne _ _ (Nat.ne_of_beq_eq_false rfl)).trans h_64)))))))))))))))))))))))))))))))) rfl ?_
  refine mv_iload d_TrustDesk_feed_52 rfl ?_
  refine mv_callV_n (kc' := 0) (ks' := 0) [.int x5] [.int x5, .ref 70] d_TrustDesk_feed_54 lV_TrustDesk_91 (mj_up_self _ _ _) rfl (c_Reader_takeFour_4 (d := d) (x1 := x5) (f0 := (upd (upd (upd (upd (upd (upd (upd (upd (upd (upd (upd (upd (upd (upd (upd (upd (fun _ => 0) 0 (((x1.toUInt32 >>> ((24 : Int32).toUInt32 &&& Int32.toUInt32 31)).toInt32) &&& 255)) 1 (((x1.toUInt32 >>> ((16 : Int32).toUInt32 &&& Int32.toUInt32 31)).toInt32) &&& 255)) 2 (((x1.toUInt32 >>> ((8 : Int32).toUInt32 &&& Int32.toUInt32 31)).toInt32) &&& 255)) 3 (((x1.toUInt32 >>> ((0 : Int32).toUInt32 &&& Int32.toUInt32 31)).toInt32) &&& 255)) 4 (((x2.toUInt32 >>> ((24 : Int32).toUInt32 &&& Int32.toUInt32 31)).toInt32) &&& 255)) 5 (((x2.toUInt32 >>> ((16 : Int32).toUInt32 &&& Int32.toUInt32 31)).toInt32) &&& 255)) 6 (((x2.toUInt32 >>> ((8 : Int32).toUInt32 &&& Int32.toUInt32 31)).toInt32) &&& 255)) 7 (((x2.toUInt32 >>> ((0 : Int32).toUInt32 &&& Int32.toUInt32 31)).toInt32) &&& 255)) 8 (((x3.toUInt32 >>> ((24 : Int32).toUInt32 &&& Int32.toUInt32 31)).toInt32) &&& 255)) 9 (((x3.toUInt32 >>> ((16 : Int32).toUInt32 &&& Int32.toUInt32 31)).toInt32) &&& 255)) 10 (((x3.toUInt32 >>> ((8 : Int32).toUInt32 &&& Int32.toUInt32 31)).toInt32) &&& 255)) 11 (((x3.toUInt32 >>> ((0 : Int32).toUInt32 &&& Int32.toUInt32 31)).toInt32) &&& 255)) 12 (((x4.toUInt32 >>> ((24 : Int32).toUInt32 &&& Int32.toUInt32 31)).toInt32) &&& 255)) 13 (((x4.toUInt32 >>> ((16 : Int32).toUInt32 &&& Int32.toUInt32 31)).toInt32) &&& 255)) 14 (((x4.toUInt32 >>> ((8 : Int32).toUInt32 &&& Int32.toUInt32 31)).toInt32) &&& 255)) 15 (((x4.toUInt32 >>> ((0 : Int32).toUInt32 &&& Int32.toUInt32 31)).toInt32) &&& 255))) (h_70 := (mj_up_self _ _ _)) (h_71 := ((mj_up_ne _ _ (Nat.ne_of_beq_eq_false rfl)).trans (mj_up_self _ _ _)))) rfl (Nat.le_of_ble_eq_true rfl) (Nat.le_of_ble_eq_true rfl) (Nat.le_of_ble_eq_true rfl) rfl ?_
  refine mv_aload_n d_TrustDesk_feed_57 rfl rfl ?_
  refine mv_get d_TrustDesk_feed_58 f_TrustDesk_19_12 ((mj_up_ne _ _ (Nat.ne_of_beq_eq_false rfl)).trans ((mj_up_ne _ _ (Nat.ne_of_beq_eq_false rfl)).trans ((mj_up_ne _ _ (Nat.ne_of_beq_eq_false rfl)).trans ((mj_up_ne _ _ (Nat.ne_of_beq_eq_false rfl)).trans ((mj_up_ne _ _ (Nat.ne_of_beq_eq_false rfl)).trans ((mj_up_ne _ _ (Nat.ne_of_beq_eq_false rfl)).trans ((mj_up_ne _ _ (Nat.ne_of_beq_eq_false rfl)).trans ((mj_up_ne _ _ (Nat.ne_of_beq_eq_false rfl)).trans ((mj_up_ne _ _ (Nat.ne_of_beq_eq_false rfl)).trans ((mj_up_ne _ _ (Nat.ne_of_beq_eq_false rfl)).trans ((mj_up_ne _ _ (Nat.ne_of_beq_eq_false rfl)).trans ((mj_up_ne _ _ (Nat.ne_of_beq_eq_false rfl)).trans ((mj_up_ne _ _ (Nat.ne_of_beq_eq_false rfl)).trans ((mj_up_ne _ _ (Nat.ne_of_beq_eq_false rfl)).trans ((mj_up_ne _ _ (Nat.ne_of_beq_eq_false rfl)).trans ((mj_up_ne _ _ (Nat.ne_of_beq_eq_false rfl)).trans ((mj_up_ne _ _ (Nat.ne_of_beq_eq_false rfl)).trans ((mj_up_ne _ _ (Nat.ne_of_beq_eq_false rfl)).trans ((mj_up_ne _ _ (Nat.ne_of_beq_eq_false rfl)).trans ((mj_up_ne _ _ (Nat.ne_of_beq_eq_false rfl)).trans ((mj_up_ne _ _ (Nat.ne_of_beq_eq_false rfl)).trans ((mj_up_ne _ _ (Nat.ne_of_beq_eq_false rfl)).trans ((mj_up_ne _ _ (Nat.ne_of_beq_eq_false rfl)).trans ((mj_up_ne _ _ (Nat.ne_of_beq_eq_false rfl)).trans ((mj_up_ne _ _ (Nat.ne_of_beq_eq_false rfl)).trans ((mj_up_ne _ _ (Nat.ne_of_beq_eq_false rfl)).trans ((mj_up_ne _ _ (Nat.ne_of_beq_eq_false rfl)).trans ((mj_up_ne _ _ (Nat.ne_of_beq_eq_false rfl)).trans ((mj_up_ne _ _ (Nat.ne_of_beq_eq_false rfl)).trans ((mj_up_ne _ _ (Nat.ne_of_beq_eq_false rfl)).trans ((mj_up_ne _ _ (Nat.ne_of_beq_eq_false rfl)).trans ((mj_up_ne _ _ (Nat.ne_of_beq_eq_false rfl)).trans ((mj_up_ne _ _ (Nat.ne_of_beq_eq_false rfl)).trans ((mj_up_ne _ _ (Nat.ne_of_beq_eq_false rfl)).trans ((mj_up_ne _ _ (Nat.ne_of_beq_eq_false rfl)).trans ((mj_up_ne _ _ (Nat.ne_of_beq_eq_false rfl)).trans ((mj_up_ne _ _ (Nat.ne_of_beq_eq_false rfl)).trans ((mj_up_ne _ _ (Nat.ne_of_beq_eq_false rfl)).trans ((mj_up_ne _ _ (Nat.ne_of_beq_eq_false rfl)).trans ((mj_up_ne _ _ (Nat.ne_of_beq_eq_false rfl)).trans h_64)))))))))))))))))))))))))))))))))))))))) rfl ?_
  refine mv_get d_TrustDesk_feed_61 f_TrustDesk_88_9 (mj_up_self _ _ _) rfl ?_
  exact mv_iret d_TrustDesk_feed_64 rfl (by first | rfl | decide) ⟨rfl, rfl, rfl⟩
abbrev kY_TrustDesk_end : mj_Y := (⟨"TrustDesk", "end", "(I)I"⟩, prog_1_method_5_code, 2, (Option.some Jvm.ClassFile.FieldType.int))
theorem d_TrustDesk_end_0 : decode kY_TrustDesk_end.2.1 0 = .ok (.iload_n 1, 1) := by decide +kernel
theorem d_TrustDesk_end_1 : decode kY_TrustDesk_end.2.1 1 = .ok (.ifCond .lt 14, 3) := by decide +kernel
theorem d_TrustDesk_end_15 : decode kY_TrustDesk_end.2.1 15 = .ok (.iconst (-1), 1) := by decide +kernel
theorem d_TrustDesk_end_16 : decode kY_TrustDesk_end.2.1 16 = .ok (.ireturn, 1) := by decide +kernel
theorem d_TrustDesk_end_4 : decode kY_TrustDesk_end.2.1 4 = .ok (.iload_n 1, 1) := by decide +kernel
theorem d_TrustDesk_end_5 : decode kY_TrustDesk_end.2.1 5 = .ok (.aload_n 0, 1) := by decide +kernel
theorem d_TrustDesk_end_6 : decode kY_TrustDesk_end.2.1 6 = .ok (.getfield 19, 3) := by decide +kernel
theorem d_TrustDesk_end_9 : decode kY_TrustDesk_end.2.1 9 = .ok (.getfield 88, 3) := by decide +kernel
theorem d_TrustDesk_end_12 : decode kY_TrustDesk_end.2.1 12 = .ok (.if_icmp .le 5, 3) := by decide +kernel
theorem d_TrustDesk_end_17 : decode kY_TrustDesk_end.2.1 17 = .ok (.aload_n 0, 1) := by decide +kernel
theorem d_TrustDesk_end_18 : decode kY_TrustDesk_end.2.1 18 = .ok (.getfield 19, 3) := by decide +kernel
theorem d_TrustDesk_end_21 : decode kY_TrustDesk_end.2.1 21 = .ok (.iload_n 1, 1) := by decide +kernel
theorem d_TrustDesk_end_22 : decode kY_TrustDesk_end.2.1 22 = .ok (.putfield 88, 3) := by decide +kernel
theorem p_TrustDesk_88_9 : mj_fp "TrustDesk" 88 9 0 (kt_Reader 0) false := ⟨kR_Reader, kF_Reader, 19, "TrustDesk$Reader", kt_Reader, rfl, kg_9, by decide, (mj_in1 (List.mem_of_getElem? (i := 70) (by decide +kernel)) rfl), Or.inl rfl, kto_Reader, kn_Reader, rfl, rfl, fun h => by cases h⟩
theorem d_TrustDesk_end_25 : decode kY_TrustDesk_end.2.1 25 = .ok (.iload_n 1, 1) := by decide +kernel
theorem d_TrustDesk_end_26 : decode kY_TrustDesk_end.2.1 26 = .ok (.ireturn, 1) := by decide +kernel
theorem c_TrustDesk_end_0 {g : mj_G} {l : Launch} {d nx : Nat} {M : mj_M} {x1 : Int32} (h_64 : M 64 = some (.inr (12, [.ref 65, .ref 70, .ref 77, .ref 80, .ref 90, .ref 94, .ref 95, .ref 96, .ref 97, .ref 98, .int 0, .int 0, .int 0]))) (h_70 : M 70 = some (.inr (9, [.int 0, .int 0, .int (-1), .ref 71, .ref 72, .ref 73, .ref 74, .ref 75, .int 0, .int 0, .int 0, .int 0, .int 0, .int 0, .int 0, .int 0, .int 0, .ref 76, .int 0]))) : mj_Met g l kY_TrustDesk_end d [.ref 64, .int x1] M nx 0 0 (mj_KP (some (.int (e_end x1))) M 99 149) := by
  refine mj_enter (by decide) (Nat.le_of_ble_eq_true rfl) ?_
  refine mv_iload_n d_TrustDesk_end_0 rfl rfl ?_
  refine mv_if_ltZ (tgt := 15) (a := x1.toInt) d_TrustDesk_end_1 (by decide) rfl (fun b1 => ?_) (fun b1 => ?_)
  · refine mv_iconst (v := (-1)) d_TrustDesk_end_15 (by decide) ?_
    exact mv_iret d_TrustDesk_end_16 rfl (by first | rfl | decide) ⟨(by unfold e_end; first | rw [if_pos (by omega)] | rw [if_neg (by omega)]), fun a ha1 ha2 => rfl⟩
  · refine mv_iload_n d_TrustDesk_end_4 rfl rfl ?_
    refine mv_aload_n d_TrustDesk_end_5 rfl rfl ?_
    refine mv_get d_TrustDesk_end_6 f_TrustDesk_19_12 h_64 rfl ?_
    refine mv_get d_TrustDesk_end_9 f_TrustDesk_88_9 h_70 rfl ?_
    refine mv_icmp_leZ (tgt := 17) (a := x1.toInt) (b := 0) d_TrustDesk_end_12 (by decide) rfl (by decide) (fun b2 => ?_) (fun b2 => ?_)
    · refine mv_aload_n d_TrustDesk_end_17 rfl rfl ?_
      refine mv_get d_TrustDesk_end_18 f_TrustDesk_19_12 h_64 rfl ?_
      refine mv_iload_n d_TrustDesk_end_21 rfl rfl ?_
      refine mv_put (fs' := [.int x1, .int 0, .int (-1), .ref 71, .ref 72, .ref 73, .ref 74, .ref 75, .int 0, .int 0, .int 0, .int 0, .int 0, .int 0, .int 0, .int 0, .int 0, .ref 76, .int 0]) d_TrustDesk_end_22 p_TrustDesk_88_9 h_70 (Nat.le_of_ble_eq_true rfl) rfl rfl rfl ?_
      refine mv_iload_n d_TrustDesk_end_25 rfl rfl ?_
      exact mv_iret d_TrustDesk_end_26 rfl (by first | rfl | decide) ⟨(by unfold e_end; first | rw [if_pos (by omega)] | rw [if_neg (by omega)]), fun a ha1 ha2 => (mj_up_ne _ _ (show a ≠ 70 by omega)).trans (rfl)⟩
    · refine mv_iconst (v := (-1)) d_TrustDesk_end_15 (by decide) ?_
      exact mv_iret d_TrustDesk_end_16 rfl (by first | rfl | decide) ⟨(by unfold e_end; first | rw [if_pos (by omega)] | rw [if_neg (by omega)]), fun a ha1 ha2 => rfl⟩
abbrev kY_TrustDesk_act : mj_Y := (⟨"TrustDesk", "act", "(I)I"⟩, prog_1_method_6_code, 4, (Option.some Jvm.ClassFile.FieldType.int))
theorem d_TrustDesk_act_0 : decode kY_TrustDesk_act.2.1 0 = .ok (.iload_n 1, 1) := by decide +kernel
theorem d_TrustDesk_act_1 : decode kY_TrustDesk_act.2.1 1 = .ok (.invokestatic 94, 3) := by decide +kernel
abbrev kY_TrustDesk_isDay : mj_Y := (⟨"TrustDesk", "isDay", "(I)Z"⟩, prog_1_method_67_code, 1, (Option.some Jvm.ClassFile.FieldType.boolean))
theorem lS_TrustDesk_94 : mj_lS "TrustDesk" 94 kY_TrustDesk_isDay 1 := ⟨⟨(mj_in1 (List.mem_of_getElem? (i := 349) (by decide +kernel)) rfl), (mj_in1 (List.mem_of_getElem? (i := 1) (by decide +kernel)) rfl), (mj_in1 (List.mem_of_getElem? (i := 351) (by decide +kernel)) rfl), by decide, rfl, by decide⟩, (mj_in1 (List.mem_of_getElem? (i := 350) (by decide +kernel)) rfl)⟩
theorem d_TrustDesk_isDay_0 : decode kY_TrustDesk_isDay.2.1 0 = .ok (.iload_n 0, 1) := by decide +kernel
theorem d_TrustDesk_isDay_1 : decode kY_TrustDesk_isDay.2.1 1 = .ok (.ifCond .lt 13, 3) := by decide +kernel
theorem d_TrustDesk_isDay_14 : decode kY_TrustDesk_isDay.2.1 14 = .ok (.iconst 0, 1) := by decide +kernel
theorem d_TrustDesk_isDay_15 : decode kY_TrustDesk_isDay.2.1 15 = .ok (.ireturn, 1) := by decide +kernel
theorem d_TrustDesk_isDay_4 : decode kY_TrustDesk_isDay.2.1 4 = .ok (.iload_n 0, 1) := by decide +kernel
theorem d_TrustDesk_isDay_5 : decode kY_TrustDesk_isDay.2.1 5 = .ok (.ldc 147, 2) := by decide +kernel
theorem k_TrustDesk_147 : Cond.constant "TrustDesk" 147 36000 ∈ mj_T := (mj_in1 (List.mem_of_getElem? (i := 352) (by decide +kernel)) rfl)
theorem d_TrustDesk_isDay_7 : decode kY_TrustDesk_isDay.2.1 7 = .ok (.if_icmp .gt 7, 3) := by decide +kernel
theorem d_TrustDesk_isDay_10 : decode kY_TrustDesk_isDay.2.1 10 = .ok (.iconst 1, 1) := by decide +kernel
theorem d_TrustDesk_isDay_11 : decode kY_TrustDesk_isDay.2.1 11 = .ok (.goto 4, 3) := by decide +kernel
theorem c_TrustDesk_isDay_0 {g : mj_G} {l : Launch} {d nx : Nat} {M : mj_M} {x0 : Int32} : mj_Met g l kY_TrustDesk_isDay d [.int x0] M nx 0 0 (mj_B (0 ≤ x0.toInt ∧ x0.toInt ≤ 36000) M nx) := by
  refine mj_enter (by decide) (Nat.le_of_ble_eq_true rfl) ?_
  refine mv_iload_n d_TrustDesk_isDay_0 rfl rfl ?_
  refine mv_if_ltZ (tgt := 14) (a := x0.toInt) d_TrustDesk_isDay_1 (by decide) rfl (fun b1 => ?_) (fun b1 => ?_)
  · refine mv_iconst (v := 0) d_TrustDesk_isDay_14 (by decide) ?_
    exact mv_iret d_TrustDesk_isDay_15 rfl (by first | rfl | decide) ⟨Or.inr ⟨by omega, rfl⟩, rfl, rfl⟩
  · refine mv_iload_n d_TrustDesk_isDay_4 rfl rfl ?_
    refine mv_ldc d_TrustDesk_isDay_5 k_TrustDesk_147 ?_
    refine mv_icmp_gtZ (tgt := 14) (a := x0.toInt) (b := 36000) d_TrustDesk_isDay_7 (by decide) rfl (by decide) (fun b2 => ?_) (fun b2 => ?_)
    · refine mv_iconst (v := 0) d_TrustDesk_isDay_14 (by decide) ?_
      exact mv_iret d_TrustDesk_isDay_15 rfl (by first | rfl | decide) ⟨Or.inr ⟨by omega, rfl⟩, rfl, rfl⟩
    · refine mv_iconst (v := 1) d_TrustDesk_isDay_10 (by decide) ?_
      refine mv_goto (tgt := 15) d_TrustDesk_isDay_11 (by decide) ?_
      exact mv_iret d_TrustDesk_isDay_15 rfl (by first | rfl | decide) ⟨Or.inl ⟨by omega, rfl⟩, rfl, rfl⟩
theorem d_TrustDesk_act_4 : decode kY_TrustDesk_act.2.1 4 = .ok (.ifCond .eq 15, 3) := by decide +kernel
theorem d_TrustDesk_act_7 : decode kY_TrustDesk_act.2.1 7 = .ok (.aload_n 0, 1) := by decide +kernel
theorem d_TrustDesk_act_8 : decode kY_TrustDesk_act.2.1 8 = .ok (.getfield 49, 3) := by decide +kernel
theorem f_TrustDesk_49_12 : mj_fl "TrustDesk" 49 12 5 := ⟨kR_TrustDesk, kF_TrustDesk, 13, "TrustDesk", rfl, kg_12, by decide, (mj_in1 (List.mem_of_getElem? (i := 272) (by decide +kernel)) rfl), Or.inl rfl⟩
theorem d_TrustDesk_act_11 : decode kY_TrustDesk_act.2.1 11 = .ok (.invokevirtual 97, 3) := by decide +kernel
abbrev kY_ArrayList_size : mj_Y := (⟨"java/util/ArrayList", "size", "()I"⟩, prog_33_method_8_code, 1, (Option.some Jvm.ClassFile.FieldType.int))
theorem lV_TrustDesk_97 : mj_lV "TrustDesk" 97 kY_ArrayList_size 0 := ⟨⟨(mj_in1 (List.mem_of_getElem? (i := 353) (by decide +kernel)) rfl), (mj_in1 (List.mem_of_getElem? (i := 9) (by decide +kernel)) rfl), (mj_in1 (List.mem_of_getElem? (i := 356) (by decide +kernel)) rfl), by decide, rfl, by decide⟩, (mj_in1 (List.mem_of_getElem? (i := 354) (by decide +kernel)) rfl), (mj_in1 (List.mem_of_getElem? (i := 355) (by decide +kernel)) rfl)⟩
theorem d_ArrayList_size_0 : decode kY_ArrayList_size.2.1 0 = .ok (.aload_n 0, 1) := by decide +kernel
theorem d_ArrayList_size_1 : decode kY_ArrayList_size.2.1 1 = .ok (.getfield 48, 3) := by decide +kernel
theorem f_ArrayList_48_0 : mj_fl "java/util/ArrayList" 48 0 2 := ⟨kR_ArrayList, kF_ArrayList, 3, "java/util/ArrayList", rfl, kg_0, by decide, (mj_in1 (List.mem_of_getElem? (i := 226) (by decide +kernel)) rfl), Or.inl rfl⟩
theorem d_ArrayList_size_4 : decode kY_ArrayList_size.2.1 4 = .ok (.ireturn, 1) := by decide +kernel
theorem c_ArrayList_size_0 {g : mj_G} {l : Launch} {d nx : Nat} {M : mj_M} (h_94 : M 94 = some (.inr (0, [.int 0, .ref 0, .int 0]))) : mj_Met g l kY_ArrayList_size d [.ref 94] M nx 0 0 (mj_E1 (some (.int 0)) M nx) := by
  refine mj_enter (by decide) (Nat.le_of_ble_eq_true rfl) ?_
  refine mv_aload_n d_ArrayList_size_0 rfl rfl ?_
  refine mv_get d_ArrayList_size_1 f_ArrayList_48_0 h_94 rfl ?_
  exact mv_iret d_ArrayList_size_4 rfl (by first | rfl | decide) ⟨rfl, rfl, rfl⟩
theorem d_TrustDesk_act_14 : decode kY_TrustDesk_act.2.1 14 = .ok (.bipush 20, 2) := by decide +kernel
theorem d_TrustDesk_act_16 : decode kY_TrustDesk_act.2.1 16 = .ok (.if_icmp .lt 5, 3) := by decide +kernel
theorem d_TrustDesk_act_21 : decode kY_TrustDesk_act.2.1 21 = .ok (.new 37, 3) := by decide +kernel
theorem d_TrustDesk_act_24 : decode kY_TrustDesk_act.2.1 24 = .ok (.dup, 1) := by decide +kernel
theorem d_TrustDesk_act_25 : decode kY_TrustDesk_act.2.1 25 = .ok (.iload_n 1, 1) := by decide +kernel
theorem d_TrustDesk_act_26 : decode kY_TrustDesk_act.2.1 26 = .ok (.invokespecial 39, 3) := by decide +kernel
theorem c_AbstractCollection_init_5 {g : mj_G} {l : Launch} {d nx : Nat} {M : mj_M} : mj_Met g l kY_AbstractCollection_init (d + 1) [.ref 150] M nx 0 0 (mj_E1 none M nx) := by
  refine mj_enter (by decide) (Nat.le_of_ble_eq_true rfl) ?_
  refine mv_aload_n d_AbstractCollection_init_0 rfl rfl ?_
  refine mv_oinit d_AbstractCollection_init_1 (mj_in1 (List.mem_of_getElem? (i := 222) (by decide +kernel)) rfl) (Nat.le_of_ble_eq_true rfl) ?_
  exact mv_vret d_AbstractCollection_init_4 rfl ⟨rfl, rfl, rfl⟩
theorem c_AbstractList_init_5 {g : mj_G} {l : Launch} {d nx : Nat} {M : mj_M} (h_150 : M 150 = some (.inr (0, [.int 0, .null, .int 0]))) : mj_Met g l kY_AbstractList_init (d + 2) [.ref 150] M nx 0 0 (mj_E1 none (mj_up M 150 (.inr (0, [.int 0, .null, .int 0]))) nx) := by
  refine mj_enter (by decide) (Nat.le_of_ble_eq_true rfl) ?_
  refine mv_aload_n d_AbstractList_init_0 rfl rfl ?_
  refine mv_callI_n (kc' := 0) (ks' := 0) [] [.ref 150] d_AbstractList_init_1 lI_AbstractList_1 (c_AbstractCollection_init_5 (d := d)) rfl (Nat.le_of_ble_eq_true rfl) (Nat.le_of_ble_eq_true rfl) (Nat.le_of_ble_eq_true rfl) rfl ?_
  refine mv_aload_n d_AbstractList_init_4 rfl rfl ?_
  refine mv_iconst (v := 0) d_AbstractList_init_5 (by decide) ?_
  refine mv_put (fs' := [.int 0, .null, .int 0]) d_AbstractList_init_6 p_AbstractList_7_0 h_150 (Nat.le_of_ble_eq_true rfl) rfl rfl rfl ?_
  exact mv_vret d_AbstractList_init_9 rfl ⟨rfl, rfl, rfl⟩
theorem c_ArrayList_init_5 {g : mj_G} {l : Launch} {d nx : Nat} {M : mj_M} (h_150 : M 150 = some (.inr (0, [.int 0, .null, .int 0]))) : mj_Met g l kY_ArrayList_init (d + 3) [.ref 150] M nx 0 0 (mj_E1 none (mj_up (mj_up M 150 (.inr (0, [.int 0, .null, .int 0]))) 150 (.inr (0, [.int 0, .ref 0, .int 0]))) nx) := by
  refine mj_enter (by decide) (Nat.le_of_ble_eq_true rfl) ?_
  refine mv_aload_n d_ArrayList_init_0 rfl rfl ?_
  refine mv_callI_n (kc' := 0) (ks' := 0) [] [.ref 150] d_ArrayList_init_1 lI_ArrayList_1 (c_AbstractList_init_5 (d := d) (h_150 := h_150)) rfl (Nat.le_of_ble_eq_true rfl) (Nat.le_of_ble_eq_true rfl) (Nat.le_of_ble_eq_true rfl) rfl ?_
  refine mv_aload_n d_ArrayList_init_4 rfl rfl ?_
  refine mv_getsD d_ArrayList_init_5 (mj_in1 (List.mem_of_getElem? (i := 223) (by decide +kernel)) rfl) ?_
  refine mv_put (fs' := [.int 0, .ref 0, .int 0]) d_ArrayList_init_8 p_ArrayList_9_0 (mj_up_self _ _ _) (Nat.le_of_ble_eq_true rfl) rfl rfl rfl ?_
  exact mv_vret d_ArrayList_init_11 rfl ⟨rfl, rfl, rfl⟩
theorem c_Act_init_1 {g : mj_G} {l : Launch} {d : Nat} {M : mj_M} {x1 : Int32} (h_149 : M 149 = some (.inr (1, [.int 0, .int 0, .null, .null, .null]))) : mj_Met g l kY_Act_init (d + 4) [.ref 149, .int x1] M 150 3 29 (mj_E1 none (mj_up (mj_up (mj_up (mj_up (mj_up (mj_up (mj_up (mj_up (mj_up M 150 (.inr (0, [.int 0, .null, .int 0]))) 150 (.inr (0, [.int 0, .null, .int 0]))) 150 (.inr (0, [.int 0, .ref 0, .int 0]))) 149 (.inr (1, [.int 0, .int 0, .ref 150, .null, .null]))) 151 (.inl (0, 6, .inl mj_rwf))) 149 (.inr (1, [.int 0, .int 0, .ref 150, .ref 151, .null]))) 152 (.inl (0, 20, .inl (fun _ => 0)))) 149 (.inr (1, [.int 0, .int 0, .ref 150, .ref 151, .ref 152]))) 149 (.inr (1, [.int x1, .int 0, .ref 150, .ref 151, .ref 152]))) 153) := by
  refine mj_enter (by decide) (Nat.le_of_ble_eq_true rfl) ?_
  refine mv_aload_n d_Act_init_0 rfl rfl ?_
  refine mv_oinit d_Act_init_1 (mj_in1 (List.mem_of_getElem? (i := 210) (by decide +kernel)) rfl) (Nat.le_of_ble_eq_true rfl) ?_
  refine mv_aload_n d_Act_init_4 rfl rfl ?_
  refine mv_new (kc' := 2) (ks' := 26) d_Act_init_5 n_Act_9 (Nat.le_of_ble_eq_true rfl) (Nat.le_of_ble_eq_true rfl) ?_
  refine mv_dup d_Act_init_8 rfl ?_
  refine mv_callI_n (kc' := 2) (ks' := 26) [] [.ref 150, .ref 150, .ref 149] d_Act_init_9 lI_Act_11 (c_ArrayList_init_5 (d := d) (h_150 := (mj_up_self _ _ _))) rfl (Nat.le_of_ble_eq_true rfl) (Nat.le_of_ble_eq_true rfl) (Nat.le_of_ble_eq_true rfl) rfl ?_
  refine mv_putF (fs' := [.int 0, .int 0, .ref 150, .null, .null]) d_Act_init_12 p_Act_12_1 rfl ((mj_up_ne _ _ (Nat.ne_of_beq_eq_false rfl)).trans ((mj_up_ne _ _ (Nat.ne_of_beq_eq_false rfl)).trans ((mj_up_ne _ _ (Nat.ne_of_beq_eq_false rfl)).trans h_149))) (Nat.le_of_ble_eq_true rfl) rfl rfl rfl ?_
  refine mv_aload_n d_Act_init_15 rfl rfl ?_
  refine mv_gets1 d_Act_init_16 (mj_in1 (List.mem_of_getElem? (i := 237) (by decide +kernel)) rfl) ?_
  refine mv_cloneR (kc' := 1) (ks' := 20) d_Act_init_19 (mj_in1 (List.mem_of_getElem? (i := 239) (by decide +kernel)) rfl) (Nat.le_of_ble_eq_true rfl) (Nat.le_of_ble_eq_true rfl) (Nat.le_of_ble_eq_true rfl) ?_
  refine mv_castA d_Act_init_22 (mj_in1 (List.mem_of_getElem? (i := 245) (by decide +kernel)) rfl) (mj_up_self _ _ _) ?_
  refine mv_putF (fs' := [.int 0, .int 0, .ref 150, .ref 151, .null]) d_Act_init_25 p_Act_27_1 rfl ((mj_up_ne _ _ (Nat.ne_of_beq_eq_false rfl)).trans (mj_up_self _ _ _)) (Nat.le_of_ble_eq_true rfl) rfl rfl rfl ?_
  refine mv_aload_n d_Act_init_28 rfl rfl ?_
  refine mv_bipush (v := 20) d_Act_init_29 (by decide) ?_
  refine mv_newa_int (N := 20) (kc' := 0) (ks' := 0) d_Act_init_31 (by decide) (by decide) (Nat.le_of_ble_eq_true rfl) (Nat.le_of_ble_eq_true rfl) (Nat.le_of_ble_eq_true rfl) ?_
  refine mv_putF (fs' := [.int 0, .int 0, .ref 150, .ref 151, .ref 152]) d_Act_init_33 p_Act_30_1 rfl ((mj_up_ne _ _ (Nat.ne_of_beq_eq_false rfl)).trans (mj_up_self _ _ _)) (Nat.le_of_ble_eq_true rfl) rfl rfl rfl ?_
  refine mv_aload_n d_Act_init_36 rfl rfl ?_
  refine mv_iload_n d_Act_init_37 rfl rfl ?_
  refine mv_putF (fs' := [.int x1, .int 0, .ref 150, .ref 151, .ref 152]) d_Act_init_38 p_Act_33_1 rfl (mj_up_self _ _ _) (Nat.le_of_ble_eq_true rfl) rfl rfl rfl ?_
  exact mv_vret d_Act_init_41 rfl ⟨rfl, rfl, rfl⟩
theorem d_TrustDesk_act_29 : decode kY_TrustDesk_act.2.1 29 = .ok (.astore_n 2, 1) := by decide +kernel
theorem d_TrustDesk_act_30 : decode kY_TrustDesk_act.2.1 30 = .ok (.aload_n 0, 1) := by decide +kernel
theorem d_TrustDesk_act_31 : decode kY_TrustDesk_act.2.1 31 = .ok (.getfield 19, 3) := by decide +kernel
theorem d_TrustDesk_act_34 : decode kY_TrustDesk_act.2.1 34 = .ok (.aload_n 2, 1) := by decide +kernel
theorem d_TrustDesk_act_35 : decode kY_TrustDesk_act.2.1 35 = .ok (.invokevirtual 100, 3) := by decide +kernel
abbrev kY_Reader_readAct : mj_Y := (⟨"TrustDesk$Reader", "readAct", "(LTrustDesk$Act;)Z"⟩, prog_10_method_3_code, 3, (Option.some Jvm.ClassFile.FieldType.boolean))
theorem lV_TrustDesk_100 : mj_lV "TrustDesk" 100 kY_Reader_readAct 1 := ⟨⟨(mj_in1 (List.mem_of_getElem? (i := 357) (by decide +kernel)) rfl), (mj_in1 (List.mem_of_getElem? (i := 3) (by decide +kernel)) rfl), (mj_in1 (List.mem_of_getElem? (i := 360) (by decide +kernel)) rfl), by decide, rfl, by decide⟩, (mj_in1 (List.mem_of_getElem? (i := 358) (by decide +kernel)) rfl), (mj_in1 (List.mem_of_getElem? (i := 359) (by decide +kernel)) rfl)⟩
theorem d_Reader_readAct_0 : decode kY_Reader_readAct.2.1 0 = .ok (.aload_n 0, 1) := by decide +kernel
theorem d_Reader_readAct_1 : decode kY_Reader_readAct.2.1 1 = .ok (.bipush 13, 2) := by decide +kernel
theorem d_Reader_readAct_3 : decode kY_Reader_readAct.2.1 3 = .ok (.invokevirtual 37, 3) := by decide +kernel
abbrev kY_Reader_begin : mj_Y := (⟨"TrustDesk$Reader", "begin", "(I)V"⟩, prog_10_method_6_code, 2, (Option.none : Option Jvm.ClassFile.FieldType))
theorem lV_Reader_37 : mj_lV "TrustDesk$Reader" 37 kY_Reader_begin 1 := ⟨⟨(mj_in1 (List.mem_of_getElem? (i := 361) (by decide +kernel)) rfl), (mj_in1 (List.mem_of_getElem? (i := 3) (by decide +kernel)) rfl), (mj_in1 (List.mem_of_getElem? (i := 364) (by decide +kernel)) rfl), by decide, rfl, by decide⟩, (mj_in1 (List.mem_of_getElem? (i := 363) (by decide +kernel)) rfl), (mj_in (List.mem_append_left _ (List.mem_of_getElem? (i := 1) (by decide +kernel))) rfl)⟩
theorem d_Reader_begin_0 : decode kY_Reader_begin.2.1 0 = .ok (.aload_n 0, 1) := by decide +kernel
theorem d_Reader_begin_1 : decode kY_Reader_begin.2.1 1 = .ok (.iload_n 1, 1) := by decide +kernel
theorem d_Reader_begin_2 : decode kY_Reader_begin.2.1 2 = .ok (.putfield 67, 3) := by decide +kernel
theorem p_Reader_67_9 : mj_fp "TrustDesk$Reader" 67 9 15 (kt_Reader 15) false := ⟨kR_Reader, kF_Reader, 19, "TrustDesk$Reader", kt_Reader, rfl, kg_9, by decide, (mj_in1 (List.mem_of_getElem? (i := 87) (by decide +kernel)) rfl), Or.inl rfl, kto_Reader, kn_Reader, rfl, rfl, fun h => by cases h⟩
theorem d_Reader_begin_5 : decode kY_Reader_begin.2.1 5 = .ok (.aload_n 0, 1) := by decide +kernel
theorem d_Reader_begin_6 : decode kY_Reader_begin.2.1 6 = .ok (.iconst 0, 1) := by decide +kernel
theorem d_Reader_begin_7 : decode kY_Reader_begin.2.1 7 = .ok (.putfield 70, 3) := by decide +kernel
theorem p_Reader_70_9 : mj_fp "TrustDesk$Reader" 70 9 1 (kt_Reader 1) false := ⟨kR_Reader, kF_Reader, 19, "TrustDesk$Reader", kt_Reader, rfl, kg_9, by decide, (mj_in1 (List.mem_of_getElem? (i := 71) (by decide +kernel)) rfl), Or.inl rfl, kto_Reader, kn_Reader, rfl, rfl, fun h => by cases h⟩
theorem d_Reader_begin_10 : decode kY_Reader_begin.2.1 10 = .ok (.aload_n 0, 1) := by decide +kernel
theorem d_Reader_begin_11 : decode kY_Reader_begin.2.1 11 = .ok (.iconst (-1), 1) := by decide +kernel
theorem d_Reader_begin_12 : decode kY_Reader_begin.2.1 12 = .ok (.putfield 11, 3) := by decide +kernel
theorem d_Reader_begin_15 : decode kY_Reader_begin.2.1 15 = .ok (.aload_n 0, 1) := by decide +kernel
theorem d_Reader_begin_16 : decode kY_Reader_begin.2.1 16 = .ok (.iconst 0, 1) := by decide +kernel
theorem d_Reader_begin_17 : decode kY_Reader_begin.2.1 17 = .ok (.putfield 73, 3) := by decide +kernel
theorem p_Reader_73_9 : mj_fp "TrustDesk$Reader" 73 9 16 (kt_Reader 16) false := ⟨kR_Reader, kF_Reader, 19, "TrustDesk$Reader", kt_Reader, rfl, kg_9, by decide, (mj_in1 (List.mem_of_getElem? (i := 88) (by decide +kernel)) rfl), Or.inl rfl, kto_Reader, kn_Reader, rfl, rfl, fun h => by cases h⟩
theorem d_Reader_begin_20 : decode kY_Reader_begin.2.1 20 = .ok (.aload_n 0, 1) := by decide +kernel
theorem d_Reader_begin_21 : decode kY_Reader_begin.2.1 21 = .ok (.invokevirtual 76, 3) := by decide +kernel
abbrev kY_Reader_cut : mj_Y := (⟨"TrustDesk$Reader", "cut", "()V"⟩, prog_10_method_33_code, 4, (Option.none : Option Jvm.ClassFile.FieldType))
theorem lV_Reader_76 : mj_lV "TrustDesk$Reader" 76 kY_Reader_cut 0 := ⟨⟨(mj_in1 (List.mem_of_getElem? (i := 365) (by decide +kernel)) rfl), (mj_in1 (List.mem_of_getElem? (i := 3) (by decide +kernel)) rfl), (mj_in1 (List.mem_of_getElem? (i := 368) (by decide +kernel)) rfl), by decide, rfl, by decide⟩, (mj_in1 (List.mem_of_getElem? (i := 367) (by decide +kernel)) rfl), (mj_in (List.mem_append_left _ (List.mem_of_getElem? (i := 2) (by decide +kernel))) rfl)⟩
theorem d_Reader_cut_0 : decode kY_Reader_cut.2.1 0 = .ok (.aload_n 0, 1) := by decide +kernel
theorem d_Reader_cut_1 : decode kY_Reader_cut.2.1 1 = .ok (.iconst 0, 1) := by decide +kernel
theorem d_Reader_cut_2 : decode kY_Reader_cut.2.1 2 = .ok (.putfield 244, 3) := by decide +kernel
theorem p_Reader_244_9 : mj_fp "TrustDesk$Reader" 244 9 8 (kt_Reader 8) false := ⟨kR_Reader, kF_Reader, 19, "TrustDesk$Reader", kt_Reader, rfl, kg_9, by decide, (mj_in1 (List.mem_of_getElem? (i := 80) (by decide +kernel)) rfl), Or.inl rfl, kto_Reader, kn_Reader, rfl, rfl, fun h => by cases h⟩
theorem d_Reader_cut_5 : decode kY_Reader_cut.2.1 5 = .ok (.iconst 0, 1) := by decide +kernel
theorem d_Reader_cut_6 : decode kY_Reader_cut.2.1 6 = .ok (.istore_n 1, 1) := by decide +kernel
theorem d_Reader_cut_7 : decode kY_Reader_cut.2.1 7 = .ok (.iload_n 1, 1) := by decide +kernel
theorem d_Reader_cut_8 : decode kY_Reader_cut.2.1 8 = .ok (.aload_n 0, 1) := by decide +kernel
theorem d_Reader_cut_9 : decode kY_Reader_cut.2.1 9 = .ok (.getfield 34, 3) := by decide +kernel
theorem d_Reader_cut_12 : decode kY_Reader_cut.2.1 12 = .ok (.if_icmp .ge 58, 3) := by decide +kernel
theorem d_Reader_cut_70 : decode kY_Reader_cut.2.1 70 = .ok (.return_, 1) := by decide +kernel
theorem c_Reader_cut_0 {g : mj_G} {l : Launch} {d nx : Nat} {M : mj_M} (h_70 : M 70 = some (.inr (9, [.int 0, .int 0, .int (-1), .ref 71, .ref 72, .ref 73, .ref 74, .ref 75, .int 0, .int 0, .int 0, .int 0, .int 0, .int 0, .int 0, .int 13, .int 0, .ref 76, .int 0]))) : mj_Met g l kY_Reader_cut d [.ref 70] M nx 0 0 (mj_E1 none (mj_up M 70 (.inr (9, [.int 0, .int 0, .int (-1), .ref 71, .ref 72, .ref 73, .ref 74, .ref 75, .int 0, .int 0, .int 0, .int 0, .int 0, .int 0, .int 0, .int 13, .int 0, .ref 76, .int 0]))) nx) := by
  refine mj_enter (by decide) (Nat.le_of_ble_eq_true rfl) ?_
  refine mv_aload_n d_Reader_cut_0 rfl rfl ?_
  refine mv_iconst (v := 0) d_Reader_cut_1 (by decide) ?_
  refine mv_put (fs' := [.int 0, .int 0, .int (-1), .ref 71, .ref 72, .ref 73, .ref 74, .ref 75, .int 0, .int 0, .int 0, .int 0, .int 0, .int 0, .int 0, .int 13, .int 0, .ref 76, .int 0]) d_Reader_cut_2 p_Reader_244_9 h_70 (Nat.le_of_ble_eq_true rfl) rfl rfl rfl ?_
  refine mv_iconst (v := 0) d_Reader_cut_5 (by decide) ?_
  refine mv_istore_n (lv' := [(1, .int 0), (0, .ref 70)]) d_Reader_cut_6 rfl (by decide) rfl ?_
  refine mv_iload_n d_Reader_cut_7 rfl rfl ?_
  refine mv_aload_n d_Reader_cut_8 rfl rfl ?_
  refine mv_get d_Reader_cut_9 f_Reader_34_9 (mj_up_self _ _ _) rfl ?_
  refine mv_icmp_ge_t (tgt := 70) d_Reader_cut_12 (by decide) (by decide) ?_
  exact mv_vret d_Reader_cut_70 rfl ⟨rfl, rfl, rfl⟩
theorem d_Reader_begin_24 : decode kY_Reader_begin.2.1 24 = .ok (.aload_n 0, 1) := by decide +kernel
theorem d_Reader_begin_25 : decode kY_Reader_begin.2.1 25 = .ok (.iconst (-1), 1) := by decide +kernel
theorem d_Reader_begin_26 : decode kY_Reader_begin.2.1 26 = .ok (.putfield 79, 3) := by decide +kernel
theorem p_Reader_79_9 : mj_fp "TrustDesk$Reader" 79 9 9 (kt_Reader 9) false := ⟨kR_Reader, kF_Reader, 19, "TrustDesk$Reader", kt_Reader, rfl, kg_9, by decide, (mj_in1 (List.mem_of_getElem? (i := 81) (by decide +kernel)) rfl), Or.inl rfl, kto_Reader, kn_Reader, rfl, rfl, fun h => by cases h⟩
theorem d_Reader_begin_29 : decode kY_Reader_begin.2.1 29 = .ok (.aload_n 0, 1) := by decide +kernel
theorem d_Reader_begin_30 : decode kY_Reader_begin.2.1 30 = .ok (.invokevirtual 82, 3) := by decide +kernel
abbrev kY_Reader_advance : mj_Y := (⟨"TrustDesk$Reader", "advance", "()V"⟩, prog_10_method_32_code, 2, (Option.none : Option Jvm.ClassFile.FieldType))
theorem lV_Reader_82 : mj_lV "TrustDesk$Reader" 82 kY_Reader_advance 0 := ⟨⟨(mj_in1 (List.mem_of_getElem? (i := 447) (by decide +kernel)) rfl), (mj_in1 (List.mem_of_getElem? (i := 3) (by decide +kernel)) rfl), (mj_in1 (List.mem_of_getElem? (i := 450) (by decide +kernel)) rfl), by decide, rfl, by decide⟩, (mj_in1 (List.mem_of_getElem? (i := 449) (by decide +kernel)) rfl), (mj_in (List.mem_append_left _ (List.mem_of_getElem? (i := 10) (by decide +kernel))) rfl)⟩
theorem d_Reader_advance_0 : decode kY_Reader_advance.2.1 0 = .ok (.aload_n 0, 1) := by decide +kernel
theorem d_Reader_advance_1 : decode kY_Reader_advance.2.1 1 = .ok (.dup, 1) := by decide +kernel
theorem d_Reader_advance_2 : decode kY_Reader_advance.2.1 2 = .ok (.getfield 79, 3) := by decide +kernel
theorem f_Reader_79_9 : mj_fl "TrustDesk$Reader" 79 9 9 := ⟨kR_Reader, kF_Reader, 19, "TrustDesk$Reader", rfl, kg_9, by decide, (mj_in1 (List.mem_of_getElem? (i := 81) (by decide +kernel)) rfl), Or.inl rfl⟩
theorem d_Reader_advance_5 : decode kY_Reader_advance.2.1 5 = .ok (.iconst 1, 1) := by decide +kernel
theorem d_Reader_advance_6 : decode kY_Reader_advance.2.1 6 = .ok (.iadd, 1) := by decide +kernel
theorem d_Reader_advance_7 : decode kY_Reader_advance.2.1 7 = .ok (.putfield 79, 3) := by decide +kernel
theorem d_Reader_advance_10 : decode kY_Reader_advance.2.1 10 = .ok (.aload_n 0, 1) := by decide +kernel
theorem d_Reader_advance_11 : decode kY_Reader_advance.2.1 11 = .ok (.getfield 79, 3) := by decide +kernel
theorem d_Reader_advance_14 : decode kY_Reader_advance.2.1 14 = .ok (.ifCond .lt 28, 3) := by decide +kernel
theorem d_Reader_advance_17 : decode kY_Reader_advance.2.1 17 = .ok (.aload_n 0, 1) := by decide +kernel
theorem d_Reader_advance_18 : decode kY_Reader_advance.2.1 18 = .ok (.getfield 79, 3) := by decide +kernel
theorem d_Reader_advance_21 : decode kY_Reader_advance.2.1 21 = .ok (.aload_n 0, 1) := by decide +kernel
theorem d_Reader_advance_22 : decode kY_Reader_advance.2.1 22 = .ok (.getfield 244, 3) := by decide +kernel
theorem f_Reader_244_9 : mj_fl "TrustDesk$Reader" 244 9 8 := ⟨kR_Reader, kF_Reader, 19, "TrustDesk$Reader", rfl, kg_9, by decide, (mj_in1 (List.mem_of_getElem? (i := 80) (by decide +kernel)) rfl), Or.inl rfl⟩
theorem d_Reader_advance_25 : decode kY_Reader_advance.2.1 25 = .ok (.if_icmp .ge 17, 3) := by decide +kernel
theorem d_Reader_advance_42 : decode kY_Reader_advance.2.1 42 = .ok (.iconst 0, 1) := by decide +kernel
theorem d_Reader_advance_43 : decode kY_Reader_advance.2.1 43 = .ok (.istore_n 1, 1) := by decide +kernel
theorem d_Reader_advance_44 : decode kY_Reader_advance.2.1 44 = .ok (.aload_n 0, 1) := by decide +kernel
theorem d_Reader_advance_45 : decode kY_Reader_advance.2.1 45 = .ok (.iload_n 1, 1) := by decide +kernel
theorem d_Reader_advance_46 : decode kY_Reader_advance.2.1 46 = .ok (.ifCond .eq 15, 3) := by decide +kernel
theorem d_Reader_advance_61 : decode kY_Reader_advance.2.1 61 = .ok (.iconst 0, 1) := by decide +kernel
theorem d_Reader_advance_62 : decode kY_Reader_advance.2.1 62 = .ok (.putfield 41, 3) := by decide +kernel
theorem p_Reader_41_9 : mj_fp "TrustDesk$Reader" 41 9 10 (kt_Reader 10) false := ⟨kR_Reader, kF_Reader, 19, "TrustDesk$Reader", kt_Reader, rfl, kg_9, by decide, (mj_in1 (List.mem_of_getElem? (i := 82) (by decide +kernel)) rfl), Or.inl rfl, kto_Reader, kn_Reader, rfl, rfl, fun h => by cases h⟩
theorem d_Reader_advance_65 : decode kY_Reader_advance.2.1 65 = .ok (.aload_n 0, 1) := by decide +kernel
theorem d_Reader_advance_66 : decode kY_Reader_advance.2.1 66 = .ok (.iload_n 1, 1) := by decide +kernel
theorem d_Reader_advance_67 : decode kY_Reader_advance.2.1 67 = .ok (.ifCond .eq 15, 3) := by decide +kernel
theorem d_Reader_advance_82 : decode kY_Reader_advance.2.1 82 = .ok (.aload_n 0, 1) := by decide +kernel
theorem d_Reader_advance_83 : decode kY_Reader_advance.2.1 83 = .ok (.getfield 34, 3) := by decide +kernel
theorem d_Reader_advance_86 : decode kY_Reader_advance.2.1 86 = .ok (.putfield 175, 3) := by decide +kernel
theorem p_Reader_175_9 : mj_fp "TrustDesk$Reader" 175 9 11 (kt_Reader 11) false := ⟨kR_Reader, kF_Reader, 19, "TrustDesk$Reader", kt_Reader, rfl, kg_9, by decide, (mj_in1 (List.mem_of_getElem? (i := 83) (by decide +kernel)) rfl), Or.inl rfl, kto_Reader, kn_Reader, rfl, rfl, fun h => by cases h⟩
theorem d_Reader_advance_89 : decode kY_Reader_advance.2.1 89 = .ok (.aload_n 0, 1) := by decide +kernel
theorem d_Reader_advance_90 : decode kY_Reader_advance.2.1 90 = .ok (.iload_n 1, 1) := by decide +kernel
theorem d_Reader_advance_91 : decode kY_Reader_advance.2.1 91 = .ok (.ifCond .eq 15, 3) := by decide +kernel
theorem d_Reader_advance_106 : decode kY_Reader_advance.2.1 106 = .ok (.aload_n 0, 1) := by decide +kernel
theorem d_Reader_advance_107 : decode kY_Reader_advance.2.1 107 = .ok (.getfield 34, 3) := by decide +kernel
theorem d_Reader_advance_110 : decode kY_Reader_advance.2.1 110 = .ok (.putfield 172, 3) := by decide +kernel
theorem p_Reader_172_9 : mj_fp "TrustDesk$Reader" 172 9 12 (kt_Reader 12) false := ⟨kR_Reader, kF_Reader, 19, "TrustDesk$Reader", kt_Reader, rfl, kg_9, by decide, (mj_in1 (List.mem_of_getElem? (i := 84) (by decide +kernel)) rfl), Or.inl rfl, kto_Reader, kn_Reader, rfl, rfl, fun h => by cases h⟩
theorem d_Reader_advance_113 : decode kY_Reader_advance.2.1 113 = .ok (.aload_n 0, 1) := by decide +kernel
theorem d_Reader_advance_114 : decode kY_Reader_advance.2.1 114 = .ok (.iload_n 1, 1) := by decide +kernel
theorem d_Reader_advance_115 : decode kY_Reader_advance.2.1 115 = .ok (.ifCond .eq 15, 3) := by decide +kernel
theorem d_Reader_advance_130 : decode kY_Reader_advance.2.1 130 = .ok (.iconst (-1), 1) := by decide +kernel
theorem d_Reader_advance_131 : decode kY_Reader_advance.2.1 131 = .ok (.putfield 241, 3) := by decide +kernel
theorem p_Reader_241_9 : mj_fp "TrustDesk$Reader" 241 9 13 (kt_Reader 13) false := ⟨kR_Reader, kF_Reader, 19, "TrustDesk$Reader", kt_Reader, rfl, kg_9, by decide, (mj_in1 (List.mem_of_getElem? (i := 85) (by decide +kernel)) rfl), Or.inl rfl, kto_Reader, kn_Reader, rfl, rfl, fun h => by cases h⟩
theorem d_Reader_advance_134 : decode kY_Reader_advance.2.1 134 = .ok (.return_, 1) := by decide +kernel
theorem c_Reader_advance_0 {g : mj_G} {l : Launch} {d nx : Nat} {M : mj_M} (h_70 : M 70 = some (.inr (9, [.int 0, .int 0, .int (-1), .ref 71, .ref 72, .ref 73, .ref 74, .ref 75, .int 0, .int (-1), .int 0, .int 0, .int 0, .int 0, .int 0, .int 13, .int 0, .ref 76, .int 0]))) : mj_Met g l kY_Reader_advance d [.ref 70] M nx 0 0 (mj_E1 none (mj_up (mj_up (mj_up (mj_up (mj_up M 70 (.inr (9, [.int 0, .int 0, .int (-1), .ref 71, .ref 72, .ref 73, .ref 74, .ref 75, .int 0, .int 0, .int 0, .int 0, .int 0, .int 0, .int 0, .int 13, .int 0, .ref 76, .int 0]))) 70 (.inr (9, [.int 0, .int 0, .int (-1), .ref 71, .ref 72, .ref 73, .ref 74, .ref 75, .int 0, .int 0, .int 0, .int 0, .int 0, .int 0, .int 0, .int 13, .int 0, .ref 76, .int 0]))) 70 (.inr (9, [.int 0, .int 0, .int (-1), .ref 71, .ref 72, .ref 73, .ref 74, .ref 75, .int 0, .int 0, .int 0, .int 0, .int 0, .int 0, .int 0, .int 13, .int 0, .ref 76, .int 0]))) 70 (.inr (9, [.int 0, .int 0, .int (-1), .ref 71, .ref 72, .ref 73, .ref 74, .ref 75, .int 0, .int 0, .int 0, .int 0, .int 0, .int 0, .int 0, .int 13, .int 0, .ref 76, .int 0]))) 70 (.inr (9, [.int 0, .int 0, .int (-1), .ref 71, .ref 72, .ref 73, .ref 74, .ref 75, .int 0, .int 0, .int 0, .int 0, .int 0, .int (-1), .int 0, .int 13, .int 0, .ref 76, .int 0]))) nx) := by
  refine mj_enter (by decide) (Nat.le_of_ble_eq_true rfl) ?_
  refine mv_aload_n d_Reader_advance_0 rfl rfl ?_
  refine mv_dup d_Reader_advance_1 rfl ?_
  refine mv_get d_Reader_advance_2 f_Reader_79_9 h_70 rfl ?_
  refine mv_iconst (v := 1) d_Reader_advance_5 (by decide) ?_
  refine mv_iaddv (v := 0) d_Reader_advance_6 (by decide) ?_
  refine mv_put (fs' := [.int 0, .int 0, .int (-1), .ref 71, .ref 72, .ref 73, .ref 74, .ref 75, .int 0, .int 0, .int 0, .int 0, .int 0, .int 0, .int 0, .int 13, .int 0, .ref 76, .int 0]) d_Reader_advance_7 p_Reader_79_9 h_70 (Nat.le_of_ble_eq_true rfl) rfl rfl rfl ?_
  refine mv_aload_n d_Reader_advance_10 rfl rfl ?_
  refine mv_get d_Reader_advance_11 f_Reader_79_9 (mj_up_self _ _ _) rfl ?_
  refine mv_if_lt_f (tgt := 42) d_Reader_advance_14 (by decide) (by decide) ?_
  refine mv_aload_n d_Reader_advance_17 rfl rfl ?_
  refine mv_get d_Reader_advance_18 f_Reader_79_9 (mj_up_self _ _ _) rfl ?_
  refine mv_aload_n d_Reader_advance_21 rfl rfl ?_
  refine mv_get d_Reader_advance_22 f_Reader_244_9 (mj_up_self _ _ _) rfl ?_
  refine mv_icmp_ge_t (tgt := 42) d_Reader_advance_25 (by decide) (by decide) ?_
  refine mv_iconst (v := 0) d_Reader_advance_42 (by decide) ?_
  refine mv_istore_n (lv' := [(1, .int 0), (0, .ref 70)]) d_Reader_advance_43 rfl (by decide) rfl ?_
  refine mv_aload_n d_Reader_advance_44 rfl rfl ?_
  refine mv_iload_n d_Reader_advance_45 rfl rfl ?_
  refine mv_if_eq_t (tgt := 61) d_Reader_advance_46 (by decide) (by decide) ?_
  refine mv_iconst (v := 0) d_Reader_advance_61 (by decide) ?_
  refine mv_put (fs' := [.int 0, .int 0, .int (-1), .ref 71, .ref 72, .ref 73, .ref 74, .ref 75, .int 0, .int 0, .int 0, .int 0, .int 0, .int 0, .int 0, .int 13, .int 0, .ref 76, .int 0]) d_Reader_advance_62 p_Reader_41_9 (mj_up_self _ _ _) (Nat.le_of_ble_eq_true rfl) rfl rfl rfl ?_
  refine mv_aload_n d_Reader_advance_65 rfl rfl ?_
  refine mv_iload_n d_Reader_advance_66 rfl rfl ?_
  refine mv_if_eq_t (tgt := 82) d_Reader_advance_67 (by decide) (by decide) ?_
  refine mv_aload_n d_Reader_advance_82 rfl rfl ?_
  refine mv_get d_Reader_advance_83 f_Reader_34_9 (mj_up_self _ _ _) rfl ?_
  refine mv_put (fs' := [.int 0, .int 0, .int (-1), .ref 71, .ref 72, .ref 73, .ref 74, .ref 75, .int 0, .int 0, .int 0, .int 0, .int 0, .int 0, .int 0, .int 13, .int 0, .ref 76, .int 0]) d_Reader_advance_86 p_Reader_175_9 (mj_up_self _ _ _) (Nat.le_of_ble_eq_true rfl) rfl rfl rfl ?_
  refine mv_aload_n d_Reader_advance_89 rfl rfl ?_
  refine mv_iload_n d_Reader_advance_90 rfl rfl ?_
  refine mv_if_eq_t (tgt := 106) d_Reader_advance_91 (by decide) (by decide) ?_
  refine mv_aload_n d_Reader_advance_106 rfl rfl ?_
  refine mv_get d_Reader_advance_107 f_Reader_34_9 (mj_up_self _ _ _) rfl ?_
  refine mv_put (fs' := [.int 0, .int 0, .int (-1), .ref 71, .ref 72, .ref 73, .ref 74, .ref 75, .int 0, .int 0, .int 0, .int 0, .int 0, .int 0, .int 0, .int 13, .int 0, .ref 76, .int 0]) d_Reader_advance_110 p_Reader_172_9 (mj_up_self _ _ _) (Nat.le_of_ble_eq_true rfl) rfl rfl rfl ?_
  refine mv_aload_n d_Reader_advance_113 rfl rfl ?_
  refine mv_iload_n d_Reader_advance_114 rfl rfl ?_
  refine mv_if_eq_t (tgt := 130) d_Reader_advance_115 (by decide) (by decide) ?_
  refine mv_iconst (v := (-1)) d_Reader_advance_130 (by decide) ?_
  refine mv_put (fs' := [.int 0, .int 0, .int (-1), .ref 71, .ref 72, .ref 73, .ref 74, .ref 75, .int 0, .int 0, .int 0, .int 0, .int 0, .int (-1), .int 0, .int 13, .int 0, .ref 76, .int 0]) d_Reader_advance_131 p_Reader_241_9 (mj_up_self _ _ _) (Nat.le_of_ble_eq_true rfl) rfl rfl rfl ?_
  exact mv_vret d_Reader_advance_134 rfl ⟨rfl, rfl, rfl⟩
theorem d_Reader_begin_33 : decode kY_Reader_begin.2.1 33 = .ok (.return_, 1) := by decide +kernel
theorem c_Reader_begin_0 {g : mj_G} {l : Launch} {d nx : Nat} {M : mj_M} (h_70 : M 70 = some (.inr (9, [.int 0, .int 0, .int (-1), .ref 71, .ref 72, .ref 73, .ref 74, .ref 75, .int 0, .int 0, .int 0, .int 0, .int 0, .int 0, .int 0, .int 0, .int 0, .ref 76, .int 0]))) : mj_Met g l kY_Reader_begin (d + 1) [.ref 70, .int 13] M nx 0 0 (mj_E1 none (mj_up (mj_up (mj_up (mj_up (mj_up (mj_up (mj_up (mj_up (mj_up (mj_up (mj_up M 70 (.inr (9, [.int 0, .int 0, .int (-1), .ref 71, .ref 72, .ref 73, .ref 74, .ref 75, .int 0, .int 0, .int 0, .int 0, .int 0, .int 0, .int 0, .int 13, .int 0, .ref 76, .int 0]))) 70 (.inr (9, [.int 0, .int 0, .int (-1), .ref 71, .ref 72, .ref 73, .ref 74, .ref 75, .int 0, .int 0, .int 0, .int 0, .int 0, .int 0, .int 0, .int 13, .int 0, .ref 76, .int 0]))) 70 (.inr (9, [.int 0, .int 0, .int (-1), .ref 71, .ref 72, .ref 73, .ref 74, .ref 75, .int 0, .int 0, .int 0, .int 0, .int 0, .int 0, .int 0, .int 13, .int 0, .ref 76, .int 0]))) 70 (.inr (9, [.int 0, .int 0, .int (-1), .ref 71, .ref 72, .ref 73, .ref 74, .ref 75, .int 0, .int 0, .int 0, .int 0, .int 0, .int 0, .int 0, .int 13, .int 0, .ref 76, .int 0]))) 70 (.inr (9, [.int 0, .int 0, .int (-1), .ref 71, .ref 72, .ref 73, .ref 74, .ref 75, .int 0, .int 0, .int 0, .int 0, .int 0, .int 0, .int 0, .int 13, .int 0, .ref 76, .int 0]))) 70 (.inr (9, [.int 0, .int 0, .int (-1), .ref 71, .ref 72, .ref 73, .ref 74, .ref 75, .int 0, .int (-1), .int 0, .int 0, .int 0, .int 0, .int 0, .int 13, .int 0, .ref 76, .int 0]))) 70 (.inr (9, [.int 0, .int 0, .int (-1), .ref 71, .ref 72, .ref 73, .ref 74, .ref 75, .int 0, .int 0, .int 0, .int 0, .int 0, .int 0, .int 0, .int 13, .int 0, .ref 76, .int 0]))) 70 (.inr (9, [.int 0, .int 0, .int (-1), .ref 71, .ref 72, .ref 73, .ref 74, .ref 75, .int 0, .int 0, .int 0, .int 0, .int 0, .int 0, .int 0, .int 13, .int 0, .ref 76, .int 0]))) 70 (.inr (9, [.int 0, .int 0, .int (-1), .ref 71, .ref 72, .ref 73, .ref 74, .ref 75, .int 0, .int 0, .int 0, .int 0, .int 0, .int 0, .int 0, .int 13, .int 0, .ref 76, .int 0]))) 70 (.inr (9, [.int 0, .int 0, .int (-1), .ref 71, .ref 72, .ref 73, .ref 74, .ref 75, .int 0, .int 0, .int 0, .int 0, .int 0, .int 0, .int 0, .int 13, .int 0, .ref 76, .int 0]))) 70 (.inr (9, [.int 0, .int 0, .int (-1), .ref 71, .ref 72, .ref 73, .ref 74, .ref 75, .int 0, .int 0, .int 0, .int 0, .int 0, .int (-1), .int 0, .int 13, .int 0, .ref 76, .int 0]))) nx) := by
  refine mj_enter (by decide) (Nat.le_of_ble_eq_true rfl) ?_
  refine mv_aload_n d_Reader_begin_0 rfl rfl ?_
  refine mv_iload_n d_Reader_begin_1 rfl rfl ?_
  refine mv_put (fs' := [.int 0, .int 0, .int (-1), .ref 71, .ref 72, .ref 73, .ref 74, .ref 75, .int 0, .int 0, .int 0, .int 0, .int 0, .int 0, .int 0, .int 13, .int 0, .ref 76, .int 0]) d_Reader_begin_2 p_Reader_67_9 h_70 (Nat.le_of_ble_eq_true rfl) rfl rfl rfl ?_
  refine mv_aload_n d_Reader_begin_5 rfl rfl ?_
  refine mv_iconst (v := 0) d_Reader_begin_6 (by decide) ?_
  refine mv_put (fs' := [.int 0, .int 0, .int (-1), .ref 71, .ref 72, .ref 73, .ref 74, .ref 75, .int 0, .int 0, .int 0, .int 0, .int 0, .int 0, .int 0, .int 13, .int 0, .ref 76, .int 0]) d_Reader_begin_7 p_Reader_70_9 (mj_up_self _ _ _) (Nat.le_of_ble_eq_true rfl) rfl rfl rfl ?_
  refine mv_aload_n d_Reader_begin_10 rfl rfl ?_
  refine mv_iconst (v := (-1)) d_Reader_begin_11 (by decide) ?_
  refine mv_put (fs' := [.int 0, .int 0, .int (-1), .ref 71, .ref 72, .ref 73, .ref 74, .ref 75, .int 0, .int 0, .int 0, .int 0, .int 0, .int 0, .int 0, .int 13, .int 0, .ref 76, .int 0]) d_Reader_begin_12 p_Reader_11_9 (mj_up_self _ _ _) (Nat.le_of_ble_eq_true rfl) rfl rfl rfl ?_
  refine mv_aload_n d_Reader_begin_15 rfl rfl ?_
  refine mv_iconst (v := 0) d_Reader_begin_16 (by decide) ?_
  refine mv_put (fs' := [.int 0, .int 0, .int (-1), .ref 71, .ref 72, .ref 73, .ref 74, .ref 75, .int 0, .int 0, .int 0, .int 0, .int 0, .int 0, .int 0, .int 13, .int 0, .ref 76, .int 0]) d_Reader_begin_17 p_Reader_73_9 (mj_up_self _ _ _) (Nat.le_of_ble_eq_true rfl) rfl rfl rfl ?_
  refine mv_aload_n d_Reader_begin_20 rfl rfl ?_
  refine mv_callV_n (kc' := 0) (ks' := 0) [] [.ref 70] d_Reader_begin_21 lV_Reader_76 (mj_up_self _ _ _) rfl (c_Reader_cut_0 (d := d) (h_70 := (mj_up_self _ _ _))) rfl (Nat.le_of_ble_eq_true rfl) (Nat.le_of_ble_eq_true rfl) (Nat.le_of_ble_eq_true rfl) rfl ?_
  refine mv_aload_n d_Reader_begin_24 rfl rfl ?_
  refine mv_iconst (v := (-1)) d_Reader_begin_25 (by decide) ?_
  refine mv_put (fs' := [.int 0, .int 0, .int (-1), .ref 71, .ref 72, .ref 73, .ref 74, .ref 75, .int 0, .int (-1), .int 0, .int 0, .int 0, .int 0, .int 0, .int 13, .int 0, .ref 76, .int 0]) d_Reader_begin_26 p_Reader_79_9 (mj_up_self _ _ _) (Nat.le_of_ble_eq_true rfl) rfl rfl rfl ?_
  refine mv_aload_n d_Reader_begin_29 rfl rfl ?_
  refine mv_callV_n (kc' := 0) (ks' := 0) [] [.ref 70] d_Reader_begin_30 lV_Reader_82 (mj_up_self _ _ _) rfl (c_Reader_advance_0 (d := d) (h_70 := (mj_up_self _ _ _))) rfl (Nat.le_of_ble_eq_true rfl) (Nat.le_of_ble_eq_true rfl) (Nat.le_of_ble_eq_true rfl) rfl ?_
  exact mv_vret d_Reader_begin_33 rfl ⟨rfl, rfl, rfl⟩
theorem d_Reader_readAct_6 : decode kY_Reader_readAct.2.1 6 = .ok (.iconst 0, 1) := by decide +kernel
theorem d_Reader_readAct_7 : decode kY_Reader_readAct.2.1 7 = .ok (.istore_n 2, 1) := by decide +kernel
theorem d_Reader_readAct_8 : decode kY_Reader_readAct.2.1 8 = .ok (.iload_n 2, 1) := by decide +kernel
theorem d_Reader_readAct_9 : decode kY_Reader_readAct.2.1 9 = .ok (.bipush 20, 2) := by decide +kernel
theorem d_Reader_readAct_11 : decode kY_Reader_readAct.2.1 11 = .ok (.if_icmp .gt 26, 3) := by decide +kernel
theorem d_Reader_readAct_14 : decode kY_Reader_readAct.2.1 14 = .ok (.aload_n 0, 1) := by decide +kernel
theorem d_Reader_readAct_15 : decode kY_Reader_readAct.2.1 15 = .ok (.getfield 41, 3) := by decide +kernel
theorem f_Reader_41_9 : mj_fl "TrustDesk$Reader" 41 9 10 := ⟨kR_Reader, kF_Reader, 19, "TrustDesk$Reader", rfl, kg_9, by decide, (mj_in1 (List.mem_of_getElem? (i := 82) (by decide +kernel)) rfl), Or.inl rfl⟩
theorem d_Reader_readAct_18 : decode kY_Reader_readAct.2.1 18 = .ok (.ifCond .eq 19, 3) := by decide +kernel
theorem d_Reader_readAct_37 : decode kY_Reader_readAct.2.1 37 = .ok (.iconst 1, 1) := by decide +kernel
theorem d_Reader_readAct_38 : decode kY_Reader_readAct.2.1 38 = .ok (.ireturn, 1) := by decide +kernel
theorem c_Reader_readAct_0 {g : mj_G} {l : Launch} {d nx : Nat} {M : mj_M} (h_70 : M 70 = some (.inr (9, [.int 0, .int 0, .int (-1), .ref 71, .ref 72, .ref 73, .ref 74, .ref 75, .int 0, .int 0, .int 0, .int 0, .int 0, .int 0, .int 0, .int 0, .int 0, .ref 76, .int 0]))) : mj_Met g l kY_Reader_readAct (d + 2) [.ref 70, .ref 149] M nx 0 0 (mj_E1 (some (.int 1)) (mj_up (mj_up (mj_up (mj_up (mj_up (mj_up (mj_up (mj_up (mj_up (mj_up (mj_up M 70 (.inr (9, [.int 0, .int 0, .int (-1), .ref 71, .ref 72, .ref 73, .ref 74, .ref 75, .int 0, .int 0, .int 0, .int 0, .int 0, .int 0, .int 0, .int 13, .int 0, .ref 76, .int 0]))) 70 (.inr (9, [.int 0, .int 0, .int (-1), .ref 71, .ref 72, .ref 73, .ref 74, .ref 75, .int 0, .int 0, .int 0, .int 0, .int 0, .int 0, .int 0, .int 13, .int 0, .ref 76, .int 0]))) 70 (.inr (9, [.int 0, .int 0, .int (-1), .ref 71, .ref 72, .ref 73, .ref 74, .ref 75, .int 0, .int 0, .int 0, .int 0, .int 0, .int 0, .int 0, .int 13, .int 0, .ref 76, .int 0]))) 70 (.inr (9, [.int 0, .int 0, .int (-1), .ref 71, .ref 72, .ref 73, .ref 74, .ref 75, .int 0, .int 0, .int 0, .int 0, .int 0, .int 0, .int 0, .int 13, .int 0, .ref 76, .int 0]))) 70 (.inr (9, [.int 0, .int 0, .int (-1), .ref 71, .ref 72, .ref 73, .ref 74, .ref 75, .int 0, .int 0, .int 0, .int 0, .int 0, .int 0, .int 0, .int 13, .int 0, .ref 76, .int 0]))) 70 (.inr (9, [.int 0, .int 0, .int (-1), .ref 71, .ref 72, .ref 73, .ref 74, .ref 75, .int 0, .int (-1), .int 0, .int 0, .int 0, .int 0, .int 0, .int 13, .int 0, .ref 76, .int 0]))) 70 (.inr (9, [.int 0, .int 0, .int (-1), .ref 71, .ref 72, .ref 73, .ref 74, .ref 75, .int 0, .int 0, .int 0, .int 0, .int 0, .int 0, .int 0, .int 13, .int 0, .ref 76, .int 0]))) 70 (.inr (9, [.int 0, .int 0, .int (-1), .ref 71, .ref 72, .ref 73, .ref 74, .ref 75, .int 0, .int 0, .int 0, .int 0, .int 0, .int 0, .int 0, .int 13, .int 0, .ref 76, .int 0]))) 70 (.inr (9, [.int 0, .int 0, .int (-1), .ref 71, .ref 72, .ref 73, .ref 74, .ref 75, .int 0, .int 0, .int 0, .int 0, .int 0, .int 0, .int 0, .int 13, .int 0, .ref 76, .int 0]))) 70 (.inr (9, [.int 0, .int 0, .int (-1), .ref 71, .ref 72, .ref 73, .ref 74, .ref 75, .int 0, .int 0, .int 0, .int 0, .int 0, .int 0, .int 0, .int 13, .int 0, .ref 76, .int 0]))) 70 (.inr (9, [.int 0, .int 0, .int (-1), .ref 71, .ref 72, .ref 73, .ref 74, .ref 75, .int 0, .int 0, .int 0, .int 0, .int 0, .int (-1), .int 0, .int 13, .int 0, .ref 76, .int 0]))) nx) := by
  refine mj_enter (by decide) (Nat.le_of_ble_eq_true rfl) ?_
  refine mv_aload_n d_Reader_readAct_0 rfl rfl ?_
  refine mv_bipush (v := 13) d_Reader_readAct_1 (by decide) ?_
  refine mv_callV_n (kc' := 0) (ks' := 0) [.int 13] [.int 13, .ref 70] d_Reader_readAct_3 lV_Reader_37 h_70 rfl (c_Reader_begin_0 (d := d) (h_70 := h_70)) rfl (Nat.le_of_ble_eq_true rfl) (Nat.le_of_ble_eq_true rfl) (Nat.le_of_ble_eq_true rfl) rfl ?_
  refine mv_iconst (v := 0) d_Reader_readAct_6 (by decide) ?_
  refine mv_istore_n (lv' := [(2, .int 0), (0, .ref 70), (1, .ref 149)]) d_Reader_readAct_7 rfl (by decide) rfl ?_
  refine mv_iload_n d_Reader_readAct_8 rfl rfl ?_
  refine mv_bipush (v := 20) d_Reader_readAct_9 (by decide) ?_
  refine mv_icmp_gt_f (tgt := 37) d_Reader_readAct_11 (by decide) (by decide) ?_
  refine mv_aload_n d_Reader_readAct_14 rfl rfl ?_
  refine mv_get d_Reader_readAct_15 f_Reader_41_9 (mj_up_self _ _ _) rfl ?_
  refine mv_if_eq_t (tgt := 37) d_Reader_readAct_18 (by decide) (by decide) ?_
  refine mv_iconst (v := 1) d_Reader_readAct_37 (by decide) ?_
  exact mv_iret d_Reader_readAct_38 rfl (by first | rfl | decide) ⟨rfl, rfl, rfl⟩
theorem d_TrustDesk_act_38 : decode kY_TrustDesk_act.2.1 38 = .ok (.istore_n 3, 1) := by decide +kernel
theorem d_TrustDesk_act_39 : decode kY_TrustDesk_act.2.1 39 = .ok (.aload_n 0, 1) := by decide +kernel
theorem d_TrustDesk_act_40 : decode kY_TrustDesk_act.2.1 40 = .ok (.getfield 19, 3) := by decide +kernel
theorem d_TrustDesk_act_43 : decode kY_TrustDesk_act.2.1 43 = .ok (.iconst 0, 1) := by decide +kernel
theorem d_TrustDesk_act_44 : decode kY_TrustDesk_act.2.1 44 = .ok (.putfield 88, 3) := by decide +kernel
theorem d_TrustDesk_act_47 : decode kY_TrustDesk_act.2.1 47 = .ok (.iload_n 3, 1) := by decide +kernel
theorem d_TrustDesk_act_48 : decode kY_TrustDesk_act.2.1 48 = .ok (.ifCond .ne 13, 3) := by decide +kernel
theorem d_TrustDesk_act_61 : decode kY_TrustDesk_act.2.1 61 = .ok (.aload_n 0, 1) := by decide +kernel
theorem d_TrustDesk_act_62 : decode kY_TrustDesk_act.2.1 62 = .ok (.getfield 49, 3) := by decide +kernel
theorem d_TrustDesk_act_65 : decode kY_TrustDesk_act.2.1 65 = .ok (.aload_n 2, 1) := by decide +kernel
theorem d_TrustDesk_act_66 : decode kY_TrustDesk_act.2.1 66 = .ok (.invokevirtual 107, 3) := by decide +kernel
abbrev kY_ArrayList_add_0 : mj_Y := (⟨"java/util/ArrayList", "add", "(Ljava/lang/Object;)Z"⟩, prog_33_method_25_code, 2, (Option.some Jvm.ClassFile.FieldType.boolean))
theorem lV_TrustDesk_107 : mj_lV "TrustDesk" 107 kY_ArrayList_add_0 1 := ⟨⟨(mj_in1 (List.mem_of_getElem? (i := 625) (by decide +kernel)) rfl), (mj_in1 (List.mem_of_getElem? (i := 9) (by decide +kernel)) rfl), (mj_in1 (List.mem_of_getElem? (i := 562) (by decide +kernel)) rfl), by decide, rfl, by decide⟩, (mj_in1 (List.mem_of_getElem? (i := 560) (by decide +kernel)) rfl), (mj_in1 (List.mem_of_getElem? (i := 561) (by decide +kernel)) rfl)⟩
theorem d_ArrayList_add_0_0 : decode kY_ArrayList_add_0.2.1 0 = .ok (.aload_n 0, 1) := by decide +kernel
theorem d_ArrayList_add_0_1 : decode kY_ArrayList_add_0.2.1 1 = .ok (.dup, 1) := by decide +kernel
theorem d_ArrayList_add_0_2 : decode kY_ArrayList_add_0.2.1 2 = .ok (.getfield 63, 3) := by decide +kernel
theorem f_ArrayList_63_0 : mj_fl "java/util/ArrayList" 63 0 0 := ⟨kR_ArrayList, kF_ArrayList, 3, "java/util/ArrayList", rfl, kg_0, by decide, (mj_in1 (List.mem_of_getElem? (i := 228) (by decide +kernel)) rfl), Or.inr (mj_in1 (List.mem_of_getElem? (i := 229) (by decide +kernel)) rfl)⟩
theorem d_ArrayList_add_0_5 : decode kY_ArrayList_add_0.2.1 5 = .ok (.iconst 1, 1) := by decide +kernel
theorem d_ArrayList_add_0_6 : decode kY_ArrayList_add_0.2.1 6 = .ok (.iadd, 1) := by decide +kernel
theorem d_ArrayList_add_0_7 : decode kY_ArrayList_add_0.2.1 7 = .ok (.putfield 63, 3) := by decide +kernel
theorem p_ArrayList_63_0 : mj_fp "java/util/ArrayList" 63 0 0 (kt_ArrayList 0) false := ⟨kR_ArrayList, kF_ArrayList, 3, "java/util/ArrayList", kt_ArrayList, rfl, kg_0, by decide, (mj_in1 (List.mem_of_getElem? (i := 228) (by decide +kernel)) rfl), Or.inr (mj_in1 (List.mem_of_getElem? (i := 229) (by decide +kernel)) rfl), kto_ArrayList, kn_ArrayList, rfl, rfl, fun h => by cases h⟩
theorem d_ArrayList_add_0_10 : decode kY_ArrayList_add_0.2.1 10 = .ok (.aload_n 0, 1) := by decide +kernel
theorem d_ArrayList_add_0_11 : decode kY_ArrayList_add_0.2.1 11 = .ok (.aload_n 1, 1) := by decide +kernel
theorem d_ArrayList_add_0_12 : decode kY_ArrayList_add_0.2.1 12 = .ok (.aload_n 0, 1) := by decide +kernel
theorem d_ArrayList_add_0_13 : decode kY_ArrayList_add_0.2.1 13 = .ok (.getfield 9, 3) := by decide +kernel
theorem f_ArrayList_9_0 : mj_fl "java/util/ArrayList" 9 0 1 := ⟨kR_ArrayList, kF_ArrayList, 3, "java/util/ArrayList", rfl, kg_0, by decide, (mj_in1 (List.mem_of_getElem? (i := 225) (by decide +kernel)) rfl), Or.inl rfl⟩
theorem d_ArrayList_add_0_16 : decode kY_ArrayList_add_0.2.1 16 = .ok (.aload_n 0, 1) := by decide +kernel
theorem d_ArrayList_add_0_17 : decode kY_ArrayList_add_0.2.1 17 = .ok (.getfield 48, 3) := by decide +kernel
theorem d_ArrayList_add_0_20 : decode kY_ArrayList_add_0.2.1 20 = .ok (.invokevirtual 131, 3) := by decide +kernel
abbrev kY_ArrayList_add_1 : mj_Y := (⟨"java/util/ArrayList", "add", "(Ljava/lang/Object;[Ljava/lang/Object;I)V"⟩, prog_33_method_24_code, 4, (Option.none : Option Jvm.ClassFile.FieldType))
theorem lV_ArrayList_131 : mj_lV "java/util/ArrayList" 131 kY_ArrayList_add_1 3 := ⟨⟨(mj_in1 (List.mem_of_getElem? (i := 563) (by decide +kernel)) rfl), (mj_in1 (List.mem_of_getElem? (i := 9) (by decide +kernel)) rfl), (mj_in1 (List.mem_of_getElem? (i := 566) (by decide +kernel)) rfl), by decide, rfl, by decide⟩, (mj_in1 (List.mem_of_getElem? (i := 565) (by decide +kernel)) rfl), (mj_in (List.mem_append_left _ (List.mem_of_getElem? (i := 30) (by decide +kernel))) rfl)⟩
theorem d_ArrayList_add_1_0 : decode kY_ArrayList_add_1.2.1 0 = .ok (.iload_n 3, 1) := by decide +kernel
theorem d_ArrayList_add_1_1 : decode kY_ArrayList_add_1.2.1 1 = .ok (.aload_n 2, 1) := by decide +kernel
theorem d_ArrayList_add_1_2 : decode kY_ArrayList_add_1.2.1 2 = .ok (.arraylength, 1) := by decide +kernel
theorem d_ArrayList_add_1_3 : decode kY_ArrayList_add_1.2.1 3 = .ok (.if_icmp .ne 8, 3) := by decide +kernel
theorem d_ArrayList_add_1_6 : decode kY_ArrayList_add_1.2.1 6 = .ok (.aload_n 0, 1) := by decide +kernel
theorem d_ArrayList_add_1_7 : decode kY_ArrayList_add_1.2.1 7 = .ok (.invokevirtual 129, 3) := by decide +kernel
abbrev kY_ArrayList_grow_0 : mj_Y := (⟨"java/util/ArrayList", "grow", "()[Ljava/lang/Object;"⟩, prog_33_method_7_code, 1, (Option.some (Jvm.ClassFile.FieldType.array (Jvm.ClassFile.FieldType.object "java/lang/Object"))))
theorem lV_ArrayList_129 : mj_lV "java/util/ArrayList" 129 kY_ArrayList_grow_0 0 := ⟨⟨(mj_in1 (List.mem_of_getElem? (i := 567) (by decide +kernel)) rfl), (mj_in1 (List.mem_of_getElem? (i := 9) (by decide +kernel)) rfl), (mj_in1 (List.mem_of_getElem? (i := 570) (by decide +kernel)) rfl), by decide, rfl, by decide⟩, (mj_in1 (List.mem_of_getElem? (i := 569) (by decide +kernel)) rfl), (mj_in (List.mem_append_left _ (List.mem_of_getElem? (i := 31) (by decide +kernel))) rfl)⟩
theorem d_ArrayList_grow_0_0 : decode kY_ArrayList_grow_0.2.1 0 = .ok (.aload_n 0, 1) := by decide +kernel
theorem d_ArrayList_grow_0_1 : decode kY_ArrayList_grow_0.2.1 1 = .ok (.aload_n 0, 1) := by decide +kernel
theorem d_ArrayList_grow_0_2 : decode kY_ArrayList_grow_0.2.1 2 = .ok (.getfield 48, 3) := by decide +kernel
theorem d_ArrayList_grow_0_5 : decode kY_ArrayList_grow_0.2.1 5 = .ok (.iconst 1, 1) := by decide +kernel
theorem d_ArrayList_grow_0_6 : decode kY_ArrayList_grow_0.2.1 6 = .ok (.iadd, 1) := by decide +kernel
theorem d_ArrayList_grow_0_7 : decode kY_ArrayList_grow_0.2.1 7 = .ok (.invokevirtual 69, 3) := by decide +kernel
abbrev kY_ArrayList_grow_1 : mj_Y := (⟨"java/util/ArrayList", "grow", "(I)[Ljava/lang/Object;"⟩, prog_33_method_6_code, 4, (Option.some (Jvm.ClassFile.FieldType.array (Jvm.ClassFile.FieldType.object "java/lang/Object"))))
theorem lV_ArrayList_69 : mj_lV "java/util/ArrayList" 69 kY_ArrayList_grow_1 1 := ⟨⟨(mj_in1 (List.mem_of_getElem? (i := 571) (by decide +kernel)) rfl), (mj_in1 (List.mem_of_getElem? (i := 9) (by decide +kernel)) rfl), (mj_in1 (List.mem_of_getElem? (i := 574) (by decide +kernel)) rfl), by decide, rfl, by decide⟩, (mj_in1 (List.mem_of_getElem? (i := 573) (by decide +kernel)) rfl), (mj_in (List.mem_append_left _ (List.mem_of_getElem? (i := 32) (by decide +kernel))) rfl)⟩
theorem d_ArrayList_grow_1_0 : decode kY_ArrayList_grow_1.2.1 0 = .ok (.aload_n 0, 1) := by decide +kernel
theorem d_ArrayList_grow_1_1 : decode kY_ArrayList_grow_1.2.1 1 = .ok (.getfield 9, 3) := by decide +kernel
theorem d_ArrayList_grow_1_4 : decode kY_ArrayList_grow_1.2.1 4 = .ok (.arraylength, 1) := by decide +kernel
theorem d_ArrayList_grow_1_5 : decode kY_ArrayList_grow_1.2.1 5 = .ok (.istore_n 2, 1) := by decide +kernel
theorem d_ArrayList_grow_1_6 : decode kY_ArrayList_grow_1.2.1 6 = .ok (.iload_n 2, 1) := by decide +kernel
theorem d_ArrayList_grow_1_7 : decode kY_ArrayList_grow_1.2.1 7 = .ok (.ifCond .gt 13, 3) := by decide +kernel
theorem d_ArrayList_grow_1_10 : decode kY_ArrayList_grow_1.2.1 10 = .ok (.aload_n 0, 1) := by decide +kernel
theorem d_ArrayList_grow_1_11 : decode kY_ArrayList_grow_1.2.1 11 = .ok (.getfield 9, 3) := by decide +kernel
theorem d_ArrayList_grow_1_14 : decode kY_ArrayList_grow_1.2.1 14 = .ok (.getstatic 39, 3) := by decide +kernel
theorem d_ArrayList_grow_1_17 : decode kY_ArrayList_grow_1.2.1 17 = .ok (.if_acmp .eq 28, 3) := by decide +kernel
theorem d_ArrayList_grow_1_45 : decode kY_ArrayList_grow_1.2.1 45 = .ok (.aload_n 0, 1) := by decide +kernel
theorem d_ArrayList_grow_1_46 : decode kY_ArrayList_grow_1.2.1 46 = .ok (.bipush 10, 2) := by decide +kernel
theorem d_ArrayList_grow_1_48 : decode kY_ArrayList_grow_1.2.1 48 = .ok (.iload_n 1, 1) := by decide +kernel
theorem d_ArrayList_grow_1_49 : decode kY_ArrayList_grow_1.2.1 49 = .ok (.invokestatic 79, 3) := by decide +kernel
theorem d_ArrayList_grow_1_52 : decode kY_ArrayList_grow_1.2.1 52 = .ok (.anewarray 7, 3) := by decide +kernel
theorem d_ArrayList_grow_1_55 : decode kY_ArrayList_grow_1.2.1 55 = .ok (.dup_x1, 1) := by decide +kernel
theorem d_ArrayList_grow_1_56 : decode kY_ArrayList_grow_1.2.1 56 = .ok (.putfield 9, 3) := by decide +kernel
theorem d_ArrayList_grow_1_59 : decode kY_ArrayList_grow_1.2.1 59 = .ok (.areturn, 1) := by decide +kernel
theorem c_ArrayList_grow_1_0 {g : mj_G} {l : Launch} {d : Nat} {M : mj_M} (h_94 : M 94 = some (.inr (0, [.int 1, .ref 0, .int 0]))) : mj_Met g l kY_ArrayList_grow_1 (d + 1) [.ref 94, .int 1] M 153 1 10 (mj_E1 (some (.ref 153)) (mj_up (mj_up M 153 (.inl (4, 10, .inr (.inr (.inr (.inr (fun _ => none))))))) 94 (.inr (0, [.int 1, .ref 153, .int 0]))) 154) := by
  refine mj_enter (by decide) (Nat.le_of_ble_eq_true rfl) ?_
  refine mv_aload_n d_ArrayList_grow_1_0 rfl rfl ?_
  refine mv_get d_ArrayList_grow_1_1 f_ArrayList_9_0 h_94 rfl ?_
  refine mv_alen0 d_ArrayList_grow_1_4 ?_
  refine mv_istore_n (lv' := [(2, .int 0), (0, .ref 94), (1, .int 1)]) d_ArrayList_grow_1_5 rfl (by decide) rfl ?_
  refine mv_iload_n d_ArrayList_grow_1_6 rfl rfl ?_
  refine mv_if_gt_f (tgt := 20) d_ArrayList_grow_1_7 (by decide) (by decide) ?_
  refine mv_aload_n d_ArrayList_grow_1_10 rfl rfl ?_
  refine mv_get d_ArrayList_grow_1_11 f_ArrayList_9_0 h_94 rfl ?_
  refine mv_getsD d_ArrayList_grow_1_14 (mj_in1 (List.mem_of_getElem? (i := 223) (by decide +kernel)) rfl) ?_
  refine mv_acmp_eq_t (r := (some 0)) (tgt := 45) d_ArrayList_grow_1_17 (by decide) ?_
  refine mv_aload_n d_ArrayList_grow_1_45 rfl rfl ?_
  refine mv_bipush (v := 10) d_ArrayList_grow_1_46 (by decide) ?_
  refine mv_iload_n d_ArrayList_grow_1_48 rfl rfl ?_
  refine mv_mmax (v := 10) d_ArrayList_grow_1_49 (mj_in1 (List.mem_of_getElem? (i := 611) (by decide +kernel)) rfl) (Nat.le_of_ble_eq_true rfl) (by decide) ?_
  refine mv_newq (N := 10) (kc' := 0) (ks' := 0) d_ArrayList_grow_1_52 (mj_in1 (List.mem_of_getElem? (i := 612) (by decide +kernel)) rfl) (by decide) (by decide) (Nat.le_of_ble_eq_true rfl) (Nat.le_of_ble_eq_true rfl) (Nat.le_of_ble_eq_true rfl) ?_
  refine mv_dup_x1 d_ArrayList_grow_1_55 rfl rfl ?_
  refine mv_put (fs' := [.int 1, .ref 153, .int 0]) d_ArrayList_grow_1_56 p_ArrayList_9_0 ((mj_up_ne _ _ (Nat.ne_of_beq_eq_false rfl)).trans h_94) (Nat.le_of_ble_eq_true rfl) rfl rfl rfl ?_
  exact mv_aret (r := (some 153)) d_ArrayList_grow_1_59 rfl (by first | exact Or.inl ⟨_, rfl⟩ | exact Or.inr ⟨_, rfl⟩) ⟨rfl, rfl, rfl⟩
theorem d_ArrayList_grow_0_10 : decode kY_ArrayList_grow_0.2.1 10 = .ok (.areturn, 1) := by decide +kernel
theorem c_ArrayList_grow_0_0 {g : mj_G} {l : Launch} {d : Nat} {M : mj_M} (h_94 : M 94 = some (.inr (0, [.int 1, .ref 0, .int 0]))) : mj_Met g l kY_ArrayList_grow_0 (d + 2) [.ref 94] M 153 1 10 (mj_E1 (some (.ref 153)) (mj_up (mj_up M 153 (.inl (4, 10, .inr (.inr (.inr (.inr (fun _ => none))))))) 94 (.inr (0, [.int 1, .ref 153, .int 0]))) 154) := by
  refine mj_enter (by decide) (Nat.le_of_ble_eq_true rfl) ?_
  refine mv_aload_n d_ArrayList_grow_0_0 rfl rfl ?_
  refine mv_aload_n d_ArrayList_grow_0_1 rfl rfl ?_
  refine mv_get d_ArrayList_grow_0_2 f_ArrayList_48_0 h_94 rfl ?_
  refine mv_iconst (v := 1) d_ArrayList_grow_0_5 (by decide) ?_
  refine mv_iaddv (v := 1) d_ArrayList_grow_0_6 (by decide) ?_
  refine mv_callV_s (kc' := 0) (ks' := 0) [.int 1] [.int 1, .ref 94] d_ArrayList_grow_0_7 lV_ArrayList_69 h_94 rfl (c_ArrayList_grow_1_0 (d := d) (h_94 := h_94)) rfl (Nat.le_of_ble_eq_true rfl) (Nat.le_of_ble_eq_true rfl) (Nat.le_of_ble_eq_true rfl) rfl ?_
  exact mv_aret (r := (some 153)) d_ArrayList_grow_0_10 rfl (by first | exact Or.inl ⟨_, rfl⟩ | exact Or.inr ⟨_, rfl⟩) ⟨rfl, rfl, rfl⟩
theorem d_ArrayList_add_1_10 : decode kY_ArrayList_add_1.2.1 10 = .ok (.astore_n 2, 1) := by decide +kernel
theorem d_ArrayList_add_1_11 : decode kY_ArrayList_add_1.2.1 11 = .ok (.aload_n 2, 1) := by decide +kernel
theorem d_ArrayList_add_1_12 : decode kY_ArrayList_add_1.2.1 12 = .ok (.iload_n 3, 1) := by decide +kernel
theorem d_ArrayList_add_1_13 : decode kY_ArrayList_add_1.2.1 13 = .ok (.aload_n 1, 1) := by decide +kernel
theorem d_ArrayList_add_1_14 : decode kY_ArrayList_add_1.2.1 14 = .ok (.aastore, 1) := by decide +kernel
theorem d_ArrayList_add_1_15 : decode kY_ArrayList_add_1.2.1 15 = .ok (.aload_n 0, 1) := by decide +kernel
theorem d_ArrayList_add_1_16 : decode kY_ArrayList_add_1.2.1 16 = .ok (.iload_n 3, 1) := by decide +kernel
theorem d_ArrayList_add_1_17 : decode kY_ArrayList_add_1.2.1 17 = .ok (.iconst 1, 1) := by decide +kernel
theorem d_ArrayList_add_1_18 : decode kY_ArrayList_add_1.2.1 18 = .ok (.iadd, 1) := by decide +kernel
theorem d_ArrayList_add_1_19 : decode kY_ArrayList_add_1.2.1 19 = .ok (.putfield 48, 3) := by decide +kernel
theorem p_ArrayList_48_0 : mj_fp "java/util/ArrayList" 48 0 2 (kt_ArrayList 2) false := ⟨kR_ArrayList, kF_ArrayList, 3, "java/util/ArrayList", kt_ArrayList, rfl, kg_0, by decide, (mj_in1 (List.mem_of_getElem? (i := 226) (by decide +kernel)) rfl), Or.inl rfl, kto_ArrayList, kn_ArrayList, rfl, rfl, fun h => by cases h⟩
theorem d_ArrayList_add_1_22 : decode kY_ArrayList_add_1.2.1 22 = .ok (.return_, 1) := by decide +kernel
theorem c_ArrayList_add_1_0 {g : mj_G} {l : Launch} {d : Nat} {M : mj_M} {m0 : Int32} (h_94 : M 94 = some (.inr (0, [.int 1, .ref 0, .int 0]))) (h_149 : M 149 = some (.inr (1, [.int m0, .int 0, .ref 150, .ref 151, .ref 152]))) : mj_Met g l kY_ArrayList_add_1 (d + 3) [.ref 94, .ref 149, .ref 0, .int 0] M 153 1 10 (mj_E1 none (mj_up (mj_up (mj_up (mj_up M 153 (.inl (4, 10, .inr (.inr (.inr (.inr (fun _ => none))))))) 94 (.inr (0, [.int 1, .ref 153, .int 0]))) 153 (.inl (4, 10, .inr (.inr (.inr (.inr (va_up (fun _ => none) 0 (some 149)))))))) 94 (.inr (0, [.int 1, .ref 153, .int 1]))) 154) := by
  refine mj_enter (by decide) (Nat.le_of_ble_eq_true rfl) ?_
  refine mv_iload_n d_ArrayList_add_1_0 rfl rfl ?_
  refine mv_aload_n d_ArrayList_add_1_1 rfl rfl ?_
  refine mv_alen0 d_ArrayList_add_1_2 ?_
  refine mv_icmp_ne_f (tgt := 11) d_ArrayList_add_1_3 (by decide) (by decide) ?_
  refine mv_aload_n d_ArrayList_add_1_6 rfl rfl ?_
  refine mv_callV_s (kc' := 0) (ks' := 0) [] [.ref 94] d_ArrayList_add_1_7 lV_ArrayList_129 h_94 rfl (c_ArrayList_grow_0_0 (d := d) (h_94 := h_94)) rfl (Nat.le_of_ble_eq_true rfl) (Nat.le_of_ble_eq_true rfl) (Nat.le_of_ble_eq_true rfl) rfl ?_
  refine mv_astore_n (lv' := [(2, .ref 153), (0, .ref 94), (1, .ref 149), (3, .int 0)]) d_ArrayList_add_1_10 rfl (by decide) rfl ?_
  refine mv_aload_n d_ArrayList_add_1_11 rfl rfl ?_
  refine mv_iload_n d_ArrayList_add_1_12 rfl rfl ?_
  refine mv_aload_n d_ArrayList_add_1_13 rfl rfl ?_
  refine mv_aast (f' := (va_up (fun _ => none) 0 (some 149))) (T := kF_Act) (N := 5) d_ArrayList_add_1_14 ((mj_up_ne _ _ (Nat.ne_of_beq_eq_false rfl)).trans (mj_up_self _ _ _)) (by unfold vp_in; decide) ((mj_up_ne _ _ (Nat.ne_of_beq_eq_false rfl)).trans ((mj_up_ne _ _ (Nat.ne_of_beq_eq_false rfl)).trans h_149)) rfl (mj_in1 (List.mem_of_getElem? (i := 2104) (by decide +kernel)) rfl) rfl ?_
  refine mv_aload_n d_ArrayList_add_1_15 rfl rfl ?_
  refine mv_iload_n d_ArrayList_add_1_16 rfl rfl ?_
  refine mv_iconst (v := 1) d_ArrayList_add_1_17 (by decide) ?_
  refine mv_iaddv (v := 1) d_ArrayList_add_1_18 (by decide) ?_
  refine mv_put (fs' := [.int 1, .ref 153, .int 1]) d_ArrayList_add_1_19 p_ArrayList_48_0 ((mj_up_ne _ _ (Nat.ne_of_beq_eq_false rfl)).trans (mj_up_self _ _ _)) (Nat.le_of_ble_eq_true rfl) rfl rfl rfl ?_
  exact mv_vret d_ArrayList_add_1_22 rfl ⟨rfl, rfl, rfl⟩
theorem d_ArrayList_add_0_23 : decode kY_ArrayList_add_0.2.1 23 = .ok (.iconst 1, 1) := by decide +kernel
theorem d_ArrayList_add_0_24 : decode kY_ArrayList_add_0.2.1 24 = .ok (.ireturn, 1) := by decide +kernel
theorem c_ArrayList_add_0_0 {g : mj_G} {l : Launch} {d : Nat} {M : mj_M} {m0 : Int32} (h_94 : M 94 = some (.inr (0, [.int 0, .ref 0, .int 0]))) (h_149 : M 149 = some (.inr (1, [.int m0, .int 0, .ref 150, .ref 151, .ref 152]))) : mj_Met g l kY_ArrayList_add_0 (d + 4) [.ref 94, .ref 149] M 153 1 10 (mj_E1 (some (.int 1)) (mj_up (mj_up (mj_up (mj_up (mj_up M 94 (.inr (0, [.int 1, .ref 0, .int 0]))) 153 (.inl (4, 10, .inr (.inr (.inr (.inr (fun _ => none))))))) 94 (.inr (0, [.int 1, .ref 153, .int 0]))) 153 (.inl (4, 10, .inr (.inr (.inr (.inr (va_up (fun _ => none) 0 (some 149)))))))) 94 (.inr (0, [.int 1, .ref 153, .int 1]))) 154) := by
  refine mj_enter (by decide) (Nat.le_of_ble_eq_true rfl) ?_
  refine mv_aload_n d_ArrayList_add_0_0 rfl rfl ?_
  refine mv_dup d_ArrayList_add_0_1 rfl ?_
  refine mv_get d_ArrayList_add_0_2 f_ArrayList_63_0 h_94 rfl ?_
  refine mv_iconst (v := 1) d_ArrayList_add_0_5 (by decide) ?_
  refine mv_iaddv (v := 1) d_ArrayList_add_0_6 (by decide) ?_
  refine mv_put (fs' := [.int 1, .ref 0, .int 0]) d_ArrayList_add_0_7 p_ArrayList_63_0 h_94 (Nat.le_of_ble_eq_true rfl) rfl rfl rfl ?_
  refine mv_aload_n d_ArrayList_add_0_10 rfl rfl ?_
  refine mv_aload_n d_ArrayList_add_0_11 rfl rfl ?_
  refine mv_aload_n d_ArrayList_add_0_12 rfl rfl ?_
  refine mv_get d_ArrayList_add_0_13 f_ArrayList_9_0 (mj_up_self _ _ _) rfl ?_
  refine mv_aload_n d_ArrayList_add_0_16 rfl rfl ?_
  refine mv_get d_ArrayList_add_0_17 f_ArrayList_48_0 (mj_up_self _ _ _) rfl ?_
  refine mv_callV_n (kc' := 0) (ks' := 0) [.ref 149, .ref 0, .int 0] [.int 0, .ref 0, .ref 149, .ref 94] d_ArrayList_add_0_20 lV_ArrayList_131 (mj_up_self _ _ _) rfl (c_ArrayList_add_1_0 (d := d) (m0 := m0) (h_94 := (mj_up_self _ _ _)) (h_149 := ((mj_up_ne _ _ (Nat.ne_of_beq_eq_false rfl)).trans h_149))) rfl (Nat.le_of_ble_eq_true rfl) (Nat.le_of_ble_eq_true rfl) (Nat.le_of_ble_eq_true rfl) rfl ?_
  refine mv_iconst (v := 1) d_ArrayList_add_0_23 (by decide) ?_
  exact mv_iret d_ArrayList_add_0_24 rfl (by first | rfl | decide) ⟨rfl, rfl, rfl⟩
theorem d_TrustDesk_act_69 : decode kY_TrustDesk_act.2.1 69 = .ok (.pop, 1) := by decide +kernel
theorem d_TrustDesk_act_70 : decode kY_TrustDesk_act.2.1 70 = .ok (.aload_n 2, 1) := by decide +kernel
theorem d_TrustDesk_act_71 : decode kY_TrustDesk_act.2.1 71 = .ok (.getfield 111, 3) := by decide +kernel
theorem f_TrustDesk_111_1 : mj_fl "TrustDesk" 111 1 1 := ⟨kR_Act, kF_Act, 5, "TrustDesk$Act", rfl, kg_1, by decide, (mj_in1 (List.mem_of_getElem? (i := 248) (by decide +kernel)) rfl), Or.inl rfl⟩
theorem d_TrustDesk_act_74 : decode kY_TrustDesk_act.2.1 74 = .ok (.ireturn, 1) := by decide +kernel
theorem d_TrustDesk_act_19 : decode kY_TrustDesk_act.2.1 19 = .ok (.iconst (-1), 1) := by decide +kernel
theorem d_TrustDesk_act_20 : decode kY_TrustDesk_act.2.1 20 = .ok (.ireturn, 1) := by decide +kernel
theorem c_TrustDesk_act_0 {g : mj_G} {l : Launch} {d : Nat} {M : mj_M} {x1 : Int32} (h_64 : M 64 = some (.inr (12, [.ref 65, .ref 70, .ref 77, .ref 80, .ref 90, .ref 94, .ref 95, .ref 96, .ref 97, .ref 98, .int 0, .int 0, .int 0]))) (h_70 : M 70 = some (.inr (9, [.int 0, .int 0, .int (-1), .ref 71, .ref 72, .ref 73, .ref 74, .ref 75, .int 0, .int 0, .int 0, .int 0, .int 0, .int 0, .int 0, .int 0, .int 0, .ref 76, .int 0]))) (h_94 : M 94 = some (.inr (0, [.int 0, .ref 0, .int 0]))) : mj_Met g l kY_TrustDesk_act (d + 5) [.ref 64, .int x1] M 149 5 44 (mj_KP (some (.int (e_act x1))) M 99 149) := by
  refine mj_enter (by decide) (Nat.le_of_ble_eq_true rfl) ?_
  refine mv_iload_n d_TrustDesk_act_0 rfl rfl ?_
  refine mv_callS_b (kc' := 5) (ks' := 44) [.int x1] [.int x1] d_TrustDesk_act_1 lS_TrustDesk_94 (c_TrustDesk_isDay_0 (d := (d + 4)) (x0 := x1)) rfl (Nat.le_of_ble_eq_true rfl) (Nat.le_of_ble_eq_true rfl) (Nat.le_of_ble_eq_true rfl) rfl (fun b1 => ?_) (fun b1 => ?_)
  · refine mv_if_eq_f (tgt := 19) d_TrustDesk_act_4 (by decide) (by decide) ?_
    refine mv_aload_n d_TrustDesk_act_7 rfl rfl ?_
    refine mv_get d_TrustDesk_act_8 f_TrustDesk_49_12 h_64 rfl ?_
    refine mv_callV_s (kc' := 5) (ks' := 44) [] [.ref 94] d_TrustDesk_act_11 lV_TrustDesk_97 h_94 rfl (c_ArrayList_size_0 (d := (d + 4)) (h_94 := h_94)) rfl (Nat.le_of_ble_eq_true rfl) (Nat.le_of_ble_eq_true rfl) (Nat.le_of_ble_eq_true rfl) rfl ?_
    refine mv_bipush (v := 20) d_TrustDesk_act_14 (by decide) ?_
    refine mv_icmp_lt_t (tgt := 21) d_TrustDesk_act_16 (by decide) (by decide) ?_
    refine mv_new (kc' := 4) (ks' := 39) d_TrustDesk_act_21 n_TrustDesk_37 (Nat.le_of_ble_eq_true rfl) (Nat.le_of_ble_eq_true rfl) ?_
    refine mv_dup d_TrustDesk_act_24 rfl ?_
    refine mv_iload_n d_TrustDesk_act_25 rfl rfl ?_
    refine mv_callI_n (kc' := 1) (ks' := 10) [.int x1] [.int x1, .ref 149, .ref 149] d_TrustDesk_act_26 lI_TrustDesk_39 (c_Act_init_1 (d := d) (x1 := x1) (h_149 := (mj_up_self _ _ _))) rfl (Nat.le_of_ble_eq_true rfl) (Nat.le_of_ble_eq_true rfl) (Nat.le_of_ble_eq_true rfl) rfl ?_
    refine mv_astore_n (lv' := [(2, .ref 149), (0, .ref 64), (1, .int x1)]) d_TrustDesk_act_29 rfl (by decide) rfl ?_
    refine mv_aload_n d_TrustDesk_act_30 rfl rfl ?_
    refine mv_get d_TrustDesk_act_31 f_TrustDesk_19_12 ((mj_up_ne _ _ (Nat.ne_of_beq_eq_false rfl)).trans ((mj_up_ne _ _ (Nat.ne_of_beq_eq_false rfl)).trans ((mj_up_ne _ _ (Nat.ne_of_beq_eq_false rfl)).trans ((mj_up_ne _ _ (Nat.ne_of_beq_eq_false rfl)).trans ((mj_up_ne _ _ (Nat.ne_of_beq_eq_false rfl)).trans ((mj_up_ne _ _ (Nat.ne_of_beq_eq_false rfl)).trans ((mj_up_ne _ _ (Nat.ne_of_beq_eq_false rfl)).trans ((mj_up_ne _ _ (Nat.ne_of_beq_eq_false rfl)).trans ((mj_up_ne _ _ (Nat.ne_of_beq_eq_false rfl)).trans ((mj_up_ne _ _ (Nat.ne_of_beq_eq_false rfl)).trans h_64)))))))))) rfl ?_
    refine mv_aload_n d_TrustDesk_act_34 rfl rfl ?_
    refine mv_callV_s (kc' := 1) (ks' := 10) [.ref 149] [.ref 149, .ref 70] d_TrustDesk_act_35 lV_TrustDesk_100 ((mj_up_ne _ _ (Nat.ne_of_beq_eq_false rfl)).trans ((mj_up_ne _ _ (Nat.ne_of_beq_eq_false rfl)).trans ((mj_up_ne _ _ (Nat.ne_of_beq_eq_false rfl)).trans ((mj_up_ne _ _ (Nat.ne_of_beq_eq_false rfl)).trans ((mj_up_ne _ _ (Nat.ne_of_beq_eq_false rfl)).trans ((mj_up_ne _ _ (Nat.ne_of_beq_eq_false rfl)).trans ((mj_up_ne _ _ (Nat.ne_of_beq_eq_false rfl)).trans ((mj_up_ne _ _ (Nat.ne_of_beq_eq_false rfl)).trans ((mj_up_ne _ _ (Nat.ne_of_beq_eq_false rfl)).trans ((mj_up_ne _ _ (Nat.ne_of_beq_eq_false rfl)).trans h_70)))))))))) rfl (c_Reader_readAct_0 (d := (d + 2)) (h_70 := ((mj_up_ne _ _ (Nat.ne_of_beq_eq_false rfl)).trans ((mj_up_ne _ _ (Nat.ne_of_beq_eq_false rfl)).trans ((mj_up_ne _ _ (Nat.ne_of_beq_eq_false rfl)).trans ((mj_up_ne _ _ (Nat.ne_of_beq_eq_false rfl)).trans ((mj_up_ne _ _ (Nat.ne_of_beq_eq_false rfl)).trans ((mj_up_ne _ _ (Nat.ne_of_beq_eq_false rfl)).trans ((mj_up_ne _ _ (Nat.ne_of_beq_eq_false rfl)).trans ((mj_up_ne _ _ (Nat.ne_of_beq_eq_false rfl)).trans ((mj_up_ne _ _ (Nat.ne_of_beq_eq_false rfl)).trans ((mj_up_ne _ _ (Nat.ne_of_beq_eq_false rfl)).trans h_70)))))))))))) rfl (Nat.le_of_ble_eq_true rfl) (Nat.le_of_ble_eq_true rfl) (Nat.le_of_ble_eq_true rfl) rfl ?_
    refine mv_istore_n (lv' := [(3, .int 1), (2, .ref 149), (0, .ref 64), (1, .int x1)]) d_TrustDesk_act_38 rfl (by decide) rfl ?_
    refine mv_aload_n d_TrustDesk_act_39 rfl rfl ?_
    refine mv_get d_TrustDesk_act_40 f_TrustDesk_19_12 ((mj_up_ne _ _ (Nat.ne_of_beq_eq_false rfl)).trans ((mj_up_ne _ _ (Nat.ne_of_beq_eq_false rfl)).trans ((mj_up_ne _ _ (Nat.ne_of_beq_eq_false rfl)).trans ((mj_up_ne _ _ (Nat.ne_of_beq_eq_false rfl)).trans ((mj_up_ne _ _ (Nat.ne_of_beq_eq_false rfl)).trans ((mj_up_ne _ _ (Nat.ne_of_beq_eq_false rfl)).trans ((mj_up_ne _ _ (Nat.ne_of_beq_eq_false rfl)).trans ((mj_up_ne _ _ (Nat.ne_of_beq_eq_false rfl)).trans ((mj_up_ne _ _ (Nat.ne_of_beq_eq_false rfl)).trans ((mj_up_ne _ _ (Nat.ne_of_beq_eq_false rfl)).trans ((mj_up_ne _ _ (Nat.ne_of_beq_eq_false rfl)).trans ((mj_up_ne _ _ (Nat.ne_of_beq_eq_false rfl)).trans ((mj_up_ne _ _ (Nat.ne_of_beq_eq_false rfl)).trans ((mj_up_ne _ _ (Nat.ne_of_beq_eq_false rfl)).trans ((mj_up_ne _ _ (Nat.ne_of_beq_eq_false rfl)).trans ((mj_up_ne _ _ (Nat.ne_of_beq_eq_false rfl)).trans ((mj_up_ne _ _ (Nat.ne_of_beq_eq_false rfl)).trans ((mj_up_ne _ _ (Nat.ne_of_beq_eq_false rfl)).trans ((mj_up_ne _ _ (Nat.ne_of_beq_eq_false rfl)).trans ((mj_up_ne _ _ (Nat.ne_of_beq_eq_false rfl)).trans ((mj_up_ne _ _ (Nat.ne_of_beq_eq_false rfl)).trans h_64))))))))))))))))))))) rfl ?_
    refine mv_iconst (v := 0) d_TrustDesk_act_43 (by decide) ?_
    refine mv_put (fs' := [.int 0, .int 0, .int (-1), .ref 71, .ref 72, .ref 73, .ref 74, .ref 75, .int 0, .int 0, .int 0, .int 0, .int 0, .int (-1), .int 0, .int 13, .int 0, .ref 76, .int 0]) d_TrustDesk_act_44 p_TrustDesk_88_9 (mj_up_self _ _ _) (Nat.le_of_ble_eq_true rfl) rfl rfl rfl ?_
    refine mv_iload_n d_TrustDesk_act_47 rfl rfl ?_
    refine mv_if_ne_t (tgt := 61) d_TrustDesk_act_48 (by decide) (by decide) ?_
    refine mv_aload_n d_TrustDesk_act_61 rfl rfl ?_
    refine mv_get d_TrustDesk_act_62 f_TrustDesk_49_12 ((mj_up_ne _ _ (Nat.ne_of_beq_eq_false rfl)).trans ((mj_up_ne _ _ (Nat.ne_of_beq_eq_false rfl)).trans ((mj_up_ne _ _ (Nat.ne_of_beq_eq_false rfl)).trans ((mj_up_ne _ _ (Nat.ne_of_beq_eq_false rfl)).trans ((mj_up_ne _ _ (Nat.ne_of_beq_eq_false rfl)).trans ((mj_up_ne _ _ (Nat.ne_of_beq_eq_false rfl)).trans ((mj_up_ne _ _ (Nat.ne_of_beq_eq_false rfl)).trans ((mj_up_ne _ _ (Nat.ne_of_beq_eq_false rfl)).trans ((mj_up_ne _ _ (Nat.ne_of_beq_eq_false rfl)).trans ((mj_up_ne _ _ (Nat.ne_of_beq_eq_false rfl)).trans ((mj_up_ne _ _ (Nat.ne_of_beq_eq_false rfl)).trans ((mj_up_ne _ _ (Nat.ne_of_beq_eq_false rfl)).trans ((mj_up_ne _ _ (Nat.ne_of_beq_eq_false rfl)).trans ((mj_up_ne _ _ (Nat.ne_of_beq_eq_false rfl)).trans ((mj_up_ne _ _ (Nat.ne_of_beq_eq_false rfl)).trans ((mj_up_ne _ _ (Nat.ne_of_beq_eq_false rfl)).trans ((mj_up_ne _ _ (Nat.ne_of_beq_eq_false rfl)).trans ((mj_up_ne _ _ (Nat.ne_of_beq_eq_false rfl)).trans ((mj_up_ne _ _ (Nat.ne_of_beq_eq_false rfl)).trans ((mj_up_ne _ _ (Nat.ne_of_beq_eq_false rfl)).trans ((mj_up_ne _ _ (Nat.ne_of_beq_eq_false rfl)).trans ((mj_up_ne _ _ (Nat.ne_of_beq_eq_false rfl)).trans h_64)))))))))))))))))))))) rfl ?_
    refine mv_aload_n d_TrustDesk_act_65 rfl rfl ?_
    refine mv_callV_s (kc' := 0) (ks' := 0) [.ref 149] [.ref 149, .ref 94] d_TrustDesk_act_66 lV_TrustDesk_107 ((mj_up_ne _ _ (Nat.ne_of_beq_eq_false rfl)).trans ((mj_up_ne _ _ (Nat.ne_of_beq_eq_false rfl)).trans ((mj_up_ne _ _ (Nat.ne_of_beq_eq_false rfl)).trans ((mj_up_ne _ _ (Nat.ne_of_beq_eq_false rfl)).trans ((mj_up_ne _ _ (Nat.ne_of_beq_eq_false rfl)).trans ((mj_up_ne _ _ (Nat.ne_of_beq_eq_false rfl)).trans ((mj_up_ne _ _ (Nat.ne_of_beq_eq_false rfl)).trans ((mj_up_ne _ _ (Nat.ne_of_beq_eq_false rfl)).trans ((mj_up_ne _ _ (Nat.ne_of_beq_eq_false rfl)).trans ((mj_up_ne _ _ (Nat.ne_of_beq_eq_false rfl)).trans ((mj_up_ne _ _ (Nat.ne_of_beq_eq_false rfl)).trans ((mj_up_ne _ _ (Nat.ne_of_beq_eq_false rfl)).trans ((mj_up_ne _ _ (Nat.ne_of_beq_eq_false rfl)).trans ((mj_up_ne _ _ (Nat.ne_of_beq_eq_false rfl)).trans ((mj_up_ne _ _ (Nat.ne_of_beq_eq_false rfl)).trans ((mj_up_ne _ _ (Nat.ne_of_beq_eq_false rfl)).trans ((mj_up_ne _ _ (Nat.ne_of_beq_eq_false rfl)).trans ((mj_up_ne _ _ (Nat.ne_of_beq_eq_false rfl)).trans ((mj_up_ne _ _ (Nat.ne_of_beq_eq_false rfl)).trans ((mj_up_ne _ _ (Nat.ne_of_beq_eq_false rfl)).trans ((mj_up_ne _ _ (Nat.ne_of_beq_eq_false rfl)).trans ((mj_up_ne _ _ (Nat.ne_of_beq_eq_false rfl)).trans h_94)))))))))))))))))))))) rfl (c_ArrayList_add_0_0 (d := d) (m0 := x1) (h_94 := ((mj_up_ne _ _ (Nat.ne_of_beq_eq_false rfl)).trans ((mj_up_ne _ _ (Nat.ne_of_beq_eq_false rfl)).trans ((mj_up_ne _ _ (Nat.ne_of_beq_eq_false rfl)).trans ((mj_up_ne _ _ (Nat.ne_of_beq_eq_false rfl)).trans ((mj_up_ne _ _ (Nat.ne_of_beq_eq_false rfl)).trans ((mj_up_ne _ _ (Nat.ne_of_beq_eq_false rfl)).trans ((mj_up_ne _ _ (Nat.ne_of_beq_eq_false rfl)).trans ((mj_up_ne _ _ (Nat.ne_of_beq_eq_false rfl)).trans ((mj_up_ne _ _ (Nat.ne_of_beq_eq_false rfl)).trans ((mj_up_ne _ _ (Nat.ne_of_beq_eq_false rfl)).trans ((mj_up_ne _ _ (Nat.ne_of_beq_eq_false rfl)).trans ((mj_up_ne _ _ (Nat.ne_of_beq_eq_false rfl)).trans ((mj_up_ne _ _ (Nat.ne_of_beq_eq_false rfl)).trans ((mj_up_ne _ _ (Nat.ne_of_beq_eq_false rfl)).trans ((mj_up_ne _ _ (Nat.ne_of_beq_eq_false rfl)).trans ((mj_up_ne _ _ (Nat.ne_of_beq_eq_false rfl)).trans ((mj_up_ne _ _ (Nat.ne_of_beq_eq_false rfl)).trans ((mj_up_ne _ _ (Nat.ne_of_beq_eq_false rfl)).trans ((mj_up_ne _ _ (Nat.ne_of_beq_eq_false rfl)).trans ((mj_up_ne _ _ (Nat.ne_of_beq_eq_false rfl)).trans ((mj_up_ne _ _ (Nat.ne_of_beq_eq_false rfl)).trans ((mj_up_ne _ _ (Nat.ne_of_beq_eq_false rfl)).trans h_94))))))))))))))))))))))) (h_149 := ((mj_up_ne _ _ (Nat.ne_of_beq_eq_false rfl)).trans ((mj_up_ne _ _ (Nat.ne_of_beq_eq_false rfl)).trans ((mj_up_ne _ _ (Nat.ne_of_beq_eq_false rfl)).trans ((mj_up_ne _ _ (Nat.ne_of_beq_eq_false rfl)).trans ((mj_up_ne _ _ (Nat.ne_of_beq_eq_false rfl)).trans ((mj_up_ne _ _ (Nat.ne_of_beq_eq_false rfl)).trans ((mj_up_ne _ _ (Nat.ne_of_beq_eq_false rfl)).trans ((mj_up_ne _ _ (Nat.ne_of_beq_eq_false rfl)).trans ((mj_up_ne _ _ (Nat.ne_of_beq_eq_false rfl)).trans ((mj_up_ne _ _ (Nat.ne_of_beq_eq_false rfl)).trans ((mj_up_ne _ _ (Nat.ne_of_beq_eq_false rfl)).trans ((mj_up_ne _ _ (Nat.ne_of_beq_eq_false rfl)).trans (mj_up_self _ _ _))))))))))))))) rfl (Nat.le_of_ble_eq_true rfl) (Nat.le_of_ble_eq_true rfl) (Nat.le_of_ble_eq_true rfl) rfl ?_
    refine mv_pop d_TrustDesk_act_69 rfl ?_
    refine mv_aload_n d_TrustDesk_act_70 rfl rfl ?_
    refine mv_get d_TrustDesk_act_71 f_TrustDesk_111_1 ((mj_up_ne _ _ (Nat.ne_of_beq_eq_false rfl)).trans ((mj_up_ne _ _ (Nat.ne_of_beq_eq_false rfl)).trans ((mj_up_ne _ _ (Nat.ne_of_beq_eq_false rfl)).trans ((mj_up_ne _ _ (Nat.ne_of_beq_eq_false rfl)).trans ((mj_up_ne _ _ (Nat.ne_of_beq_eq_false rfl)).trans ((mj_up_ne _ _ (Nat.ne_of_beq_eq_false rfl)).trans ((mj_up_ne _ _ (Nat.ne_of_beq_eq_false rfl)).trans ((mj_up_ne _ _ (Nat.ne_of_beq_eq_false rfl)).trans ((mj_up_ne _ _ (Nat.ne_of_beq_eq_false rfl)).trans ((mj_up_ne _ _ (Nat.ne_of_beq_eq_false rfl)).trans ((mj_up_ne _ _ (Nat.ne_of_beq_eq_false rfl)).trans ((mj_up_ne _ _ (Nat.ne_of_beq_eq_false rfl)).trans ((mj_up_ne _ _ (Nat.ne_of_beq_eq_false rfl)).trans ((mj_up_ne _ _ (Nat.ne_of_beq_eq_false rfl)).trans ((mj_up_ne _ _ (Nat.ne_of_beq_eq_false rfl)).trans ((mj_up_ne _ _ (Nat.ne_of_beq_eq_false rfl)).trans ((mj_up_ne _ _ (Nat.ne_of_beq_eq_false rfl)).trans (mj_up_self _ _ _)))))))))))))))))) rfl ?_
    exact mv_iret d_TrustDesk_act_74 rfl (by first | rfl | decide) ⟨(by unfold e_act; first | rw [if_pos (by omega)] | rw [if_neg (by omega)]), fun a ha1 ha2 => (mj_up_ne _ _ (show a ≠ 94 by omega)).trans ((mj_up_ne _ _ (show a ≠ 153 by omega)).trans ((mj_up_ne _ _ (show a ≠ 94 by omega)).trans ((mj_up_ne _ _ (show a ≠ 153 by omega)).trans ((mj_up_ne _ _ (show a ≠ 94 by omega)).trans ((mj_up_ne _ _ (show a ≠ 70 by omega)).trans ((mj_up_ne _ _ (show a ≠ 70 by omega)).trans ((mj_up_ne _ _ (show a ≠ 70 by omega)).trans ((mj_up_ne _ _ (show a ≠ 70 by omega)).trans ((mj_up_ne _ _ (show a ≠ 70 by omega)).trans ((mj_up_ne _ _ (show a ≠ 70 by omega)).trans ((mj_up_ne _ _ (show a ≠ 70 by omega)).trans ((mj_up_ne _ _ (show a ≠ 70 by omega)).trans ((mj_up_ne _ _ (show a ≠ 70 by omega)).trans ((mj_up_ne _ _ (show a ≠ 70 by omega)).trans ((mj_up_ne _ _ (show a ≠ 70 by omega)).trans ((mj_up_ne _ _ (show a ≠ 70 by omega)).trans ((mj_up_ne _ _ (show a ≠ 149 by omega)).trans ((mj_up_ne _ _ (show a ≠ 149 by omega)).trans ((mj_up_ne _ _ (show a ≠ 152 by omega)).trans ((mj_up_ne _ _ (show a ≠ 149 by omega)).trans ((mj_up_ne _ _ (show a ≠ 151 by omega)).trans ((mj_up_ne _ _ (show a ≠ 149 by omega)).trans ((mj_up_ne _ _ (show a ≠ 150 by omega)).trans ((mj_up_ne _ _ (show a ≠ 150 by omega)).trans ((mj_up_ne _ _ (show a ≠ 150 by omega)).trans ((mj_up_ne _ _ (show a ≠ 149 by omega)).trans (rfl)))))))))))))))))))))))))))⟩
  · refine mv_if_eq_t (tgt := 19) d_TrustDesk_act_4 (by decide) (by decide) ?_
    refine mv_iconst (v := (-1)) d_TrustDesk_act_19 (by decide) ?_
    exact mv_iret d_TrustDesk_act_20 rfl (by first | rfl | decide) ⟨(by unfold e_act; first | rw [if_pos (by omega)] | rw [if_neg (by omega)]), fun a ha1 ha2 => rfl⟩
abbrev kY_TrustDesk_holds : mj_Y := (⟨"TrustDesk", "holds", "(II)I"⟩, prog_1_method_7_code, 3, (Option.some Jvm.ClassFile.FieldType.int))
theorem d_TrustDesk_holds_0 : decode kY_TrustDesk_holds.2.1 0 = .ok (.iload_n 1, 1) := by decide +kernel
theorem d_TrustDesk_holds_1 : decode kY_TrustDesk_holds.2.1 1 = .ok (.invokestatic 94, 3) := by decide +kernel
theorem d_TrustDesk_holds_4 : decode kY_TrustDesk_holds.2.1 4 = .ok (.ifCond .eq 12, 3) := by decide +kernel
theorem d_TrustDesk_holds_7 : decode kY_TrustDesk_holds.2.1 7 = .ok (.iload_n 2, 1) := by decide +kernel
theorem d_TrustDesk_holds_8 : decode kY_TrustDesk_holds.2.1 8 = .ok (.ifCond .lt 8, 3) := by decide +kernel
theorem d_TrustDesk_holds_16 : decode kY_TrustDesk_holds.2.1 16 = .ok (.iconst (-1), 1) := by decide +kernel
theorem d_TrustDesk_holds_17 : decode kY_TrustDesk_holds.2.1 17 = .ok (.ireturn, 1) := by decide +kernel
theorem d_TrustDesk_holds_11 : decode kY_TrustDesk_holds.2.1 11 = .ok (.iload_n 2, 1) := by decide +kernel
theorem d_TrustDesk_holds_12 : decode kY_TrustDesk_holds.2.1 12 = .ok (.iconst 5, 1) := by decide +kernel
theorem d_TrustDesk_holds_13 : decode kY_TrustDesk_holds.2.1 13 = .ok (.if_icmp .le 5, 3) := by decide +kernel
theorem d_TrustDesk_holds_18 : decode kY_TrustDesk_holds.2.1 18 = .ok (.aload_n 0, 1) := by decide +kernel
theorem d_TrustDesk_holds_19 : decode kY_TrustDesk_holds.2.1 19 = .ok (.iload_n 1, 1) := by decide +kernel
theorem d_TrustDesk_holds_20 : decode kY_TrustDesk_holds.2.1 20 = .ok (.invokevirtual 114, 3) := by decide +kernel
abbrev kY_TrustDesk_inForce : mj_Y := (⟨"TrustDesk", "inForce", "(I)LTrustDesk$Act;"⟩, prog_1_method_64_code, 5, (Option.some (Jvm.ClassFile.FieldType.object "TrustDesk$Act")))
theorem lV_TrustDesk_114 : mj_lV "TrustDesk" 114 kY_TrustDesk_inForce 1 := ⟨⟨(mj_in1 (List.mem_of_getElem? (i := 630) (by decide +kernel)) rfl), (mj_in1 (List.mem_of_getElem? (i := 1) (by decide +kernel)) rfl), (mj_in1 (List.mem_of_getElem? (i := 633) (by decide +kernel)) rfl), by decide, rfl, by decide⟩, (mj_in1 (List.mem_of_getElem? (i := 632) (by decide +kernel)) rfl), (mj_in (List.mem_append_left _ (List.mem_of_getElem? (i := 34) (by decide +kernel))) rfl)⟩
theorem d_TrustDesk_inForce_0 : decode kY_TrustDesk_inForce.2.1 0 = .ok (.aload_n 0, 1) := by decide +kernel
theorem d_TrustDesk_inForce_1 : decode kY_TrustDesk_inForce.2.1 1 = .ok (.getfield 42, 3) := by decide +kernel
theorem f_TrustDesk_42_12 : mj_fl "TrustDesk" 42 12 4 := ⟨kR_TrustDesk, kF_TrustDesk, 13, "TrustDesk", rfl, kg_12, by decide, (mj_in1 (List.mem_of_getElem? (i := 271) (by decide +kernel)) rfl), Or.inl rfl⟩
theorem d_TrustDesk_inForce_4 : decode kY_TrustDesk_inForce.2.1 4 = .ok (.astore_n 2, 1) := by decide +kernel
theorem d_TrustDesk_inForce_5 : decode kY_TrustDesk_inForce.2.1 5 = .ok (.iconst 0, 1) := by decide +kernel
theorem d_TrustDesk_inForce_6 : decode kY_TrustDesk_inForce.2.1 6 = .ok (.istore_n 3, 1) := by decide +kernel
theorem d_TrustDesk_inForce_7 : decode kY_TrustDesk_inForce.2.1 7 = .ok (.iload_n 3, 1) := by decide +kernel
theorem d_TrustDesk_inForce_8 : decode kY_TrustDesk_inForce.2.1 8 = .ok (.aload_n 0, 1) := by decide +kernel
theorem d_TrustDesk_inForce_9 : decode kY_TrustDesk_inForce.2.1 9 = .ok (.getfield 49, 3) := by decide +kernel
theorem d_TrustDesk_inForce_12 : decode kY_TrustDesk_inForce.2.1 12 = .ok (.invokevirtual 97, 3) := by decide +kernel
theorem d_TrustDesk_inForce_15 : decode kY_TrustDesk_inForce.2.1 15 = .ok (.if_icmp .ge 46, 3) := by decide +kernel
theorem d_TrustDesk_inForce_61 : decode kY_TrustDesk_inForce.2.1 61 = .ok (.aload_n 2, 1) := by decide +kernel
theorem d_TrustDesk_inForce_62 : decode kY_TrustDesk_inForce.2.1 62 = .ok (.areturn, 1) := by decide +kernel
theorem c_TrustDesk_inForce_0 {g : mj_G} {l : Launch} {d nx : Nat} {M : mj_M} {x1 : Int32} (h_64 : M 64 = some (.inr (12, [.ref 65, .ref 70, .ref 77, .ref 80, .ref 90, .ref 94, .ref 95, .ref 96, .ref 97, .ref 98, .int 0, .int 0, .int 0]))) (h_94 : M 94 = some (.inr (0, [.int 0, .ref 0, .int 0]))) : mj_Met g l kY_TrustDesk_inForce (d + 1) [.ref 64, .int x1] M nx 0 0 (mj_E1 (some (.ref 90)) M nx) := by
  refine mj_enter (by decide) (Nat.le_of_ble_eq_true rfl) ?_
  refine mv_aload_n d_TrustDesk_inForce_0 rfl rfl ?_
  refine mv_get d_TrustDesk_inForce_1 f_TrustDesk_42_12 h_64 rfl ?_
  refine mv_astore_n (lv' := [(2, .ref 90), (0, .ref 64), (1, .int x1)]) d_TrustDesk_inForce_4 rfl (by decide) rfl ?_
  refine mv_iconst (v := 0) d_TrustDesk_inForce_5 (by decide) ?_
  refine mv_istore_n (lv' := [(3, .int 0), (2, .ref 90), (0, .ref 64), (1, .int x1)]) d_TrustDesk_inForce_6 rfl (by decide) rfl ?_
  refine mv_iload_n d_TrustDesk_inForce_7 rfl rfl ?_
  refine mv_aload_n d_TrustDesk_inForce_8 rfl rfl ?_
  refine mv_get d_TrustDesk_inForce_9 f_TrustDesk_49_12 h_64 rfl ?_
  refine mv_callV_s (kc' := 0) (ks' := 0) [] [.ref 94, .int 0] d_TrustDesk_inForce_12 lV_TrustDesk_97 h_94 rfl (c_ArrayList_size_0 (d := d) (h_94 := h_94)) rfl (Nat.le_of_ble_eq_true rfl) (Nat.le_of_ble_eq_true rfl) (Nat.le_of_ble_eq_true rfl) rfl ?_
  refine mv_icmp_ge_t (tgt := 61) d_TrustDesk_inForce_15 (by decide) (by decide) ?_
  refine mv_aload_n d_TrustDesk_inForce_61 rfl rfl ?_
  exact mv_aret (r := (some 90)) d_TrustDesk_inForce_62 rfl (by first | exact Or.inl ⟨_, rfl⟩ | exact Or.inr ⟨_, rfl⟩) ⟨rfl, rfl, rfl⟩
theorem d_TrustDesk_holds_23 : decode kY_TrustDesk_holds.2.1 23 = .ok (.iload_n 2, 1) := by decide +kernel
theorem d_TrustDesk_holds_24 : decode kY_TrustDesk_holds.2.1 24 = .ok (.invokevirtual 118, 3) := by decide +kernel
abbrev kY_Act_rule : mj_Y := (⟨"TrustDesk$Act", "rule", "(I)I"⟩, prog_2_method_2_code, 2, (Option.some Jvm.ClassFile.FieldType.int))
theorem lV_TrustDesk_118 : mj_lV "TrustDesk" 118 kY_Act_rule 1 := ⟨⟨(mj_in1 (List.mem_of_getElem? (i := 646) (by decide +kernel)) rfl), (mj_in1 (List.mem_of_getElem? (i := 6) (by decide +kernel)) rfl), (mj_in1 (List.mem_of_getElem? (i := 649) (by decide +kernel)) rfl), by decide, rfl, by decide⟩, (mj_in1 (List.mem_of_getElem? (i := 647) (by decide +kernel)) rfl), (mj_in1 (List.mem_of_getElem? (i := 648) (by decide +kernel)) rfl)⟩
theorem d_Act_rule_0 : decode kY_Act_rule.2.1 0 = .ok (.iload_n 1, 1) := by decide +kernel
theorem d_Act_rule_1 : decode kY_Act_rule.2.1 1 = .ok (.ifCond .lt 21, 3) := by decide +kernel
theorem d_Act_rule_22 : decode kY_Act_rule.2.1 22 = .ok (.iconst (-1), 1) := by decide +kernel
theorem d_Act_rule_23 : decode kY_Act_rule.2.1 23 = .ok (.ireturn, 1) := by decide +kernel
theorem d_Act_rule_4 : decode kY_Act_rule.2.1 4 = .ok (.iload_n 1, 1) := by decide +kernel
theorem d_Act_rule_5 : decode kY_Act_rule.2.1 5 = .ok (.aload_n 0, 1) := by decide +kernel
theorem d_Act_rule_6 : decode kY_Act_rule.2.1 6 = .ok (.getfield 27, 3) := by decide +kernel
theorem f_Act_27_1 : mj_fl "TrustDesk$Act" 27 1 3 := ⟨kR_Act, kF_Act, 5, "TrustDesk$Act", rfl, kg_1, by decide, (mj_in1 (List.mem_of_getElem? (i := 252) (by decide +kernel)) rfl), Or.inl rfl⟩
theorem d_Act_rule_9 : decode kY_Act_rule.2.1 9 = .ok (.arraylength, 1) := by decide +kernel
theorem d_Act_rule_10 : decode kY_Act_rule.2.1 10 = .ok (.if_icmp .ge 12, 3) := by decide +kernel
theorem d_Act_rule_13 : decode kY_Act_rule.2.1 13 = .ok (.aload_n 0, 1) := by decide +kernel
theorem d_Act_rule_14 : decode kY_Act_rule.2.1 14 = .ok (.getfield 27, 3) := by decide +kernel
theorem d_Act_rule_17 : decode kY_Act_rule.2.1 17 = .ok (.iload_n 1, 1) := by decide +kernel
theorem d_Act_rule_18 : decode kY_Act_rule.2.1 18 = .ok (.iaload, 1) := by decide +kernel
theorem d_Act_rule_19 : decode kY_Act_rule.2.1 19 = .ok (.goto 4, 3) := by decide +kernel
theorem c_Act_rule_0 {g : mj_G} {l : Launch} {d nx : Nat} {M : mj_M} {x1 : Int32} (h_90 : M 90 = some (.inr (1, [.int 0, .int 0, .ref 91, .ref 92, .ref 93]))) (h_92 : M 92 = some (.inl (0, 6, .inl mj_rwf))) : mj_Met g l kY_Act_rule d [.ref 90, .int x1] M nx 0 0 (mj_E1 (some (.int (e_rule x1))) M nx) := by
  refine mj_enter (by decide) (Nat.le_of_ble_eq_true rfl) ?_
  refine mv_iload_n d_Act_rule_0 rfl rfl ?_
  refine mv_if_ltZ (tgt := 22) (a := x1.toInt) d_Act_rule_1 (by decide) rfl (fun b1 => ?_) (fun b1 => ?_)
  · refine mv_iconst (v := (-1)) d_Act_rule_22 (by decide) ?_
    exact mv_iret d_Act_rule_23 rfl (by first | rfl | decide) ⟨(by unfold e_rule; first | rw [if_pos (by omega)] | rw [if_neg (by omega)]), rfl, rfl⟩
  · refine mv_iload_n d_Act_rule_4 rfl rfl ?_
    refine mv_aload_n d_Act_rule_5 rfl rfl ?_
    refine mv_get d_Act_rule_6 f_Act_27_1 h_90 rfl ?_
    refine mv_alen (v := 6) d_Act_rule_9 h_92 (by decide) (by decide) ?_
    refine mv_icmp_geZ (tgt := 22) (a := x1.toInt) (b := 6) d_Act_rule_10 (by decide) rfl (by decide) (fun b2 => ?_) (fun b2 => ?_)
    · refine mv_iconst (v := (-1)) d_Act_rule_22 (by decide) ?_
      exact mv_iret d_Act_rule_23 rfl (by first | rfl | decide) ⟨(by unfold e_rule; first | rw [if_pos (by omega)] | rw [if_neg (by omega)]), rfl, rfl⟩
    · refine mv_aload_n d_Act_rule_13 rfl rfl ?_
      refine mv_get d_Act_rule_14 f_Act_27_1 h_90 rfl ?_
      refine mv_iload_n d_Act_rule_17 rfl rfl ?_
      refine mv_iald (v := (mj_rwf x1.toNatClampNeg)) d_Act_rule_18 h_92 (vp_in_iff.mpr (by omega)) rfl ?_
      refine mv_goto (tgt := 23) d_Act_rule_19 (by decide) ?_
      exact mv_iret d_Act_rule_23 rfl (by first | rfl | decide) ⟨(by unfold e_rule; first | rw [if_pos (by omega)] | rw [if_neg (by omega)]), rfl, rfl⟩
theorem d_TrustDesk_holds_27 : decode kY_TrustDesk_holds.2.1 27 = .ok (.ireturn, 1) := by decide +kernel
theorem c_TrustDesk_holds_0 {g : mj_G} {l : Launch} {d nx : Nat} {M : mj_M} {x1 : Int32} {x2 : Int32} (h_64 : M 64 = some (.inr (12, [.ref 65, .ref 70, .ref 77, .ref 80, .ref 90, .ref 94, .ref 95, .ref 96, .ref 97, .ref 98, .int 0, .int 0, .int 0]))) (h_90 : M 90 = some (.inr (1, [.int 0, .int 0, .ref 91, .ref 92, .ref 93]))) (h_92 : M 92 = some (.inl (0, 6, .inl mj_rwf))) (h_94 : M 94 = some (.inr (0, [.int 0, .ref 0, .int 0]))) : mj_Met g l kY_TrustDesk_holds (d + 2) [.ref 64, .int x1, .int x2] M nx 0 0 (mj_KP (some (.int (e_holds x1 x2))) M 99 149) := by
  refine mj_enter (by decide) (Nat.le_of_ble_eq_true rfl) ?_
  refine mv_iload_n d_TrustDesk_holds_0 rfl rfl ?_
  refine mv_callS_b (kc' := 0) (ks' := 0) [.int x1] [.int x1] d_TrustDesk_holds_1 lS_TrustDesk_94 (c_TrustDesk_isDay_0 (d := (d + 1)) (x0 := x1)) rfl (Nat.le_of_ble_eq_true rfl) (Nat.le_of_ble_eq_true rfl) (Nat.le_of_ble_eq_true rfl) rfl (fun b1 => ?_) (fun b1 => ?_)
  · refine mv_if_eq_f (tgt := 16) d_TrustDesk_holds_4 (by decide) (by decide) ?_
    refine mv_iload_n d_TrustDesk_holds_7 rfl rfl ?_
    refine mv_if_ltZ (tgt := 16) (a := x2.toInt) d_TrustDesk_holds_8 (by decide) rfl (fun b2 => ?_) (fun b2 => ?_)
    · refine mv_iconst (v := (-1)) d_TrustDesk_holds_16 (by decide) ?_
      exact mv_iret d_TrustDesk_holds_17 rfl (by first | rfl | decide) ⟨(by unfold e_holds; first | (rw [if_pos (by omega)]; unfold e_rule; rw [if_pos (by omega)]) | rw [if_neg (by omega)]), fun a ha1 ha2 => rfl⟩
    · refine mv_iload_n d_TrustDesk_holds_11 rfl rfl ?_
      refine mv_iconst (v := 5) d_TrustDesk_holds_12 (by decide) ?_
      refine mv_icmp_leZ (tgt := 18) (a := x2.toInt) (b := 5) d_TrustDesk_holds_13 (by decide) rfl (by decide) (fun b3 => ?_) (fun b3 => ?_)
      · refine mv_aload_n d_TrustDesk_holds_18 rfl rfl ?_
        refine mv_iload_n d_TrustDesk_holds_19 rfl rfl ?_
        refine mv_callV_s (kc' := 0) (ks' := 0) [.int x1] [.int x1, .ref 64] d_TrustDesk_holds_20 lV_TrustDesk_114 h_64 rfl (c_TrustDesk_inForce_0 (d := d) (x1 := x1) (h_64 := h_64) (h_94 := h_94)) rfl (Nat.le_of_ble_eq_true rfl) (Nat.le_of_ble_eq_true rfl) (Nat.le_of_ble_eq_true rfl) rfl ?_
        refine mv_iload_n d_TrustDesk_holds_23 rfl rfl ?_
        refine mv_callV_s (kc' := 0) (ks' := 0) [.int x2] [.int x2, .ref 90] d_TrustDesk_holds_24 lV_TrustDesk_118 h_90 rfl (c_Act_rule_0 (d := (d + 1)) (x1 := x2) (h_90 := h_90) (h_92 := h_92)) rfl (Nat.le_of_ble_eq_true rfl) (Nat.le_of_ble_eq_true rfl) (Nat.le_of_ble_eq_true rfl) rfl ?_
        exact mv_iret d_TrustDesk_holds_27 rfl (by first | rfl | decide) ⟨(by unfold e_holds; first | (rw [if_pos (by omega)]; unfold e_rule; rw [if_pos (by omega)]) | rw [if_neg (by omega)]), fun a ha1 ha2 => rfl⟩
      · refine mv_iconst (v := (-1)) d_TrustDesk_holds_16 (by decide) ?_
        exact mv_iret d_TrustDesk_holds_17 rfl (by first | rfl | decide) ⟨(by unfold e_holds; first | (rw [if_pos (by omega)]; unfold e_rule; rw [if_pos (by omega)]) | rw [if_neg (by omega)]), fun a ha1 ha2 => rfl⟩
  · refine mv_if_eq_t (tgt := 16) d_TrustDesk_holds_4 (by decide) (by decide) ?_
    refine mv_iconst (v := (-1)) d_TrustDesk_holds_16 (by decide) ?_
    exact mv_iret d_TrustDesk_holds_17 rfl (by first | rfl | decide) ⟨(by unfold e_holds; first | (rw [if_pos (by omega)]; unfold e_rule; rw [if_pos (by omega)]) | rw [if_neg (by omega)]), fun a ha1 ha2 => rfl⟩
abbrev kY_TrustDesk_fund : mj_Y := (⟨"TrustDesk", "fund", "(II)I"⟩, prog_1_method_8_code, 5, (Option.some Jvm.ClassFile.FieldType.int))
theorem d_TrustDesk_fund_0 : decode kY_TrustDesk_fund.2.1 0 = .ok (.iload_n 1, 1) := by decide +kernel
theorem d_TrustDesk_fund_1 : decode kY_TrustDesk_fund.2.1 1 = .ok (.ifCond .lt 32, 3) := by decide +kernel
theorem d_TrustDesk_fund_33 : decode kY_TrustDesk_fund.2.1 33 = .ok (.iconst (-1), 1) := by decide +kernel
theorem d_TrustDesk_fund_34 : decode kY_TrustDesk_fund.2.1 34 = .ok (.ireturn, 1) := by decide +kernel
theorem d_TrustDesk_fund_4 : decode kY_TrustDesk_fund.2.1 4 = .ok (.iload_n 1, 1) := by decide +kernel
theorem d_TrustDesk_fund_5 : decode kY_TrustDesk_fund.2.1 5 = .ok (.sipush 999, 3) := by decide +kernel
theorem d_TrustDesk_fund_8 : decode kY_TrustDesk_fund.2.1 8 = .ok (.if_icmp .gt 25, 3) := by decide +kernel
theorem d_TrustDesk_fund_11 : decode kY_TrustDesk_fund.2.1 11 = .ok (.iload_n 2, 1) := by decide +kernel
theorem d_TrustDesk_fund_12 : decode kY_TrustDesk_fund.2.1 12 = .ok (.ifCond .lt 21, 3) := by decide +kernel
theorem d_TrustDesk_fund_15 : decode kY_TrustDesk_fund.2.1 15 = .ok (.iload_n 2, 1) := by decide +kernel
theorem d_TrustDesk_fund_16 : decode kY_TrustDesk_fund.2.1 16 = .ok (.ldc 122, 2) := by decide +kernel
theorem k_TrustDesk_122 : Cond.constant "TrustDesk" 122 99999 ∈ mj_T := (mj_in1 (List.mem_of_getElem? (i := 654) (by decide +kernel)) rfl)
theorem d_TrustDesk_fund_18 : decode kY_TrustDesk_fund.2.1 18 = .ok (.if_icmp .gt 15, 3) := by decide +kernel
theorem d_TrustDesk_fund_21 : decode kY_TrustDesk_fund.2.1 21 = .ok (.aload_n 0, 1) := by decide +kernel
theorem d_TrustDesk_fund_22 : decode kY_TrustDesk_fund.2.1 22 = .ok (.getfield 53, 3) := by decide +kernel
theorem f_TrustDesk_53_12 : mj_fl "TrustDesk" 53 12 6 := ⟨kR_TrustDesk, kF_TrustDesk, 13, "TrustDesk", rfl, kg_12, by decide, (mj_in1 (List.mem_of_getElem? (i := 273) (by decide +kernel)) rfl), Or.inl rfl⟩
theorem d_TrustDesk_fund_25 : decode kY_TrustDesk_fund.2.1 25 = .ok (.invokevirtual 97, 3) := by decide +kernel
theorem c_ArrayList_size_1 {g : mj_G} {l : Launch} {d nx : Nat} {M : mj_M} (h_95 : M 95 = some (.inr (0, [.int 0, .ref 0, .int 0]))) : mj_Met g l kY_ArrayList_size d [.ref 95] M nx 0 0 (mj_E1 (some (.int 0)) M nx) := by
  refine mj_enter (by decide) (Nat.le_of_ble_eq_true rfl) ?_
  refine mv_aload_n d_ArrayList_size_0 rfl rfl ?_
  refine mv_get d_ArrayList_size_1 f_ArrayList_48_0 h_95 rfl ?_
  exact mv_iret d_ArrayList_size_4 rfl (by first | rfl | decide) ⟨rfl, rfl, rfl⟩
theorem d_TrustDesk_fund_28 : decode kY_TrustDesk_fund.2.1 28 = .ok (.bipush 12, 2) := by decide +kernel
theorem d_TrustDesk_fund_30 : decode kY_TrustDesk_fund.2.1 30 = .ok (.if_icmp .lt 5, 3) := by decide +kernel
theorem d_TrustDesk_fund_35 : decode kY_TrustDesk_fund.2.1 35 = .ok (.new 123, 3) := by decide +kernel
theorem kg_6 : ∀ w ∈ u_ws kR_Fund kF_Fund 15, w ∈ mj_T := fun w h => mj_in1 (ki_Fund w h) (List.all_eq_true.mp (show (u_ws kR_Fund kF_Fund 15).all mj_good = true by decide +kernel) w h)
theorem n_TrustDesk_123 : mj_nw "TrustDesk" 123 6 [.int 0, .int 0, .int 0, .long 0, .int 0, .int 0, .int 0, .int 0, .int 0, .int 0, .long 0, .null, .null, .null, .null] := ⟨kR_Fund, kF_Fund, 15, kt_Fund, rfl, kg_6, kto_Fund, (mj_in1 (List.mem_of_getElem? (i := 655) (by decide +kernel)) rfl), (mj_in1 (List.mem_of_getElem? (i := 656) (by decide +kernel)) rfl), (mj_in1 (List.mem_of_getElem? (i := 21) (by decide +kernel)) rfl), by decide +kernel, rfl, fun _ => rfl⟩
theorem d_TrustDesk_fund_38 : decode kY_TrustDesk_fund.2.1 38 = .ok (.dup, 1) := by decide +kernel
theorem d_TrustDesk_fund_39 : decode kY_TrustDesk_fund.2.1 39 = .ok (.aload_n 0, 1) := by decide +kernel
theorem d_TrustDesk_fund_40 : decode kY_TrustDesk_fund.2.1 40 = .ok (.getfield 53, 3) := by decide +kernel
theorem d_TrustDesk_fund_43 : decode kY_TrustDesk_fund.2.1 43 = .ok (.invokevirtual 97, 3) := by decide +kernel
theorem d_TrustDesk_fund_46 : decode kY_TrustDesk_fund.2.1 46 = .ok (.iload_n 1, 1) := by decide +kernel
theorem d_TrustDesk_fund_47 : decode kY_TrustDesk_fund.2.1 47 = .ok (.iload_n 2, 1) := by decide +kernel
theorem d_TrustDesk_fund_48 : decode kY_TrustDesk_fund.2.1 48 = .ok (.invokespecial 125, 3) := by decide +kernel
abbrev kY_Fund_init : mj_Y := (⟨"TrustDesk$Fund", "<init>", "(III)V"⟩, prog_7_method_1_code, 4, (Option.none : Option Jvm.ClassFile.FieldType))
theorem lI_TrustDesk_125 : mj_lI "TrustDesk" 125 kY_Fund_init 3 := ⟨⟨(mj_in1 (List.mem_of_getElem? (i := 657) (by decide +kernel)) rfl), (mj_in1 (List.mem_of_getElem? (i := 21) (by decide +kernel)) rfl), (mj_in1 (List.mem_of_getElem? (i := 659) (by decide +kernel)) rfl), by decide, rfl, by decide⟩, rfl, (mj_in1 (List.mem_of_getElem? (i := 658) (by decide +kernel)) rfl), rfl⟩
theorem d_Fund_init_0 : decode kY_Fund_init.2.1 0 = .ok (.aload_n 0, 1) := by decide +kernel
theorem d_Fund_init_1 : decode kY_Fund_init.2.1 1 = .ok (.invokespecial 3, 3) := by decide +kernel
theorem d_Fund_init_4 : decode kY_Fund_init.2.1 4 = .ok (.aload_n 0, 1) := by decide +kernel
theorem d_Fund_init_5 : decode kY_Fund_init.2.1 5 = .ok (.bipush 7, 2) := by decide +kernel
theorem d_Fund_init_7 : decode kY_Fund_init.2.1 7 = .ok (.putfield 9, 3) := by decide +kernel
theorem p_Fund_9_6 : mj_fp "TrustDesk$Fund" 9 6 5 (kt_Fund 5) false := ⟨kR_Fund, kF_Fund, 15, "TrustDesk$Fund", kt_Fund, rfl, kg_6, by decide, (mj_in1 (List.mem_of_getElem? (i := 676) (by decide +kernel)) rfl), Or.inl rfl, kto_Fund, kn_Fund, rfl, rfl, fun h => by cases h⟩
theorem d_Fund_init_10 : decode kY_Fund_init.2.1 10 = .ok (.aload_n 0, 1) := by decide +kernel
theorem d_Fund_init_11 : decode kY_Fund_init.2.1 11 = .ok (.iconst 1, 1) := by decide +kernel
theorem d_Fund_init_12 : decode kY_Fund_init.2.1 12 = .ok (.putfield 15, 3) := by decide +kernel
theorem p_Fund_15_6 : mj_fp "TrustDesk$Fund" 15 6 6 (kt_Fund 6) false := ⟨kR_Fund, kF_Fund, 15, "TrustDesk$Fund", kt_Fund, rfl, kg_6, by decide, (mj_in1 (List.mem_of_getElem? (i := 679) (by decide +kernel)) rfl), Or.inl rfl, kto_Fund, kn_Fund, rfl, rfl, fun h => by cases h⟩
theorem d_Fund_init_15 : decode kY_Fund_init.2.1 15 = .ok (.aload_n 0, 1) := by decide +kernel
theorem d_Fund_init_16 : decode kY_Fund_init.2.1 16 = .ok (.iconst (-1), 1) := by decide +kernel
theorem d_Fund_init_17 : decode kY_Fund_init.2.1 17 = .ok (.putfield 18, 3) := by decide +kernel
theorem p_Fund_18_6 : mj_fp "TrustDesk$Fund" 18 6 8 (kt_Fund 8) false := ⟨kR_Fund, kF_Fund, 15, "TrustDesk$Fund", kt_Fund, rfl, kg_6, by decide, (mj_in1 (List.mem_of_getElem? (i := 684) (by decide +kernel)) rfl), Or.inl rfl, kto_Fund, kn_Fund, rfl, rfl, fun h => by cases h⟩
theorem d_Fund_init_20 : decode kY_Fund_init.2.1 20 = .ok (.aload_n 0, 1) := by decide +kernel
theorem d_Fund_init_21 : decode kY_Fund_init.2.1 21 = .ok (.new 21, 3) := by decide +kernel
theorem n_Fund_21 : mj_nw "TrustDesk$Fund" 21 0 [.int 0, .null, .int 0] := ⟨kR_ArrayList, kF_ArrayList, 3, kt_ArrayList, rfl, kg_0, kto_ArrayList, (mj_in1 (List.mem_of_getElem? (i := 661) (by decide +kernel)) rfl), (mj_in1 (List.mem_of_getElem? (i := 212) (by decide +kernel)) rfl), (mj_in1 (List.mem_of_getElem? (i := 9) (by decide +kernel)) rfl), by decide +kernel, rfl, fun _ => rfl⟩
theorem d_Fund_init_24 : decode kY_Fund_init.2.1 24 = .ok (.dup, 1) := by decide +kernel
theorem d_Fund_init_25 : decode kY_Fund_init.2.1 25 = .ok (.invokespecial 23, 3) := by decide +kernel
theorem lI_Fund_23 : mj_lI "TrustDesk$Fund" 23 kY_ArrayList_init 0 := ⟨⟨(mj_in1 (List.mem_of_getElem? (i := 662) (by decide +kernel)) rfl), (mj_in1 (List.mem_of_getElem? (i := 9) (by decide +kernel)) rfl), (mj_in1 (List.mem_of_getElem? (i := 215) (by decide +kernel)) rfl), by decide, rfl, by decide⟩, rfl, (mj_in1 (List.mem_of_getElem? (i := 214) (by decide +kernel)) rfl), rfl⟩
theorem d_Fund_init_28 : decode kY_Fund_init.2.1 28 = .ok (.putfield 24, 3) := by decide +kernel
theorem p_Fund_24_6 : mj_fp "TrustDesk$Fund" 24 6 11 (kt_Fund 11) true := ⟨kR_Fund, kF_Fund, 15, "TrustDesk$Fund", kt_Fund, rfl, kg_6, by decide, (mj_in1 (List.mem_of_getElem? (i := 688) (by decide +kernel)) rfl), Or.inl rfl, kto_Fund, kn_Fund, rfl, rfl, fun _ => rfl⟩
theorem d_Fund_init_31 : decode kY_Fund_init.2.1 31 = .ok (.aload_n 0, 1) := by decide +kernel
theorem d_Fund_init_32 : decode kY_Fund_init.2.1 32 = .ok (.bipush 12, 2) := by decide +kernel
theorem d_Fund_init_34 : decode kY_Fund_init.2.1 34 = .ok (.newarray .int, 2) := by decide +kernel
theorem d_Fund_init_36 : decode kY_Fund_init.2.1 36 = .ok (.putfield 28, 3) := by decide +kernel
theorem p_Fund_28_6 : mj_fp "TrustDesk$Fund" 28 6 12 (kt_Fund 12) true := ⟨kR_Fund, kF_Fund, 15, "TrustDesk$Fund", kt_Fund, rfl, kg_6, by decide, (mj_in1 (List.mem_of_getElem? (i := 691) (by decide +kernel)) rfl), Or.inl rfl, kto_Fund, kn_Fund, rfl, rfl, fun _ => rfl⟩
theorem d_Fund_init_39 : decode kY_Fund_init.2.1 39 = .ok (.aload_n 0, 1) := by decide +kernel
theorem d_Fund_init_40 : decode kY_Fund_init.2.1 40 = .ok (.bipush 100, 2) := by decide +kernel
theorem d_Fund_init_42 : decode kY_Fund_init.2.1 42 = .ok (.newarray .boolean, 2) := by decide +kernel
theorem d_Fund_init_44 : decode kY_Fund_init.2.1 44 = .ok (.putfield 32, 3) := by decide +kernel
theorem p_Fund_32_6 : mj_fp "TrustDesk$Fund" 32 6 13 (kt_Fund 13) true := ⟨kR_Fund, kF_Fund, 15, "TrustDesk$Fund", kt_Fund, rfl, kg_6, by decide, (mj_in1 (List.mem_of_getElem? (i := 692) (by decide +kernel)) rfl), Or.inl rfl, kto_Fund, kn_Fund, rfl, rfl, fun _ => rfl⟩
theorem d_Fund_init_47 : decode kY_Fund_init.2.1 47 = .ok (.aload_n 0, 1) := by decide +kernel
theorem d_Fund_init_48 : decode kY_Fund_init.2.1 48 = .ok (.bipush 101, 2) := by decide +kernel
theorem d_Fund_init_50 : decode kY_Fund_init.2.1 50 = .ok (.newarray .boolean, 2) := by decide +kernel
theorem d_Fund_init_52 : decode kY_Fund_init.2.1 52 = .ok (.putfield 36, 3) := by decide +kernel
theorem p_Fund_36_6 : mj_fp "TrustDesk$Fund" 36 6 14 (kt_Fund 14) true := ⟨kR_Fund, kF_Fund, 15, "TrustDesk$Fund", kt_Fund, rfl, kg_6, by decide, (mj_in1 (List.mem_of_getElem? (i := 693) (by decide +kernel)) rfl), Or.inl rfl, kto_Fund, kn_Fund, rfl, rfl, fun _ => rfl⟩
theorem d_Fund_init_55 : decode kY_Fund_init.2.1 55 = .ok (.aload_n 0, 1) := by decide +kernel
theorem d_Fund_init_56 : decode kY_Fund_init.2.1 56 = .ok (.iload_n 1, 1) := by decide +kernel
theorem d_Fund_init_57 : decode kY_Fund_init.2.1 57 = .ok (.putfield 39, 3) := by decide +kernel
theorem p_Fund_39_6 : mj_fp "TrustDesk$Fund" 39 6 0 (kt_Fund 0) true := ⟨kR_Fund, kF_Fund, 15, "TrustDesk$Fund", kt_Fund, rfl, kg_6, by decide, (mj_in1 (List.mem_of_getElem? (i := 664) (by decide +kernel)) rfl), Or.inl rfl, kto_Fund, kn_Fund, rfl, rfl, fun _ => rfl⟩
theorem d_Fund_init_60 : decode kY_Fund_init.2.1 60 = .ok (.aload_n 0, 1) := by decide +kernel
theorem d_Fund_init_61 : decode kY_Fund_init.2.1 61 = .ok (.iload_n 2, 1) := by decide +kernel
theorem d_Fund_init_62 : decode kY_Fund_init.2.1 62 = .ok (.putfield 42, 3) := by decide +kernel
theorem p_Fund_42_6 : mj_fp "TrustDesk$Fund" 42 6 1 (kt_Fund 1) false := ⟨kR_Fund, kF_Fund, 15, "TrustDesk$Fund", kt_Fund, rfl, kg_6, by decide, (mj_in1 (List.mem_of_getElem? (i := 666) (by decide +kernel)) rfl), Or.inl rfl, kto_Fund, kn_Fund, rfl, rfl, fun h => by cases h⟩
theorem d_Fund_init_65 : decode kY_Fund_init.2.1 65 = .ok (.aload_n 0, 1) := by decide +kernel
theorem d_Fund_init_66 : decode kY_Fund_init.2.1 66 = .ok (.iload_n 3, 1) := by decide +kernel
theorem d_Fund_init_67 : decode kY_Fund_init.2.1 67 = .ok (.putfield 45, 3) := by decide +kernel
theorem p_Fund_45_6 : mj_fp "TrustDesk$Fund" 45 6 2 (kt_Fund 2) false := ⟨kR_Fund, kF_Fund, 15, "TrustDesk$Fund", kt_Fund, rfl, kg_6, by decide, (mj_in1 (List.mem_of_getElem? (i := 668) (by decide +kernel)) rfl), Or.inl rfl, kto_Fund, kn_Fund, rfl, rfl, fun h => by cases h⟩
theorem d_Fund_init_70 : decode kY_Fund_init.2.1 70 = .ok (.iload_n 1, 1) := by decide +kernel
theorem d_Fund_init_71 : decode kY_Fund_init.2.1 71 = .ok (.ifCond .lt 17, 3) := by decide +kernel
theorem d_Fund_init_74 : decode kY_Fund_init.2.1 74 = .ok (.iload_n 1, 1) := by decide +kernel
theorem d_Fund_init_75 : decode kY_Fund_init.2.1 75 = .ok (.bipush 12, 2) := by decide +kernel
theorem d_Fund_init_77 : decode kY_Fund_init.2.1 77 = .ok (.if_icmp .ge 11, 3) := by decide +kernel
theorem d_Fund_init_80 : decode kY_Fund_init.2.1 80 = .ok (.aload_n 0, 1) := by decide +kernel
theorem d_Fund_init_81 : decode kY_Fund_init.2.1 81 = .ok (.getfield 28, 3) := by decide +kernel
theorem f_Fund_28_6 : mj_fl "TrustDesk$Fund" 28 6 12 := ⟨kR_Fund, kF_Fund, 15, "TrustDesk$Fund", rfl, kg_6, by decide, (mj_in1 (List.mem_of_getElem? (i := 691) (by decide +kernel)) rfl), Or.inl rfl⟩
theorem d_Fund_init_84 : decode kY_Fund_init.2.1 84 = .ok (.iload_n 1, 1) := by decide +kernel
theorem d_Fund_init_85 : decode kY_Fund_init.2.1 85 = .ok (.ldc 48, 2) := by decide +kernel
theorem k_Fund_48 : Cond.constant "TrustDesk$Fund" 48 1000000 ∈ mj_T := (mj_in1 (List.mem_of_getElem? (i := 663) (by decide +kernel)) rfl)
theorem d_Fund_init_87 : decode kY_Fund_init.2.1 87 = .ok (.iastore, 1) := by decide +kernel
theorem d_Fund_init_88 : decode kY_Fund_init.2.1 88 = .ok (.return_, 1) := by decide +kernel
theorem c_Fund_init_0 {g : mj_G} {l : Launch} {d : Nat} {M : mj_M} {x2 : Int32} {x3 : Int32} (h_149 : M 149 = some (.inr (6, [.int 0, .int 0, .int 0, .long 0, .int 0, .int 0, .int 0, .int 0, .int 0, .int 0, .long 0, .null, .null, .null, .null]))) : mj_Met g l kY_Fund_init (d + 4) [.ref 149, .int 0, .int x2, .int x3] M 150 4 216 (mj_E1 none (mj_up (mj_up (mj_up (mj_up (mj_up (mj_up (mj_up (mj_up (mj_up (mj_up (mj_up (mj_up (mj_up (mj_up (mj_up (mj_up (mj_up M 149 (.inr (6, [.int 0, .int 0, .int 0, .long 0, .int 0, .int 7, .int 0, .int 0, .int 0, .int 0, .long 0, .null, .null, .null, .null]))) 149 (.inr (6, [.int 0, .int 0, .int 0, .long 0, .int 0, .int 7, .int 1, .int 0, .int 0, .int 0, .long 0, .null, .null, .null, .null]))) 149 (.inr (6, [.int 0, .int 0, .int 0, .long 0, .int 0, .int 7, .int 1, .int 0, .int (-1), .int 0, .long 0, .null, .null, .null, .null]))) 150 (.inr (0, [.int 0, .null, .int 0]))) 150 (.inr (0, [.int 0, .null, .int 0]))) 150 (.inr (0, [.int 0, .ref 0, .int 0]))) 149 (.inr (6, [.int 0, .int 0, .int 0, .long 0, .int 0, .int 7, .int 1, .int 0, .int (-1), .int 0, .long 0, .ref 150, .null, .null, .null]))) 151 (.inl (0, 12, .inl (fun _ => 0)))) 149 (.inr (6, [.int 0, .int 0, .int 0, .long 0, .int 0, .int 7, .int 1, .int 0, .int (-1), .int 0, .long 0, .ref 150, .ref 151, .null, .null]))) 152 (.inl (2, 100, .inl (fun _ => 0)))) 149 (.inr (6, [.int 0, .int 0, .int 0, .long 0, .int 0, .int 7, .int 1, .int 0, .int (-1), .int 0, .long 0, .ref 150, .ref 151, .ref 152, .null]))) 153 (.inl (2, 101, .inl (fun _ => 0)))) 149 (.inr (6, [.int 0, .int 0, .int 0, .long 0, .int 0, .int 7, .int 1, .int 0, .int (-1), .int 0, .long 0, .ref 150, .ref 151, .ref 152, .ref 153]))) 149 (.inr (6, [.int 0, .int 0, .int 0, .long 0, .int 0, .int 7, .int 1, .int 0, .int (-1), .int 0, .long 0, .ref 150, .ref 151, .ref 152, .ref 153]))) 149 (.inr (6, [.int 0, .int x2, .int 0, .long 0, .int 0, .int 7, .int 1, .int 0, .int (-1), .int 0, .long 0, .ref 150, .ref 151, .ref 152, .ref 153]))) 149 (.inr (6, [.int 0, .int x2, .int x3, .long 0, .int 0, .int 7, .int 1, .int 0, .int (-1), .int 0, .long 0, .ref 150, .ref 151, .ref 152, .ref 153]))) 151 (.inl (0, 12, .inl (upd (fun _ => 0) 0 1000000)))) 154) := by
  refine mj_enter (by decide) (Nat.le_of_ble_eq_true rfl) ?_
  refine mv_aload_n d_Fund_init_0 rfl rfl ?_
  refine mv_oinit d_Fund_init_1 (mj_in1 (List.mem_of_getElem? (i := 660) (by decide +kernel)) rfl) (Nat.le_of_ble_eq_true rfl) ?_
  refine mv_aload_n d_Fund_init_4 rfl rfl ?_
  refine mv_bipush (v := 7) d_Fund_init_5 (by decide) ?_
  refine mv_put (fs' := [.int 0, .int 0, .int 0, .long 0, .int 0, .int 7, .int 0, .int 0, .int 0, .int 0, .long 0, .null, .null, .null, .null]) d_Fund_init_7 p_Fund_9_6 h_149 (Nat.le_of_ble_eq_true rfl) rfl rfl rfl ?_
  refine mv_aload_n d_Fund_init_10 rfl rfl ?_
  refine mv_iconst (v := 1) d_Fund_init_11 (by decide) ?_
  refine mv_put (fs' := [.int 0, .int 0, .int 0, .long 0, .int 0, .int 7, .int 1, .int 0, .int 0, .int 0, .long 0, .null, .null, .null, .null]) d_Fund_init_12 p_Fund_15_6 (mj_up_self _ _ _) (Nat.le_of_ble_eq_true rfl) rfl rfl rfl ?_
  refine mv_aload_n d_Fund_init_15 rfl rfl ?_
  refine mv_iconst (v := (-1)) d_Fund_init_16 (by decide) ?_
  refine mv_put (fs' := [.int 0, .int 0, .int 0, .long 0, .int 0, .int 7, .int 1, .int 0, .int (-1), .int 0, .long 0, .null, .null, .null, .null]) d_Fund_init_17 p_Fund_18_6 (mj_up_self _ _ _) (Nat.le_of_ble_eq_true rfl) rfl rfl rfl ?_
  refine mv_aload_n d_Fund_init_20 rfl rfl ?_
  refine mv_new (kc' := 3) (ks' := 213) d_Fund_init_21 n_Fund_21 (Nat.le_of_ble_eq_true rfl) (Nat.le_of_ble_eq_true rfl) ?_
  refine mv_dup d_Fund_init_24 rfl ?_
  refine mv_callI_n (kc' := 3) (ks' := 213) [] [.ref 150, .ref 150, .ref 149] d_Fund_init_25 lI_Fund_23 (c_ArrayList_init_5 (d := d) (h_150 := (mj_up_self _ _ _))) rfl (Nat.le_of_ble_eq_true rfl) (Nat.le_of_ble_eq_true rfl) (Nat.le_of_ble_eq_true rfl) rfl ?_
  refine mv_putF (fs' := [.int 0, .int 0, .int 0, .long 0, .int 0, .int 7, .int 1, .int 0, .int (-1), .int 0, .long 0, .ref 150, .null, .null, .null]) d_Fund_init_28 p_Fund_24_6 rfl ((mj_up_ne _ _ (Nat.ne_of_beq_eq_false rfl)).trans ((mj_up_ne _ _ (Nat.ne_of_beq_eq_false rfl)).trans ((mj_up_ne _ _ (Nat.ne_of_beq_eq_false rfl)).trans (mj_up_self _ _ _)))) (Nat.le_of_ble_eq_true rfl) rfl rfl rfl ?_
  refine mv_aload_n d_Fund_init_31 rfl rfl ?_
  refine mv_bipush (v := 12) d_Fund_init_32 (by decide) ?_
  refine mv_newa_int (N := 12) (kc' := 2) (ks' := 201) d_Fund_init_34 (by decide) (by decide) (Nat.le_of_ble_eq_true rfl) (Nat.le_of_ble_eq_true rfl) (Nat.le_of_ble_eq_true rfl) ?_
  refine mv_putF (fs' := [.int 0, .int 0, .int 0, .long 0, .int 0, .int 7, .int 1, .int 0, .int (-1), .int 0, .long 0, .ref 150, .ref 151, .null, .null]) d_Fund_init_36 p_Fund_28_6 rfl ((mj_up_ne _ _ (Nat.ne_of_beq_eq_false rfl)).trans (mj_up_self _ _ _)) (Nat.le_of_ble_eq_true rfl) rfl rfl rfl ?_
  refine mv_aload_n d_Fund_init_39 rfl rfl ?_
  refine mv_bipush (v := 100) d_Fund_init_40 (by decide) ?_
  refine mv_newa_bool (N := 100) (kc' := 1) (ks' := 101) d_Fund_init_42 (by decide) (by decide) (Nat.le_of_ble_eq_true rfl) (Nat.le_of_ble_eq_true rfl) (Nat.le_of_ble_eq_true rfl) ?_
  refine mv_putF (fs' := [.int 0, .int 0, .int 0, .long 0, .int 0, .int 7, .int 1, .int 0, .int (-1), .int 0, .long 0, .ref 150, .ref 151, .ref 152, .null]) d_Fund_init_44 p_Fund_32_6 rfl ((mj_up_ne _ _ (Nat.ne_of_beq_eq_false rfl)).trans (mj_up_self _ _ _)) (Nat.le_of_ble_eq_true rfl) rfl rfl rfl ?_
  refine mv_aload_n d_Fund_init_47 rfl rfl ?_
  refine mv_bipush (v := 101) d_Fund_init_48 (by decide) ?_
  refine mv_newa_bool (N := 101) (kc' := 0) (ks' := 0) d_Fund_init_50 (by decide) (by decide) (Nat.le_of_ble_eq_true rfl) (Nat.le_of_ble_eq_true rfl) (Nat.le_of_ble_eq_true rfl) ?_
  refine mv_putF (fs' := [.int 0, .int 0, .int 0, .long 0, .int 0, .int 7, .int 1, .int 0, .int (-1), .int 0, .long 0, .ref 150, .ref 151, .ref 152, .ref 153]) d_Fund_init_52 p_Fund_36_6 rfl ((mj_up_ne _ _ (Nat.ne_of_beq_eq_false rfl)).trans (mj_up_self _ _ _)) (Nat.le_of_ble_eq_true rfl) rfl rfl rfl ?_
  refine mv_aload_n d_Fund_init_55 rfl rfl ?_
  refine mv_iload_n d_Fund_init_56 rfl rfl ?_
  refine mv_putF (fs' := [.int 0, .int 0, .int 0, .long 0, .int 0, .int 7, .int 1, .int 0, .int (-1), .int 0, .long 0, .ref 150, .ref 151, .ref 152, .ref 153]) d_Fund_init_57 p_Fund_39_6 rfl (mj_up_self _ _ _) (Nat.le_of_ble_eq_true rfl) rfl rfl rfl ?_
  refine mv_aload_n d_Fund_init_60 rfl rfl ?_
  refine mv_iload_n d_Fund_init_61 rfl rfl ?_
  refine mv_put (fs' := [.int 0, .int x2, .int 0, .long 0, .int 0, .int 7, .int 1, .int 0, .int (-1), .int 0, .long 0, .ref 150, .ref 151, .ref 152, .ref 153]) d_Fund_init_62 p_Fund_42_6 (mj_up_self _ _ _) (Nat.le_of_ble_eq_true rfl) rfl rfl rfl ?_
  refine mv_aload_n d_Fund_init_65 rfl rfl ?_
  refine mv_iload_n d_Fund_init_66 rfl rfl ?_
  refine mv_put (fs' := [.int 0, .int x2, .int x3, .long 0, .int 0, .int 7, .int 1, .int 0, .int (-1), .int 0, .long 0, .ref 150, .ref 151, .ref 152, .ref 153]) d_Fund_init_67 p_Fund_45_6 (mj_up_self _ _ _) (Nat.le_of_ble_eq_true rfl) rfl rfl rfl ?_
  refine mv_iload_n d_Fund_init_70 rfl rfl ?_
  refine mv_if_lt_f (tgt := 88) d_Fund_init_71 (by decide) (by decide) ?_
  refine mv_iload_n d_Fund_init_74 rfl rfl ?_
  refine mv_bipush (v := 12) d_Fund_init_75 (by decide) ?_
  refine mv_icmp_ge_f (tgt := 88) d_Fund_init_77 (by decide) (by decide) ?_
  refine mv_aload_n d_Fund_init_80 rfl rfl ?_
  refine mv_get d_Fund_init_81 f_Fund_28_6 (mj_up_self _ _ _) rfl ?_
  refine mv_iload_n d_Fund_init_84 rfl rfl ?_
  refine mv_ldc d_Fund_init_85 k_Fund_48 ?_
  refine mv_iast (f' := (upd (fun _ => 0) 0 1000000)) d_Fund_init_87 ((mj_up_ne _ _ (Nat.ne_of_beq_eq_false rfl)).trans ((mj_up_ne _ _ (Nat.ne_of_beq_eq_false rfl)).trans ((mj_up_ne _ _ (Nat.ne_of_beq_eq_false rfl)).trans ((mj_up_ne _ _ (Nat.ne_of_beq_eq_false rfl)).trans ((mj_up_ne _ _ (Nat.ne_of_beq_eq_false rfl)).trans ((mj_up_ne _ _ (Nat.ne_of_beq_eq_false rfl)).trans ((mj_up_ne _ _ (Nat.ne_of_beq_eq_false rfl)).trans ((mj_up_ne _ _ (Nat.ne_of_beq_eq_false rfl)).trans (mj_up_self _ _ _))))))))) (by unfold vp_in; decide) rfl ?_
  exact mv_vret d_Fund_init_88 rfl ⟨rfl, rfl, rfl⟩
theorem d_TrustDesk_fund_51 : decode kY_TrustDesk_fund.2.1 51 = .ok (.astore_n 3, 1) := by decide +kernel
theorem d_TrustDesk_fund_52 : decode kY_TrustDesk_fund.2.1 52 = .ok (.aload_n 0, 1) := by decide +kernel
theorem d_TrustDesk_fund_53 : decode kY_TrustDesk_fund.2.1 53 = .ok (.getfield 19, 3) := by decide +kernel
theorem d_TrustDesk_fund_56 : decode kY_TrustDesk_fund.2.1 56 = .ok (.aload_n 3, 1) := by decide +kernel
theorem d_TrustDesk_fund_57 : decode kY_TrustDesk_fund.2.1 57 = .ok (.invokevirtual 128, 3) := by decide +kernel
abbrev kY_Reader_readDeed : mj_Y := (⟨"TrustDesk$Reader", "readDeed", "(LTrustDesk$Fund;)Z"⟩, prog_10_method_4_code, 3, (Option.some Jvm.ClassFile.FieldType.boolean))
theorem lV_TrustDesk_128 : mj_lV "TrustDesk" 128 kY_Reader_readDeed 1 := ⟨⟨(mj_in1 (List.mem_of_getElem? (i := 726) (by decide +kernel)) rfl), (mj_in1 (List.mem_of_getElem? (i := 3) (by decide +kernel)) rfl), (mj_in1 (List.mem_of_getElem? (i := 729) (by decide +kernel)) rfl), by decide, rfl, by decide⟩, (mj_in1 (List.mem_of_getElem? (i := 727) (by decide +kernel)) rfl), (mj_in1 (List.mem_of_getElem? (i := 728) (by decide +kernel)) rfl)⟩
theorem d_Reader_readDeed_0 : decode kY_Reader_readDeed.2.1 0 = .ok (.aload_n 0, 1) := by decide +kernel
theorem d_Reader_readDeed_1 : decode kY_Reader_readDeed.2.1 1 = .ok (.bipush 10, 2) := by decide +kernel
theorem d_Reader_readDeed_3 : decode kY_Reader_readDeed.2.1 3 = .ok (.invokevirtual 37, 3) := by decide +kernel
theorem c_Reader_cut_1 {g : mj_G} {l : Launch} {d nx : Nat} {M : mj_M} (h_70 : M 70 = some (.inr (9, [.int 0, .int 0, .int (-1), .ref 71, .ref 72, .ref 73, .ref 74, .ref 75, .int 0, .int 0, .int 0, .int 0, .int 0, .int 0, .int 0, .int 10, .int 0, .ref 76, .int 0]))) : mj_Met g l kY_Reader_cut d [.ref 70] M nx 0 0 (mj_E1 none (mj_up M 70 (.inr (9, [.int 0, .int 0, .int (-1), .ref 71, .ref 72, .ref 73, .ref 74, .ref 75, .int 0, .int 0, .int 0, .int 0, .int 0, .int 0, .int 0, .int 10, .int 0, .ref 76, .int 0]))) nx) := by
  refine mj_enter (by decide) (Nat.le_of_ble_eq_true rfl) ?_
  refine mv_aload_n d_Reader_cut_0 rfl rfl ?_
  refine mv_iconst (v := 0) d_Reader_cut_1 (by decide) ?_
  refine mv_put (fs' := [.int 0, .int 0, .int (-1), .ref 71, .ref 72, .ref 73, .ref 74, .ref 75, .int 0, .int 0, .int 0, .int 0, .int 0, .int 0, .int 0, .int 10, .int 0, .ref 76, .int 0]) d_Reader_cut_2 p_Reader_244_9 h_70 (Nat.le_of_ble_eq_true rfl) rfl rfl rfl ?_
  refine mv_iconst (v := 0) d_Reader_cut_5 (by decide) ?_
  refine mv_istore_n (lv' := [(1, .int 0), (0, .ref 70)]) d_Reader_cut_6 rfl (by decide) rfl ?_
  refine mv_iload_n d_Reader_cut_7 rfl rfl ?_
  refine mv_aload_n d_Reader_cut_8 rfl rfl ?_
  refine mv_get d_Reader_cut_9 f_Reader_34_9 (mj_up_self _ _ _) rfl ?_
  refine mv_icmp_ge_t (tgt := 70) d_Reader_cut_12 (by decide) (by decide) ?_
  exact mv_vret d_Reader_cut_70 rfl ⟨rfl, rfl, rfl⟩
theorem c_Reader_advance_1 {g : mj_G} {l : Launch} {d nx : Nat} {M : mj_M} (h_70 : M 70 = some (.inr (9, [.int 0, .int 0, .int (-1), .ref 71, .ref 72, .ref 73, .ref 74, .ref 75, .int 0, .int (-1), .int 0, .int 0, .int 0, .int 0, .int 0, .int 10, .int 0, .ref 76, .int 0]))) : mj_Met g l kY_Reader_advance d [.ref 70] M nx 0 0 (mj_E1 none (mj_up (mj_up (mj_up (mj_up (mj_up M 70 (.inr (9, [.int 0, .int 0, .int (-1), .ref 71, .ref 72, .ref 73, .ref 74, .ref 75, .int 0, .int 0, .int 0, .int 0, .int 0, .int 0, .int 0, .int 10, .int 0, .ref 76, .int 0]))) 70 (.inr (9, [.int 0, .int 0, .int (-1), .ref 71, .ref 72, .ref 73, .ref 74, .ref 75, .int 0, .int 0, .int 0, .int 0, .int 0, .int 0, .int 0, .int 10, .int 0, .ref 76, .int 0]))) 70 (.inr (9, [.int 0, .int 0, .int (-1), .ref 71, .ref 72, .ref 73, .ref 74, .ref 75, .int 0, .int 0, .int 0, .int 0, .int 0, .int 0, .int 0, .int 10, .int 0, .ref 76, .int 0]))) 70 (.inr (9, [.int 0, .int 0, .int (-1), .ref 71, .ref 72, .ref 73, .ref 74, .ref 75, .int 0, .int 0, .int 0, .int 0, .int 0, .int 0, .int 0, .int 10, .int 0, .ref 76, .int 0]))) 70 (.inr (9, [.int 0, .int 0, .int (-1), .ref 71, .ref 72, .ref 73, .ref 74, .ref 75, .int 0, .int 0, .int 0, .int 0, .int 0, .int (-1), .int 0, .int 10, .int 0, .ref 76, .int 0]))) nx) := by
  refine mj_enter (by decide) (Nat.le_of_ble_eq_true rfl) ?_
  refine mv_aload_n d_Reader_advance_0 rfl rfl ?_
  refine mv_dup d_Reader_advance_1 rfl ?_
  refine mv_get d_Reader_advance_2 f_Reader_79_9 h_70 rfl ?_
  refine mv_iconst (v := 1) d_Reader_advance_5 (by decide) ?_
  refine mv_iaddv (v := 0) d_Reader_advance_6 (by decide) ?_
  refine mv_put (fs' := [.int 0, .int 0, .int (-1), .ref 71, .ref 72, .ref 73, .ref 74, .ref 75, .int 0, .int 0, .int 0, .int 0, .int 0, .int 0, .int 0, .int 10, .int 0, .ref 76, .int 0]) d_Reader_advance_7 p_Reader_79_9 h_70 (Nat.le_of_ble_eq_true rfl) rfl rfl rfl ?_
  refine mv_aload_n d_Reader_advance_10 rfl rfl ?_
  refine mv_get d_Reader_advance_11 f_Reader_79_9 (mj_up_self _ _ _) rfl ?_
  refine mv_if_lt_f (tgt := 42) d_Reader_advance_14 (by decide) (by decide) ?_
  refine mv_aload_n d_Reader_advance_17 rfl rfl ?_
  refine mv_get d_Reader_advance_18 f_Reader_79_9 (mj_up_self _ _ _) rfl ?_
  refine mv_aload_n d_Reader_advance_21 rfl rfl ?_
  refine mv_get d_Reader_advance_22 f_Reader_244_9 (mj_up_self _ _ _) rfl ?_
  refine mv_icmp_ge_t (tgt := 42) d_Reader_advance_25 (by decide) (by decide) ?_
  refine mv_iconst (v := 0) d_Reader_advance_42 (by decide) ?_
  refine mv_istore_n (lv' := [(1, .int 0), (0, .ref 70)]) d_Reader_advance_43 rfl (by decide) rfl ?_
  refine mv_aload_n d_Reader_advance_44 rfl rfl ?_
  refine mv_iload_n d_Reader_advance_45 rfl rfl ?_
  refine mv_if_eq_t (tgt := 61) d_Reader_advance_46 (by decide) (by decide) ?_
  refine mv_iconst (v := 0) d_Reader_advance_61 (by decide) ?_
  refine mv_put (fs' := [.int 0, .int 0, .int (-1), .ref 71, .ref 72, .ref 73, .ref 74, .ref 75, .int 0, .int 0, .int 0, .int 0, .int 0, .int 0, .int 0, .int 10, .int 0, .ref 76, .int 0]) d_Reader_advance_62 p_Reader_41_9 (mj_up_self _ _ _) (Nat.le_of_ble_eq_true rfl) rfl rfl rfl ?_
  refine mv_aload_n d_Reader_advance_65 rfl rfl ?_
  refine mv_iload_n d_Reader_advance_66 rfl rfl ?_
  refine mv_if_eq_t (tgt := 82) d_Reader_advance_67 (by decide) (by decide) ?_
  refine mv_aload_n d_Reader_advance_82 rfl rfl ?_
  refine mv_get d_Reader_advance_83 f_Reader_34_9 (mj_up_self _ _ _) rfl ?_
  refine mv_put (fs' := [.int 0, .int 0, .int (-1), .ref 71, .ref 72, .ref 73, .ref 74, .ref 75, .int 0, .int 0, .int 0, .int 0, .int 0, .int 0, .int 0, .int 10, .int 0, .ref 76, .int 0]) d_Reader_advance_86 p_Reader_175_9 (mj_up_self _ _ _) (Nat.le_of_ble_eq_true rfl) rfl rfl rfl ?_
  refine mv_aload_n d_Reader_advance_89 rfl rfl ?_
  refine mv_iload_n d_Reader_advance_90 rfl rfl ?_
  refine mv_if_eq_t (tgt := 106) d_Reader_advance_91 (by decide) (by decide) ?_
  refine mv_aload_n d_Reader_advance_106 rfl rfl ?_
  refine mv_get d_Reader_advance_107 f_Reader_34_9 (mj_up_self _ _ _) rfl ?_
  refine mv_put (fs' := [.int 0, .int 0, .int (-1), .ref 71, .ref 72, .ref 73, .ref 74, .ref 75, .int 0, .int 0, .int 0, .int 0, .int 0, .int 0, .int 0, .int 10, .int 0, .ref 76, .int 0]) d_Reader_advance_110 p_Reader_172_9 (mj_up_self _ _ _) (Nat.le_of_ble_eq_true rfl) rfl rfl rfl ?_
  refine mv_aload_n d_Reader_advance_113 rfl rfl ?_
  refine mv_iload_n d_Reader_advance_114 rfl rfl ?_
  refine mv_if_eq_t (tgt := 130) d_Reader_advance_115 (by decide) (by decide) ?_
  refine mv_iconst (v := (-1)) d_Reader_advance_130 (by decide) ?_
  refine mv_put (fs' := [.int 0, .int 0, .int (-1), .ref 71, .ref 72, .ref 73, .ref 74, .ref 75, .int 0, .int 0, .int 0, .int 0, .int 0, .int (-1), .int 0, .int 10, .int 0, .ref 76, .int 0]) d_Reader_advance_131 p_Reader_241_9 (mj_up_self _ _ _) (Nat.le_of_ble_eq_true rfl) rfl rfl rfl ?_
  exact mv_vret d_Reader_advance_134 rfl ⟨rfl, rfl, rfl⟩
theorem c_Reader_begin_1 {g : mj_G} {l : Launch} {d nx : Nat} {M : mj_M} (h_70 : M 70 = some (.inr (9, [.int 0, .int 0, .int (-1), .ref 71, .ref 72, .ref 73, .ref 74, .ref 75, .int 0, .int 0, .int 0, .int 0, .int 0, .int 0, .int 0, .int 0, .int 0, .ref 76, .int 0]))) : mj_Met g l kY_Reader_begin (d + 1) [.ref 70, .int 10] M nx 0 0 (mj_E1 none (mj_up (mj_up (mj_up (mj_up (mj_up (mj_up (mj_up (mj_up (mj_up (mj_up (mj_up M 70 (.inr (9, [.int 0, .int 0, .int (-1), .ref 71, .ref 72, .ref 73, .ref 74, .ref 75, .int 0, .int 0, .int 0, .int 0, .int 0, .int 0, .int 0, .int 10, .int 0, .ref 76, .int 0]))) 70 (.inr (9, [.int 0, .int 0, .int (-1), .ref 71, .ref 72, .ref 73, .ref 74, .ref 75, .int 0, .int 0, .int 0, .int 0, .int 0, .int 0, .int 0, .int 10, .int 0, .ref 76, .int 0]))) 70 (.inr (9, [.int 0, .int 0, .int (-1), .ref 71, .ref 72, .ref 73, .ref 74, .ref 75, .int 0, .int 0, .int 0, .int 0, .int 0, .int 0, .int 0, .int 10, .int 0, .ref 76, .int 0]))) 70 (.inr (9, [.int 0, .int 0, .int (-1), .ref 71, .ref 72, .ref 73, .ref 74, .ref 75, .int 0, .int 0, .int 0, .int 0, .int 0, .int 0, .int 0, .int 10, .int 0, .ref 76, .int 0]))) 70 (.inr (9, [.int 0, .int 0, .int (-1), .ref 71, .ref 72, .ref 73, .ref 74, .ref 75, .int 0, .int 0, .int 0, .int 0, .int 0, .int 0, .int 0, .int 10, .int 0, .ref 76, .int 0]))) 70 (.inr (9, [.int 0, .int 0, .int (-1), .ref 71, .ref 72, .ref 73, .ref 74, .ref 75, .int 0, .int (-1), .int 0, .int 0, .int 0, .int 0, .int 0, .int 10, .int 0, .ref 76, .int 0]))) 70 (.inr (9, [.int 0, .int 0, .int (-1), .ref 71, .ref 72, .ref 73, .ref 74, .ref 75, .int 0, .int 0, .int 0, .int 0, .int 0, .int 0, .int 0, .int 10, .int 0, .ref 76, .int 0]))) 70 (.inr (9, [.int 0, .int 0, .int (-1), .ref 71, .ref 72, .ref 73, .ref 74, .ref 75, .int 0, .int 0, .int 0, .int 0, .int 0, .int 0, .int 0, .int 10, .int 0, .ref 76, .int 0]))) 70 (.inr (9, [.int 0, .int 0, .int (-1), .ref 71, .ref 72, .ref 73, .ref 74, .ref 75, .int 0, .int 0, .int 0, .int 0, .int 0, .int 0, .int 0, .int 10, .int 0, .ref 76, .int 0]))) 70 (.inr (9, [.int 0, .int 0, .int (-1), .ref 71, .ref 72, .ref 73, .ref 74, .ref 75, .int 0, .int 0, .int 0, .int 0, .int 0, .int 0, .int 0, .int 10, .int 0, .ref 76, .int 0]))) 70 (.inr (9, [.int 0, .int 0, .int (-1), .ref 71, .ref 72, .ref 73, .ref 74, .ref 75, .int 0, .int 0, .int 0, .int 0, .int 0, .int (-1), .int 0, .int 10, .int 0, .ref 76, .int 0]))) nx) := by
  refine mj_enter (by decide) (Nat.le_of_ble_eq_true rfl) ?_
  refine mv_aload_n d_Reader_begin_0 rfl rfl ?_
  refine mv_iload_n d_Reader_begin_1 rfl rfl ?_
  refine mv_put (fs' := [.int 0, .int 0, .int (-1), .ref 71, .ref 72, .ref 73, .ref 74, .ref 75, .int 0, .int 0, .int 0, .int 0, .int 0, .int 0, .int 0, .int 10, .int 0, .ref 76, .int 0]) d_Reader_begin_2 p_Reader_67_9 h_70 (Nat.le_of_ble_eq_true rfl) rfl rfl rfl ?_
  refine mv_aload_n d_Reader_begin_5 rfl rfl ?_
  refine mv_iconst (v := 0) d_Reader_begin_6 (by decide) ?_
  refine mv_put (fs' := [.int 0, .int 0, .int (-1), .ref 71, .ref 72, .ref 73, .ref 74, .ref 75, .int 0, .int 0, .int 0, .int 0, .int 0, .int 0, .int 0, .int 10, .int 0, .ref 76, .int 0]) d_Reader_begin_7 p_Reader_70_9 (mj_up_self _ _ _) (Nat.le_of_ble_eq_true rfl) rfl rfl rfl ?_
  refine mv_aload_n d_Reader_begin_10 rfl rfl ?_
  refine mv_iconst (v := (-1)) d_Reader_begin_11 (by decide) ?_
  refine mv_put (fs' := [.int 0, .int 0, .int (-1), .ref 71, .ref 72, .ref 73, .ref 74, .ref 75, .int 0, .int 0, .int 0, .int 0, .int 0, .int 0, .int 0, .int 10, .int 0, .ref 76, .int 0]) d_Reader_begin_12 p_Reader_11_9 (mj_up_self _ _ _) (Nat.le_of_ble_eq_true rfl) rfl rfl rfl ?_
  refine mv_aload_n d_Reader_begin_15 rfl rfl ?_
  refine mv_iconst (v := 0) d_Reader_begin_16 (by decide) ?_
  refine mv_put (fs' := [.int 0, .int 0, .int (-1), .ref 71, .ref 72, .ref 73, .ref 74, .ref 75, .int 0, .int 0, .int 0, .int 0, .int 0, .int 0, .int 0, .int 10, .int 0, .ref 76, .int 0]) d_Reader_begin_17 p_Reader_73_9 (mj_up_self _ _ _) (Nat.le_of_ble_eq_true rfl) rfl rfl rfl ?_
  refine mv_aload_n d_Reader_begin_20 rfl rfl ?_
  refine mv_callV_n (kc' := 0) (ks' := 0) [] [.ref 70] d_Reader_begin_21 lV_Reader_76 (mj_up_self _ _ _) rfl (c_Reader_cut_1 (d := d) (h_70 := (mj_up_self _ _ _))) rfl (Nat.le_of_ble_eq_true rfl) (Nat.le_of_ble_eq_true rfl) (Nat.le_of_ble_eq_true rfl) rfl ?_
  refine mv_aload_n d_Reader_begin_24 rfl rfl ?_
  refine mv_iconst (v := (-1)) d_Reader_begin_25 (by decide) ?_
  refine mv_put (fs' := [.int 0, .int 0, .int (-1), .ref 71, .ref 72, .ref 73, .ref 74, .ref 75, .int 0, .int (-1), .int 0, .int 0, .int 0, .int 0, .int 0, .int 10, .int 0, .ref 76, .int 0]) d_Reader_begin_26 p_Reader_79_9 (mj_up_self _ _ _) (Nat.le_of_ble_eq_true rfl) rfl rfl rfl ?_
  refine mv_aload_n d_Reader_begin_29 rfl rfl ?_
  refine mv_callV_n (kc' := 0) (ks' := 0) [] [.ref 70] d_Reader_begin_30 lV_Reader_82 (mj_up_self _ _ _) rfl (c_Reader_advance_1 (d := d) (h_70 := (mj_up_self _ _ _))) rfl (Nat.le_of_ble_eq_true rfl) (Nat.le_of_ble_eq_true rfl) (Nat.le_of_ble_eq_true rfl) rfl ?_
  exact mv_vret d_Reader_begin_33 rfl ⟨rfl, rfl, rfl⟩
theorem d_Reader_readDeed_6 : decode kY_Reader_readDeed.2.1 6 = .ok (.iconst 0, 1) := by decide +kernel
theorem d_Reader_readDeed_7 : decode kY_Reader_readDeed.2.1 7 = .ok (.istore_n 2, 1) := by decide +kernel
theorem d_Reader_readDeed_8 : decode kY_Reader_readDeed.2.1 8 = .ok (.iload_n 2, 1) := by decide +kernel
theorem d_Reader_readDeed_9 : decode kY_Reader_readDeed.2.1 9 = .ok (.bipush 12, 2) := by decide +kernel
theorem d_Reader_readDeed_11 : decode kY_Reader_readDeed.2.1 11 = .ok (.if_icmp .gt 27, 3) := by decide +kernel
theorem d_Reader_readDeed_14 : decode kY_Reader_readDeed.2.1 14 = .ok (.aload_n 0, 1) := by decide +kernel
theorem d_Reader_readDeed_15 : decode kY_Reader_readDeed.2.1 15 = .ok (.getfield 41, 3) := by decide +kernel
theorem d_Reader_readDeed_18 : decode kY_Reader_readDeed.2.1 18 = .ok (.ifCond .eq 20, 3) := by decide +kernel
theorem d_Reader_readDeed_38 : decode kY_Reader_readDeed.2.1 38 = .ok (.iconst 1, 1) := by decide +kernel
theorem d_Reader_readDeed_39 : decode kY_Reader_readDeed.2.1 39 = .ok (.ireturn, 1) := by decide +kernel
theorem c_Reader_readDeed_0 {g : mj_G} {l : Launch} {d nx : Nat} {M : mj_M} (h_70 : M 70 = some (.inr (9, [.int 0, .int 0, .int (-1), .ref 71, .ref 72, .ref 73, .ref 74, .ref 75, .int 0, .int 0, .int 0, .int 0, .int 0, .int 0, .int 0, .int 0, .int 0, .ref 76, .int 0]))) : mj_Met g l kY_Reader_readDeed (d + 2) [.ref 70, .ref 149] M nx 0 0 (mj_E1 (some (.int 1)) (mj_up (mj_up (mj_up (mj_up (mj_up (mj_up (mj_up (mj_up (mj_up (mj_up (mj_up M 70 (.inr (9, [.int 0, .int 0, .int (-1), .ref 71, .ref 72, .ref 73, .ref 74, .ref 75, .int 0, .int 0, .int 0, .int 0, .int 0, .int 0, .int 0, .int 10, .int 0, .ref 76, .int 0]))) 70 (.inr (9, [.int 0, .int 0, .int (-1), .ref 71, .ref 72, .ref 73, .ref 74, .ref 75, .int 0, .int 0, .int 0, .int 0, .int 0, .int 0, .int 0, .int 10, .int 0, .ref 76, .int 0]))) 70 (.inr (9, [.int 0, .int 0, .int (-1), .ref 71, .ref 72, .ref 73, .ref 74, .ref 75, .int 0, .int 0, .int 0, .int 0, .int 0, .int 0, .int 0, .int 10, .int 0, .ref 76, .int 0]))) 70 (.inr (9, [.int 0, .int 0, .int (-1), .ref 71, .ref 72, .ref 73, .ref 74, .ref 75, .int 0, .int 0, .int 0, .int 0, .int 0, .int 0, .int 0, .int 10, .int 0, .ref 76, .int 0]))) 70 (.inr (9, [.int 0, .int 0, .int (-1), .ref 71, .ref 72, .ref 73, .ref 74, .ref 75, .int 0, .int 0, .int 0, .int 0, .int 0, .int 0, .int 0, .int 10, .int 0, .ref 76, .int 0]))) 70 (.inr (9, [.int 0, .int 0, .int (-1), .ref 71, .ref 72, .ref 73, .ref 74, .ref 75, .int 0, .int (-1), .int 0, .int 0, .int 0, .int 0, .int 0, .int 10, .int 0, .ref 76, .int 0]))) 70 (.inr (9, [.int 0, .int 0, .int (-1), .ref 71, .ref 72, .ref 73, .ref 74, .ref 75, .int 0, .int 0, .int 0, .int 0, .int 0, .int 0, .int 0, .int 10, .int 0, .ref 76, .int 0]))) 70 (.inr (9, [.int 0, .int 0, .int (-1), .ref 71, .ref 72, .ref 73, .ref 74, .ref 75, .int 0, .int 0, .int 0, .int 0, .int 0, .int 0, .int 0, .int 10, .int 0, .ref 76, .int 0]))) 70 (.inr (9, [.int 0, .int 0, .int (-1), .ref 71, .ref 72, .ref 73, .ref 74, .ref 75, .int 0, .int 0, .int 0, .int 0, .int 0, .int 0, .int 0, .int 10, .int 0, .ref 76, .int 0]))) 70 (.inr (9, [.int 0, .int 0, .int (-1), .ref 71, .ref 72, .ref 73, .ref 74, .ref 75, .int 0, .int 0, .int 0, .int 0, .int 0, .int 0, .int 0, .int 10, .int 0, .ref 76, .int 0]))) 70 (.inr (9, [.int 0, .int 0, .int (-1), .ref 71, .ref 72, .ref 73, .ref 74, .ref 75, .int 0, .int 0, .int 0, .int 0, .int 0, .int (-1), .int 0, .int 10, .int 0, .ref 76, .int 0]))) nx) := by
  refine mj_enter (by decide) (Nat.le_of_ble_eq_true rfl) ?_
  refine mv_aload_n d_Reader_readDeed_0 rfl rfl ?_
  refine mv_bipush (v := 10) d_Reader_readDeed_1 (by decide) ?_
  refine mv_callV_n (kc' := 0) (ks' := 0) [.int 10] [.int 10, .ref 70] d_Reader_readDeed_3 lV_Reader_37 h_70 rfl (c_Reader_begin_1 (d := d) (h_70 := h_70)) rfl (Nat.le_of_ble_eq_true rfl) (Nat.le_of_ble_eq_true rfl) (Nat.le_of_ble_eq_true rfl) rfl ?_
  refine mv_iconst (v := 0) d_Reader_readDeed_6 (by decide) ?_
  refine mv_istore_n (lv' := [(2, .int 0), (0, .ref 70), (1, .ref 149)]) d_Reader_readDeed_7 rfl (by decide) rfl ?_
  refine mv_iload_n d_Reader_readDeed_8 rfl rfl ?_
  refine mv_bipush (v := 12) d_Reader_readDeed_9 (by decide) ?_
  refine mv_icmp_gt_f (tgt := 38) d_Reader_readDeed_11 (by decide) (by decide) ?_
  refine mv_aload_n d_Reader_readDeed_14 rfl rfl ?_
  refine mv_get d_Reader_readDeed_15 f_Reader_41_9 (mj_up_self _ _ _) rfl ?_
  refine mv_if_eq_t (tgt := 38) d_Reader_readDeed_18 (by decide) (by decide) ?_
  refine mv_iconst (v := 1) d_Reader_readDeed_38 (by decide) ?_
  exact mv_iret d_Reader_readDeed_39 rfl (by first | rfl | decide) ⟨rfl, rfl, rfl⟩
theorem d_TrustDesk_fund_60 : decode kY_TrustDesk_fund.2.1 60 = .ok (.istore 4, 2) := by decide +kernel
theorem d_TrustDesk_fund_62 : decode kY_TrustDesk_fund.2.1 62 = .ok (.aload_n 0, 1) := by decide +kernel
theorem d_TrustDesk_fund_63 : decode kY_TrustDesk_fund.2.1 63 = .ok (.getfield 19, 3) := by decide +kernel
theorem d_TrustDesk_fund_66 : decode kY_TrustDesk_fund.2.1 66 = .ok (.iconst 0, 1) := by decide +kernel
theorem d_TrustDesk_fund_67 : decode kY_TrustDesk_fund.2.1 67 = .ok (.putfield 88, 3) := by decide +kernel
theorem d_TrustDesk_fund_70 : decode kY_TrustDesk_fund.2.1 70 = .ok (.iload 4, 2) := by decide +kernel
theorem d_TrustDesk_fund_72 : decode kY_TrustDesk_fund.2.1 72 = .ok (.ifCond .ne 13, 3) := by decide +kernel
theorem d_TrustDesk_fund_85 : decode kY_TrustDesk_fund.2.1 85 = .ok (.aload_n 0, 1) := by decide +kernel
theorem d_TrustDesk_fund_86 : decode kY_TrustDesk_fund.2.1 86 = .ok (.getfield 53, 3) := by decide +kernel
theorem d_TrustDesk_fund_89 : decode kY_TrustDesk_fund.2.1 89 = .ok (.aload_n 3, 1) := by decide +kernel
theorem d_TrustDesk_fund_90 : decode kY_TrustDesk_fund.2.1 90 = .ok (.invokevirtual 107, 3) := by decide +kernel
theorem c_ArrayList_grow_1_1 {g : mj_G} {l : Launch} {d : Nat} {M : mj_M} (h_95 : M 95 = some (.inr (0, [.int 1, .ref 0, .int 0]))) : mj_Met g l kY_ArrayList_grow_1 (d + 1) [.ref 95, .int 1] M 154 1 10 (mj_E1 (some (.ref 154)) (mj_up (mj_up M 154 (.inl (4, 10, .inr (.inr (.inr (.inr (fun _ => none))))))) 95 (.inr (0, [.int 1, .ref 154, .int 0]))) 155) := by
  refine mj_enter (by decide) (Nat.le_of_ble_eq_true rfl) ?_
  refine mv_aload_n d_ArrayList_grow_1_0 rfl rfl ?_
  refine mv_get d_ArrayList_grow_1_1 f_ArrayList_9_0 h_95 rfl ?_
  refine mv_alen0 d_ArrayList_grow_1_4 ?_
  refine mv_istore_n (lv' := [(2, .int 0), (0, .ref 95), (1, .int 1)]) d_ArrayList_grow_1_5 rfl (by decide) rfl ?_
  refine mv_iload_n d_ArrayList_grow_1_6 rfl rfl ?_
  refine mv_if_gt_f (tgt := 20) d_ArrayList_grow_1_7 (by decide) (by decide) ?_
  refine mv_aload_n d_ArrayList_grow_1_10 rfl rfl ?_
  refine mv_get d_ArrayList_grow_1_11 f_ArrayList_9_0 h_95 rfl ?_
  refine mv_getsD d_ArrayList_grow_1_14 (mj_in1 (List.mem_of_getElem? (i := 223) (by decide +kernel)) rfl) ?_
  refine mv_acmp_eq_t (r := (some 0)) (tgt := 45) d_ArrayList_grow_1_17 (by decide) ?_
  refine mv_aload_n d_ArrayList_grow_1_45 rfl rfl ?_
  refine mv_bipush (v := 10) d_ArrayList_grow_1_46 (by decide) ?_
  refine mv_iload_n d_ArrayList_grow_1_48 rfl rfl ?_
  refine mv_mmax (v := 10) d_ArrayList_grow_1_49 (mj_in1 (List.mem_of_getElem? (i := 611) (by decide +kernel)) rfl) (Nat.le_of_ble_eq_true rfl) (by decide) ?_
  refine mv_newq (N := 10) (kc' := 0) (ks' := 0) d_ArrayList_grow_1_52 (mj_in1 (List.mem_of_getElem? (i := 612) (by decide +kernel)) rfl) (by decide) (by decide) (Nat.le_of_ble_eq_true rfl) (Nat.le_of_ble_eq_true rfl) (Nat.le_of_ble_eq_true rfl) ?_
  refine mv_dup_x1 d_ArrayList_grow_1_55 rfl rfl ?_
  refine mv_put (fs' := [.int 1, .ref 154, .int 0]) d_ArrayList_grow_1_56 p_ArrayList_9_0 ((mj_up_ne _ _ (Nat.ne_of_beq_eq_false rfl)).trans h_95) (Nat.le_of_ble_eq_true rfl) rfl rfl rfl ?_
  exact mv_aret (r := (some 154)) d_ArrayList_grow_1_59 rfl (by first | exact Or.inl ⟨_, rfl⟩ | exact Or.inr ⟨_, rfl⟩) ⟨rfl, rfl, rfl⟩
theorem c_ArrayList_grow_0_1 {g : mj_G} {l : Launch} {d : Nat} {M : mj_M} (h_95 : M 95 = some (.inr (0, [.int 1, .ref 0, .int 0]))) : mj_Met g l kY_ArrayList_grow_0 (d + 2) [.ref 95] M 154 1 10 (mj_E1 (some (.ref 154)) (mj_up (mj_up M 154 (.inl (4, 10, .inr (.inr (.inr (.inr (fun _ => none))))))) 95 (.inr (0, [.int 1, .ref 154, .int 0]))) 155) := by
  refine mj_enter (by decide) (Nat.le_of_ble_eq_true rfl) ?_
  refine mv_aload_n d_ArrayList_grow_0_0 rfl rfl ?_
  refine mv_aload_n d_ArrayList_grow_0_1 rfl rfl ?_
  refine mv_get d_ArrayList_grow_0_2 f_ArrayList_48_0 h_95 rfl ?_
  refine mv_iconst (v := 1) d_ArrayList_grow_0_5 (by decide) ?_
  refine mv_iaddv (v := 1) d_ArrayList_grow_0_6 (by decide) ?_
  refine mv_callV_s (kc' := 0) (ks' := 0) [.int 1] [.int 1, .ref 95] d_ArrayList_grow_0_7 lV_ArrayList_69 h_95 rfl (c_ArrayList_grow_1_1 (d := d) (h_95 := h_95)) rfl (Nat.le_of_ble_eq_true rfl) (Nat.le_of_ble_eq_true rfl) (Nat.le_of_ble_eq_true rfl) rfl ?_
  exact mv_aret (r := (some 154)) d_ArrayList_grow_0_10 rfl (by first | exact Or.inl ⟨_, rfl⟩ | exact Or.inr ⟨_, rfl⟩) ⟨rfl, rfl, rfl⟩
theorem c_ArrayList_add_1_1 {g : mj_G} {l : Launch} {d : Nat} {M : mj_M} {m0 : Int32} {m1 : Int32} (h_95 : M 95 = some (.inr (0, [.int 1, .ref 0, .int 0]))) (h_149 : M 149 = some (.inr (6, [.int 0, .int m0, .int m1, .long 0, .int 0, .int 7, .int 1, .int 0, .int (-1), .int 0, .long 0, .ref 150, .ref 151, .ref 152, .ref 153]))) : mj_Met g l kY_ArrayList_add_1 (d + 3) [.ref 95, .ref 149, .ref 0, .int 0] M 154 1 10 (mj_E1 none (mj_up (mj_up (mj_up (mj_up M 154 (.inl (4, 10, .inr (.inr (.inr (.inr (fun _ => none))))))) 95 (.inr (0, [.int 1, .ref 154, .int 0]))) 154 (.inl (4, 10, .inr (.inr (.inr (.inr (va_up (fun _ => none) 0 (some 149)))))))) 95 (.inr (0, [.int 1, .ref 154, .int 1]))) 155) := by
  refine mj_enter (by decide) (Nat.le_of_ble_eq_true rfl) ?_
  refine mv_iload_n d_ArrayList_add_1_0 rfl rfl ?_
  refine mv_aload_n d_ArrayList_add_1_1 rfl rfl ?_
  refine mv_alen0 d_ArrayList_add_1_2 ?_
  refine mv_icmp_ne_f (tgt := 11) d_ArrayList_add_1_3 (by decide) (by decide) ?_
  refine mv_aload_n d_ArrayList_add_1_6 rfl rfl ?_
  refine mv_callV_s (kc' := 0) (ks' := 0) [] [.ref 95] d_ArrayList_add_1_7 lV_ArrayList_129 h_95 rfl (c_ArrayList_grow_0_1 (d := d) (h_95 := h_95)) rfl (Nat.le_of_ble_eq_true rfl) (Nat.le_of_ble_eq_true rfl) (Nat.le_of_ble_eq_true rfl) rfl ?_
  refine mv_astore_n (lv' := [(2, .ref 154), (0, .ref 95), (1, .ref 149), (3, .int 0)]) d_ArrayList_add_1_10 rfl (by decide) rfl ?_
  refine mv_aload_n d_ArrayList_add_1_11 rfl rfl ?_
  refine mv_iload_n d_ArrayList_add_1_12 rfl rfl ?_
  refine mv_aload_n d_ArrayList_add_1_13 rfl rfl ?_
  refine mv_aast (f' := (va_up (fun _ => none) 0 (some 149))) (T := kF_Fund) (N := 15) d_ArrayList_add_1_14 ((mj_up_ne _ _ (Nat.ne_of_beq_eq_false rfl)).trans (mj_up_self _ _ _)) (by unfold vp_in; decide) ((mj_up_ne _ _ (Nat.ne_of_beq_eq_false rfl)).trans ((mj_up_ne _ _ (Nat.ne_of_beq_eq_false rfl)).trans h_149)) rfl (mj_in1 (List.mem_of_getElem? (i := 2108) (by decide +kernel)) rfl) rfl ?_
  refine mv_aload_n d_ArrayList_add_1_15 rfl rfl ?_
  refine mv_iload_n d_ArrayList_add_1_16 rfl rfl ?_
  refine mv_iconst (v := 1) d_ArrayList_add_1_17 (by decide) ?_
  refine mv_iaddv (v := 1) d_ArrayList_add_1_18 (by decide) ?_
  refine mv_put (fs' := [.int 1, .ref 154, .int 1]) d_ArrayList_add_1_19 p_ArrayList_48_0 ((mj_up_ne _ _ (Nat.ne_of_beq_eq_false rfl)).trans (mj_up_self _ _ _)) (Nat.le_of_ble_eq_true rfl) rfl rfl rfl ?_
  exact mv_vret d_ArrayList_add_1_22 rfl ⟨rfl, rfl, rfl⟩
theorem c_ArrayList_add_0_1 {g : mj_G} {l : Launch} {d : Nat} {M : mj_M} {m0 : Int32} {m1 : Int32} (h_95 : M 95 = some (.inr (0, [.int 0, .ref 0, .int 0]))) (h_149 : M 149 = some (.inr (6, [.int 0, .int m0, .int m1, .long 0, .int 0, .int 7, .int 1, .int 0, .int (-1), .int 0, .long 0, .ref 150, .ref 151, .ref 152, .ref 153]))) : mj_Met g l kY_ArrayList_add_0 (d + 4) [.ref 95, .ref 149] M 154 1 10 (mj_E1 (some (.int 1)) (mj_up (mj_up (mj_up (mj_up (mj_up M 95 (.inr (0, [.int 1, .ref 0, .int 0]))) 154 (.inl (4, 10, .inr (.inr (.inr (.inr (fun _ => none))))))) 95 (.inr (0, [.int 1, .ref 154, .int 0]))) 154 (.inl (4, 10, .inr (.inr (.inr (.inr (va_up (fun _ => none) 0 (some 149)))))))) 95 (.inr (0, [.int 1, .ref 154, .int 1]))) 155) := by
  refine mj_enter (by decide) (Nat.le_of_ble_eq_true rfl) ?_
  refine mv_aload_n d_ArrayList_add_0_0 rfl rfl ?_
  refine mv_dup d_ArrayList_add_0_1 rfl ?_
  refine mv_get d_ArrayList_add_0_2 f_ArrayList_63_0 h_95 rfl ?_
  refine mv_iconst (v := 1) d_ArrayList_add_0_5 (by decide) ?_
  refine mv_iaddv (v := 1) d_ArrayList_add_0_6 (by decide) ?_
  refine mv_put (fs' := [.int 1, .ref 0, .int 0]) d_ArrayList_add_0_7 p_ArrayList_63_0 h_95 (Nat.le_of_ble_eq_true rfl) rfl rfl rfl ?_
  refine mv_aload_n d_ArrayList_add_0_10 rfl rfl ?_
  refine mv_aload_n d_ArrayList_add_0_11 rfl rfl ?_
  refine mv_aload_n d_ArrayList_add_0_12 rfl rfl ?_
  refine mv_get d_ArrayList_add_0_13 f_ArrayList_9_0 (mj_up_self _ _ _) rfl ?_
  refine mv_aload_n d_ArrayList_add_0_16 rfl rfl ?_
  refine mv_get d_ArrayList_add_0_17 f_ArrayList_48_0 (mj_up_self _ _ _) rfl ?_
  refine mv_callV_n (kc' := 0) (ks' := 0) [.ref 149, .ref 0, .int 0] [.int 0, .ref 0, .ref 149, .ref 95] d_ArrayList_add_0_20 lV_ArrayList_131 (mj_up_self _ _ _) rfl (c_ArrayList_add_1_1 (d := d) (m0 := m0) (m1 := m1) (h_95 := (mj_up_self _ _ _)) (h_149 := ((mj_up_ne _ _ (Nat.ne_of_beq_eq_false rfl)).trans h_149))) rfl (Nat.le_of_ble_eq_true rfl) (Nat.le_of_ble_eq_true rfl) (Nat.le_of_ble_eq_true rfl) rfl ?_
  refine mv_iconst (v := 1) d_ArrayList_add_0_23 (by decide) ?_
  exact mv_iret d_ArrayList_add_0_24 rfl (by first | rfl | decide) ⟨rfl, rfl, rfl⟩
theorem d_TrustDesk_fund_93 : decode kY_TrustDesk_fund.2.1 93 = .ok (.pop, 1) := by decide +kernel
theorem d_TrustDesk_fund_94 : decode kY_TrustDesk_fund.2.1 94 = .ok (.aload_n 3, 1) := by decide +kernel
theorem d_TrustDesk_fund_95 : decode kY_TrustDesk_fund.2.1 95 = .ok (.getfield 132, 3) := by decide +kernel
theorem f_TrustDesk_132_6 : mj_fl "TrustDesk" 132 6 0 := ⟨kR_Fund, kF_Fund, 15, "TrustDesk$Fund", rfl, kg_6, by decide, (mj_in1 (List.mem_of_getElem? (i := 665) (by decide +kernel)) rfl), Or.inl rfl⟩
theorem d_TrustDesk_fund_98 : decode kY_TrustDesk_fund.2.1 98 = .ok (.ireturn, 1) := by decide +kernel
theorem c_TrustDesk_fund_0 {g : mj_G} {l : Launch} {d : Nat} {M : mj_M} {x1 : Int32} {x2 : Int32} (h_64 : M 64 = some (.inr (12, [.ref 65, .ref 70, .ref 77, .ref 80, .ref 90, .ref 94, .ref 95, .ref 96, .ref 97, .ref 98, .int 0, .int 0, .int 0]))) (h_70 : M 70 = some (.inr (9, [.int 0, .int 0, .int (-1), .ref 71, .ref 72, .ref 73, .ref 74, .ref 75, .int 0, .int 0, .int 0, .int 0, .int 0, .int 0, .int 0, .int 0, .int 0, .ref 76, .int 0]))) (h_95 : M 95 = some (.inr (0, [.int 0, .ref 0, .int 0]))) : mj_Met g l kY_TrustDesk_fund (d + 5) [.ref 64, .int x1, .int x2] M 149 6 241 (mj_KP (some (.int (e_fund x1 x2))) M 99 149) := by
  refine mj_enter (by decide) (Nat.le_of_ble_eq_true rfl) ?_
  refine mv_iload_n d_TrustDesk_fund_0 rfl rfl ?_
  refine mv_if_ltZ (tgt := 33) (a := x1.toInt) d_TrustDesk_fund_1 (by decide) rfl (fun b1 => ?_) (fun b1 => ?_)
  · refine mv_iconst (v := (-1)) d_TrustDesk_fund_33 (by decide) ?_
    exact mv_iret d_TrustDesk_fund_34 rfl (by first | rfl | decide) ⟨(by unfold e_fund; first | rw [if_pos (by omega)] | rw [if_neg (by omega)]), fun a ha1 ha2 => rfl⟩
  · refine mv_iload_n d_TrustDesk_fund_4 rfl rfl ?_
    refine mv_sipush (v := 999) d_TrustDesk_fund_5 (by decide) ?_
    refine mv_icmp_gtZ (tgt := 33) (a := x1.toInt) (b := 999) d_TrustDesk_fund_8 (by decide) rfl (by decide) (fun b2 => ?_) (fun b2 => ?_)
    · refine mv_iconst (v := (-1)) d_TrustDesk_fund_33 (by decide) ?_
      exact mv_iret d_TrustDesk_fund_34 rfl (by first | rfl | decide) ⟨(by unfold e_fund; first | rw [if_pos (by omega)] | rw [if_neg (by omega)]), fun a ha1 ha2 => rfl⟩
    · refine mv_iload_n d_TrustDesk_fund_11 rfl rfl ?_
      refine mv_if_ltZ (tgt := 33) (a := x2.toInt) d_TrustDesk_fund_12 (by decide) rfl (fun b3 => ?_) (fun b3 => ?_)
      · refine mv_iconst (v := (-1)) d_TrustDesk_fund_33 (by decide) ?_
        exact mv_iret d_TrustDesk_fund_34 rfl (by first | rfl | decide) ⟨(by unfold e_fund; first | rw [if_pos (by omega)] | rw [if_neg (by omega)]), fun a ha1 ha2 => rfl⟩
      · refine mv_iload_n d_TrustDesk_fund_15 rfl rfl ?_
        refine mv_ldc d_TrustDesk_fund_16 k_TrustDesk_122 ?_
        refine mv_icmp_gtZ (tgt := 33) (a := x2.toInt) (b := 99999) d_TrustDesk_fund_18 (by decide) rfl (by decide) (fun b4 => ?_) (fun b4 => ?_)
        · refine mv_iconst (v := (-1)) d_TrustDesk_fund_33 (by decide) ?_
          exact mv_iret d_TrustDesk_fund_34 rfl (by first | rfl | decide) ⟨(by unfold e_fund; first | rw [if_pos (by omega)] | rw [if_neg (by omega)]), fun a ha1 ha2 => rfl⟩
        · refine mv_aload_n d_TrustDesk_fund_21 rfl rfl ?_
          refine mv_get d_TrustDesk_fund_22 f_TrustDesk_53_12 h_64 rfl ?_
          refine mv_callV_s (kc' := 6) (ks' := 241) [] [.ref 95] d_TrustDesk_fund_25 lV_TrustDesk_97 h_95 rfl (c_ArrayList_size_1 (d := (d + 4)) (h_95 := h_95)) rfl (Nat.le_of_ble_eq_true rfl) (Nat.le_of_ble_eq_true rfl) (Nat.le_of_ble_eq_true rfl) rfl ?_
          refine mv_bipush (v := 12) d_TrustDesk_fund_28 (by decide) ?_
          refine mv_icmp_lt_t (tgt := 35) d_TrustDesk_fund_30 (by decide) (by decide) ?_
          refine mv_new (kc' := 5) (ks' := 226) d_TrustDesk_fund_35 n_TrustDesk_123 (Nat.le_of_ble_eq_true rfl) (Nat.le_of_ble_eq_true rfl) ?_
          refine mv_dup d_TrustDesk_fund_38 rfl ?_
          refine mv_aload_n d_TrustDesk_fund_39 rfl rfl ?_
          refine mv_get d_TrustDesk_fund_40 f_TrustDesk_53_12 ((mj_up_ne _ _ (Nat.ne_of_beq_eq_false rfl)).trans h_64) rfl ?_
          refine mv_callV_s (kc' := 5) (ks' := 226) [] [.ref 95, .ref 149, .ref 149] d_TrustDesk_fund_43 lV_TrustDesk_97 ((mj_up_ne _ _ (Nat.ne_of_beq_eq_false rfl)).trans h_95) rfl (c_ArrayList_size_1 (d := (d + 4)) (h_95 := ((mj_up_ne _ _ (Nat.ne_of_beq_eq_false rfl)).trans h_95))) rfl (Nat.le_of_ble_eq_true rfl) (Nat.le_of_ble_eq_true rfl) (Nat.le_of_ble_eq_true rfl) rfl ?_
          refine mv_iload_n d_TrustDesk_fund_46 rfl rfl ?_
          refine mv_iload_n d_TrustDesk_fund_47 rfl rfl ?_
          refine mv_callI_n (kc' := 1) (ks' := 10) [.int 0, .int x1, .int x2] [.int x2, .int x1, .int 0, .ref 149, .ref 149] d_TrustDesk_fund_48 lI_TrustDesk_125 (c_Fund_init_0 (d := d) (x2 := x1) (x3 := x2) (h_149 := (mj_up_self _ _ _))) rfl (Nat.le_of_ble_eq_true rfl) (Nat.le_of_ble_eq_true rfl) (Nat.le_of_ble_eq_true rfl) rfl ?_
          refine mv_astore_n (lv' := [(3, .ref 149), (0, .ref 64), (1, .int x1), (2, .int x2)]) d_TrustDesk_fund_51 rfl (by decide) rfl ?_
          refine mv_aload_n d_TrustDesk_fund_52 rfl rfl ?_
          refine mv_get d_TrustDesk_fund_53 f_TrustDesk_19_12 ((mj_up_ne _ _ (Nat.ne_of_beq_eq_false rfl)).trans ((mj_up_ne _ _ (Nat.ne_of_beq_eq_false rfl)).trans ((mj_up_ne _ _ (Nat.ne_of_beq_eq_false rfl)).trans ((mj_up_ne _ _ (Nat.ne_of_beq_eq_false rfl)).trans ((mj_up_ne _ _ (Nat.ne_of_beq_eq_false rfl)).trans ((mj_up_ne _ _ (Nat.ne_of_beq_eq_false rfl)).trans ((mj_up_ne _ _ (Nat.ne_of_beq_eq_false rfl)).trans ((mj_up_ne _ _ (Nat.ne_of_beq_eq_false rfl)).trans ((mj_up_ne _ _ (Nat.ne_of_beq_eq_false rfl)).trans ((mj_up_ne _ _ (Nat.ne_of_beq_eq_false rfl)).trans ((mj_up_ne _ _ (Nat.ne_of_beq_eq_false rfl)).trans ((mj_up_ne _ _ (Nat.ne_of_beq_eq_false rfl)).trans ((mj_up_ne _ _ (Nat.ne_of_beq_eq_false rfl)).trans ((mj_up_ne _ _ (Nat.ne_of_beq_eq_false rfl)).trans ((mj_up_ne _ _ (Nat.ne_of_beq_eq_false rfl)).trans ((mj_up_ne _ _ (Nat.ne_of_beq_eq_false rfl)).trans ((mj_up_ne _ _ (Nat.ne_of_beq_eq_false rfl)).trans ((mj_up_ne _ _ (Nat.ne_of_beq_eq_false rfl)).trans h_64)))))))))))))))))) rfl ?_
          refine mv_aload_n d_TrustDesk_fund_56 rfl rfl ?_
          refine mv_callV_s (kc' := 1) (ks' := 10) [.ref 149] [.ref 149, .ref 70] d_TrustDesk_fund_57 lV_TrustDesk_128 ((mj_up_ne _ _ (Nat.ne_of_beq_eq_false rfl)).trans ((mj_up_ne _ _ (Nat.ne_of_beq_eq_false rfl)).trans ((mj_up_ne _ _ (Nat.ne_of_beq_eq_false rfl)).trans ((mj_up_ne _ _ (Nat.ne_of_beq_eq_false rfl)).trans ((mj_up_ne _ _ (Nat.ne_of_beq_eq_false rfl)).trans ((mj_up_ne _ _ (Nat.ne_of_beq_eq_false rfl)).trans ((mj_up_ne _ _ (Nat.ne_of_beq_eq_false rfl)).trans ((mj_up_ne _ _ (Nat.ne_of_beq_eq_false rfl)).trans ((mj_up_ne _ _ (Nat.ne_of_beq_eq_false rfl)).trans ((mj_up_ne _ _ (Nat.ne_of_beq_eq_false rfl)).trans ((mj_up_ne _ _ (Nat.ne_of_beq_eq_false rfl)).trans ((mj_up_ne _ _ (Nat.ne_of_beq_eq_false rfl)).trans ((mj_up_ne _ _ (Nat.ne_of_beq_eq_false rfl)).trans ((mj_up_ne _ _ (Nat.ne_of_beq_eq_false rfl)).trans ((mj_up_ne _ _ (Nat.ne_of_beq_eq_false rfl)).trans ((mj_up_ne _ _ (Nat.ne_of_beq_eq_false rfl)).trans ((mj_up_ne _ _ (Nat.ne_of_beq_eq_false rfl)).trans ((mj_up_ne _ _ (Nat.ne_of_beq_eq_false rfl)).trans h_70)))))))))))))))))) rfl (c_Reader_readDeed_0 (d := (d + 2)) (h_70 := ((mj_up_ne _ _ (Nat.ne_of_beq_eq_false rfl)).trans ((mj_up_ne _ _ (Nat.ne_of_beq_eq_false rfl)).trans ((mj_up_ne _ _ (Nat.ne_of_beq_eq_false rfl)).trans ((mj_up_ne _ _ (Nat.ne_of_beq_eq_false rfl)).trans ((mj_up_ne _ _ (Nat.ne_of_beq_eq_false rfl)).trans ((mj_up_ne _ _ (Nat.ne_of_beq_eq_false rfl)).trans ((mj_up_ne _ _ (Nat.ne_of_beq_eq_false rfl)).trans ((mj_up_ne _ _ (Nat.ne_of_beq_eq_false rfl)).trans ((mj_up_ne _ _ (Nat.ne_of_beq_eq_false rfl)).trans ((mj_up_ne _ _ (Nat.ne_of_beq_eq_false rfl)).trans ((mj_up_ne _ _ (Nat.ne_of_beq_eq_false rfl)).trans ((mj_up_ne _ _ (Nat.ne_of_beq_eq_false rfl)).trans ((mj_up_ne _ _ (Nat.ne_of_beq_eq_false rfl)).trans ((mj_up_ne _ _ (Nat.ne_of_beq_eq_false rfl)).trans ((mj_up_ne _ _ (Nat.ne_of_beq_eq_false rfl)).trans ((mj_up_ne _ _ (Nat.ne_of_beq_eq_false rfl)).trans ((mj_up_ne _ _ (Nat.ne_of_beq_eq_false rfl)).trans ((mj_up_ne _ _ (Nat.ne_of_beq_eq_false rfl)).trans h_70)))))))))))))))))))) rfl (Nat.le_of_ble_eq_true rfl) (Nat.le_of_ble_eq_true rfl) (Nat.le_of_ble_eq_true rfl) rfl ?_
          refine mv_istore (lv' := [(4, .int 1), (3, .ref 149), (0, .ref 64), (1, .int x1), (2, .int x2)]) d_TrustDesk_fund_60 (by decide) rfl ?_
          refine mv_aload_n d_TrustDesk_fund_62 rfl rfl ?_
          refine mv_get d_TrustDesk_fund_63 f_TrustDesk_19_12 ((mj_up_ne _ _ (Nat.ne_of_beq_eq_false rfl)).trans ((mj_up_ne _ _ (Nat.ne_of_beq_eq_false rfl)).trans ((mj_up_ne _ _ (Nat.ne_of_beq_eq_false rfl)).trans ((mj_up_ne _ _ (Nat.ne_of_beq_eq_false rfl)).trans ((mj_up_ne _ _ (Nat.ne_of_beq_eq_false rfl)).trans ((mj_up_ne _ _ (Nat.ne_of_beq_eq_false rfl)).trans ((mj_up_ne _ _ (Nat.ne_of_beq_eq_false rfl)).trans ((mj_up_ne _ _ (Nat.ne_of_beq_eq_false rfl)).trans ((mj_up_ne _ _ (Nat.ne_of_beq_eq_false rfl)).trans ((mj_up_ne _ _ (Nat.ne_of_beq_eq_false rfl)).trans ((mj_up_ne _ _ (Nat.ne_of_beq_eq_false rfl)).trans ((mj_up_ne _ _ (Nat.ne_of_beq_eq_false rfl)).trans ((mj_up_ne _ _ (Nat.ne_of_beq_eq_false rfl)).trans ((mj_up_ne _ _ (Nat.ne_of_beq_eq_false rfl)).trans ((mj_up_ne _ _ (Nat.ne_of_beq_eq_false rfl)).trans ((mj_up_ne _ _ (Nat.ne_of_beq_eq_false rfl)).trans ((mj_up_ne _ _ (Nat.ne_of_beq_eq_false rfl)).trans ((mj_up_ne _ _ (Nat.ne_of_beq_eq_false rfl)).trans ((mj_up_ne _ _ (Nat.ne_of_beq_eq_false rfl)).trans ((mj_up_ne _ _ (Nat.ne_of_beq_eq_false rfl)).trans ((mj_up_ne _ _ (Nat.ne_of_beq_eq_false rfl)).trans ((mj_up_ne _ _ (Nat.ne_of_beq_eq_false rfl)).trans ((mj_up_ne _ _ (Nat.ne_of_beq_eq_false rfl)).trans ((mj_up_ne _ _ (Nat.ne_of_beq_eq_false rfl)).trans ((mj_up_ne _ _ (Nat.ne_of_beq_eq_false rfl)).trans ((mj_up_ne _ _ (Nat.ne_of_beq_eq_false rfl)).trans ((mj_up_ne _ _ (Nat.ne_of_beq_eq_false rfl)).trans ((mj_up_ne _ _ (Nat.ne_of_beq_eq_false rfl)).trans ((mj_up_ne _ _ (Nat.ne_of_beq_eq_false rfl)).trans h_64))))))))))))))))))))))))))))) rfl ?_
          refine mv_iconst (v := 0) d_TrustDesk_fund_66 (by decide) ?_
          refine mv_put (fs' := [.int 0, .int 0, .int (-1), .ref 71, .ref 72, .ref 73, .ref 74, .ref 75, .int 0, .int 0, .int 0, .int 0, .int 0, .int (-1), .int 0, .int 10, .int 0, .ref 76, .int 0]) d_TrustDesk_fund_67 p_TrustDesk_88_9 (mj_up_self _ _ _) (Nat.le_of_ble_eq_true rfl) rfl rfl rfl ?_
          refine mv_iload d_TrustDesk_fund_70 rfl ?_
          refine mv_if_ne_t (tgt := 85) d_TrustDesk_fund_72 (by decide) (by decide) ?_
          refine mv_aload_n d_TrustDesk_fund_85 rfl rfl ?_
          refine mv_get d_TrustDesk_fund_86 f_TrustDesk_53_12 ((mj_up_ne _ _ (Nat.ne_of_beq_eq_false rfl)).trans ((mj_up_ne _ _ (Nat.ne_of_beq_eq_false rfl)).trans ((mj_up_ne _ _ (Nat.ne_of_beq_eq_false rfl)).trans ((mj_up_ne _ _ (Nat.ne_of_beq_eq_false rfl)).trans ((mj_up_ne _ _ (Nat.ne_of_beq_eq_false rfl)).trans ((mj_up_ne _ _ (Nat.ne_of_beq_eq_false rfl)).trans ((mj_up_ne _ _ (Nat.ne_of_beq_eq_false rfl)).trans ((mj_up_ne _ _ (Nat.ne_of_beq_eq_false rfl)).trans ((mj_up_ne _ _ (Nat.ne_of_beq_eq_false rfl)).trans ((mj_up_ne _ _ (Nat.ne_of_beq_eq_false rfl)).trans ((mj_up_ne _ _ (Nat.ne_of_beq_eq_false rfl)).trans ((mj_up_ne _ _ (Nat.ne_of_beq_eq_false rfl)).trans ((mj_up_ne _ _ (Nat.ne_of_beq_eq_false rfl)).trans ((mj_up_ne _ _ (Nat.ne_of_beq_eq_false rfl)).trans ((mj_up_ne _ _ (Nat.ne_of_beq_eq_false rfl)).trans ((mj_up_ne _ _ (Nat.ne_of_beq_eq_false rfl)).trans ((mj_up_ne _ _ (Nat.ne_of_beq_eq_false rfl)).trans ((mj_up_ne _ _ (Nat.ne_of_beq_eq_false rfl)).trans ((mj_up_ne _ _ (Nat.ne_of_beq_eq_false rfl)).trans ((mj_up_ne _ _ (Nat.ne_of_beq_eq_false rfl)).trans ((mj_up_ne _ _ (Nat.ne_of_beq_eq_false rfl)).trans ((mj_up_ne _ _ (Nat.ne_of_beq_eq_false rfl)).trans ((mj_up_ne _ _ (Nat.ne_of_beq_eq_false rfl)).trans ((mj_up_ne _ _ (Nat.ne_of_beq_eq_false rfl)).trans ((mj_up_ne _ _ (Nat.ne_of_beq_eq_false rfl)).trans ((mj_up_ne _ _ (Nat.ne_of_beq_eq_false rfl)).trans ((mj_up_ne _ _ (Nat.ne_of_beq_eq_false rfl)).trans ((mj_up_ne _ _ (Nat.ne_of_beq_eq_false rfl)).trans ((mj_up_ne _ _ (Nat.ne_of_beq_eq_false rfl)).trans ((mj_up_ne _ _ (Nat.ne_of_beq_eq_false rfl)).trans h_64)))))))))))))))))))))))))))))) rfl ?_
          refine mv_aload_n d_TrustDesk_fund_89 rfl rfl ?_
          refine mv_callV_s (kc' := 0) (ks' := 0) [.ref 149] [.ref 149, .ref 95] d_TrustDesk_fund_90 lV_TrustDesk_107 ((mj_up_ne _ _ (Nat.ne_of_beq_eq_false rfl)).trans ((mj_up_ne _ _ (Nat.ne_of_beq_eq_false rfl)).trans ((mj_up_ne _ _ (Nat.ne_of_beq_eq_false rfl)).trans ((mj_up_ne _ _ (Nat.ne_of_beq_eq_false rfl)).trans ((mj_up_ne _ _ (Nat.ne_of_beq_eq_false rfl)).trans ((mj_up_ne _ _ (Nat.ne_of_beq_eq_false rfl)).trans ((mj_up_ne _ _ (Nat.ne_of_beq_eq_false rfl)).trans ((mj_up_ne _ _ (Nat.ne_of_beq_eq_false rfl)).trans ((mj_up_ne _ _ (Nat.ne_of_beq_eq_false rfl)).trans ((mj_up_ne _ _ (Nat.ne_of_beq_eq_false rfl)).trans ((mj_up_ne _ _ (Nat.ne_of_beq_eq_false rfl)).trans ((mj_up_ne _ _ (Nat.ne_of_beq_eq_false rfl)).trans ((mj_up_ne _ _ (Nat.ne_of_beq_eq_false rfl)).trans ((mj_up_ne _ _ (Nat.ne_of_beq_eq_false rfl)).trans ((mj_up_ne _ _ (Nat.ne_of_beq_eq_false rfl)).trans ((mj_up_ne _ _ (Nat.ne_of_beq_eq_false rfl)).trans ((mj_up_ne _ _ (Nat.ne_of_beq_eq_false rfl)).trans ((mj_up_ne _ _ (Nat.ne_of_beq_eq_false rfl)).trans ((mj_up_ne _ _ (Nat.ne_of_beq_eq_false rfl)).trans ((mj_up_ne _ _ (Nat.ne_of_beq_eq_false rfl)).trans ((mj_up_ne _ _ (Nat.ne_of_beq_eq_false rfl)).trans ((mj_up_ne _ _ (Nat.ne_of_beq_eq_false rfl)).trans ((mj_up_ne _ _ (Nat.ne_of_beq_eq_false rfl)).trans ((mj_up_ne _ _ (Nat.ne_of_beq_eq_false rfl)).trans ((mj_up_ne _ _ (Nat.ne_of_beq_eq_false rfl)).trans ((mj_up_ne _ _ (Nat.ne_of_beq_eq_false rfl)).trans ((mj_up_ne _ _ (Nat.ne_of_beq_eq_false rfl)).trans ((mj_up_ne _ _ (Nat.ne_of_beq_eq_false rfl)).trans ((mj_up_ne _ _ (Nat.ne_of_beq_eq_false rfl)).trans ((mj_up_ne _ _ (Nat.ne_of_beq_eq_false rfl)).trans h_95)))))))))))))))))))))))))))))) rfl (c_ArrayList_add_0_1 (d := d) (m0 := x1) (m1 := x2) (h_95 := ((mj_up_ne _ _ (Nat.ne_of_beq_eq_false rfl)).trans ((mj_up_ne _ _ (Nat.ne_of_beq_eq_false rfl)).trans ((mj_up_ne _ _ (Nat.ne_of_beq_eq_false rfl)).trans ((mj_up_ne _ _ (Nat.ne_of_beq_eq_false rfl)).trans ((mj_up_ne _ _ (Nat.ne_of_beq_eq_false rfl)).trans ((mj_up_ne _ _ (Nat.ne_of_beq_eq_false rfl)).trans ((mj_up_ne _ _ (Nat.ne_of_beq_eq_false rfl)).trans ((mj_up_ne _ _ (Nat.ne_of_beq_eq_false rfl)).trans ((mj_up_ne _ _ (Nat.ne_of_beq_eq_false rfl)).trans ((mj_up_ne _ _ (Nat.ne_of_beq_eq_false rfl)).trans ((mj_up_ne _ _ (Nat.ne_of_beq_eq_false rfl)).trans ((mj_up_ne _ _ (Nat.ne_of_beq_eq_false rfl)).trans ((mj_up_ne _ _ (Nat.ne_of_beq_eq_false rfl)).trans ((mj_up_ne _ _ (Nat.ne_of_beq_eq_false rfl)).trans ((mj_up_ne _ _ (Nat.ne_of_beq_eq_false rfl)).trans ((mj_up_ne _ _ (Nat.ne_of_beq_eq_false rfl)).trans ((mj_up_ne _ _ (Nat.ne_of_beq_eq_false rfl)).trans ((mj_up_ne _ _ (Nat.ne_of_beq_eq_false rfl)).trans ((mj_up_ne _ _ (Nat.ne_of_beq_eq_false rfl)).trans ((mj_up_ne _ _ (Nat.ne_of_beq_eq_false rfl)).trans ((mj_up_ne _ _ (Nat.ne_of_beq_eq_false rfl)).trans ((mj_up_ne _ _ (Nat.ne_of_beq_eq_false rfl)).trans ((mj_up_ne _ _ (Nat.ne_of_beq_eq_false rfl)).trans ((mj_up_ne _ _ (Nat.ne_of_beq_eq_false rfl)).trans ((mj_up_ne _ _ (Nat.ne_of_beq_eq_false rfl)).trans ((mj_up_ne _ _ (Nat.ne_of_beq_eq_false rfl)).trans ((mj_up_ne _ _ (Nat.ne_of_beq_eq_false rfl)).trans ((mj_up_ne _ _ (Nat.ne_of_beq_eq_false rfl)).trans ((mj_up_ne _ _ (Nat.ne_of_beq_eq_false rfl)).trans ((mj_up_ne _ _ (Nat.ne_of_beq_eq_false rfl)).trans h_95))))))))))))))))))))))))))))))) (h_149 := ((mj_up_ne _ _ (Nat.ne_of_beq_eq_false rfl)).trans ((mj_up_ne _ _ (Nat.ne_of_beq_eq_false rfl)).trans ((mj_up_ne _ _ (Nat.ne_of_beq_eq_false rfl)).trans ((mj_up_ne _ _ (Nat.ne_of_beq_eq_false rfl)).trans ((mj_up_ne _ _ (Nat.ne_of_beq_eq_false rfl)).trans ((mj_up_ne _ _ (Nat.ne_of_beq_eq_false rfl)).trans ((mj_up_ne _ _ (Nat.ne_of_beq_eq_false rfl)).trans ((mj_up_ne _ _ (Nat.ne_of_beq_eq_false rfl)).trans ((mj_up_ne _ _ (Nat.ne_of_beq_eq_false rfl)).trans ((mj_up_ne _ _ (Nat.ne_of_beq_eq_false rfl)).trans ((mj_up_ne _ _ (Nat.ne_of_beq_eq_false rfl)).trans ((mj_up_ne _ _ (Nat.ne_of_beq_eq_false rfl)).trans ((mj_up_ne _ _ (Nat.ne_of_beq_eq_false rfl)).trans (mj_up_self _ _ _)))))))))))))))) rfl (Nat.le_of_ble_eq_true rfl) (Nat.le_of_ble_eq_true rfl) (Nat.le_of_ble_eq_true rfl) rfl ?_
          refine mv_pop d_TrustDesk_fund_93 rfl ?_
          refine mv_aload_n d_TrustDesk_fund_94 rfl rfl ?_
          refine mv_get d_TrustDesk_fund_95 f_TrustDesk_132_6 ((mj_up_ne _ _ (Nat.ne_of_beq_eq_false rfl)).trans ((mj_up_ne _ _ (Nat.ne_of_beq_eq_false rfl)).trans ((mj_up_ne _ _ (Nat.ne_of_beq_eq_false rfl)).trans ((mj_up_ne _ _ (Nat.ne_of_beq_eq_false rfl)).trans ((mj_up_ne _ _ (Nat.ne_of_beq_eq_false rfl)).trans ((mj_up_ne _ _ (Nat.ne_of_beq_eq_false rfl)).trans ((mj_up_ne _ _ (Nat.ne_of_beq_eq_false rfl)).trans ((mj_up_ne _ _ (Nat.ne_of_beq_eq_false rfl)).trans ((mj_up_ne _ _ (Nat.ne_of_beq_eq_false rfl)).trans ((mj_up_ne _ _ (Nat.ne_of_beq_eq_false rfl)).trans ((mj_up_ne _ _ (Nat.ne_of_beq_eq_false rfl)).trans ((mj_up_ne _ _ (Nat.ne_of_beq_eq_false rfl)).trans ((mj_up_ne _ _ (Nat.ne_of_beq_eq_false rfl)).trans ((mj_up_ne _ _ (Nat.ne_of_beq_eq_false rfl)).trans ((mj_up_ne _ _ (Nat.ne_of_beq_eq_false rfl)).trans ((mj_up_ne _ _ (Nat.ne_of_beq_eq_false rfl)).trans ((mj_up_ne _ _ (Nat.ne_of_beq_eq_false rfl)).trans ((mj_up_ne _ _ (Nat.ne_of_beq_eq_false rfl)).trans (mj_up_self _ _ _))))))))))))))))))) rfl ?_
          exact mv_iret d_TrustDesk_fund_98 rfl (by first | rfl | decide) ⟨(by unfold e_fund; first | rw [if_pos (by omega)] | rw [if_neg (by omega)]), fun a ha1 ha2 => (mj_up_ne _ _ (show a ≠ 95 by omega)).trans ((mj_up_ne _ _ (show a ≠ 154 by omega)).trans ((mj_up_ne _ _ (show a ≠ 95 by omega)).trans ((mj_up_ne _ _ (show a ≠ 154 by omega)).trans ((mj_up_ne _ _ (show a ≠ 95 by omega)).trans ((mj_up_ne _ _ (show a ≠ 70 by omega)).trans ((mj_up_ne _ _ (show a ≠ 70 by omega)).trans ((mj_up_ne _ _ (show a ≠ 70 by omega)).trans ((mj_up_ne _ _ (show a ≠ 70 by omega)).trans ((mj_up_ne _ _ (show a ≠ 70 by omega)).trans ((mj_up_ne _ _ (show a ≠ 70 by omega)).trans ((mj_up_ne _ _ (show a ≠ 70 by omega)).trans ((mj_up_ne _ _ (show a ≠ 70 by omega)).trans ((mj_up_ne _ _ (show a ≠ 70 by omega)).trans ((mj_up_ne _ _ (show a ≠ 70 by omega)).trans ((mj_up_ne _ _ (show a ≠ 70 by omega)).trans ((mj_up_ne _ _ (show a ≠ 70 by omega)).trans ((mj_up_ne _ _ (show a ≠ 151 by omega)).trans ((mj_up_ne _ _ (show a ≠ 149 by omega)).trans ((mj_up_ne _ _ (show a ≠ 149 by omega)).trans ((mj_up_ne _ _ (show a ≠ 149 by omega)).trans ((mj_up_ne _ _ (show a ≠ 149 by omega)).trans ((mj_up_ne _ _ (show a ≠ 153 by omega)).trans ((mj_up_ne _ _ (show a ≠ 149 by omega)).trans ((mj_up_ne _ _ (show a ≠ 152 by omega)).trans ((mj_up_ne _ _ (show a ≠ 149 by omega)).trans ((mj_up_ne _ _ (show a ≠ 151 by omega)).trans ((mj_up_ne _ _ (show a ≠ 149 by omega)).trans ((mj_up_ne _ _ (show a ≠ 150 by omega)).trans ((mj_up_ne _ _ (show a ≠ 150 by omega)).trans ((mj_up_ne _ _ (show a ≠ 150 by omega)).trans ((mj_up_ne _ _ (show a ≠ 149 by omega)).trans ((mj_up_ne _ _ (show a ≠ 149 by omega)).trans ((mj_up_ne _ _ (show a ≠ 149 by omega)).trans ((mj_up_ne _ _ (show a ≠ 149 by omega)).trans (rfl)))))))))))))))))))))))))))))))))))⟩
abbrev kY_TrustDesk_near : mj_Y := (⟨"TrustDesk", "near", "(I)I"⟩, prog_1_method_9_code, 3, (Option.some Jvm.ClassFile.FieldType.int))
theorem d_TrustDesk_near_0 : decode kY_TrustDesk_near.2.1 0 = .ok (.iload_n 1, 1) := by decide +kernel
theorem d_TrustDesk_near_1 : decode kY_TrustDesk_near.2.1 1 = .ok (.ifCond .lt 22, 3) := by decide +kernel
theorem d_TrustDesk_near_23 : decode kY_TrustDesk_near.2.1 23 = .ok (.iconst (-1), 1) := by decide +kernel
theorem d_TrustDesk_near_24 : decode kY_TrustDesk_near.2.1 24 = .ok (.ireturn, 1) := by decide +kernel
theorem d_TrustDesk_near_4 : decode kY_TrustDesk_near.2.1 4 = .ok (.iload_n 1, 1) := by decide +kernel
theorem d_TrustDesk_near_5 : decode kY_TrustDesk_near.2.1 5 = .ok (.sipush 255, 3) := by decide +kernel
theorem d_TrustDesk_near_8 : decode kY_TrustDesk_near.2.1 8 = .ok (.if_icmp .gt 15, 3) := by decide +kernel
theorem d_TrustDesk_near_11 : decode kY_TrustDesk_near.2.1 11 = .ok (.aload_n 0, 1) := by decide +kernel
theorem d_TrustDesk_near_12 : decode kY_TrustDesk_near.2.1 12 = .ok (.getfield 56, 3) := by decide +kernel
theorem f_TrustDesk_56_12 : mj_fl "TrustDesk" 56 12 7 := ⟨kR_TrustDesk, kF_TrustDesk, 13, "TrustDesk", rfl, kg_12, by decide, (mj_in1 (List.mem_of_getElem? (i := 274) (by decide +kernel)) rfl), Or.inl rfl⟩
theorem d_TrustDesk_near_15 : decode kY_TrustDesk_near.2.1 15 = .ok (.invokevirtual 97, 3) := by decide +kernel
theorem c_ArrayList_size_2 {g : mj_G} {l : Launch} {d nx : Nat} {M : mj_M} (h_96 : M 96 = some (.inr (0, [.int 0, .ref 0, .int 0]))) : mj_Met g l kY_ArrayList_size d [.ref 96] M nx 0 0 (mj_E1 (some (.int 0)) M nx) := by
  refine mj_enter (by decide) (Nat.le_of_ble_eq_true rfl) ?_
  refine mv_aload_n d_ArrayList_size_0 rfl rfl ?_
  refine mv_get d_ArrayList_size_1 f_ArrayList_48_0 h_96 rfl ?_
  exact mv_iret d_ArrayList_size_4 rfl (by first | rfl | decide) ⟨rfl, rfl, rfl⟩
theorem d_TrustDesk_near_18 : decode kY_TrustDesk_near.2.1 18 = .ok (.bipush 12, 2) := by decide +kernel
theorem d_TrustDesk_near_20 : decode kY_TrustDesk_near.2.1 20 = .ok (.if_icmp .lt 5, 3) := by decide +kernel
theorem d_TrustDesk_near_25 : decode kY_TrustDesk_near.2.1 25 = .ok (.aload_n 0, 1) := by decide +kernel
theorem d_TrustDesk_near_26 : decode kY_TrustDesk_near.2.1 26 = .ok (.getfield 19, 3) := by decide +kernel
theorem d_TrustDesk_near_29 : decode kY_TrustDesk_near.2.1 29 = .ok (.invokevirtual 135, 3) := by decide +kernel
abbrev kY_Reader_readNearEnd : mj_Y := (⟨"TrustDesk$Reader", "readNearEnd", "()LTrustDesk$EndText;"⟩, prog_10_method_5_code, 2, (Option.some (Jvm.ClassFile.FieldType.object "TrustDesk$EndText")))
theorem lV_TrustDesk_135 : mj_lV "TrustDesk" 135 kY_Reader_readNearEnd 0 := ⟨⟨(mj_in1 (List.mem_of_getElem? (i := 817) (by decide +kernel)) rfl), (mj_in1 (List.mem_of_getElem? (i := 3) (by decide +kernel)) rfl), (mj_in1 (List.mem_of_getElem? (i := 820) (by decide +kernel)) rfl), by decide, rfl, by decide⟩, (mj_in1 (List.mem_of_getElem? (i := 818) (by decide +kernel)) rfl), (mj_in1 (List.mem_of_getElem? (i := 819) (by decide +kernel)) rfl)⟩
theorem d_Reader_readNearEnd_0 : decode kY_Reader_readNearEnd.2.1 0 = .ok (.aload_n 0, 1) := by decide +kernel
theorem d_Reader_readNearEnd_1 : decode kY_Reader_readNearEnd.2.1 1 = .ok (.bipush 10, 2) := by decide +kernel
theorem d_Reader_readNearEnd_3 : decode kY_Reader_readNearEnd.2.1 3 = .ok (.invokevirtual 37, 3) := by decide +kernel
theorem d_Reader_readNearEnd_6 : decode kY_Reader_readNearEnd.2.1 6 = .ok (.aload_n 0, 1) := by decide +kernel
theorem d_Reader_readNearEnd_7 : decode kY_Reader_readNearEnd.2.1 7 = .ok (.bipush 26, 2) := by decide +kernel
theorem d_Reader_readNearEnd_9 : decode kY_Reader_readNearEnd.2.1 9 = .ok (.invokevirtual 52, 3) := by decide +kernel
abbrev kY_Reader_isWord : mj_Y := (⟨"TrustDesk$Reader", "isWord", "(I)Z"⟩, prog_10_method_29_code, 2, (Option.some Jvm.ClassFile.FieldType.boolean))
theorem lV_Reader_52 : mj_lV "TrustDesk$Reader" 52 kY_Reader_isWord 1 := ⟨⟨(mj_in1 (List.mem_of_getElem? (i := 459) (by decide +kernel)) rfl), (mj_in1 (List.mem_of_getElem? (i := 3) (by decide +kernel)) rfl), (mj_in1 (List.mem_of_getElem? (i := 462) (by decide +kernel)) rfl), by decide, rfl, by decide⟩, (mj_in1 (List.mem_of_getElem? (i := 461) (by decide +kernel)) rfl), (mj_in (List.mem_append_left _ (List.mem_of_getElem? (i := 13) (by decide +kernel))) rfl)⟩
theorem d_Reader_isWord_0 : decode kY_Reader_isWord.2.1 0 = .ok (.aload_n 0, 1) := by decide +kernel
theorem d_Reader_isWord_1 : decode kY_Reader_isWord.2.1 1 = .ok (.getfield 41, 3) := by decide +kernel
theorem d_Reader_isWord_4 : decode kY_Reader_isWord.2.1 4 = .ok (.iconst 1, 1) := by decide +kernel
theorem d_Reader_isWord_5 : decode kY_Reader_isWord.2.1 5 = .ok (.if_icmp .ne 15, 3) := by decide +kernel
theorem d_Reader_isWord_20 : decode kY_Reader_isWord.2.1 20 = .ok (.iconst 0, 1) := by decide +kernel
theorem d_Reader_isWord_21 : decode kY_Reader_isWord.2.1 21 = .ok (.ireturn, 1) := by decide +kernel
theorem c_Reader_isWord_0 {g : mj_G} {l : Launch} {d nx : Nat} {M : mj_M} (h_70 : M 70 = some (.inr (9, [.int 0, .int 0, .int (-1), .ref 71, .ref 72, .ref 73, .ref 74, .ref 75, .int 0, .int 0, .int 0, .int 0, .int 0, .int (-1), .int 0, .int 10, .int 0, .ref 76, .int 0]))) : mj_Met g l kY_Reader_isWord d [.ref 70, .int 26] M nx 0 0 (mj_E1 (some (.int 0)) M nx) := by
  refine mj_enter (by decide) (Nat.le_of_ble_eq_true rfl) ?_
  refine mv_aload_n d_Reader_isWord_0 rfl rfl ?_
  refine mv_get d_Reader_isWord_1 f_Reader_41_9 h_70 rfl ?_
  refine mv_iconst (v := 1) d_Reader_isWord_4 (by decide) ?_
  refine mv_icmp_ne_t (tgt := 20) d_Reader_isWord_5 (by decide) (by decide) ?_
  refine mv_iconst (v := 0) d_Reader_isWord_20 (by decide) ?_
  exact mv_iret d_Reader_isWord_21 rfl (by first | rfl | decide) ⟨rfl, rfl, rfl⟩
theorem d_Reader_readNearEnd_12 : decode kY_Reader_readNearEnd.2.1 12 = .ok (.ifCond .ne 11, 3) := by decide +kernel
theorem d_Reader_readNearEnd_15 : decode kY_Reader_readNearEnd.2.1 15 = .ok (.aload_n 0, 1) := by decide +kernel
theorem d_Reader_readNearEnd_16 : decode kY_Reader_readNearEnd.2.1 16 = .ok (.iconst 1, 1) := by decide +kernel
theorem d_Reader_readNearEnd_17 : decode kY_Reader_readNearEnd.2.1 17 = .ok (.invokevirtual 56, 3) := by decide +kernel
abbrev kY_Reader_refuse : mj_Y := (⟨"TrustDesk$Reader", "refuse", "(I)Z"⟩, prog_10_method_25_code, 2, (Option.some Jvm.ClassFile.FieldType.boolean))
theorem lV_Reader_56 : mj_lV "TrustDesk$Reader" 56 kY_Reader_refuse 1 := ⟨⟨(mj_in1 (List.mem_of_getElem? (i := 463) (by decide +kernel)) rfl), (mj_in1 (List.mem_of_getElem? (i := 3) (by decide +kernel)) rfl), (mj_in1 (List.mem_of_getElem? (i := 466) (by decide +kernel)) rfl), by decide, rfl, by decide⟩, (mj_in1 (List.mem_of_getElem? (i := 465) (by decide +kernel)) rfl), (mj_in (List.mem_append_left _ (List.mem_of_getElem? (i := 14) (by decide +kernel))) rfl)⟩
theorem d_Reader_refuse_0 : decode kY_Reader_refuse.2.1 0 = .ok (.aload_n 0, 1) := by decide +kernel
theorem d_Reader_refuse_1 : decode kY_Reader_refuse.2.1 1 = .ok (.iload_n 1, 1) := by decide +kernel
theorem d_Reader_refuse_2 : decode kY_Reader_refuse.2.1 2 = .ok (.putfield 70, 3) := by decide +kernel
theorem d_Reader_refuse_5 : decode kY_Reader_refuse.2.1 5 = .ok (.aload_n 0, 1) := by decide +kernel
theorem d_Reader_refuse_6 : decode kY_Reader_refuse.2.1 6 = .ok (.aload_n 0, 1) := by decide +kernel
theorem d_Reader_refuse_7 : decode kY_Reader_refuse.2.1 7 = .ok (.getfield 175, 3) := by decide +kernel
theorem f_Reader_175_9 : mj_fl "TrustDesk$Reader" 175 9 11 := ⟨kR_Reader, kF_Reader, 19, "TrustDesk$Reader", rfl, kg_9, by decide, (mj_in1 (List.mem_of_getElem? (i := 83) (by decide +kernel)) rfl), Or.inl rfl⟩
theorem d_Reader_refuse_10 : decode kY_Reader_refuse.2.1 10 = .ok (.putfield 11, 3) := by decide +kernel
theorem d_Reader_refuse_13 : decode kY_Reader_refuse.2.1 13 = .ok (.iconst 0, 1) := by decide +kernel
theorem d_Reader_refuse_14 : decode kY_Reader_refuse.2.1 14 = .ok (.ireturn, 1) := by decide +kernel
theorem c_Reader_refuse_0 {g : mj_G} {l : Launch} {d nx : Nat} {M : mj_M} (h_70 : M 70 = some (.inr (9, [.int 0, .int 0, .int (-1), .ref 71, .ref 72, .ref 73, .ref 74, .ref 75, .int 0, .int 0, .int 0, .int 0, .int 0, .int (-1), .int 0, .int 10, .int 0, .ref 76, .int 0]))) : mj_Met g l kY_Reader_refuse d [.ref 70, .int 1] M nx 0 0 (mj_E1 (some (.int 0)) (mj_up (mj_up M 70 (.inr (9, [.int 0, .int 1, .int (-1), .ref 71, .ref 72, .ref 73, .ref 74, .ref 75, .int 0, .int 0, .int 0, .int 0, .int 0, .int (-1), .int 0, .int 10, .int 0, .ref 76, .int 0]))) 70 (.inr (9, [.int 0, .int 1, .int 0, .ref 71, .ref 72, .ref 73, .ref 74, .ref 75, .int 0, .int 0, .int 0, .int 0, .int 0, .int (-1), .int 0, .int 10, .int 0, .ref 76, .int 0]))) nx) := by
  refine mj_enter (by decide) (Nat.le_of_ble_eq_true rfl) ?_
  refine mv_aload_n d_Reader_refuse_0 rfl rfl ?_
  refine mv_iload_n d_Reader_refuse_1 rfl rfl ?_
  refine mv_put (fs' := [.int 0, .int 1, .int (-1), .ref 71, .ref 72, .ref 73, .ref 74, .ref 75, .int 0, .int 0, .int 0, .int 0, .int 0, .int (-1), .int 0, .int 10, .int 0, .ref 76, .int 0]) d_Reader_refuse_2 p_Reader_70_9 h_70 (Nat.le_of_ble_eq_true rfl) rfl rfl rfl ?_
  refine mv_aload_n d_Reader_refuse_5 rfl rfl ?_
  refine mv_aload_n d_Reader_refuse_6 rfl rfl ?_
  refine mv_get d_Reader_refuse_7 f_Reader_175_9 (mj_up_self _ _ _) rfl ?_
  refine mv_put (fs' := [.int 0, .int 1, .int 0, .ref 71, .ref 72, .ref 73, .ref 74, .ref 75, .int 0, .int 0, .int 0, .int 0, .int 0, .int (-1), .int 0, .int 10, .int 0, .ref 76, .int 0]) d_Reader_refuse_10 p_Reader_11_9 (mj_up_self _ _ _) (Nat.le_of_ble_eq_true rfl) rfl rfl rfl ?_
  refine mv_iconst (v := 0) d_Reader_refuse_13 (by decide) ?_
  exact mv_iret d_Reader_refuse_14 rfl (by first | rfl | decide) ⟨rfl, rfl, rfl⟩
theorem d_Reader_readNearEnd_20 : decode kY_Reader_readNearEnd.2.1 20 = .ok (.pop, 1) := by decide +kernel
theorem d_Reader_readNearEnd_21 : decode kY_Reader_readNearEnd.2.1 21 = .ok (.aconst_null, 1) := by decide +kernel
theorem d_Reader_readNearEnd_22 : decode kY_Reader_readNearEnd.2.1 22 = .ok (.areturn, 1) := by decide +kernel
theorem c_Reader_readNearEnd_0 {g : mj_G} {l : Launch} {d nx : Nat} {M : mj_M} (h_70 : M 70 = some (.inr (9, [.int 0, .int 0, .int (-1), .ref 71, .ref 72, .ref 73, .ref 74, .ref 75, .int 0, .int 0, .int 0, .int 0, .int 0, .int 0, .int 0, .int 0, .int 0, .ref 76, .int 0]))) : mj_Met g l kY_Reader_readNearEnd (d + 2) [.ref 70] M nx 0 0 (mj_E1 (some (.null)) (mj_up (mj_up (mj_up (mj_up (mj_up (mj_up (mj_up (mj_up (mj_up (mj_up (mj_up (mj_up (mj_up M 70 (.inr (9, [.int 0, .int 0, .int (-1), .ref 71, .ref 72, .ref 73, .ref 74, .ref 75, .int 0, .int 0, .int 0, .int 0, .int 0, .int 0, .int 0, .int 10, .int 0, .ref 76, .int 0]))) 70 (.inr (9, [.int 0, .int 0, .int (-1), .ref 71, .ref 72, .ref 73, .ref 74, .ref 75, .int 0, .int 0, .int 0, .int 0, .int 0, .int 0, .int 0, .int 10, .int 0, .ref 76, .int 0]))) 70 (.inr (9, [.int 0, .int 0, .int (-1), .ref 71, .ref 72, .ref 73, .ref 74, .ref 75, .int 0, .int 0, .int 0, .int 0, .int 0, .int 0, .int 0, .int 10, .int 0, .ref 76, .int 0]))) 70 (.inr (9, [.int 0, .int 0, .int (-1), .ref 71, .ref 72, .ref 73, .ref 74, .ref 75, .int 0, .int 0, .int 0, .int 0, .int 0, .int 0, .int 0, .int 10, .int 0, .ref 76, .int 0]))) 70 (.inr (9, [.int 0, .int 0, .int (-1), .ref 71, .ref 72, .ref 73, .ref 74, .ref 75, .int 0, .int 0, .int 0, .int 0, .int 0, .int 0, .int 0, .int 10, .int 0, .ref 76, .int 0]))) 70 (.inr (9, [.int 0, .int 0, .int (-1), .ref 71, .ref 72, .ref 73, .ref 74, .ref 75, .int 0, .int (-1), .int 0, .int 0, .int 0, .int 0, .int 0, .int 10, .int 0, .ref 76, .int 0]))) 70 (.inr (9, [.int 0, .int 0, .int (-1), .ref 71, .ref 72, .ref 73, .ref 74, .ref 75, .int 0, .int 0, .int 0, .int 0, .int 0, .int 0, .int 0, .int 10, .int 0, .ref 76, .int 0]))) 70 (.inr (9, [.int 0, .int 0, .int (-1), .ref 71, .ref 72, .ref 73, .ref 74, .ref 75, .int 0, .int 0, .int 0, .int 0, .int 0, .int 0, .int 0, .int 10, .int 0, .ref 76, .int 0]))) 70 (.inr (9, [.int 0, .int 0, .int (-1), .ref 71, .ref 72, .ref 73, .ref 74, .ref 75, .int 0, .int 0, .int 0, .int 0, .int 0, .int 0, .int 0, .int 10, .int 0, .ref 76, .int 0]))) 70 (.inr (9, [.int 0, .int 0, .int (-1), .ref 71, .ref 72, .ref 73, .ref 74, .ref 75, .int 0, .int 0, .int 0, .int 0, .int 0, .int 0, .int 0, .int 10, .int 0, .ref 76, .int 0]))) 70 (.inr (9, [.int 0, .int 0, .int (-1), .ref 71, .ref 72, .ref 73, .ref 74, .ref 75, .int 0, .int 0, .int 0, .int 0, .int 0, .int (-1), .int 0, .int 10, .int 0, .ref 76, .int 0]))) 70 (.inr (9, [.int 0, .int 1, .int (-1), .ref 71, .ref 72, .ref 73, .ref 74, .ref 75, .int 0, .int 0, .int 0, .int 0, .int 0, .int (-1), .int 0, .int 10, .int 0, .ref 76, .int 0]))) 70 (.inr (9, [.int 0, .int 1, .int 0, .ref 71, .ref 72, .ref 73, .ref 74, .ref 75, .int 0, .int 0, .int 0, .int 0, .int 0, .int (-1), .int 0, .int 10, .int 0, .ref 76, .int 0]))) nx) := by
  refine mj_enter (by decide) (Nat.le_of_ble_eq_true rfl) ?_
  refine mv_aload_n d_Reader_readNearEnd_0 rfl rfl ?_
  refine mv_bipush (v := 10) d_Reader_readNearEnd_1 (by decide) ?_
  refine mv_callV_n (kc' := 0) (ks' := 0) [.int 10] [.int 10, .ref 70] d_Reader_readNearEnd_3 lV_Reader_37 h_70 rfl (c_Reader_begin_1 (d := d) (h_70 := h_70)) rfl (Nat.le_of_ble_eq_true rfl) (Nat.le_of_ble_eq_true rfl) (Nat.le_of_ble_eq_true rfl) rfl ?_
  refine mv_aload_n d_Reader_readNearEnd_6 rfl rfl ?_
  refine mv_bipush (v := 26) d_Reader_readNearEnd_7 (by decide) ?_
  refine mv_callV_s (kc' := 0) (ks' := 0) [.int 26] [.int 26, .ref 70] d_Reader_readNearEnd_9 lV_Reader_52 (mj_up_self _ _ _) rfl (c_Reader_isWord_0 (d := (d + 1)) (h_70 := (mj_up_self _ _ _))) rfl (Nat.le_of_ble_eq_true rfl) (Nat.le_of_ble_eq_true rfl) (Nat.le_of_ble_eq_true rfl) rfl ?_
  refine mv_if_ne_f (tgt := 23) d_Reader_readNearEnd_12 (by decide) (by decide) ?_
  refine mv_aload_n d_Reader_readNearEnd_15 rfl rfl ?_
  refine mv_iconst (v := 1) d_Reader_readNearEnd_16 (by decide) ?_
  refine mv_callV_s (kc' := 0) (ks' := 0) [.int 1] [.int 1, .ref 70] d_Reader_readNearEnd_17 lV_Reader_56 (mj_up_self _ _ _) rfl (c_Reader_refuse_0 (d := (d + 1)) (h_70 := (mj_up_self _ _ _))) rfl (Nat.le_of_ble_eq_true rfl) (Nat.le_of_ble_eq_true rfl) (Nat.le_of_ble_eq_true rfl) rfl ?_
  refine mv_pop d_Reader_readNearEnd_20 rfl ?_
  refine mv_null d_Reader_readNearEnd_21 ?_
  exact mv_aret (r := none) d_Reader_readNearEnd_22 rfl (by first | exact Or.inl ⟨_, rfl⟩ | exact Or.inr ⟨_, rfl⟩) ⟨rfl, rfl, rfl⟩
theorem d_TrustDesk_near_32 : decode kY_TrustDesk_near.2.1 32 = .ok (.astore_n 2, 1) := by decide +kernel
theorem d_TrustDesk_near_33 : decode kY_TrustDesk_near.2.1 33 = .ok (.aload_n 0, 1) := by decide +kernel
theorem d_TrustDesk_near_34 : decode kY_TrustDesk_near.2.1 34 = .ok (.getfield 19, 3) := by decide +kernel
theorem d_TrustDesk_near_37 : decode kY_TrustDesk_near.2.1 37 = .ok (.iconst 0, 1) := by decide +kernel
theorem d_TrustDesk_near_38 : decode kY_TrustDesk_near.2.1 38 = .ok (.putfield 88, 3) := by decide +kernel
theorem d_TrustDesk_near_41 : decode kY_TrustDesk_near.2.1 41 = .ok (.aload_n 2, 1) := by decide +kernel
theorem d_TrustDesk_near_42 : decode kY_TrustDesk_near.2.1 42 = .ok (.ifnonnull 13, 3) := by decide +kernel
theorem d_TrustDesk_near_45 : decode kY_TrustDesk_near.2.1 45 = .ok (.iconst (-1), 1) := by decide +kernel
theorem d_TrustDesk_near_46 : decode kY_TrustDesk_near.2.1 46 = .ok (.aload_n 0, 1) := by decide +kernel
theorem d_TrustDesk_near_47 : decode kY_TrustDesk_near.2.1 47 = .ok (.getfield 19, 3) := by decide +kernel
theorem d_TrustDesk_near_50 : decode kY_TrustDesk_near.2.1 50 = .ok (.getfield 104, 3) := by decide +kernel
theorem f_TrustDesk_104_9 : mj_fl "TrustDesk" 104 9 1 := ⟨kR_Reader, kF_Reader, 19, "TrustDesk$Reader", rfl, kg_9, by decide, (mj_in1 (List.mem_of_getElem? (i := 72) (by decide +kernel)) rfl), Or.inl rfl⟩
theorem d_TrustDesk_near_53 : decode kY_TrustDesk_near.2.1 53 = .ok (.isub, 1) := by decide +kernel
theorem d_TrustDesk_near_54 : decode kY_TrustDesk_near.2.1 54 = .ok (.ireturn, 1) := by decide +kernel
theorem c_TrustDesk_near_0 {g : mj_G} {l : Launch} {d nx : Nat} {M : mj_M} {x1 : Int32} (h_64 : M 64 = some (.inr (12, [.ref 65, .ref 70, .ref 77, .ref 80, .ref 90, .ref 94, .ref 95, .ref 96, .ref 97, .ref 98, .int 0, .int 0, .int 0]))) (h_70 : M 70 = some (.inr (9, [.int 0, .int 0, .int (-1), .ref 71, .ref 72, .ref 73, .ref 74, .ref 75, .int 0, .int 0, .int 0, .int 0, .int 0, .int 0, .int 0, .int 0, .int 0, .ref 76, .int 0]))) (h_96 : M 96 = some (.inr (0, [.int 0, .ref 0, .int 0]))) : mj_Met g l kY_TrustDesk_near (d + 3) [.ref 64, .int x1] M nx 0 0 (mj_KP (some (.int (e_near x1))) M 99 149) := by
  refine mj_enter (by decide) (Nat.le_of_ble_eq_true rfl) ?_
  refine mv_iload_n d_TrustDesk_near_0 rfl rfl ?_
  refine mv_if_ltZ (tgt := 23) (a := x1.toInt) d_TrustDesk_near_1 (by decide) rfl (fun b1 => ?_) (fun b1 => ?_)
  · refine mv_iconst (v := (-1)) d_TrustDesk_near_23 (by decide) ?_
    exact mv_iret d_TrustDesk_near_24 rfl (by first | rfl | decide) ⟨(by unfold e_near; first | rw [if_pos (by omega)] | rw [if_neg (by omega)]), fun a ha1 ha2 => rfl⟩
  · refine mv_iload_n d_TrustDesk_near_4 rfl rfl ?_
    refine mv_sipush (v := 255) d_TrustDesk_near_5 (by decide) ?_
    refine mv_icmp_gtZ (tgt := 23) (a := x1.toInt) (b := 255) d_TrustDesk_near_8 (by decide) rfl (by decide) (fun b2 => ?_) (fun b2 => ?_)
    · refine mv_iconst (v := (-1)) d_TrustDesk_near_23 (by decide) ?_
      exact mv_iret d_TrustDesk_near_24 rfl (by first | rfl | decide) ⟨(by unfold e_near; first | rw [if_pos (by omega)] | rw [if_neg (by omega)]), fun a ha1 ha2 => rfl⟩
    · refine mv_aload_n d_TrustDesk_near_11 rfl rfl ?_
      refine mv_get d_TrustDesk_near_12 f_TrustDesk_56_12 h_64 rfl ?_
      refine mv_callV_s (kc' := 0) (ks' := 0) [] [.ref 96] d_TrustDesk_near_15 lV_TrustDesk_97 h_96 rfl (c_ArrayList_size_2 (d := (d + 2)) (h_96 := h_96)) rfl (Nat.le_of_ble_eq_true rfl) (Nat.le_of_ble_eq_true rfl) (Nat.le_of_ble_eq_true rfl) rfl ?_
      refine mv_bipush (v := 12) d_TrustDesk_near_18 (by decide) ?_
      refine mv_icmp_lt_t (tgt := 25) d_TrustDesk_near_20 (by decide) (by decide) ?_
      refine mv_aload_n d_TrustDesk_near_25 rfl rfl ?_
      refine mv_get d_TrustDesk_near_26 f_TrustDesk_19_12 h_64 rfl ?_
      refine mv_callV_s (kc' := 0) (ks' := 0) [] [.ref 70] d_TrustDesk_near_29 lV_TrustDesk_135 h_70 rfl (c_Reader_readNearEnd_0 (d := d) (h_70 := h_70)) rfl (Nat.le_of_ble_eq_true rfl) (Nat.le_of_ble_eq_true rfl) (Nat.le_of_ble_eq_true rfl) rfl ?_
      refine mv_astore_nN (lv' := [(2, .null), (0, .ref 64), (1, .int x1)]) d_TrustDesk_near_32 rfl (by decide) rfl ?_
      refine mv_aload_n d_TrustDesk_near_33 rfl rfl ?_
      refine mv_get d_TrustDesk_near_34 f_TrustDesk_19_12 ((mj_up_ne _ _ (Nat.ne_of_beq_eq_false rfl)).trans ((mj_up_ne _ _ (Nat.ne_of_beq_eq_false rfl)).trans ((mj_up_ne _ _ (Nat.ne_of_beq_eq_false rfl)).trans ((mj_up_ne _ _ (Nat.ne_of_beq_eq_false rfl)).trans ((mj_up_ne _ _ (Nat.ne_of_beq_eq_false rfl)).trans ((mj_up_ne _ _ (Nat.ne_of_beq_eq_false rfl)).trans ((mj_up_ne _ _ (Nat.ne_of_beq_eq_false rfl)).trans ((mj_up_ne _ _ (Nat.ne_of_beq_eq_false rfl)).trans ((mj_up_ne _ _ (Nat.ne_of_beq_eq_false rfl)).trans ((mj_up_ne _ _ (Nat.ne_of_beq_eq_false rfl)).trans ((mj_up_ne _ _ (Nat.ne_of_beq_eq_false rfl)).trans ((mj_up_ne _ _ (Nat.ne_of_beq_eq_false rfl)).trans ((mj_up_ne _ _ (Nat.ne_of_beq_eq_false rfl)).trans h_64))))))))))))) rfl ?_
      refine mv_iconst (v := 0) d_TrustDesk_near_37 (by decide) ?_
      refine mv_put (fs' := [.int 0, .int 1, .int 0, .ref 71, .ref 72, .ref 73, .ref 74, .ref 75, .int 0, .int 0, .int 0, .int 0, .int 0, .int (-1), .int 0, .int 10, .int 0, .ref 76, .int 0]) d_TrustDesk_near_38 p_TrustDesk_88_9 (mj_up_self _ _ _) (Nat.le_of_ble_eq_true rfl) rfl rfl rfl ?_
      refine mv_aload_nN d_TrustDesk_near_41 rfl rfl ?_
      refine mv_ifnonnullN d_TrustDesk_near_42 ?_
      refine mv_iconst (v := (-1)) d_TrustDesk_near_45 (by decide) ?_
      refine mv_aload_n d_TrustDesk_near_46 rfl rfl ?_
      refine mv_get d_TrustDesk_near_47 f_TrustDesk_19_12 ((mj_up_ne _ _ (Nat.ne_of_beq_eq_false rfl)).trans ((mj_up_ne _ _ (Nat.ne_of_beq_eq_false rfl)).trans ((mj_up_ne _ _ (Nat.ne_of_beq_eq_false rfl)).trans ((mj_up_ne _ _ (Nat.ne_of_beq_eq_false rfl)).trans ((mj_up_ne _ _ (Nat.ne_of_beq_eq_false rfl)).trans ((mj_up_ne _ _ (Nat.ne_of_beq_eq_false rfl)).trans ((mj_up_ne _ _ (Nat.ne_of_beq_eq_false rfl)).trans ((mj_up_ne _ _ (Nat.ne_of_beq_eq_false rfl)).trans ((mj_up_ne _ _ (Nat.ne_of_beq_eq_false rfl)).trans ((mj_up_ne _ _ (Nat.ne_of_beq_eq_false rfl)).trans ((mj_up_ne _ _ (Nat.ne_of_beq_eq_false rfl)).trans ((mj_up_ne _ _ (Nat.ne_of_beq_eq_false rfl)).trans ((mj_up_ne _ _ (Nat.ne_of_beq_eq_false rfl)).trans ((mj_up_ne _ _ (Nat.ne_of_beq_eq_false rfl)).trans h_64)))))))))))))) rfl ?_
      refine mv_get d_TrustDesk_near_50 f_TrustDesk_104_9 (mj_up_self _ _ _) rfl ?_
      refine mv_isubv (v := (-2)) d_TrustDesk_near_53 (by decide) ?_
      exact mv_iret d_TrustDesk_near_54 rfl (by first | rfl | decide) ⟨(by unfold e_near; first | rw [if_pos (by omega)] | rw [if_neg (by omega)]), fun a ha1 ha2 => (mj_up_ne _ _ (show a ≠ 70 by omega)).trans ((mj_up_ne _ _ (show a ≠ 70 by omega)).trans ((mj_up_ne _ _ (show a ≠ 70 by omega)).trans ((mj_up_ne _ _ (show a ≠ 70 by omega)).trans ((mj_up_ne _ _ (show a ≠ 70 by omega)).trans ((mj_up_ne _ _ (show a ≠ 70 by omega)).trans ((mj_up_ne _ _ (show a ≠ 70 by omega)).trans ((mj_up_ne _ _ (show a ≠ 70 by omega)).trans ((mj_up_ne _ _ (show a ≠ 70 by omega)).trans ((mj_up_ne _ _ (show a ≠ 70 by omega)).trans ((mj_up_ne _ _ (show a ≠ 70 by omega)).trans ((mj_up_ne _ _ (show a ≠ 70 by omega)).trans ((mj_up_ne _ _ (show a ≠ 70 by omega)).trans ((mj_up_ne _ _ (show a ≠ 70 by omega)).trans (rfl))))))))))))))⟩
abbrev kY_TrustDesk_place : mj_Y := (⟨"TrustDesk", "place", "()I"⟩, prog_1_method_10_code, 1, (Option.some Jvm.ClassFile.FieldType.int))
theorem d_TrustDesk_place_0 : decode kY_TrustDesk_place.2.1 0 = .ok (.aload_n 0, 1) := by decide +kernel
theorem d_TrustDesk_place_1 : decode kY_TrustDesk_place.2.1 1 = .ok (.getfield 19, 3) := by decide +kernel
theorem d_TrustDesk_place_4 : decode kY_TrustDesk_place.2.1 4 = .ok (.getfield 144, 3) := by decide +kernel
theorem f_TrustDesk_144_9 : mj_fl "TrustDesk" 144 9 2 := ⟨kR_Reader, kF_Reader, 19, "TrustDesk$Reader", rfl, kg_9, by decide, (mj_in1 (List.mem_of_getElem? (i := 74) (by decide +kernel)) rfl), Or.inl rfl⟩
theorem d_TrustDesk_place_7 : decode kY_TrustDesk_place.2.1 7 = .ok (.ireturn, 1) := by decide +kernel
theorem c_TrustDesk_place_0 {g : mj_G} {l : Launch} {d nx : Nat} {M : mj_M} (h_64 : M 64 = some (.inr (12, [.ref 65, .ref 70, .ref 77, .ref 80, .ref 90, .ref 94, .ref 95, .ref 96, .ref 97, .ref 98, .int 0, .int 0, .int 0]))) (h_70 : M 70 = some (.inr (9, [.int 0, .int 0, .int (-1), .ref 71, .ref 72, .ref 73, .ref 74, .ref 75, .int 0, .int 0, .int 0, .int 0, .int 0, .int 0, .int 0, .int 0, .int 0, .ref 76, .int 0]))) : mj_Met g l kY_TrustDesk_place d [.ref 64] M nx 0 0 (mj_E1 (some (.int (-1))) M nx) := by
  refine mj_enter (by decide) (Nat.le_of_ble_eq_true rfl) ?_
  refine mv_aload_n d_TrustDesk_place_0 rfl rfl ?_
  refine mv_get d_TrustDesk_place_1 f_TrustDesk_19_12 h_64 rfl ?_
  refine mv_get d_TrustDesk_place_4 f_TrustDesk_144_9 h_70 rfl ?_
  exact mv_iret d_TrustDesk_place_7 rfl (by first | rfl | decide) ⟨rfl, rfl, rfl⟩
abbrev kY_TrustDesk_days : mj_Y := (⟨"TrustDesk", "days", "(I)I"⟩, prog_1_method_11_code, 4, (Option.some Jvm.ClassFile.FieldType.int))
theorem d_TrustDesk_days_0 : decode kY_TrustDesk_days.2.1 0 = .ok (.iload_n 1, 1) := by decide +kernel
theorem d_TrustDesk_days_1 : decode kY_TrustDesk_days.2.1 1 = .ok (.iconst 1, 1) := by decide +kernel
theorem d_TrustDesk_days_2 : decode kY_TrustDesk_days.2.1 2 = .ok (.if_icmp .lt 21, 3) := by decide +kernel
theorem d_TrustDesk_days_23 : decode kY_TrustDesk_days.2.1 23 = .ok (.iconst (-1), 1) := by decide +kernel
theorem d_TrustDesk_days_24 : decode kY_TrustDesk_days.2.1 24 = .ok (.ireturn, 1) := by decide +kernel
theorem d_TrustDesk_days_5 : decode kY_TrustDesk_days.2.1 5 = .ok (.iload_n 1, 1) := by decide +kernel
theorem d_TrustDesk_days_6 : decode kY_TrustDesk_days.2.1 6 = .ok (.sipush 720, 3) := by decide +kernel
theorem d_TrustDesk_days_9 : decode kY_TrustDesk_days.2.1 9 = .ok (.if_icmp .gt 14, 3) := by decide +kernel
theorem d_TrustDesk_days_12 : decode kY_TrustDesk_days.2.1 12 = .ok (.aload_n 0, 1) := by decide +kernel
theorem d_TrustDesk_days_13 : decode kY_TrustDesk_days.2.1 13 = .ok (.getfield 73, 3) := by decide +kernel
theorem d_TrustDesk_days_16 : decode kY_TrustDesk_days.2.1 16 = .ok (.iload_n 1, 1) := by decide +kernel
theorem d_TrustDesk_days_17 : decode kY_TrustDesk_days.2.1 17 = .ok (.iadd, 1) := by decide +kernel
theorem d_TrustDesk_days_18 : decode kY_TrustDesk_days.2.1 18 = .ok (.ldc 147, 2) := by decide +kernel
theorem d_TrustDesk_days_20 : decode kY_TrustDesk_days.2.1 20 = .ok (.if_icmp .le 5, 3) := by decide +kernel
theorem d_TrustDesk_days_25 : decode kY_TrustDesk_days.2.1 25 = .ok (.aload_n 0, 1) := by decide +kernel
theorem d_TrustDesk_days_26 : decode kY_TrustDesk_days.2.1 26 = .ok (.getfield 73, 3) := by decide +kernel
theorem d_TrustDesk_days_29 : decode kY_TrustDesk_days.2.1 29 = .ok (.iload_n 1, 1) := by decide +kernel
theorem d_TrustDesk_days_30 : decode kY_TrustDesk_days.2.1 30 = .ok (.iadd, 1) := by decide +kernel
theorem d_TrustDesk_days_31 : decode kY_TrustDesk_days.2.1 31 = .ok (.istore_n 2, 1) := by decide +kernel
theorem d_TrustDesk_days_32 : decode kY_TrustDesk_days.2.1 32 = .ok (.aload_n 0, 1) := by decide +kernel
theorem d_TrustDesk_days_33 : decode kY_TrustDesk_days.2.1 33 = .ok (.getfield 73, 3) := by decide +kernel
theorem d_TrustDesk_days_36 : decode kY_TrustDesk_days.2.1 36 = .ok (.sipush 360, 3) := by decide +kernel
theorem d_TrustDesk_days_39 : decode kY_TrustDesk_days.2.1 39 = .ok (.idiv, 1) := by decide +kernel
theorem d_TrustDesk_days_40 : decode kY_TrustDesk_days.2.1 40 = .ok (.istore_n 3, 1) := by decide +kernel
theorem d_TrustDesk_days_41 : decode kY_TrustDesk_days.2.1 41 = .ok (.iload_n 3, 1) := by decide +kernel
theorem d_TrustDesk_days_42 : decode kY_TrustDesk_days.2.1 42 = .ok (.iload_n 2, 1) := by decide +kernel
theorem d_TrustDesk_days_43 : decode kY_TrustDesk_days.2.1 43 = .ok (.sipush 360, 3) := by decide +kernel
theorem d_TrustDesk_days_46 : decode kY_TrustDesk_days.2.1 46 = .ok (.idiv, 1) := by decide +kernel
theorem d_TrustDesk_days_47 : decode kY_TrustDesk_days.2.1 47 = .ok (.if_icmp .ge 14, 3) := by decide +kernel
theorem d_TrustDesk_days_61 : decode kY_TrustDesk_days.2.1 61 = .ok (.aload_n 0, 1) := by decide +kernel
theorem d_TrustDesk_days_62 : decode kY_TrustDesk_days.2.1 62 = .ok (.iload_n 2, 1) := by decide +kernel
theorem d_TrustDesk_days_63 : decode kY_TrustDesk_days.2.1 63 = .ok (.putfield 73, 3) := by decide +kernel
theorem p_TrustDesk_73_12 : mj_fp "TrustDesk" 73 12 12 (kt_TrustDesk 12) false := ⟨kR_TrustDesk, kF_TrustDesk, 13, "TrustDesk", kt_TrustDesk, rfl, kg_12, by decide, (mj_in1 (List.mem_of_getElem? (i := 279) (by decide +kernel)) rfl), Or.inl rfl, kto_TrustDesk, kn_TrustDesk, rfl, rfl, fun h => by cases h⟩
theorem d_TrustDesk_days_66 : decode kY_TrustDesk_days.2.1 66 = .ok (.aload_n 0, 1) := by decide +kernel
theorem d_TrustDesk_days_67 : decode kY_TrustDesk_days.2.1 67 = .ok (.getfield 73, 3) := by decide +kernel
theorem d_TrustDesk_days_70 : decode kY_TrustDesk_days.2.1 70 = .ok (.ireturn, 1) := by decide +kernel
theorem d_TrustDesk_days_50 : decode kY_TrustDesk_days.2.1 50 = .ok (.aload_n 0, 1) := by decide +kernel
theorem d_TrustDesk_days_51 : decode kY_TrustDesk_days.2.1 51 = .ok (.iload_n 3, 1) := by decide +kernel
theorem d_TrustDesk_days_52 : decode kY_TrustDesk_days.2.1 52 = .ok (.invokevirtual 148, 3) := by decide +kernel
abbrev kY_TrustDesk_closeYear : mj_Y := (⟨"TrustDesk", "closeYear", "(I)V"⟩, prog_1_method_12_code, 6, (Option.none : Option Jvm.ClassFile.FieldType))
theorem lV_TrustDesk_148 : mj_lV "TrustDesk" 148 kY_TrustDesk_closeYear 1 := ⟨⟨(mj_in1 (List.mem_of_getElem? (i := 844) (by decide +kernel)) rfl), (mj_in1 (List.mem_of_getElem? (i := 1) (by decide +kernel)) rfl), (mj_in1 (List.mem_of_getElem? (i := 847) (by decide +kernel)) rfl), by decide, rfl, by decide⟩, (mj_in1 (List.mem_of_getElem? (i := 846) (by decide +kernel)) rfl), (mj_in (List.mem_append_left _ (List.mem_of_getElem? (i := 40) (by decide +kernel))) rfl)⟩
theorem d_TrustDesk_closeYear_0 : decode kY_TrustDesk_closeYear.2.1 0 = .ok (.iload_n 1, 1) := by decide +kernel
theorem d_TrustDesk_closeYear_1 : decode kY_TrustDesk_closeYear.2.1 1 = .ok (.invokestatic 151, 3) := by decide +kernel
abbrev kY_TrustDesk_lastDayOf : mj_Y := (⟨"TrustDesk", "lastDayOf", "(I)I"⟩, prog_1_method_71_code, 1, (Option.some Jvm.ClassFile.FieldType.int))
theorem lS_TrustDesk_151 : mj_lS "TrustDesk" 151 kY_TrustDesk_lastDayOf 1 := ⟨⟨(mj_in1 (List.mem_of_getElem? (i := 848) (by decide +kernel)) rfl), (mj_in1 (List.mem_of_getElem? (i := 1) (by decide +kernel)) rfl), (mj_in1 (List.mem_of_getElem? (i := 850) (by decide +kernel)) rfl), by decide, rfl, by decide⟩, (mj_in1 (List.mem_of_getElem? (i := 849) (by decide +kernel)) rfl)⟩
theorem d_TrustDesk_lastDayOf_0 : decode kY_TrustDesk_lastDayOf.2.1 0 = .ok (.iload_n 0, 1) := by decide +kernel
theorem d_TrustDesk_lastDayOf_1 : decode kY_TrustDesk_lastDayOf.2.1 1 = .ok (.sipush 360, 3) := by decide +kernel
theorem d_TrustDesk_lastDayOf_4 : decode kY_TrustDesk_lastDayOf.2.1 4 = .ok (.imul, 1) := by decide +kernel
theorem d_TrustDesk_lastDayOf_5 : decode kY_TrustDesk_lastDayOf.2.1 5 = .ok (.sipush 360, 3) := by decide +kernel
theorem d_TrustDesk_lastDayOf_8 : decode kY_TrustDesk_lastDayOf.2.1 8 = .ok (.iadd, 1) := by decide +kernel
theorem d_TrustDesk_lastDayOf_9 : decode kY_TrustDesk_lastDayOf.2.1 9 = .ok (.iconst 1, 1) := by decide +kernel
theorem d_TrustDesk_lastDayOf_10 : decode kY_TrustDesk_lastDayOf.2.1 10 = .ok (.isub, 1) := by decide +kernel
theorem d_TrustDesk_lastDayOf_11 : decode kY_TrustDesk_lastDayOf.2.1 11 = .ok (.ireturn, 1) := by decide +kernel
theorem c_TrustDesk_lastDayOf_0 {g : mj_G} {l : Launch} {d nx : Nat} {M : mj_M} : mj_Met g l kY_TrustDesk_lastDayOf d [.int 0] M nx 0 0 (mj_E1 (some (.int 359)) M nx) := by
  refine mj_enter (by decide) (Nat.le_of_ble_eq_true rfl) ?_
  refine mv_iload_n d_TrustDesk_lastDayOf_0 rfl rfl ?_
  refine mv_sipush (v := 360) d_TrustDesk_lastDayOf_1 (by decide) ?_
  refine mv_imulv (v := 0) d_TrustDesk_lastDayOf_4 (by decide) ?_
  refine mv_sipush (v := 360) d_TrustDesk_lastDayOf_5 (by decide) ?_
  refine mv_iaddv (v := 360) d_TrustDesk_lastDayOf_8 (by decide) ?_
  refine mv_iconst (v := 1) d_TrustDesk_lastDayOf_9 (by decide) ?_
  refine mv_isubv (v := 359) d_TrustDesk_lastDayOf_10 (by decide) ?_
  exact mv_iret d_TrustDesk_lastDayOf_11 rfl (by first | rfl | decide) ⟨rfl, rfl, rfl⟩
theorem d_TrustDesk_closeYear_4 : decode kY_TrustDesk_closeYear.2.1 4 = .ok (.istore_n 2, 1) := by decide +kernel
theorem d_TrustDesk_closeYear_5 : decode kY_TrustDesk_closeYear.2.1 5 = .ok (.aload_n 0, 1) := by decide +kernel
theorem d_TrustDesk_closeYear_6 : decode kY_TrustDesk_closeYear.2.1 6 = .ok (.iload_n 2, 1) := by decide +kernel
theorem d_TrustDesk_closeYear_7 : decode kY_TrustDesk_closeYear.2.1 7 = .ok (.invokevirtual 114, 3) := by decide +kernel
theorem c_TrustDesk_inForce_1 {g : mj_G} {l : Launch} {d nx : Nat} {M : mj_M} (h_64 : M 64 = some (.inr (12, [.ref 65, .ref 70, .ref 77, .ref 80, .ref 90, .ref 94, .ref 95, .ref 96, .ref 97, .ref 98, .int 0, .int 0, .int 0]))) (h_94 : M 94 = some (.inr (0, [.int 0, .ref 0, .int 0]))) : mj_Met g l kY_TrustDesk_inForce (d + 1) [.ref 64, .int 359] M nx 0 0 (mj_E1 (some (.ref 90)) M nx) := by
  refine mj_enter (by decide) (Nat.le_of_ble_eq_true rfl) ?_
  refine mv_aload_n d_TrustDesk_inForce_0 rfl rfl ?_
  refine mv_get d_TrustDesk_inForce_1 f_TrustDesk_42_12 h_64 rfl ?_
  refine mv_astore_n (lv' := [(2, .ref 90), (0, .ref 64), (1, .int 359)]) d_TrustDesk_inForce_4 rfl (by decide) rfl ?_
  refine mv_iconst (v := 0) d_TrustDesk_inForce_5 (by decide) ?_
  refine mv_istore_n (lv' := [(3, .int 0), (2, .ref 90), (0, .ref 64), (1, .int 359)]) d_TrustDesk_inForce_6 rfl (by decide) rfl ?_
  refine mv_iload_n d_TrustDesk_inForce_7 rfl rfl ?_
  refine mv_aload_n d_TrustDesk_inForce_8 rfl rfl ?_
  refine mv_get d_TrustDesk_inForce_9 f_TrustDesk_49_12 h_64 rfl ?_
  refine mv_callV_s (kc' := 0) (ks' := 0) [] [.ref 94, .int 0] d_TrustDesk_inForce_12 lV_TrustDesk_97 h_94 rfl (c_ArrayList_size_0 (d := d) (h_94 := h_94)) rfl (Nat.le_of_ble_eq_true rfl) (Nat.le_of_ble_eq_true rfl) (Nat.le_of_ble_eq_true rfl) rfl ?_
  refine mv_icmp_ge_t (tgt := 61) d_TrustDesk_inForce_15 (by decide) (by decide) ?_
  refine mv_aload_n d_TrustDesk_inForce_61 rfl rfl ?_
  exact mv_aret (r := (some 90)) d_TrustDesk_inForce_62 rfl (by first | exact Or.inl ⟨_, rfl⟩ | exact Or.inr ⟨_, rfl⟩) ⟨rfl, rfl, rfl⟩
theorem d_TrustDesk_closeYear_10 : decode kY_TrustDesk_closeYear.2.1 10 = .ok (.astore_n 3, 1) := by decide +kernel
theorem d_TrustDesk_closeYear_11 : decode kY_TrustDesk_closeYear.2.1 11 = .ok (.aload_n 0, 1) := by decide +kernel
theorem d_TrustDesk_closeYear_12 : decode kY_TrustDesk_closeYear.2.1 12 = .ok (.getfield 26, 3) := by decide +kernel
theorem f_TrustDesk_26_12 : mj_fl "TrustDesk" 26 12 2 := ⟨kR_TrustDesk, kF_TrustDesk, 13, "TrustDesk", rfl, kg_12, by decide, (mj_in1 (List.mem_of_getElem? (i := 269) (by decide +kernel)) rfl), Or.inl rfl⟩
theorem d_TrustDesk_closeYear_15 : decode kY_TrustDesk_closeYear.2.1 15 = .ok (.aload_n 0, 1) := by decide +kernel
theorem d_TrustDesk_closeYear_16 : decode kY_TrustDesk_closeYear.2.1 16 = .ok (.getfield 10, 3) := by decide +kernel
theorem d_TrustDesk_closeYear_19 : decode kY_TrustDesk_closeYear.2.1 19 = .ok (.iload_n 1, 1) := by decide +kernel
theorem d_TrustDesk_closeYear_20 : decode kY_TrustDesk_closeYear.2.1 20 = .ok (.iload_n 2, 1) := by decide +kernel
theorem d_TrustDesk_closeYear_21 : decode kY_TrustDesk_closeYear.2.1 21 = .ok (.invokevirtual 154, 3) := by decide +kernel
abbrev kY_Reckoner_know : mj_Y := (⟨"TrustDesk$Reckoner", "know", "(LTrustDesk$Facts;II)V"⟩, prog_11_method_2_code, 5, (Option.none : Option Jvm.ClassFile.FieldType))
theorem lV_TrustDesk_154 : mj_lV "TrustDesk" 154 kY_Reckoner_know 3 := ⟨⟨(mj_in1 (List.mem_of_getElem? (i := 851) (by decide +kernel)) rfl), (mj_in1 (List.mem_of_getElem? (i := 4) (by decide +kernel)) rfl), (mj_in1 (List.mem_of_getElem? (i := 854) (by decide +kernel)) rfl), by decide, rfl, by decide⟩, (mj_in1 (List.mem_of_getElem? (i := 852) (by decide +kernel)) rfl), (mj_in1 (List.mem_of_getElem? (i := 853) (by decide +kernel)) rfl)⟩
theorem d_Reckoner_know_0 : decode kY_Reckoner_know.2.1 0 = .ok (.iconst 0, 1) := by decide +kernel
theorem d_Reckoner_know_1 : decode kY_Reckoner_know.2.1 1 = .ok (.istore 4, 2) := by decide +kernel
theorem d_Reckoner_know_3 : decode kY_Reckoner_know.2.1 3 = .ok (.iload 4, 2) := by decide +kernel
theorem d_Reckoner_know_5 : decode kY_Reckoner_know.2.1 5 = .ok (.bipush 8, 2) := by decide +kernel
theorem d_Reckoner_know_7 : decode kY_Reckoner_know.2.1 7 = .ok (.if_icmp .ge 25, 3) := by decide +kernel
theorem d_Reckoner_know_10 : decode kY_Reckoner_know.2.1 10 = .ok (.aload_n 0, 1) := by decide +kernel
theorem d_Reckoner_know_11 : decode kY_Reckoner_know.2.1 11 = .ok (.getfield 9, 3) := by decide +kernel
theorem f_Reckoner_9_10 : mj_fl "TrustDesk$Reckoner" 9 10 0 := ⟨kR_Reckoner, kF_Reckoner, 5, "TrustDesk$Reckoner", rfl, kg_10, by decide, (mj_in1 (List.mem_of_getElem? (i := 136) (by decide +kernel)) rfl), Or.inl rfl⟩
theorem d_Reckoner_know_14 : decode kY_Reckoner_know.2.1 14 = .ok (.iload 4, 2) := by decide +kernel
theorem d_Reckoner_know_16 : decode kY_Reckoner_know.2.1 16 = .ok (.aload_n 1, 1) := by decide +kernel
theorem d_Reckoner_know_17 : decode kY_Reckoner_know.2.1 17 = .ok (.iload 4, 2) := by decide +kernel
theorem d_Reckoner_know_19 : decode kY_Reckoner_know.2.1 19 = .ok (.iload_n 2, 1) := by decide +kernel
theorem d_Reckoner_know_20 : decode kY_Reckoner_know.2.1 20 = .ok (.iload_n 3, 1) := by decide +kernel
theorem d_Reckoner_know_21 : decode kY_Reckoner_know.2.1 21 = .ok (.invokevirtual 22, 3) := by decide +kernel
theorem lV_Reckoner_22 : mj_lV "TrustDesk$Reckoner" 22 kY_Facts_asKnown 3 := ⟨⟨(mj_in1 (List.mem_of_getElem? (i := 855) (by decide +kernel)) rfl), (mj_in1 (List.mem_of_getElem? (i := 2) (by decide +kernel)) rfl), (mj_in1 (List.mem_of_getElem? (i := 332) (by decide +kernel)) rfl), by decide, rfl, by decide⟩, (mj_in1 (List.mem_of_getElem? (i := 330) (by decide +kernel)) rfl), (mj_in1 (List.mem_of_getElem? (i := 331) (by decide +kernel)) rfl)⟩
theorem c_Facts_asKnown_1 {g : mj_G} {l : Launch} {d nx : Nat} {M : mj_M} (h_65 : M 65 = some (.inr (5, [.ref 66, .ref 67, .ref 68, .ref 69, .int 0]))) : mj_Met g l kY_Facts_asKnown d [.ref 65, .int 0, .int 0, .int 359] M nx 0 0 (mj_E1 (some (.int 0)) M nx) := by
  refine mj_enter (by decide) (Nat.le_of_ble_eq_true rfl) ?_
  refine mv_iconst (v := (-1)) d_Facts_asKnown_0 (by decide) ?_
  refine mv_istore (lv' := [(4, .int (-1)), (0, .ref 65), (1, .int 0), (2, .int 0), (3, .int 359)]) d_Facts_asKnown_1 (by decide) rfl ?_
  refine mv_iconst (v := 0) d_Facts_asKnown_3 (by decide) ?_
  refine mv_istore (lv' := [(5, .int 0), (4, .int (-1)), (0, .ref 65), (1, .int 0), (2, .int 0), (3, .int 359)]) d_Facts_asKnown_4 (by decide) rfl ?_
  refine mv_iconst (v := 0) d_Facts_asKnown_6 (by decide) ?_
  refine mv_istore (lv' := [(6, .int 0), (5, .int 0), (4, .int (-1)), (0, .ref 65), (1, .int 0), (2, .int 0), (3, .int 359)]) d_Facts_asKnown_7 (by decide) rfl ?_
  refine mv_iload d_Facts_asKnown_9 rfl ?_
  refine mv_aload_n d_Facts_asKnown_11 rfl rfl ?_
  refine mv_get d_Facts_asKnown_12 f_Facts_24_5 h_65 rfl ?_
  refine mv_icmp_ge_t (tgt := 95) d_Facts_asKnown_15 (by decide) (by decide) ?_
  refine mv_iload d_Facts_asKnown_95 rfl ?_
  exact mv_iret d_Facts_asKnown_97 rfl (by first | rfl | decide) ⟨rfl, rfl, rfl⟩
theorem d_Reckoner_know_24 : decode kY_Reckoner_know.2.1 24 = .ok (.i2l, 1) := by decide +kernel
theorem d_Reckoner_know_25 : decode kY_Reckoner_know.2.1 25 = .ok (.lastore, 1) := by decide +kernel
theorem d_Reckoner_know_26 : decode kY_Reckoner_know.2.1 26 = .ok (.iinc 4 1, 3) := by decide +kernel
theorem d_Reckoner_know_29 : decode kY_Reckoner_know.2.1 29 = .ok (.goto (-26), 3) := by decide +kernel
theorem c_Facts_asKnown_2 {g : mj_G} {l : Launch} {d nx : Nat} {M : mj_M} (h_65 : M 65 = some (.inr (5, [.ref 66, .ref 67, .ref 68, .ref 69, .int 0]))) : mj_Met g l kY_Facts_asKnown d [.ref 65, .int 1, .int 0, .int 359] M nx 0 0 (mj_E1 (some (.int 0)) M nx) := by
  refine mj_enter (by decide) (Nat.le_of_ble_eq_true rfl) ?_
  refine mv_iconst (v := (-1)) d_Facts_asKnown_0 (by decide) ?_
  refine mv_istore (lv' := [(4, .int (-1)), (0, .ref 65), (1, .int 1), (2, .int 0), (3, .int 359)]) d_Facts_asKnown_1 (by decide) rfl ?_
  refine mv_iconst (v := 0) d_Facts_asKnown_3 (by decide) ?_
  refine mv_istore (lv' := [(5, .int 0), (4, .int (-1)), (0, .ref 65), (1, .int 1), (2, .int 0), (3, .int 359)]) d_Facts_asKnown_4 (by decide) rfl ?_
  refine mv_iconst (v := 0) d_Facts_asKnown_6 (by decide) ?_
  refine mv_istore (lv' := [(6, .int 0), (5, .int 0), (4, .int (-1)), (0, .ref 65), (1, .int 1), (2, .int 0), (3, .int 359)]) d_Facts_asKnown_7 (by decide) rfl ?_
  refine mv_iload d_Facts_asKnown_9 rfl ?_
  refine mv_aload_n d_Facts_asKnown_11 rfl rfl ?_
  refine mv_get d_Facts_asKnown_12 f_Facts_24_5 h_65 rfl ?_
  refine mv_icmp_ge_t (tgt := 95) d_Facts_asKnown_15 (by decide) (by decide) ?_
  refine mv_iload d_Facts_asKnown_95 rfl ?_
  exact mv_iret d_Facts_asKnown_97 rfl (by first | rfl | decide) ⟨rfl, rfl, rfl⟩
theorem c_Facts_asKnown_3 {g : mj_G} {l : Launch} {d nx : Nat} {M : mj_M} (h_65 : M 65 = some (.inr (5, [.ref 66, .ref 67, .ref 68, .ref 69, .int 0]))) : mj_Met g l kY_Facts_asKnown d [.ref 65, .int 2, .int 0, .int 359] M nx 0 0 (mj_E1 (some (.int 0)) M nx) := by
  refine mj_enter (by decide) (Nat.le_of_ble_eq_true rfl) ?_
  refine mv_iconst (v := (-1)) d_Facts_asKnown_0 (by decide) ?_
  refine mv_istore (lv' := [(4, .int (-1)), (0, .ref 65), (1, .int 2), (2, .int 0), (3, .int 359)]) d_Facts_asKnown_1 (by decide) rfl ?_
  refine mv_iconst (v := 0) d_Facts_asKnown_3 (by decide) ?_
  refine mv_istore (lv' := [(5, .int 0), (4, .int (-1)), (0, .ref 65), (1, .int 2), (2, .int 0), (3, .int 359)]) d_Facts_asKnown_4 (by decide) rfl ?_
  refine mv_iconst (v := 0) d_Facts_asKnown_6 (by decide) ?_
  refine mv_istore (lv' := [(6, .int 0), (5, .int 0), (4, .int (-1)), (0, .ref 65), (1, .int 2), (2, .int 0), (3, .int 359)]) d_Facts_asKnown_7 (by decide) rfl ?_
  refine mv_iload d_Facts_asKnown_9 rfl ?_
  refine mv_aload_n d_Facts_asKnown_11 rfl rfl ?_
  refine mv_get d_Facts_asKnown_12 f_Facts_24_5 h_65 rfl ?_
  refine mv_icmp_ge_t (tgt := 95) d_Facts_asKnown_15 (by decide) (by decide) ?_
  refine mv_iload d_Facts_asKnown_95 rfl ?_
  exact mv_iret d_Facts_asKnown_97 rfl (by first | rfl | decide) ⟨rfl, rfl, rfl⟩
theorem c_Facts_asKnown_4 {g : mj_G} {l : Launch} {d nx : Nat} {M : mj_M} (h_65 : M 65 = some (.inr (5, [.ref 66, .ref 67, .ref 68, .ref 69, .int 0]))) : mj_Met g l kY_Facts_asKnown d [.ref 65, .int 3, .int 0, .int 359] M nx 0 0 (mj_E1 (some (.int 0)) M nx) := by
  refine mj_enter (by decide) (Nat.le_of_ble_eq_true rfl) ?_
  refine mv_iconst (v := (-1)) d_Facts_asKnown_0 (by decide) ?_
  refine mv_istore (lv' := [(4, .int (-1)), (0, .ref 65), (1, .int 3), (2, .int 0), (3, .int 359)]) d_Facts_asKnown_1 (by decide) rfl ?_
  refine mv_iconst (v := 0) d_Facts_asKnown_3 (by decide) ?_
  refine mv_istore (lv' := [(5, .int 0), (4, .int (-1)), (0, .ref 65), (1, .int 3), (2, .int 0), (3, .int 359)]) d_Facts_asKnown_4 (by decide) rfl ?_
  refine mv_iconst (v := 0) d_Facts_asKnown_6 (by decide) ?_
  refine mv_istore (lv' := [(6, .int 0), (5, .int 0), (4, .int (-1)), (0, .ref 65), (1, .int 3), (2, .int 0), (3, .int 359)]) d_Facts_asKnown_7 (by decide) rfl ?_
  refine mv_iload d_Facts_asKnown_9 rfl ?_
  refine mv_aload_n d_Facts_asKnown_11 rfl rfl ?_
  refine mv_get d_Facts_asKnown_12 f_Facts_24_5 h_65 rfl ?_
  refine mv_icmp_ge_t (tgt := 95) d_Facts_asKnown_15 (by decide) (by decide) ?_
  refine mv_iload d_Facts_asKnown_95 rfl ?_
  exact mv_iret d_Facts_asKnown_97 rfl (by first | rfl | decide) ⟨rfl, rfl, rfl⟩
theorem c_Facts_asKnown_5 {g : mj_G} {l : Launch} {d nx : Nat} {M : mj_M} (h_65 : M 65 = some (.inr (5, [.ref 66, .ref 67, .ref 68, .ref 69, .int 0]))) : mj_Met g l kY_Facts_asKnown d [.ref 65, .int 4, .int 0, .int 359] M nx 0 0 (mj_E1 (some (.int 0)) M nx) := by
  refine mj_enter (by decide) (Nat.le_of_ble_eq_true rfl) ?_
  refine mv_iconst (v := (-1)) d_Facts_asKnown_0 (by decide) ?_
  refine mv_istore (lv' := [(4, .int (-1)), (0, .ref 65), (1, .int 4), (2, .int 0), (3, .int 359)]) d_Facts_asKnown_1 (by decide) rfl ?_
  refine mv_iconst (v := 0) d_Facts_asKnown_3 (by decide) ?_
  refine mv_istore (lv' := [(5, .int 0), (4, .int (-1)), (0, .ref 65), (1, .int 4), (2, .int 0), (3, .int 359)]) d_Facts_asKnown_4 (by decide) rfl ?_
  refine mv_iconst (v := 0) d_Facts_asKnown_6 (by decide) ?_
  refine mv_istore (lv' := [(6, .int 0), (5, .int 0), (4, .int (-1)), (0, .ref 65), (1, .int 4), (2, .int 0), (3, .int 359)]) d_Facts_asKnown_7 (by decide) rfl ?_
  refine mv_iload d_Facts_asKnown_9 rfl ?_
  refine mv_aload_n d_Facts_asKnown_11 rfl rfl ?_
  refine mv_get d_Facts_asKnown_12 f_Facts_24_5 h_65 rfl ?_
  refine mv_icmp_ge_t (tgt := 95) d_Facts_asKnown_15 (by decide) (by decide) ?_
  refine mv_iload d_Facts_asKnown_95 rfl ?_
  exact mv_iret d_Facts_asKnown_97 rfl (by first | rfl | decide) ⟨rfl, rfl, rfl⟩
theorem c_Facts_asKnown_6 {g : mj_G} {l : Launch} {d nx : Nat} {M : mj_M} (h_65 : M 65 = some (.inr (5, [.ref 66, .ref 67, .ref 68, .ref 69, .int 0]))) : mj_Met g l kY_Facts_asKnown d [.ref 65, .int 5, .int 0, .int 359] M nx 0 0 (mj_E1 (some (.int 0)) M nx) := by
  refine mj_enter (by decide) (Nat.le_of_ble_eq_true rfl) ?_
  refine mv_iconst (v := (-1)) d_Facts_asKnown_0 (by decide) ?_
  refine mv_istore (lv' := [(4, .int (-1)), (0, .ref 65), (1, .int 5), (2, .int 0), (3, .int 359)]) d_Facts_asKnown_1 (by decide) rfl ?_
  refine mv_iconst (v := 0) d_Facts_asKnown_3 (by decide) ?_
  refine mv_istore (lv' := [(5, .int 0), (4, .int (-1)), (0, .ref 65), (1, .int 5), (2, .int 0), (3, .int 359)]) d_Facts_asKnown_4 (by decide) rfl ?_
  refine mv_iconst (v := 0) d_Facts_asKnown_6 (by decide) ?_
  refine mv_istore (lv' := [(6, .int 0), (5, .int 0), (4, .int (-1)), (0, .ref 65), (1, .int 5), (2, .int 0), (3, .int 359)]) d_Facts_asKnown_7 (by decide) rfl ?_
  refine mv_iload d_Facts_asKnown_9 rfl ?_
  refine mv_aload_n d_Facts_asKnown_11 rfl rfl ?_
  refine mv_get d_Facts_asKnown_12 f_Facts_24_5 h_65 rfl ?_
  refine mv_icmp_ge_t (tgt := 95) d_Facts_asKnown_15 (by decide) (by decide) ?_
  refine mv_iload d_Facts_asKnown_95 rfl ?_
  exact mv_iret d_Facts_asKnown_97 rfl (by first | rfl | decide) ⟨rfl, rfl, rfl⟩
theorem c_Facts_asKnown_7 {g : mj_G} {l : Launch} {d nx : Nat} {M : mj_M} (h_65 : M 65 = some (.inr (5, [.ref 66, .ref 67, .ref 68, .ref 69, .int 0]))) : mj_Met g l kY_Facts_asKnown d [.ref 65, .int 6, .int 0, .int 359] M nx 0 0 (mj_E1 (some (.int 0)) M nx) := by
  refine mj_enter (by decide) (Nat.le_of_ble_eq_true rfl) ?_
  refine mv_iconst (v := (-1)) d_Facts_asKnown_0 (by decide) ?_
  refine mv_istore (lv' := [(4, .int (-1)), (0, .ref 65), (1, .int 6), (2, .int 0), (3, .int 359)]) d_Facts_asKnown_1 (by decide) rfl ?_
  refine mv_iconst (v := 0) d_Facts_asKnown_3 (by decide) ?_
  refine mv_istore (lv' := [(5, .int 0), (4, .int (-1)), (0, .ref 65), (1, .int 6), (2, .int 0), (3, .int 359)]) d_Facts_asKnown_4 (by decide) rfl ?_
  refine mv_iconst (v := 0) d_Facts_asKnown_6 (by decide) ?_
  refine mv_istore (lv' := [(6, .int 0), (5, .int 0), (4, .int (-1)), (0, .ref 65), (1, .int 6), (2, .int 0), (3, .int 359)]) d_Facts_asKnown_7 (by decide) rfl ?_
  refine mv_iload d_Facts_asKnown_9 rfl ?_
  refine mv_aload_n d_Facts_asKnown_11 rfl rfl ?_
  refine mv_get d_Facts_asKnown_12 f_Facts_24_5 h_65 rfl ?_
  refine mv_icmp_ge_t (tgt := 95) d_Facts_asKnown_15 (by decide) (by decide) ?_
  refine mv_iload d_Facts_asKnown_95 rfl ?_
  exact mv_iret d_Facts_asKnown_97 rfl (by first | rfl | decide) ⟨rfl, rfl, rfl⟩
theorem c_Facts_asKnown_8 {g : mj_G} {l : Launch} {d nx : Nat} {M : mj_M} (h_65 : M 65 = some (.inr (5, [.ref 66, .ref 67, .ref 68, .ref 69, .int 0]))) : mj_Met g l kY_Facts_asKnown d [.ref 65, .int 7, .int 0, .int 359] M nx 0 0 (mj_E1 (some (.int 0)) M nx) := by
  refine mj_enter (by decide) (Nat.le_of_ble_eq_true rfl) ?_
  refine mv_iconst (v := (-1)) d_Facts_asKnown_0 (by decide) ?_
  refine mv_istore (lv' := [(4, .int (-1)), (0, .ref 65), (1, .int 7), (2, .int 0), (3, .int 359)]) d_Facts_asKnown_1 (by decide) rfl ?_
  refine mv_iconst (v := 0) d_Facts_asKnown_3 (by decide) ?_
  refine mv_istore (lv' := [(5, .int 0), (4, .int (-1)), (0, .ref 65), (1, .int 7), (2, .int 0), (3, .int 359)]) d_Facts_asKnown_4 (by decide) rfl ?_
  refine mv_iconst (v := 0) d_Facts_asKnown_6 (by decide) ?_
  refine mv_istore (lv' := [(6, .int 0), (5, .int 0), (4, .int (-1)), (0, .ref 65), (1, .int 7), (2, .int 0), (3, .int 359)]) d_Facts_asKnown_7 (by decide) rfl ?_
  refine mv_iload d_Facts_asKnown_9 rfl ?_
  refine mv_aload_n d_Facts_asKnown_11 rfl rfl ?_
  refine mv_get d_Facts_asKnown_12 f_Facts_24_5 h_65 rfl ?_
  refine mv_icmp_ge_t (tgt := 95) d_Facts_asKnown_15 (by decide) (by decide) ?_
  refine mv_iload d_Facts_asKnown_95 rfl ?_
  exact mv_iret d_Facts_asKnown_97 rfl (by first | rfl | decide) ⟨rfl, rfl, rfl⟩
theorem d_Reckoner_know_32 : decode kY_Reckoner_know.2.1 32 = .ok (.return_, 1) := by decide +kernel
theorem c_Reckoner_know_0 {g : mj_G} {l : Launch} {d nx : Nat} {M : mj_M} (h_65 : M 65 = some (.inr (5, [.ref 66, .ref 67, .ref 68, .ref 69, .int 0]))) (h_77 : M 77 = some (.inr (10, [.ref 78, .int (-1), .ref 79, .int 0, .int 0]))) (h_78 : M 78 = some (.inl (1, 13, .inr (.inl (fun _ => 0))))) : mj_Met g l kY_Reckoner_know (d + 1) [.ref 77, .ref 65, .int 0, .int 359] M nx 0 0 (mj_E1 none (mj_up (mj_up (mj_up (mj_up (mj_up (mj_up (mj_up (mj_up M 78 (.inl (1, 13, .inr (.inl (vp_updL (fun _ => 0) 0 0))))) 78 (.inl (1, 13, .inr (.inl (vp_updL (vp_updL (fun _ => 0) 0 0) 1 0))))) 78 (.inl (1, 13, .inr (.inl (vp_updL (vp_updL (vp_updL (fun _ => 0) 0 0) 1 0) 2 0))))) 78 (.inl (1, 13, .inr (.inl (vp_updL (vp_updL (vp_updL (vp_updL (fun _ => 0) 0 0) 1 0) 2 0) 3 0))))) 78 (.inl (1, 13, .inr (.inl (vp_updL (vp_updL (vp_updL (vp_updL (vp_updL (fun _ => 0) 0 0) 1 0) 2 0) 3 0) 4 0))))) 78 (.inl (1, 13, .inr (.inl (vp_updL (vp_updL (vp_updL (vp_updL (vp_updL (vp_updL (fun _ => 0) 0 0) 1 0) 2 0) 3 0) 4 0) 5 0))))) 78 (.inl (1, 13, .inr (.inl (vp_updL (vp_updL (vp_updL (vp_updL (vp_updL (vp_updL (vp_updL (fun _ => 0) 0 0) 1 0) 2 0) 3 0) 4 0) 5 0) 6 0))))) 78 (.inl (1, 13, .inr (.inl (vp_updL (vp_updL (vp_updL (vp_updL (vp_updL (vp_updL (vp_updL (vp_updL (fun _ => 0) 0 0) 1 0) 2 0) 3 0) 4 0) 5 0) 6 0) 7 0))))) nx) := by
  refine mj_enter (by decide) (Nat.le_of_ble_eq_true rfl) ?_
  refine mv_iconst (v := 0) d_Reckoner_know_0 (by decide) ?_
  refine mv_istore (lv' := [(4, .int 0), (0, .ref 77), (1, .ref 65), (2, .int 0), (3, .int 359)]) d_Reckoner_know_1 (by decide) rfl ?_
  refine mv_iload d_Reckoner_know_3 rfl ?_
  refine mv_bipush (v := 8) d_Reckoner_know_5 (by decide) ?_
  refine mv_icmp_ge_f (tgt := 32) d_Reckoner_know_7 (by decide) (by decide) ?_
  refine mv_aload_n d_Reckoner_know_10 rfl rfl ?_
  refine mv_get d_Reckoner_know_11 f_Reckoner_9_10 h_77 rfl ?_
  refine mv_iload d_Reckoner_know_14 rfl ?_
  refine mv_aload_n d_Reckoner_know_16 rfl rfl ?_
  refine mv_iload d_Reckoner_know_17 rfl ?_
  refine mv_iload_n d_Reckoner_know_19 rfl rfl ?_
  refine mv_iload_n d_Reckoner_know_20 rfl rfl ?_
  refine mv_callV_s (kc' := 0) (ks' := 0) [.int 0, .int 0, .int 359] [.int 359, .int 0, .int 0, .ref 65, .int 0, .ref 78] d_Reckoner_know_21 lV_Reckoner_22 h_65 rfl (c_Facts_asKnown_1 (d := d) (h_65 := h_65)) rfl (Nat.le_of_ble_eq_true rfl) (Nat.le_of_ble_eq_true rfl) (Nat.le_of_ble_eq_true rfl) rfl ?_
  refine mv_i2l (v := 0) d_Reckoner_know_24 (by decide) ?_
  refine mv_last (f' := (vp_updL (fun _ => 0) 0 0)) d_Reckoner_know_25 h_78 (by unfold vp_in; decide) rfl ?_
  refine mv_iinc (v := 1) (lv' := [(4, .int 1), (0, .ref 77), (1, .ref 65), (2, .int 0), (3, .int 359)]) d_Reckoner_know_26 rfl (by decide) (by decide) rfl ?_
  refine mv_goto (tgt := 3) d_Reckoner_know_29 (by decide) ?_
  refine mv_iload d_Reckoner_know_3 rfl ?_
  refine mv_bipush (v := 8) d_Reckoner_know_5 (by decide) ?_
  refine mv_icmp_ge_f (tgt := 32) d_Reckoner_know_7 (by decide) (by decide) ?_
  refine mv_aload_n d_Reckoner_know_10 rfl rfl ?_
  refine mv_get d_Reckoner_know_11 f_Reckoner_9_10 ((mj_up_ne _ _ (Nat.ne_of_beq_eq_false rfl)).trans h_77) rfl ?_
  refine mv_iload d_Reckoner_know_14 rfl ?_
  refine mv_aload_n d_Reckoner_know_16 rfl rfl ?_
  refine mv_iload d_Reckoner_know_17 rfl ?_
  refine mv_iload_n d_Reckoner_know_19 rfl rfl ?_
  refine mv_iload_n d_Reckoner_know_20 rfl rfl ?_
  refine mv_callV_s (kc' := 0) (ks' := 0) [.int 1, .int 0, .int 359] [.int 359, .int 0, .int 1, .ref 65, .int 1, .ref 78] d_Reckoner_know_21 lV_Reckoner_22 ((mj_up_ne _ _ (Nat.ne_of_beq_eq_false rfl)).trans h_65) rfl (c_Facts_asKnown_2 (d := d) (h_65 := ((mj_up_ne _ _ (Nat.ne_of_beq_eq_false rfl)).trans h_65))) rfl (Nat.le_of_ble_eq_true rfl) (Nat.le_of_ble_eq_true rfl) (Nat.le_of_ble_eq_true rfl) rfl ?_
  refine mv_i2l (v := 0) d_Reckoner_know_24 (by decide) ?_
  refine mv_last (f' := (vp_updL (vp_updL (fun _ => 0) 0 0) 1 0)) d_Reckoner_know_25 (mj_up_self _ _ _) (by unfold vp_in; decide) rfl ?_
  refine mv_iinc (v := 2) (lv' := [(4, .int 2), (0, .ref 77), (1, .ref 65), (2, .int 0), (3, .int 359)]) d_Reckoner_know_26 rfl (by decide) (by decide) rfl ?_
  refine mv_goto (tgt := 3) d_Reckoner_know_29 (by decide) ?_
  refine mv_iload d_Reckoner_know_3 rfl ?_
  refine mv_bipush (v := 8) d_Reckoner_know_5 (by decide) ?_
  refine mv_icmp_ge_f (tgt := 32) d_Reckoner_know_7 (by decide) (by decide) ?_
  refine mv_aload_n d_Reckoner_know_10 rfl rfl ?_
  refine mv_get d_Reckoner_know_11 f_Reckoner_9_10 ((mj_up_ne _ _ (Nat.ne_of_beq_eq_false rfl)).trans ((mj_up_ne _ _ (Nat.ne_of_beq_eq_false rfl)).trans h_77)) rfl ?_
  refine mv_iload d_Reckoner_know_14 rfl ?_
  refine mv_aload_n d_Reckoner_know_16 rfl rfl ?_
  refine mv_iload d_Reckoner_know_17 rfl ?_
  refine mv_iload_n d_Reckoner_know_19 rfl rfl ?_
  refine mv_iload_n d_Reckoner_know_20 rfl rfl ?_
  refine mv_callV_s (kc' := 0) (ks' := 0) [.int 2, .int 0, .int 359] [.int 359, .int 0, .int 2, .ref 65, .int 2, .ref 78] d_Reckoner_know_21 lV_Reckoner_22 ((mj_up_ne _ _ (Nat.ne_of_beq_eq_false rfl)).trans ((mj_up_ne _ _ (Nat.ne_of_beq_eq_false rfl)).trans h_65)) rfl (c_Facts_asKnown_3 (d := d) (h_65 := ((mj_up_ne _ _ (Nat.ne_of_beq_eq_false rfl)).trans ((mj_up_ne _ _ (Nat.ne_of_beq_eq_false rfl)).trans h_65)))) rfl (Nat.le_of_ble_eq_true rfl) (Nat.le_of_ble_eq_true rfl) (Nat.le_of_ble_eq_true rfl) rfl ?_
  refine mv_i2l (v := 0) d_Reckoner_know_24 (by decide) ?_
  refine mv_last (f' := (vp_updL (vp_updL (vp_updL (fun _ => 0) 0 0) 1 0) 2 0)) d_Reckoner_know_25 (mj_up_self _ _ _) (by unfold vp_in; decide) rfl ?_
  refine mv_iinc (v := 3) (lv' := [(4, .int 3), (0, .ref 77), (1, .ref 65), (2, .int 0), (3, .int 359)]) d_Reckoner_know_26 rfl (by decide) (by decide) rfl ?_
  refine mv_goto (tgt := 3) d_Reckoner_know_29 (by decide) ?_
  refine mv_iload d_Reckoner_know_3 rfl ?_
  refine mv_bipush (v := 8) d_Reckoner_know_5 (by decide) ?_
  refine mv_icmp_ge_f (tgt := 32) d_Reckoner_know_7 (by decide) (by decide) ?_
  refine mv_aload_n d_Reckoner_know_10 rfl rfl ?_
  refine mv_get d_Reckoner_know_11 f_Reckoner_9_10 ((mj_up_ne _ _ (Nat.ne_of_beq_eq_false rfl)).trans ((mj_up_ne _ _ (Nat.ne_of_beq_eq_false rfl)).trans ((mj_up_ne _ _ (Nat.ne_of_beq_eq_false rfl)).trans h_77))) rfl ?_
  refine mv_iload d_Reckoner_know_14 rfl ?_
  refine mv_aload_n d_Reckoner_know_16 rfl rfl ?_
  refine mv_iload d_Reckoner_know_17 rfl ?_
  refine mv_iload_n d_Reckoner_know_19 rfl rfl ?_
  refine mv_iload_n d_Reckoner_know_20 rfl rfl ?_
  refine mv_callV_s (kc' := 0) (ks' := 0) [.int 3, .int 0, .int 359] [.int 359, .int 0, .int 3, .ref 65, .int 3, .ref 78] d_Reckoner_know_21 lV_Reckoner_22 ((mj_up_ne _ _ (Nat.ne_of_beq_eq_false rfl)).trans ((mj_up_ne _ _ (Nat.ne_of_beq_eq_false rfl)).trans ((mj_up_ne _ _ (Nat.ne_of_beq_eq_false rfl)).trans h_65))) rfl (c_Facts_asKnown_4 (d := d) (h_65 := ((mj_up_ne _ _ (Nat.ne_of_beq_eq_false rfl)).trans ((mj_up_ne _ _ (Nat.ne_of_beq_eq_false rfl)).trans ((mj_up_ne _ _ (Nat.ne_of_beq_eq_false rfl)).trans h_65))))) rfl (Nat.le_of_ble_eq_true rfl) (Nat.le_of_ble_eq_true rfl) (Nat.le_of_ble_eq_true rfl) rfl ?_
  refine mv_i2l (v := 0) d_Reckoner_know_24 (by decide) ?_
  refine mv_last (f' := (vp_updL (vp_updL (vp_updL (vp_updL (fun _ => 0) 0 0) 1 0) 2 0) 3 0)) d_Reckoner_know_25 (mj_up_self _ _ _) (by unfold vp_in; decide) rfl ?_
  refine mv_iinc (v := 4) (lv' := [(4, .int 4), (0, .ref 77), (1, .ref 65), (2, .int 0), (3, .int 359)]) d_Reckoner_know_26 rfl (by decide) (by decide) rfl ?_
  refine mv_goto (tgt := 3) d_Reckoner_know_29 (by decide) ?_
  refine mv_iload d_Reckoner_know_3 rfl ?_
  refine mv_bipush (v := 8) d_Reckoner_know_5 (by decide) ?_
  refine mv_icmp_ge_f (tgt := 32) d_Reckoner_know_7 (by decide) (by decide) ?_
  refine mv_aload_n d_Reckoner_know_10 rfl rfl ?_
  refine mv_get d_Reckoner_know_11 f_Reckoner_9_10 ((mj_up_ne _ _ (Nat.ne_of_beq_eq_false rfl)).trans ((mj_up_ne _ _ (Nat.ne_of_beq_eq_false rfl)).trans ((mj_up_ne _ _ (Nat.ne_of_beq_eq_false rfl)).trans ((mj_up_ne _ _ (Nat.ne_of_beq_eq_false rfl)).trans h_77)))) rfl ?_
  refine mv_iload d_Reckoner_know_14 rfl ?_
  refine mv_aload_n d_Reckoner_know_16 rfl rfl ?_
  refine mv_iload d_Reckoner_know_17 rfl ?_
  refine mv_iload_n d_Reckoner_know_19 rfl rfl ?_
  refine mv_iload_n d_Reckoner_know_20 rfl rfl ?_
  refine mv_callV_s (kc' := 0) (ks' := 0) [.int 4, .int 0, .int 359] [.int 359, .int 0, .int 4, .ref 65, .int 4, .ref 78] d_Reckoner_know_21 lV_Reckoner_22 ((mj_up_ne _ _ (Nat.ne_of_beq_eq_false rfl)).trans ((mj_up_ne _ _ (Nat.ne_of_beq_eq_false rfl)).trans ((mj_up_ne _ _ (Nat.ne_of_beq_eq_false rfl)).trans ((mj_up_ne _ _ (Nat.ne_of_beq_eq_false rfl)).trans h_65)))) rfl (c_Facts_asKnown_5 (d := d) (h_65 := ((mj_up_ne _ _ (Nat.ne_of_beq_eq_false rfl)).trans ((mj_up_ne _ _ (Nat.ne_of_beq_eq_false rfl)).trans ((mj_up_ne _ _ (Nat.ne_of_beq_eq_false rfl)).trans ((mj_up_ne _ _ (Nat.ne_of_beq_eq_false rfl)).trans h_65)))))) rfl (Nat.le_of_ble_eq_true rfl) (Nat.le_of_ble_eq_true rfl) (Nat.le_of_ble_eq_true rfl) rfl ?_
  refine mv_i2l (v := 0) d_Reckoner_know_24 (by decide) ?_
  refine mv_last (f' := (vp_updL (vp_updL (vp_updL (vp_updL (vp_updL (fun _ => 0) 0 0) 1 0) 2 0) 3 0) 4 0)) d_Reckoner_know_25 (mj_up_self _ _ _) (by unfold vp_in; decide) rfl ?_
  refine mv_iinc (v := 5) (lv' := [(4, .int 5), (0, .ref 77), (1, .ref 65), (2, .int 0), (3, .int 359)]) d_Reckoner_know_26 rfl (by decide) (by decide) rfl ?_
  refine mv_goto (tgt := 3) d_Reckoner_know_29 (by decide) ?_
  refine mv_iload d_Reckoner_know_3 rfl ?_
  refine mv_bipush (v := 8) d_Reckoner_know_5 (by decide) ?_
  refine mv_icmp_ge_f (tgt := 32) d_Reckoner_know_7 (by decide) (by decide) ?_
  refine mv_aload_n d_Reckoner_know_10 rfl rfl ?_
  refine mv_get d_Reckoner_know_11 f_Reckoner_9_10 ((mj_up_ne _ _ (Nat.ne_of_beq_eq_false rfl)).trans ((mj_up_ne _ _ (Nat.ne_of_beq_eq_false rfl)).trans ((mj_up_ne _ _ (Nat.ne_of_beq_eq_false rfl)).trans ((mj_up_ne _ _ (Nat.ne_of_beq_eq_false rfl)).trans ((mj_up_ne _ _ (Nat.ne_of_beq_eq_false rfl)).trans h_77))))) rfl ?_
  refine mv_iload d_Reckoner_know_14 rfl ?_
  refine mv_aload_n d_Reckoner_know_16 rfl rfl ?_
  refine mv_iload d_Reckoner_know_17 rfl ?_
  refine mv_iload_n d_Reckoner_know_19 rfl rfl ?_
  refine mv_iload_n d_Reckoner_know_20 rfl rfl ?_
  refine mv_callV_s (kc' := 0) (ks' := 0) [.int 5, .int 0, .int 359] [.int 359, .int 0, .int 5, .ref 65, .int 5, .ref 78] d_Reckoner_know_21 lV_Reckoner_22 ((mj_up_ne _ _ (Nat.ne_of_beq_eq_false rfl)).trans ((mj_up_ne _ _ (Nat.ne_of_beq_eq_false rfl)).trans ((mj_up_ne _ _ (Nat.ne_of_beq_eq_false rfl)).trans ((mj_up_ne _ _ (Nat.ne_of_beq_eq_false rfl)).trans ((mj_up_ne _ _ (Nat.ne_of_beq_eq_false rfl)).trans h_65))))) rfl (c_Facts_asKnown_6 (d := d) (h_65 := ((mj_up_ne _ _ (Nat.ne_of_beq_eq_false rfl)).trans ((mj_up_ne _ _ (Nat.ne_of_beq_eq_false rfl)).trans ((mj_up_ne _ _ (Nat.ne_of_beq_eq_false rfl)).trans ((mj_up_ne _ _ (Nat.ne_of_beq_eq_false rfl)).trans ((mj_up_ne _ _ (Nat.ne_of_beq_eq_false rfl)).trans h_65))))))) rfl (Nat.le_of_ble_eq_true rfl) (Nat.le_of_ble_eq_true rfl) (Nat.le_of_ble_eq_true rfl) rfl ?_
  refine mv_i2l (v := 0) d_Reckoner_know_24 (by decide) ?_
  refine mv_last (f' := (vp_updL (vp_updL (vp_updL (vp_updL (vp_updL (vp_updL (fun _ => 0) 0 0) 1 0) 2 0) 3 0) 4 0) 5 0)) d_Reckoner_know_25 (mj_up_self _ _ _) (by unfold vp_in; decide) rfl ?_
  refine mv_iinc (v := 6) (lv' := [(4, .int 6), (0, .ref 77), (1, .ref 65), (2, .int 0), (3, .int 359)]) d_Reckoner_know_26 rfl (by decide) (by decide) rfl ?_
  refine mv_goto (tgt := 3) d_Reckoner_know_29 (by decide) ?_
  refine mv_iload d_Reckoner_know_3 rfl ?_
  refine mv_bipush (v := 8) d_Reckoner_know_5 (by decide) ?_
  refine mv_icmp_ge_f (tgt := 32) d_Reckoner_know_7 (by decide) (by decide) ?_
  refine mv_aload_n d_Reckoner_know_10 rfl rfl ?_
  refine mv_get d_Reckoner_know_11 f_Reckoner_9_10 ((mj_up_ne _ _ (Nat.ne_of_beq_eq_false rfl)).trans ((mj_up_ne _ _ (Nat.ne_of_beq_eq_false rfl)).trans ((mj_up_ne _ _ (Nat.ne_of_beq_eq_false rfl)).trans ((mj_up_ne _ _ (Nat.ne_of_beq_eq_false rfl)).trans ((mj_up_ne _ _ (Nat.ne_of_beq_eq_false rfl)).trans ((mj_up_ne _ _ (Nat.ne_of_beq_eq_false rfl)).trans h_77)))))) rfl ?_
  refine mv_iload d_Reckoner_know_14 rfl ?_
  refine mv_aload_n d_Reckoner_know_16 rfl rfl ?_
  refine mv_iload d_Reckoner_know_17 rfl ?_
  refine mv_iload_n d_Reckoner_know_19 rfl rfl ?_
  refine mv_iload_n d_Reckoner_know_20 rfl rfl ?_
  refine mv_callV_s (kc' := 0) (ks' := 0) [.int 6, .int 0, .int 359] [.int 359, .int 0, .int 6, .ref 65, .int 6, .ref 78] d_Reckoner_know_21 lV_Reckoner_22 ((mj_up_ne _ _ (Nat.ne_of_beq_eq_false rfl)).trans ((mj_up_ne _ _ (Nat.ne_of_beq_eq_false rfl)).trans ((mj_up_ne _ _ (Nat.ne_of_beq_eq_false rfl)).trans ((mj_up_ne _ _ (Nat.ne_of_beq_eq_false rfl)).trans ((mj_up_ne _ _ (Nat.ne_of_beq_eq_false rfl)).trans ((mj_up_ne _ _ (Nat.ne_of_beq_eq_false rfl)).trans h_65)))))) rfl (c_Facts_asKnown_7 (d := d) (h_65 := ((mj_up_ne _ _ (Nat.ne_of_beq_eq_false rfl)).trans ((mj_up_ne _ _ (Nat.ne_of_beq_eq_false rfl)).trans ((mj_up_ne _ _ (Nat.ne_of_beq_eq_false rfl)).trans ((mj_up_ne _ _ (Nat.ne_of_beq_eq_false rfl)).trans ((mj_up_ne _ _ (Nat.ne_of_beq_eq_false rfl)).trans ((mj_up_ne _ _ (Nat.ne_of_beq_eq_false rfl)).trans h_65)))))))) rfl (Nat.le_of_ble_eq_true rfl) (Nat.le_of_ble_eq_true rfl) (Nat.le_of_ble_eq_true rfl) rfl ?_
  refine mv_i2l (v := 0) d_Reckoner_know_24 (by decide) ?_
  refine mv_last (f' := (vp_updL (vp_updL (vp_updL (vp_updL (vp_updL (vp_updL (vp_updL (fun _ => 0) 0 0) 1 0) 2 0) 3 0) 4 0) 5 0) 6 0)) d_Reckoner_know_25 (mj_up_self _ _ _) (by unfold vp_in; decide) rfl ?_
  refine mv_iinc (v := 7) (lv' := [(4, .int 7), (0, .ref 77), (1, .ref 65), (2, .int 0), (3, .int 359)]) d_Reckoner_know_26 rfl (by decide) (by decide) rfl ?_
  refine mv_goto (tgt := 3) d_Reckoner_know_29 (by decide) ?_
  refine mv_iload d_Reckoner_know_3 rfl ?_
  refine mv_bipush (v := 8) d_Reckoner_know_5 (by decide) ?_
  refine mv_icmp_ge_f (tgt := 32) d_Reckoner_know_7 (by decide) (by decide) ?_
  refine mv_aload_n d_Reckoner_know_10 rfl rfl ?_
  refine mv_get d_Reckoner_know_11 f_Reckoner_9_10 ((mj_up_ne _ _ (Nat.ne_of_beq_eq_false rfl)).trans ((mj_up_ne _ _ (Nat.ne_of_beq_eq_false rfl)).trans ((mj_up_ne _ _ (Nat.ne_of_beq_eq_false rfl)).trans ((mj_up_ne _ _ (Nat.ne_of_beq_eq_false rfl)).trans ((mj_up_ne _ _ (Nat.ne_of_beq_eq_false rfl)).trans ((mj_up_ne _ _ (Nat.ne_of_beq_eq_false rfl)).trans ((mj_up_ne _ _ (Nat.ne_of_beq_eq_false rfl)).trans h_77))))))) rfl ?_
  refine mv_iload d_Reckoner_know_14 rfl ?_
  refine mv_aload_n d_Reckoner_know_16 rfl rfl ?_
  refine mv_iload d_Reckoner_know_17 rfl ?_
  refine mv_iload_n d_Reckoner_know_19 rfl rfl ?_
  refine mv_iload_n d_Reckoner_know_20 rfl rfl ?_
  refine mv_callV_s (kc' := 0) (ks' := 0) [.int 7, .int 0, .int 359] [.int 359, .int 0, .int 7, .ref 65, .int 7, .ref 78] d_Reckoner_know_21 lV_Reckoner_22 ((mj_up_ne _ _ (Nat.ne_of_beq_eq_false rfl)).trans ((mj_up_ne _ _ (Nat.ne_of_beq_eq_false rfl)).trans ((mj_up_ne _ _ (Nat.ne_of_beq_eq_false rfl)).trans ((mj_up_ne _ _ (Nat.ne_of_beq_eq_false rfl)).trans ((mj_up_ne _ _ (Nat.ne_of_beq_eq_false rfl)).trans ((mj_up_ne _ _ (Nat.ne_of_beq_eq_false rfl)).trans ((mj_up_ne _ _ (Nat.ne_of_beq_eq_false rfl)).trans h_65))))))) rfl (c_Facts_asKnown_8 (d := d) (h_65 := ((mj_up_ne _ _ (Nat.ne_of_beq_eq_false rfl)).trans ((mj_up_ne _ _ (Nat.ne_of_beq_eq_false rfl)).trans ((mj_up_ne _ _ (Nat.ne_of_beq_eq_false rfl)).trans ((mj_up_ne _ _ (Nat.ne_of_beq_eq_false rfl)).trans ((mj_up_ne _ _ (Nat.ne_of_beq_eq_false rfl)).trans ((mj_up_ne _ _ (Nat.ne_of_beq_eq_false rfl)).trans ((mj_up_ne _ _ (Nat.ne_of_beq_eq_false rfl)).trans h_65))))))))) rfl (Nat.le_of_ble_eq_true rfl) (Nat.le_of_ble_eq_true rfl) (Nat.le_of_ble_eq_true rfl) rfl ?_
  refine mv_i2l (v := 0) d_Reckoner_know_24 (by decide) ?_
  refine mv_last (f' := (vp_updL (vp_updL (vp_updL (vp_updL (vp_updL (vp_updL (vp_updL (vp_updL (fun _ => 0) 0 0) 1 0) 2 0) 3 0) 4 0) 5 0) 6 0) 7 0)) d_Reckoner_know_25 (mj_up_self _ _ _) (by unfold vp_in; decide) rfl ?_
  refine mv_iinc (v := 8) (lv' := [(4, .int 8), (0, .ref 77), (1, .ref 65), (2, .int 0), (3, .int 359)]) d_Reckoner_know_26 rfl (by decide) (by decide) rfl ?_
  refine mv_goto (tgt := 3) d_Reckoner_know_29 (by decide) ?_
  refine mv_iload d_Reckoner_know_3 rfl ?_
  refine mv_bipush (v := 8) d_Reckoner_know_5 (by decide) ?_
  refine mv_icmp_ge_t (tgt := 32) d_Reckoner_know_7 (by decide) (by decide) ?_
  exact mv_vret d_Reckoner_know_32 rfl ⟨rfl, rfl, rfl⟩
theorem d_TrustDesk_closeYear_24 : decode kY_TrustDesk_closeYear.2.1 24 = .ok (.iconst 0, 1) := by decide +kernel
theorem d_TrustDesk_closeYear_25 : decode kY_TrustDesk_closeYear.2.1 25 = .ok (.istore 4, 2) := by decide +kernel
theorem d_TrustDesk_closeYear_27 : decode kY_TrustDesk_closeYear.2.1 27 = .ok (.iload 4, 2) := by decide +kernel
theorem d_TrustDesk_closeYear_29 : decode kY_TrustDesk_closeYear.2.1 29 = .ok (.aload_n 0, 1) := by decide +kernel
theorem d_TrustDesk_closeYear_30 : decode kY_TrustDesk_closeYear.2.1 30 = .ok (.getfield 53, 3) := by decide +kernel
theorem d_TrustDesk_closeYear_33 : decode kY_TrustDesk_closeYear.2.1 33 = .ok (.invokevirtual 97, 3) := by decide +kernel
theorem d_TrustDesk_closeYear_36 : decode kY_TrustDesk_closeYear.2.1 36 = .ok (.if_icmp .ge 39, 3) := by decide +kernel
theorem d_TrustDesk_closeYear_75 : decode kY_TrustDesk_closeYear.2.1 75 = .ok (.return_, 1) := by decide +kernel
theorem c_TrustDesk_closeYear_0 {g : mj_G} {l : Launch} {d nx : Nat} {M : mj_M} (h_64 : M 64 = some (.inr (12, [.ref 65, .ref 70, .ref 77, .ref 80, .ref 90, .ref 94, .ref 95, .ref 96, .ref 97, .ref 98, .int 0, .int 0, .int 0]))) (h_65 : M 65 = some (.inr (5, [.ref 66, .ref 67, .ref 68, .ref 69, .int 0]))) (h_77 : M 77 = some (.inr (10, [.ref 78, .int (-1), .ref 79, .int 0, .int 0]))) (h_78 : M 78 = some (.inl (1, 13, .inr (.inl (fun _ => 0))))) (h_94 : M 94 = some (.inr (0, [.int 0, .ref 0, .int 0]))) (h_95 : M 95 = some (.inr (0, [.int 0, .ref 0, .int 0]))) : mj_Met g l kY_TrustDesk_closeYear (d + 2) [.ref 64, .int 0] M nx 0 0 (mj_E1 none (mj_up (mj_up (mj_up (mj_up (mj_up (mj_up (mj_up (mj_up M 78 (.inl (1, 13, .inr (.inl (vp_updL (fun _ => 0) 0 0))))) 78 (.inl (1, 13, .inr (.inl (vp_updL (vp_updL (fun _ => 0) 0 0) 1 0))))) 78 (.inl (1, 13, .inr (.inl (vp_updL (vp_updL (vp_updL (fun _ => 0) 0 0) 1 0) 2 0))))) 78 (.inl (1, 13, .inr (.inl (vp_updL (vp_updL (vp_updL (vp_updL (fun _ => 0) 0 0) 1 0) 2 0) 3 0))))) 78 (.inl (1, 13, .inr (.inl (vp_updL (vp_updL (vp_updL (vp_updL (vp_updL (fun _ => 0) 0 0) 1 0) 2 0) 3 0) 4 0))))) 78 (.inl (1, 13, .inr (.inl (vp_updL (vp_updL (vp_updL (vp_updL (vp_updL (vp_updL (fun _ => 0) 0 0) 1 0) 2 0) 3 0) 4 0) 5 0))))) 78 (.inl (1, 13, .inr (.inl (vp_updL (vp_updL (vp_updL (vp_updL (vp_updL (vp_updL (vp_updL (fun _ => 0) 0 0) 1 0) 2 0) 3 0) 4 0) 5 0) 6 0))))) 78 (.inl (1, 13, .inr (.inl (vp_updL (vp_updL (vp_updL (vp_updL (vp_updL (vp_updL (vp_updL (vp_updL (fun _ => 0) 0 0) 1 0) 2 0) 3 0) 4 0) 5 0) 6 0) 7 0))))) nx) := by
  refine mj_enter (by decide) (Nat.le_of_ble_eq_true rfl) ?_
  refine mv_iload_n d_TrustDesk_closeYear_0 rfl rfl ?_
  refine mv_callS_s (kc' := 0) (ks' := 0) [.int 0] [.int 0] d_TrustDesk_closeYear_1 lS_TrustDesk_151 (c_TrustDesk_lastDayOf_0 (d := (d + 1))) rfl (Nat.le_of_ble_eq_true rfl) (Nat.le_of_ble_eq_true rfl) (Nat.le_of_ble_eq_true rfl) rfl ?_
  refine mv_istore_n (lv' := [(2, .int 359), (0, .ref 64), (1, .int 0)]) d_TrustDesk_closeYear_4 rfl (by decide) rfl ?_
  refine mv_aload_n d_TrustDesk_closeYear_5 rfl rfl ?_
  refine mv_iload_n d_TrustDesk_closeYear_6 rfl rfl ?_
  refine mv_callV_s (kc' := 0) (ks' := 0) [.int 359] [.int 359, .ref 64] d_TrustDesk_closeYear_7 lV_TrustDesk_114 h_64 rfl (c_TrustDesk_inForce_1 (d := d) (h_64 := h_64) (h_94 := h_94)) rfl (Nat.le_of_ble_eq_true rfl) (Nat.le_of_ble_eq_true rfl) (Nat.le_of_ble_eq_true rfl) rfl ?_
  refine mv_astore_n (lv' := [(3, .ref 90), (2, .int 359), (0, .ref 64), (1, .int 0)]) d_TrustDesk_closeYear_10 rfl (by decide) rfl ?_
  refine mv_aload_n d_TrustDesk_closeYear_11 rfl rfl ?_
  refine mv_get d_TrustDesk_closeYear_12 f_TrustDesk_26_12 h_64 rfl ?_
  refine mv_aload_n d_TrustDesk_closeYear_15 rfl rfl ?_
  refine mv_get d_TrustDesk_closeYear_16 f_TrustDesk_10_12 h_64 rfl ?_
  refine mv_iload_n d_TrustDesk_closeYear_19 rfl rfl ?_
  refine mv_iload_n d_TrustDesk_closeYear_20 rfl rfl ?_
  refine mv_callV_n (kc' := 0) (ks' := 0) [.ref 65, .int 0, .int 359] [.int 359, .int 0, .ref 65, .ref 77] d_TrustDesk_closeYear_21 lV_TrustDesk_154 h_77 rfl (c_Reckoner_know_0 (d := d) (h_65 := h_65) (h_77 := h_77) (h_78 := h_78)) rfl (Nat.le_of_ble_eq_true rfl) (Nat.le_of_ble_eq_true rfl) (Nat.le_of_ble_eq_true rfl) rfl ?_
  refine mv_iconst (v := 0) d_TrustDesk_closeYear_24 (by decide) ?_
  refine mv_istore (lv' := [(4, .int 0), (3, .ref 90), (2, .int 359), (0, .ref 64), (1, .int 0)]) d_TrustDesk_closeYear_25 (by decide) rfl ?_
  refine mv_iload d_TrustDesk_closeYear_27 rfl ?_
  refine mv_aload_n d_TrustDesk_closeYear_29 rfl rfl ?_
  refine mv_get d_TrustDesk_closeYear_30 f_TrustDesk_53_12 ((mj_up_ne _ _ (Nat.ne_of_beq_eq_false rfl)).trans ((mj_up_ne _ _ (Nat.ne_of_beq_eq_false rfl)).trans ((mj_up_ne _ _ (Nat.ne_of_beq_eq_false rfl)).trans ((mj_up_ne _ _ (Nat.ne_of_beq_eq_false rfl)).trans ((mj_up_ne _ _ (Nat.ne_of_beq_eq_false rfl)).trans ((mj_up_ne _ _ (Nat.ne_of_beq_eq_false rfl)).trans ((mj_up_ne _ _ (Nat.ne_of_beq_eq_false rfl)).trans ((mj_up_ne _ _ (Nat.ne_of_beq_eq_false rfl)).trans h_64)))))))) rfl ?_
  refine mv_callV_s (kc' := 0) (ks' := 0) [] [.ref 95, .int 0] d_TrustDesk_closeYear_33 lV_TrustDesk_97 ((mj_up_ne _ _ (Nat.ne_of_beq_eq_false rfl)).trans ((mj_up_ne _ _ (Nat.ne_of_beq_eq_false rfl)).trans ((mj_up_ne _ _ (Nat.ne_of_beq_eq_false rfl)).trans ((mj_up_ne _ _ (Nat.ne_of_beq_eq_false rfl)).trans ((mj_up_ne _ _ (Nat.ne_of_beq_eq_false rfl)).trans ((mj_up_ne _ _ (Nat.ne_of_beq_eq_false rfl)).trans ((mj_up_ne _ _ (Nat.ne_of_beq_eq_false rfl)).trans ((mj_up_ne _ _ (Nat.ne_of_beq_eq_false rfl)).trans h_95)))))))) rfl (c_ArrayList_size_1 (d := (d + 1)) (h_95 := ((mj_up_ne _ _ (Nat.ne_of_beq_eq_false rfl)).trans ((mj_up_ne _ _ (Nat.ne_of_beq_eq_false rfl)).trans ((mj_up_ne _ _ (Nat.ne_of_beq_eq_false rfl)).trans ((mj_up_ne _ _ (Nat.ne_of_beq_eq_false rfl)).trans ((mj_up_ne _ _ (Nat.ne_of_beq_eq_false rfl)).trans ((mj_up_ne _ _ (Nat.ne_of_beq_eq_false rfl)).trans ((mj_up_ne _ _ (Nat.ne_of_beq_eq_false rfl)).trans ((mj_up_ne _ _ (Nat.ne_of_beq_eq_false rfl)).trans h_95)))))))))) rfl (Nat.le_of_ble_eq_true rfl) (Nat.le_of_ble_eq_true rfl) (Nat.le_of_ble_eq_true rfl) rfl ?_
  refine mv_icmp_ge_t (tgt := 75) d_TrustDesk_closeYear_36 (by decide) (by decide) ?_
  exact mv_vret d_TrustDesk_closeYear_75 rfl ⟨rfl, rfl, rfl⟩
theorem d_TrustDesk_days_55 : decode kY_TrustDesk_days.2.1 55 = .ok (.iinc 3 1, 3) := by decide +kernel
theorem d_TrustDesk_days_58 : decode kY_TrustDesk_days.2.1 58 = .ok (.goto (-17), 3) := by decide +kernel
theorem c_TrustDesk_lastDayOf_1 {g : mj_G} {l : Launch} {d nx : Nat} {M : mj_M} : mj_Met g l kY_TrustDesk_lastDayOf d [.int 1] M nx 0 0 (mj_E1 (some (.int 719)) M nx) := by
  refine mj_enter (by decide) (Nat.le_of_ble_eq_true rfl) ?_
  refine mv_iload_n d_TrustDesk_lastDayOf_0 rfl rfl ?_
  refine mv_sipush (v := 360) d_TrustDesk_lastDayOf_1 (by decide) ?_
  refine mv_imulv (v := 360) d_TrustDesk_lastDayOf_4 (by decide) ?_
  refine mv_sipush (v := 360) d_TrustDesk_lastDayOf_5 (by decide) ?_
  refine mv_iaddv (v := 720) d_TrustDesk_lastDayOf_8 (by decide) ?_
  refine mv_iconst (v := 1) d_TrustDesk_lastDayOf_9 (by decide) ?_
  refine mv_isubv (v := 719) d_TrustDesk_lastDayOf_10 (by decide) ?_
  exact mv_iret d_TrustDesk_lastDayOf_11 rfl (by first | rfl | decide) ⟨rfl, rfl, rfl⟩
theorem c_TrustDesk_inForce_2 {g : mj_G} {l : Launch} {d nx : Nat} {M : mj_M} (h_64 : M 64 = some (.inr (12, [.ref 65, .ref 70, .ref 77, .ref 80, .ref 90, .ref 94, .ref 95, .ref 96, .ref 97, .ref 98, .int 0, .int 0, .int 0]))) (h_94 : M 94 = some (.inr (0, [.int 0, .ref 0, .int 0]))) : mj_Met g l kY_TrustDesk_inForce (d + 1) [.ref 64, .int 719] M nx 0 0 (mj_E1 (some (.ref 90)) M nx) := by
  refine mj_enter (by decide) (Nat.le_of_ble_eq_true rfl) ?_
  refine mv_aload_n d_TrustDesk_inForce_0 rfl rfl ?_
  refine mv_get d_TrustDesk_inForce_1 f_TrustDesk_42_12 h_64 rfl ?_
  refine mv_astore_n (lv' := [(2, .ref 90), (0, .ref 64), (1, .int 719)]) d_TrustDesk_inForce_4 rfl (by decide) rfl ?_
  refine mv_iconst (v := 0) d_TrustDesk_inForce_5 (by decide) ?_
  refine mv_istore_n (lv' := [(3, .int 0), (2, .ref 90), (0, .ref 64), (1, .int 719)]) d_TrustDesk_inForce_6 rfl (by decide) rfl ?_
  refine mv_iload_n d_TrustDesk_inForce_7 rfl rfl ?_
  refine mv_aload_n d_TrustDesk_inForce_8 rfl rfl ?_
  refine mv_get d_TrustDesk_inForce_9 f_TrustDesk_49_12 h_64 rfl ?_
  refine mv_callV_s (kc' := 0) (ks' := 0) [] [.ref 94, .int 0] d_TrustDesk_inForce_12 lV_TrustDesk_97 h_94 rfl (c_ArrayList_size_0 (d := d) (h_94 := h_94)) rfl (Nat.le_of_ble_eq_true rfl) (Nat.le_of_ble_eq_true rfl) (Nat.le_of_ble_eq_true rfl) rfl ?_
  refine mv_icmp_ge_t (tgt := 61) d_TrustDesk_inForce_15 (by decide) (by decide) ?_
  refine mv_aload_n d_TrustDesk_inForce_61 rfl rfl ?_
  exact mv_aret (r := (some 90)) d_TrustDesk_inForce_62 rfl (by first | exact Or.inl ⟨_, rfl⟩ | exact Or.inr ⟨_, rfl⟩) ⟨rfl, rfl, rfl⟩
theorem c_Facts_asKnown_9 {g : mj_G} {l : Launch} {d nx : Nat} {M : mj_M} (h_65 : M 65 = some (.inr (5, [.ref 66, .ref 67, .ref 68, .ref 69, .int 0]))) : mj_Met g l kY_Facts_asKnown d [.ref 65, .int 0, .int 1, .int 719] M nx 0 0 (mj_E1 (some (.int 0)) M nx) := by
  refine mj_enter (by decide) (Nat.le_of_ble_eq_true rfl) ?_
  refine mv_iconst (v := (-1)) d_Facts_asKnown_0 (by decide) ?_
  refine mv_istore (lv' := [(4, .int (-1)), (0, .ref 65), (1, .int 0), (2, .int 1), (3, .int 719)]) d_Facts_asKnown_1 (by decide) rfl ?_
  refine mv_iconst (v := 0) d_Facts_asKnown_3 (by decide) ?_
  refine mv_istore (lv' := [(5, .int 0), (4, .int (-1)), (0, .ref 65), (1, .int 0), (2, .int 1), (3, .int 719)]) d_Facts_asKnown_4 (by decide) rfl ?_
  refine mv_iconst (v := 0) d_Facts_asKnown_6 (by decide) ?_
  refine mv_istore (lv' := [(6, .int 0), (5, .int 0), (4, .int (-1)), (0, .ref 65), (1, .int 0), (2, .int 1), (3, .int 719)]) d_Facts_asKnown_7 (by decide) rfl ?_
  refine mv_iload d_Facts_asKnown_9 rfl ?_
  refine mv_aload_n d_Facts_asKnown_11 rfl rfl ?_
  refine mv_get d_Facts_asKnown_12 f_Facts_24_5 h_65 rfl ?_
  refine mv_icmp_ge_t (tgt := 95) d_Facts_asKnown_15 (by decide) (by decide) ?_
  refine mv_iload d_Facts_asKnown_95 rfl ?_
  exact mv_iret d_Facts_asKnown_97 rfl (by first | rfl | decide) ⟨rfl, rfl, rfl⟩
theorem c_Facts_asKnown_10 {g : mj_G} {l : Launch} {d nx : Nat} {M : mj_M} (h_65 : M 65 = some (.inr (5, [.ref 66, .ref 67, .ref 68, .ref 69, .int 0]))) : mj_Met g l kY_Facts_asKnown d [.ref 65, .int 1, .int 1, .int 719] M nx 0 0 (mj_E1 (some (.int 0)) M nx) := by
  refine mj_enter (by decide) (Nat.le_of_ble_eq_true rfl) ?_
  refine mv_iconst (v := (-1)) d_Facts_asKnown_0 (by decide) ?_
  refine mv_istore (lv' := [(4, .int (-1)), (0, .ref 65), (1, .int 1), (2, .int 1), (3, .int 719)]) d_Facts_asKnown_1 (by decide) rfl ?_
  refine mv_iconst (v := 0) d_Facts_asKnown_3 (by decide) ?_
  refine mv_istore (lv' := [(5, .int 0), (4, .int (-1)), (0, .ref 65), (1, .int 1), (2, .int 1), (3, .int 719)]) d_Facts_asKnown_4 (by decide) rfl ?_
  refine mv_iconst (v := 0) d_Facts_asKnown_6 (by decide) ?_
  refine mv_istore (lv' := [(6, .int 0), (5, .int 0), (4, .int (-1)), (0, .ref 65), (1, .int 1), (2, .int 1), (3, .int 719)]) d_Facts_asKnown_7 (by decide) rfl ?_
  refine mv_iload d_Facts_asKnown_9 rfl ?_
  refine mv_aload_n d_Facts_asKnown_11 rfl rfl ?_
  refine mv_get d_Facts_asKnown_12 f_Facts_24_5 h_65 rfl ?_
  refine mv_icmp_ge_t (tgt := 95) d_Facts_asKnown_15 (by decide) (by decide) ?_
  refine mv_iload d_Facts_asKnown_95 rfl ?_
  exact mv_iret d_Facts_asKnown_97 rfl (by first | rfl | decide) ⟨rfl, rfl, rfl⟩
theorem c_Facts_asKnown_11 {g : mj_G} {l : Launch} {d nx : Nat} {M : mj_M} (h_65 : M 65 = some (.inr (5, [.ref 66, .ref 67, .ref 68, .ref 69, .int 0]))) : mj_Met g l kY_Facts_asKnown d [.ref 65, .int 2, .int 1, .int 719] M nx 0 0 (mj_E1 (some (.int 0)) M nx) := by
  refine mj_enter (by decide) (Nat.le_of_ble_eq_true rfl) ?_
  refine mv_iconst (v := (-1)) d_Facts_asKnown_0 (by decide) ?_
  refine mv_istore (lv' := [(4, .int (-1)), (0, .ref 65), (1, .int 2), (2, .int 1), (3, .int 719)]) d_Facts_asKnown_1 (by decide) rfl ?_
  refine mv_iconst (v := 0) d_Facts_asKnown_3 (by decide) ?_
  refine mv_istore (lv' := [(5, .int 0), (4, .int (-1)), (0, .ref 65), (1, .int 2), (2, .int 1), (3, .int 719)]) d_Facts_asKnown_4 (by decide) rfl ?_
  refine mv_iconst (v := 0) d_Facts_asKnown_6 (by decide) ?_
  refine mv_istore (lv' := [(6, .int 0), (5, .int 0), (4, .int (-1)), (0, .ref 65), (1, .int 2), (2, .int 1), (3, .int 719)]) d_Facts_asKnown_7 (by decide) rfl ?_
  refine mv_iload d_Facts_asKnown_9 rfl ?_
  refine mv_aload_n d_Facts_asKnown_11 rfl rfl ?_
  refine mv_get d_Facts_asKnown_12 f_Facts_24_5 h_65 rfl ?_
  refine mv_icmp_ge_t (tgt := 95) d_Facts_asKnown_15 (by decide) (by decide) ?_
  refine mv_iload d_Facts_asKnown_95 rfl ?_
  exact mv_iret d_Facts_asKnown_97 rfl (by first | rfl | decide) ⟨rfl, rfl, rfl⟩
theorem c_Facts_asKnown_12 {g : mj_G} {l : Launch} {d nx : Nat} {M : mj_M} (h_65 : M 65 = some (.inr (5, [.ref 66, .ref 67, .ref 68, .ref 69, .int 0]))) : mj_Met g l kY_Facts_asKnown d [.ref 65, .int 3, .int 1, .int 719] M nx 0 0 (mj_E1 (some (.int 0)) M nx) := by
  refine mj_enter (by decide) (Nat.le_of_ble_eq_true rfl) ?_
  refine mv_iconst (v := (-1)) d_Facts_asKnown_0 (by decide) ?_
  refine mv_istore (lv' := [(4, .int (-1)), (0, .ref 65), (1, .int 3), (2, .int 1), (3, .int 719)]) d_Facts_asKnown_1 (by decide) rfl ?_
  refine mv_iconst (v := 0) d_Facts_asKnown_3 (by decide) ?_
  refine mv_istore (lv' := [(5, .int 0), (4, .int (-1)), (0, .ref 65), (1, .int 3), (2, .int 1), (3, .int 719)]) d_Facts_asKnown_4 (by decide) rfl ?_
  refine mv_iconst (v := 0) d_Facts_asKnown_6 (by decide) ?_
  refine mv_istore (lv' := [(6, .int 0), (5, .int 0), (4, .int (-1)), (0, .ref 65), (1, .int 3), (2, .int 1), (3, .int 719)]) d_Facts_asKnown_7 (by decide) rfl ?_
  refine mv_iload d_Facts_asKnown_9 rfl ?_
  refine mv_aload_n d_Facts_asKnown_11 rfl rfl ?_
  refine mv_get d_Facts_asKnown_12 f_Facts_24_5 h_65 rfl ?_
  refine mv_icmp_ge_t (tgt := 95) d_Facts_asKnown_15 (by decide) (by decide) ?_
  refine mv_iload d_Facts_asKnown_95 rfl ?_
  exact mv_iret d_Facts_asKnown_97 rfl (by first | rfl | decide) ⟨rfl, rfl, rfl⟩
theorem c_Facts_asKnown_13 {g : mj_G} {l : Launch} {d nx : Nat} {M : mj_M} (h_65 : M 65 = some (.inr (5, [.ref 66, .ref 67, .ref 68, .ref 69, .int 0]))) : mj_Met g l kY_Facts_asKnown d [.ref 65, .int 4, .int 1, .int 719] M nx 0 0 (mj_E1 (some (.int 0)) M nx) := by
  refine mj_enter (by decide) (Nat.le_of_ble_eq_true rfl) ?_
  refine mv_iconst (v := (-1)) d_Facts_asKnown_0 (by decide) ?_
  refine mv_istore (lv' := [(4, .int (-1)), (0, .ref 65), (1, .int 4), (2, .int 1), (3, .int 719)]) d_Facts_asKnown_1 (by decide) rfl ?_
  refine mv_iconst (v := 0) d_Facts_asKnown_3 (by decide) ?_
  refine mv_istore (lv' := [(5, .int 0), (4, .int (-1)), (0, .ref 65), (1, .int 4), (2, .int 1), (3, .int 719)]) d_Facts_asKnown_4 (by decide) rfl ?_
  refine mv_iconst (v := 0) d_Facts_asKnown_6 (by decide) ?_
  refine mv_istore (lv' := [(6, .int 0), (5, .int 0), (4, .int (-1)), (0, .ref 65), (1, .int 4), (2, .int 1), (3, .int 719)]) d_Facts_asKnown_7 (by decide) rfl ?_
  refine mv_iload d_Facts_asKnown_9 rfl ?_
  refine mv_aload_n d_Facts_asKnown_11 rfl rfl ?_
  refine mv_get d_Facts_asKnown_12 f_Facts_24_5 h_65 rfl ?_
  refine mv_icmp_ge_t (tgt := 95) d_Facts_asKnown_15 (by decide) (by decide) ?_
  refine mv_iload d_Facts_asKnown_95 rfl ?_
  exact mv_iret d_Facts_asKnown_97 rfl (by first | rfl | decide) ⟨rfl, rfl, rfl⟩
theorem c_Facts_asKnown_14 {g : mj_G} {l : Launch} {d nx : Nat} {M : mj_M} (h_65 : M 65 = some (.inr (5, [.ref 66, .ref 67, .ref 68, .ref 69, .int 0]))) : mj_Met g l kY_Facts_asKnown d [.ref 65, .int 5, .int 1, .int 719] M nx 0 0 (mj_E1 (some (.int 0)) M nx) := by
  refine mj_enter (by decide) (Nat.le_of_ble_eq_true rfl) ?_
  refine mv_iconst (v := (-1)) d_Facts_asKnown_0 (by decide) ?_
  refine mv_istore (lv' := [(4, .int (-1)), (0, .ref 65), (1, .int 5), (2, .int 1), (3, .int 719)]) d_Facts_asKnown_1 (by decide) rfl ?_
  refine mv_iconst (v := 0) d_Facts_asKnown_3 (by decide) ?_
  refine mv_istore (lv' := [(5, .int 0), (4, .int (-1)), (0, .ref 65), (1, .int 5), (2, .int 1), (3, .int 719)]) d_Facts_asKnown_4 (by decide) rfl ?_
  refine mv_iconst (v := 0) d_Facts_asKnown_6 (by decide) ?_
  refine mv_istore (lv' := [(6, .int 0), (5, .int 0), (4, .int (-1)), (0, .ref 65), (1, .int 5), (2, .int 1), (3, .int 719)]) d_Facts_asKnown_7 (by decide) rfl ?_
  refine mv_iload d_Facts_asKnown_9 rfl ?_
  refine mv_aload_n d_Facts_asKnown_11 rfl rfl ?_
  refine mv_get d_Facts_asKnown_12 f_Facts_24_5 h_65 rfl ?_
  refine mv_icmp_ge_t (tgt := 95) d_Facts_asKnown_15 (by decide) (by decide) ?_
  refine mv_iload d_Facts_asKnown_95 rfl ?_
  exact mv_iret d_Facts_asKnown_97 rfl (by first | rfl | decide) ⟨rfl, rfl, rfl⟩
theorem c_Facts_asKnown_15 {g : mj_G} {l : Launch} {d nx : Nat} {M : mj_M} (h_65 : M 65 = some (.inr (5, [.ref 66, .ref 67, .ref 68, .ref 69, .int 0]))) : mj_Met g l kY_Facts_asKnown d [.ref 65, .int 6, .int 1, .int 719] M nx 0 0 (mj_E1 (some (.int 0)) M nx) := by
  refine mj_enter (by decide) (Nat.le_of_ble_eq_true rfl) ?_
  refine mv_iconst (v := (-1)) d_Facts_asKnown_0 (by decide) ?_
  refine mv_istore (lv' := [(4, .int (-1)), (0, .ref 65), (1, .int 6), (2, .int 1), (3, .int 719)]) d_Facts_asKnown_1 (by decide) rfl ?_
  refine mv_iconst (v := 0) d_Facts_asKnown_3 (by decide) ?_
  refine mv_istore (lv' := [(5, .int 0), (4, .int (-1)), (0, .ref 65), (1, .int 6), (2, .int 1), (3, .int 719)]) d_Facts_asKnown_4 (by decide) rfl ?_
  refine mv_iconst (v := 0) d_Facts_asKnown_6 (by decide) ?_
  refine mv_istore (lv' := [(6, .int 0), (5, .int 0), (4, .int (-1)), (0, .ref 65), (1, .int 6), (2, .int 1), (3, .int 719)]) d_Facts_asKnown_7 (by decide) rfl ?_
  refine mv_iload d_Facts_asKnown_9 rfl ?_
  refine mv_aload_n d_Facts_asKnown_11 rfl rfl ?_
  refine mv_get d_Facts_asKnown_12 f_Facts_24_5 h_65 rfl ?_
  refine mv_icmp_ge_t (tgt := 95) d_Facts_asKnown_15 (by decide) (by decide) ?_
  refine mv_iload d_Facts_asKnown_95 rfl ?_
  exact mv_iret d_Facts_asKnown_97 rfl (by first | rfl | decide) ⟨rfl, rfl, rfl⟩
theorem c_Facts_asKnown_16 {g : mj_G} {l : Launch} {d nx : Nat} {M : mj_M} (h_65 : M 65 = some (.inr (5, [.ref 66, .ref 67, .ref 68, .ref 69, .int 0]))) : mj_Met g l kY_Facts_asKnown d [.ref 65, .int 7, .int 1, .int 719] M nx 0 0 (mj_E1 (some (.int 0)) M nx) := by
  refine mj_enter (by decide) (Nat.le_of_ble_eq_true rfl) ?_
  refine mv_iconst (v := (-1)) d_Facts_asKnown_0 (by decide) ?_
  refine mv_istore (lv' := [(4, .int (-1)), (0, .ref 65), (1, .int 7), (2, .int 1), (3, .int 719)]) d_Facts_asKnown_1 (by decide) rfl ?_
  refine mv_iconst (v := 0) d_Facts_asKnown_3 (by decide) ?_
  refine mv_istore (lv' := [(5, .int 0), (4, .int (-1)), (0, .ref 65), (1, .int 7), (2, .int 1), (3, .int 719)]) d_Facts_asKnown_4 (by decide) rfl ?_
  refine mv_iconst (v := 0) d_Facts_asKnown_6 (by decide) ?_
  refine mv_istore (lv' := [(6, .int 0), (5, .int 0), (4, .int (-1)), (0, .ref 65), (1, .int 7), (2, .int 1), (3, .int 719)]) d_Facts_asKnown_7 (by decide) rfl ?_
  refine mv_iload d_Facts_asKnown_9 rfl ?_
  refine mv_aload_n d_Facts_asKnown_11 rfl rfl ?_
  refine mv_get d_Facts_asKnown_12 f_Facts_24_5 h_65 rfl ?_
  refine mv_icmp_ge_t (tgt := 95) d_Facts_asKnown_15 (by decide) (by decide) ?_
  refine mv_iload d_Facts_asKnown_95 rfl ?_
  exact mv_iret d_Facts_asKnown_97 rfl (by first | rfl | decide) ⟨rfl, rfl, rfl⟩
theorem c_Reckoner_know_1 {g : mj_G} {l : Launch} {d nx : Nat} {M : mj_M} (h_65 : M 65 = some (.inr (5, [.ref 66, .ref 67, .ref 68, .ref 69, .int 0]))) (h_77 : M 77 = some (.inr (10, [.ref 78, .int (-1), .ref 79, .int 0, .int 0]))) (h_78 : M 78 = some (.inl (1, 13, .inr (.inl (vp_updL (vp_updL (vp_updL (vp_updL (vp_updL (vp_updL (vp_updL (vp_updL (fun _ => 0) 0 0) 1 0) 2 0) 3 0) 4 0) 5 0) 6 0) 7 0))))) : mj_Met g l kY_Reckoner_know (d + 1) [.ref 77, .ref 65, .int 1, .int 719] M nx 0 0 (mj_E1 none (mj_up (mj_up (mj_up (mj_up (mj_up (mj_up (mj_up (mj_up M 78 (.inl (1, 13, .inr (.inl (vp_updL (vp_updL (vp_updL (vp_updL (vp_updL (vp_updL (vp_updL (vp_updL (vp_updL (fun _ => 0) 0 0) 1 0) 2 0) 3 0) 4 0) 5 0) 6 0) 7 0) 0 0))))) 78 (.inl (1, 13, .inr (.inl (vp_updL (vp_updL (vp_updL (vp_updL (vp_updL (vp_updL (vp_updL (vp_updL (vp_updL (vp_updL (fun _ => 0) 0 0) 1 0) 2 0) 3 0) 4 0) 5 0) 6 0) 7 0) 0 0) 1 0))))) 78 (.inl (1, 13, .inr (.inl (vp_updL (vp_updL (vp_updL (vp_updL (vp_updL (vp_updL (vp_updL (vp_updL (vp_updL (vp_updL (vp_updL (fun _ => 0) 0 0) 1 0) 2 0) 3 0) 4 0) 5 0) 6 0) 7 0) 0 0) 1 0) 2 0))))) 78 (.inl (1, 13, .inr (.inl (vp_updL (vp_updL (vp_updL (vp_updL (vp_updL (vp_updL (vp_updL (vp_updL (vp_updL (vp_updL (vp_updL (vp_updL (fun _ => 0) 0 0) 1 0) 2 0) 3 0) 4 0) 5 0) 6 0) 7 0) 0 0) 1 0) 2 0) 3 0))))) 78 (.inl (1, 13, .inr (.inl (vp_updL (vp_updL (vp_updL (vp_updL (vp_updL (vp_updL (vp_updL (vp_updL (vp_updL (vp_updL (vp_updL (vp_updL (vp_updL (fun _ => 0) 0 0) 1 0) 2 0) 3 0) 4 0) 5 0) 6 0) 7 0) 0 0) 1 0) 2 0) 3 0) 4 0))))) 78 (.inl (1, 13, .inr (.inl (vp_updL (vp_updL (vp_updL (vp_updL (vp_updL (vp_updL (vp_updL (vp_updL (vp_updL (vp_updL (vp_updL (vp_updL (vp_updL (vp_updL (fun _ => 0) 0 0) 1 0) 2 0) 3 0) 4 0) 5 0) 6 0) 7 0) 0 0) 1 0) 2 0) 3 0) 4 0) 5 0))))) 78 (.inl (1, 13, .inr (.inl (vp_updL (vp_updL (vp_updL (vp_updL (vp_updL (vp_updL (vp_updL (vp_updL (vp_updL (vp_updL (vp_updL (vp_updL (vp_updL (vp_updL (vp_updL (fun _ => 0) 0 0) 1 0) 2 0) 3 0) 4 0) 5 0) 6 0) 7 0) 0 0) 1 0) 2 0) 3 0) 4 0) 5 0) 6 0))))) 78 (.inl (1, 13, .inr (.inl (vp_updL (vp_updL (vp_updL (vp_updL (vp_updL (vp_updL (vp_updL (vp_updL (vp_updL (vp_updL (vp_updL (vp_updL (vp_updL (vp_updL (vp_updL (vp_updL (fun _ => 0) 0 0) 1 0) 2 0) 3 0) 4 0) 5 0) 6 0) 7 0) 0 0) 1 0) 2 0) 3 0) 4 0) 5 0) 6 0) 7 0))))) nx) := by
  refine mj_enter (by decide) (Nat.le_of_ble_eq_true rfl) ?_
  refine mv_iconst (v := 0) d_Reckoner_know_0 (by decide) ?_
  refine mv_istore (lv' := [(4, .int 0), (0, .ref 77), (1, .ref 65), (2, .int 1), (3, .int 719)]) d_Reckoner_know_1 (by decide) rfl ?_
  refine mv_iload d_Reckoner_know_3 rfl ?_
  refine mv_bipush (v := 8) d_Reckoner_know_5 (by decide) ?_
  refine mv_icmp_ge_f (tgt := 32) d_Reckoner_know_7 (by decide) (by decide) ?_
  refine mv_aload_n d_Reckoner_know_10 rfl rfl ?_
  refine mv_get d_Reckoner_know_11 f_Reckoner_9_10 h_77 rfl ?_
  refine mv_iload d_Reckoner_know_14 rfl ?_
  refine mv_aload_n d_Reckoner_know_16 rfl rfl ?_
  refine mv_iload d_Reckoner_know_17 rfl ?_
  refine mv_iload_n d_Reckoner_know_19 rfl rfl ?_
  refine mv_iload_n d_Reckoner_know_20 rfl rfl ?_
  refine mv_callV_s (kc' := 0) (ks' := 0) [.int 0, .int 1, .int 719] [.int 719, .int 1, .int 0, .ref 65, .int 0, .ref 78] d_Reckoner_know_21 lV_Reckoner_22 h_65 rfl (c_Facts_asKnown_9 (d := d) (h_65 := h_65)) rfl (Nat.le_of_ble_eq_true rfl) (Nat.le_of_ble_eq_true rfl) (Nat.le_of_ble_eq_true rfl) rfl ?_
  refine mv_i2l (v := 0) d_Reckoner_know_24 (by decide) ?_
  refine mv_last (f' := (vp_updL (vp_updL (vp_updL (vp_updL (vp_updL (vp_updL (vp_updL (vp_updL (vp_updL (fun _ => 0) 0 0) 1 0) 2 0) 3 0) 4 0) 5 0) 6 0) 7 0) 0 0)) d_Reckoner_know_25 h_78 (by unfold vp_in; decide) rfl ?_
  refine mv_iinc (v := 1) (lv' := [(4, .int 1), (0, .ref 77), (1, .ref 65), (2, .int 1), (3, .int 719)]) d_Reckoner_know_26 rfl (by decide) (by decide) rfl ?_
  refine mv_goto (tgt := 3) d_Reckoner_know_29 (by decide) ?_
  refine mv_iload d_Reckoner_know_3 rfl ?_
  refine mv_bipush (v := 8) d_Reckoner_know_5 (by decide) ?_
  refine mv_icmp_ge_f (tgt := 32) d_Reckoner_know_7 (by decide) (by decide) ?_
  refine mv_aload_n d_Reckoner_know_10 rfl rfl ?_
  refine mv_get d_Reckoner_know_11 f_Reckoner_9_10 ((mj_up_ne _ _ (Nat.ne_of_beq_eq_false rfl)).trans h_77) rfl ?_
  refine mv_iload d_Reckoner_know_14 rfl ?_
  refine mv_aload_n d_Reckoner_know_16 rfl rfl ?_
  refine mv_iload d_Reckoner_know_17 rfl ?_
  refine mv_iload_n d_Reckoner_know_19 rfl rfl ?_
  refine mv_iload_n d_Reckoner_know_20 rfl rfl ?_
  refine mv_callV_s (kc' := 0) (ks' := 0) [.int 1, .int 1, .int 719] [.int 719, .int 1, .int 1, .ref 65, .int 1, .ref 78] d_Reckoner_know_21 lV_Reckoner_22 ((mj_up_ne _ _ (Nat.ne_of_beq_eq_false rfl)).trans h_65) rfl (c_Facts_asKnown_10 (d := d) (h_65 := ((mj_up_ne _ _ (Nat.ne_of_beq_eq_false rfl)).trans h_65))) rfl (Nat.le_of_ble_eq_true rfl) (Nat.le_of_ble_eq_true rfl) (Nat.le_of_ble_eq_true rfl) rfl ?_
  refine mv_i2l (v := 0) d_Reckoner_know_24 (by decide) ?_
  refine mv_last (f' := (vp_updL (vp_updL (vp_updL (vp_updL (vp_updL (vp_updL (vp_updL (vp_updL (vp_updL (vp_updL (fun _ => 0) 0 0) 1 0) 2 0) 3 0) 4 0) 5 0) 6 0) 7 0) 0 0) 1 0)) d_Reckoner_know_25 (mj_up_self _ _ _) (by unfold vp_in; decide) rfl ?_
  refine mv_iinc (v := 2) (lv' := [(4, .int 2), (0, .ref 77), (1, .ref 65), (2, .int 1), (3, .int 719)]) d_Reckoner_know_26 rfl (by decide) (by decide) rfl ?_
  refine mv_goto (tgt := 3) d_Reckoner_know_29 (by decide) ?_
  refine mv_iload d_Reckoner_know_3 rfl ?_
  refine mv_bipush (v := 8) d_Reckoner_know_5 (by decide) ?_
  refine mv_icmp_ge_f (tgt := 32) d_Reckoner_know_7 (by decide) (by decide) ?_
  refine mv_aload_n d_Reckoner_know_10 rfl rfl ?_
  refine mv_get d_Reckoner_know_11 f_Reckoner_9_10 ((mj_up_ne _ _ (Nat.ne_of_beq_eq_false rfl)).trans ((mj_up_ne _ _ (Nat.ne_of_beq_eq_false rfl)).trans h_77)) rfl ?_
  refine mv_iload d_Reckoner_know_14 rfl ?_
  refine mv_aload_n d_Reckoner_know_16 rfl rfl ?_
  refine mv_iload d_Reckoner_know_17 rfl ?_
  refine mv_iload_n d_Reckoner_know_19 rfl rfl ?_
  refine mv_iload_n d_Reckoner_know_20 rfl rfl ?_
  refine mv_callV_s (kc' := 0) (ks' := 0) [.int 2, .int 1, .int 719] [.int 719, .int 1, .int 2, .ref 65, .int 2, .ref 78] d_Reckoner_know_21 lV_Reckoner_22 ((mj_up_ne _ _ (Nat.ne_of_beq_eq_false rfl)).trans ((mj_up_ne _ _ (Nat.ne_of_beq_eq_false rfl)).trans h_65)) rfl (c_Facts_asKnown_11 (d := d) (h_65 := ((mj_up_ne _ _ (Nat.ne_of_beq_eq_false rfl)).trans ((mj_up_ne _ _ (Nat.ne_of_beq_eq_false rfl)).trans h_65)))) rfl (Nat.le_of_ble_eq_true rfl) (Nat.le_of_ble_eq_true rfl) (Nat.le_of_ble_eq_true rfl) rfl ?_
  refine mv_i2l (v := 0) d_Reckoner_know_24 (by decide) ?_
  refine mv_last (f' := (vp_updL (vp_updL (vp_updL (vp_updL (vp_updL (vp_updL (vp_updL (vp_updL (vp_updL (vp_updL (vp_updL (fun _ => 0) 0 0) 1 0) 2 0) 3 0) 4 0) 5 0) 6 0) 7 0) 0 0) 1 0) 2 0)) d_Reckoner_know_25 (mj_up_self _ _ _) (by unfold vp_in; decide) rfl ?_
  refine mv_iinc (v := 3) (lv' := [(4, .int 3), (0, .ref 77), (1, .ref 65), (2, .int 1), (3, .int 719)]) d_Reckoner_know_26 rfl (by decide) (by decide) rfl ?_
  refine mv_goto (tgt := 3) d_Reckoner_know_29 (by decide) ?_
  refine mv_iload d_Reckoner_know_3 rfl ?_
  refine mv_bipush (v := 8) d_Reckoner_know_5 (by decide) ?_
  refine mv_icmp_ge_f (tgt := 32) d_Reckoner_know_7 (by decide) (by decide) ?_
  refine mv_aload_n d_Reckoner_know_10 rfl rfl ?_
  refine mv_get d_Reckoner_know_11 f_Reckoner_9_10 ((mj_up_ne _ _ (Nat.ne_of_beq_eq_false rfl)).trans ((mj_up_ne _ _ (Nat.ne_of_beq_eq_false rfl)).trans ((mj_up_ne _ _ (Nat.ne_of_beq_eq_false rfl)).trans h_77))) rfl ?_
  refine mv_iload d_Reckoner_know_14 rfl ?_
  refine mv_aload_n d_Reckoner_know_16 rfl rfl ?_
  refine mv_iload d_Reckoner_know_17 rfl ?_
  refine mv_iload_n d_Reckoner_know_19 rfl rfl ?_
  refine mv_iload_n d_Reckoner_know_20 rfl rfl ?_
  refine mv_callV_s (kc' := 0) (ks' := 0) [.int 3, .int 1, .int 719] [.int 719, .int 1, .int 3, .ref 65, .int 3, .ref 78] d_Reckoner_know_21 lV_Reckoner_22 ((mj_up_ne _ _ (Nat.ne_of_beq_eq_false rfl)).trans ((mj_up_ne _ _ (Nat.ne_of_beq_eq_false rfl)).trans ((mj_up_ne _ _ (Nat.ne_of_beq_eq_false rfl)).trans h_65))) rfl (c_Facts_asKnown_12 (d := d) (h_65 := ((mj_up_ne _ _ (Nat.ne_of_beq_eq_false rfl)).trans ((mj_up_ne _ _ (Nat.ne_of_beq_eq_false rfl)).trans ((mj_up_ne _ _ (Nat.ne_of_beq_eq_false rfl)).trans h_65))))) rfl (Nat.le_of_ble_eq_true rfl) (Nat.le_of_ble_eq_true rfl) (Nat.le_of_ble_eq_true rfl) rfl ?_
  refine mv_i2l (v := 0) d_Reckoner_know_24 (by decide) ?_
  refine mv_last (f' := (vp_updL (vp_updL (vp_updL (vp_updL (vp_updL (vp_updL (vp_updL (vp_updL (vp_updL (vp_updL (vp_updL (vp_updL (fun _ => 0) 0 0) 1 0) 2 0) 3 0) 4 0) 5 0) 6 0) 7 0) 0 0) 1 0) 2 0) 3 0)) d_Reckoner_know_25 (mj_up_self _ _ _) (by unfold vp_in; decide) rfl ?_
  refine mv_iinc (v := 4) (lv' := [(4, .int 4), (0, .ref 77), (1, .ref 65), (2, .int 1), (3, .int 719)]) d_Reckoner_know_26 rfl (by decide) (by decide) rfl ?_
  refine mv_goto (tgt := 3) d_Reckoner_know_29 (by decide) ?_
  refine mv_iload d_Reckoner_know_3 rfl ?_
  refine mv_bipush (v := 8) d_Reckoner_know_5 (by decide) ?_
  refine mv_icmp_ge_f (tgt := 32) d_Reckoner_know_7 (by decide) (by decide) ?_
  refine mv_aload_n d_Reckoner_know_10 rfl rfl ?_
  refine mv_get d_Reckoner_know_11 f_Reckoner_9_10 ((mj_up_ne _ _ (Nat.ne_of_beq_eq_false rfl)).trans ((mj_up_ne _ _ (Nat.ne_of_beq_eq_false rfl)).trans ((mj_up_ne _ _ (Nat.ne_of_beq_eq_false rfl)).trans ((mj_up_ne _ _ (Nat.ne_of_beq_eq_false rfl)).trans h_77)))) rfl ?_
  refine mv_iload d_Reckoner_know_14 rfl ?_
  refine mv_aload_n d_Reckoner_know_16 rfl rfl ?_
  refine mv_iload d_Reckoner_know_17 rfl ?_
  refine mv_iload_n d_Reckoner_know_19 rfl rfl ?_
  refine mv_iload_n d_Reckoner_know_20 rfl rfl ?_
  refine mv_callV_s (kc' := 0) (ks' := 0) [.int 4, .int 1, .int 719] [.int 719, .int 1, .int 4, .ref 65, .int 4, .ref 78] d_Reckoner_know_21 lV_Reckoner_22 ((mj_up_ne _ _ (Nat.ne_of_beq_eq_false rfl)).trans ((mj_up_ne _ _ (Nat.ne_of_beq_eq_false rfl)).trans ((mj_up_ne _ _ (Nat.ne_of_beq_eq_false rfl)).trans ((mj_up_ne _ _ (Nat.ne_of_beq_eq_false rfl)).trans h_65)))) rfl (c_Facts_asKnown_13 (d := d) (h_65 := ((mj_up_ne _ _ (Nat.ne_of_beq_eq_false rfl)).trans ((mj_up_ne _ _ (Nat.ne_of_beq_eq_false rfl)).trans ((mj_up_ne _ _ (Nat.ne_of_beq_eq_false rfl)).trans ((mj_up_ne _ _ (Nat.ne_of_beq_eq_false rfl)).trans h_65)))))) rfl (Nat.le_of_ble_eq_true rfl) (Nat.le_of_ble_eq_true rfl) (Nat.le_of_ble_eq_true rfl) rfl ?_
  refine mv_i2l (v := 0) d_Reckoner_know_24 (by decide) ?_
  refine mv_last (f' := (vp_updL (vp_updL (vp_updL (vp_updL (vp_updL (vp_updL (vp_updL (vp_updL (vp_updL (vp_updL (vp_updL (vp_updL (vp_updL (fun _ => 0) 0 0) 1 0) 2 0) 3 0) 4 0) 5 0) 6 0) 7 0) 0 0) 1 0) 2 0) 3 0) 4 0)) d_Reckoner_know_25 (mj_up_self _ _ _) (by unfold vp_in; decide) rfl ?_
  refine mv_iinc (v := 5) (lv' := [(4, .int 5), (0, .ref 77), (1, .ref 65), (2, .int 1), (3, .int 719)]) d_Reckoner_know_26 rfl (by decide) (by decide) rfl ?_
  refine mv_goto (tgt := 3) d_Reckoner_know_29 (by decide) ?_
  refine mv_iload d_Reckoner_know_3 rfl ?_
  refine mv_bipush (v := 8) d_Reckoner_know_5 (by decide) ?_
  refine mv_icmp_ge_f (tgt := 32) d_Reckoner_know_7 (by decide) (by decide) ?_
  refine mv_aload_n d_Reckoner_know_10 rfl rfl ?_
  refine mv_get d_Reckoner_know_11 f_Reckoner_9_10 ((mj_up_ne _ _ (Nat.ne_of_beq_eq_false rfl)).trans ((mj_up_ne _ _ (Nat.ne_of_beq_eq_false rfl)).trans ((mj_up_ne _ _ (Nat.ne_of_beq_eq_false rfl)).trans ((mj_up_ne _ _ (Nat.ne_of_beq_eq_false rfl)).trans ((mj_up_ne _ _ (Nat.ne_of_beq_eq_false rfl)).trans h_77))))) rfl ?_
  refine mv_iload d_Reckoner_know_14 rfl ?_
  refine mv_aload_n d_Reckoner_know_16 rfl rfl ?_
  refine mv_iload d_Reckoner_know_17 rfl ?_
  refine mv_iload_n d_Reckoner_know_19 rfl rfl ?_
  refine mv_iload_n d_Reckoner_know_20 rfl rfl ?_
  refine mv_callV_s (kc' := 0) (ks' := 0) [.int 5, .int 1, .int 719] [.int 719, .int 1, .int 5, .ref 65, .int 5, .ref 78] d_Reckoner_know_21 lV_Reckoner_22 ((mj_up_ne _ _ (Nat.ne_of_beq_eq_false rfl)).trans ((mj_up_ne _ _ (Nat.ne_of_beq_eq_false rfl)).trans ((mj_up_ne _ _ (Nat.ne_of_beq_eq_false rfl)).trans ((mj_up_ne _ _ (Nat.ne_of_beq_eq_false rfl)).trans ((mj_up_ne _ _ (Nat.ne_of_beq_eq_false rfl)).trans h_65))))) rfl (c_Facts_asKnown_14 (d := d) (h_65 := ((mj_up_ne _ _ (Nat.ne_of_beq_eq_false rfl)).trans ((mj_up_ne _ _ (Nat.ne_of_beq_eq_false rfl)).trans ((mj_up_ne _ _ (Nat.ne_of_beq_eq_false rfl)).trans ((mj_up_ne _ _ (Nat.ne_of_beq_eq_false rfl)).trans ((mj_up_ne _ _ (Nat.ne_of_beq_eq_false rfl)).trans h_65))))))) rfl (Nat.le_of_ble_eq_true rfl) (Nat.le_of_ble_eq_true rfl) (Nat.le_of_ble_eq_true rfl) rfl ?_
  refine mv_i2l (v := 0) d_Reckoner_know_24 (by decide) ?_
  refine mv_last (f' := (vp_updL (vp_updL (vp_updL (vp_updL (vp_updL (vp_updL (vp_updL (vp_updL (vp_updL (vp_updL (vp_updL (vp_updL (vp_updL (vp_updL (fun _ => 0) 0 0) 1 0) 2 0) 3 0) 4 0) 5 0) 6 0) 7 0) 0 0) 1 0) 2 0) 3 0) 4 0) 5 0)) d_Reckoner_know_25 (mj_up_self _ _ _) (by unfold vp_in; decide) rfl ?_
  refine mv_iinc (v := 6) (lv' := [(4, .int 6), (0, .ref 77), (1, .ref 65), (2, .int 1), (3, .int 719)]) d_Reckoner_know_26 rfl (by decide) (by decide) rfl ?_
  refine mv_goto (tgt := 3) d_Reckoner_know_29 (by decide) ?_
  refine mv_iload d_Reckoner_know_3 rfl ?_
  refine mv_bipush (v := 8) d_Reckoner_know_5 (by decide) ?_
  refine mv_icmp_ge_f (tgt := 32) d_Reckoner_know_7 (by decide) (by decide) ?_
  refine mv_aload_n d_Reckoner_know_10 rfl rfl ?_
  refine mv_get d_Reckoner_know_11 f_Reckoner_9_10 ((mj_up_ne _ _ (Nat.ne_of_beq_eq_false rfl)).trans ((mj_up_ne _ _ (Nat.ne_of_beq_eq_false rfl)).trans ((mj_up_ne _ _ (Nat.ne_of_beq_eq_false rfl)).trans ((mj_up_ne _ _ (Nat.ne_of_beq_eq_false rfl)).trans ((mj_up_ne _ _ (Nat.ne_of_beq_eq_false rfl)).trans ((mj_up_ne _ _ (Nat.ne_of_beq_eq_false rfl)).trans h_77)))))) rfl ?_
  refine mv_iload d_Reckoner_know_14 rfl ?_
  refine mv_aload_n d_Reckoner_know_16 rfl rfl ?_
  refine mv_iload d_Reckoner_know_17 rfl ?_
  refine mv_iload_n d_Reckoner_know_19 rfl rfl ?_
  refine mv_iload_n d_Reckoner_know_20 rfl rfl ?_
  refine mv_callV_s (kc' := 0) (ks' := 0) [.int 6, .int 1, .int 719] [.int 719, .int 1, .int 6, .ref 65, .int 6, .ref 78] d_Reckoner_know_21 lV_Reckoner_22 ((mj_up_ne _ _ (Nat.ne_of_beq_eq_false rfl)).trans ((mj_up_ne _ _ (Nat.ne_of_beq_eq_false rfl)).trans ((mj_up_ne _ _ (Nat.ne_of_beq_eq_false rfl)).trans ((mj_up_ne _ _ (Nat.ne_of_beq_eq_false rfl)).trans ((mj_up_ne _ _ (Nat.ne_of_beq_eq_false rfl)).trans ((mj_up_ne _ _ (Nat.ne_of_beq_eq_false rfl)).trans h_65)))))) rfl (c_Facts_asKnown_15 (d := d) (h_65 := ((mj_up_ne _ _ (Nat.ne_of_beq_eq_false rfl)).trans ((mj_up_ne _ _ (Nat.ne_of_beq_eq_false rfl)).trans ((mj_up_ne _ _ (Nat.ne_of_beq_eq_false rfl)).trans ((mj_up_ne _ _ (Nat.ne_of_beq_eq_false rfl)).trans ((mj_up_ne _ _ (Nat.ne_of_beq_eq_false rfl)).trans ((mj_up_ne _ _ (Nat.ne_of_beq_eq_false rfl)).trans h_65)))))))) rfl (Nat.le_of_ble_eq_true rfl) (Nat.le_of_ble_eq_true rfl) (Nat.le_of_ble_eq_true rfl) rfl ?_
  refine mv_i2l (v := 0) d_Reckoner_know_24 (by decide) ?_
  refine mv_last (f' := (vp_updL (vp_updL (vp_updL (vp_updL (vp_updL (vp_updL (vp_updL (vp_updL (vp_updL (vp_updL (vp_updL (vp_updL (vp_updL (vp_updL (vp_updL (fun _ => 0) 0 0) 1 0) 2 0) 3 0) 4 0) 5 0) 6 0) 7 0) 0 0) 1 0) 2 0) 3 0) 4 0) 5 0) 6 0)) d_Reckoner_know_25 (mj_up_self _ _ _) (by unfold vp_in; decide) rfl ?_
  refine mv_iinc (v := 7) (lv' := [(4, .int 7), (0, .ref 77), (1, .ref 65), (2, .int 1), (3, .int 719)]) d_Reckoner_know_26 rfl (by decide) (by decide) rfl ?_
  refine mv_goto (tgt := 3) d_Reckoner_know_29 (by decide) ?_
  refine mv_iload d_Reckoner_know_3 rfl ?_
  refine mv_bipush (v := 8) d_Reckoner_know_5 (by decide) ?_
  refine mv_icmp_ge_f (tgt := 32) d_Reckoner_know_7 (by decide) (by decide) ?_
  refine mv_aload_n d_Reckoner_know_10 rfl rfl ?_
  refine mv_get d_Reckoner_know_11 f_Reckoner_9_10 ((mj_up_ne _ _ (Nat.ne_of_beq_eq_false rfl)).trans ((mj_up_ne _ _ (Nat.ne_of_beq_eq_false rfl)).trans ((mj_up_ne _ _ (Nat.ne_of_beq_eq_false rfl)).trans ((mj_up_ne _ _ (Nat.ne_of_beq_eq_false rfl)).trans ((mj_up_ne _ _ (Nat.ne_of_beq_eq_false rfl)).trans ((mj_up_ne _ _ (Nat.ne_of_beq_eq_false rfl)).trans ((mj_up_ne _ _ (Nat.ne_of_beq_eq_false rfl)).trans h_77))))))) rfl ?_
  refine mv_iload d_Reckoner_know_14 rfl ?_
  refine mv_aload_n d_Reckoner_know_16 rfl rfl ?_
  refine mv_iload d_Reckoner_know_17 rfl ?_
  refine mv_iload_n d_Reckoner_know_19 rfl rfl ?_
  refine mv_iload_n d_Reckoner_know_20 rfl rfl ?_
  refine mv_callV_s (kc' := 0) (ks' := 0) [.int 7, .int 1, .int 719] [.int 719, .int 1, .int 7, .ref 65, .int 7, .ref 78] d_Reckoner_know_21 lV_Reckoner_22 ((mj_up_ne _ _ (Nat.ne_of_beq_eq_false rfl)).trans ((mj_up_ne _ _ (Nat.ne_of_beq_eq_false rfl)).trans ((mj_up_ne _ _ (Nat.ne_of_beq_eq_false rfl)).trans ((mj_up_ne _ _ (Nat.ne_of_beq_eq_false rfl)).trans ((mj_up_ne _ _ (Nat.ne_of_beq_eq_false rfl)).trans ((mj_up_ne _ _ (Nat.ne_of_beq_eq_false rfl)).trans ((mj_up_ne _ _ (Nat.ne_of_beq_eq_false rfl)).trans h_65))))))) rfl (c_Facts_asKnown_16 (d := d) (h_65 := ((mj_up_ne _ _ (Nat.ne_of_beq_eq_false rfl)).trans ((mj_up_ne _ _ (Nat.ne_of_beq_eq_false rfl)).trans ((mj_up_ne _ _ (Nat.ne_of_beq_eq_false rfl)).trans ((mj_up_ne _ _ (Nat.ne_of_beq_eq_false rfl)).trans ((mj_up_ne _ _ (Nat.ne_of_beq_eq_false rfl)).trans ((mj_up_ne _ _ (Nat.ne_of_beq_eq_false rfl)).trans ((mj_up_ne _ _ (Nat.ne_of_beq_eq_false rfl)).trans h_65))))))))) rfl (Nat.le_of_ble_eq_true rfl) (Nat.le_of_ble_eq_true rfl) (Nat.le_of_ble_eq_true rfl) rfl ?_
  refine mv_i2l (v := 0) d_Reckoner_know_24 (by decide) ?_
  refine mv_last (f' := (vp_updL (vp_updL (vp_updL (vp_updL (vp_updL (vp_updL (vp_updL (vp_updL (vp_updL (vp_updL (vp_updL (vp_updL (vp_updL (vp_updL (vp_updL (vp_updL (fun _ => 0) 0 0) 1 0) 2 0) 3 0) 4 0) 5 0) 6 0) 7 0) 0 0) 1 0) 2 0) 3 0) 4 0) 5 0) 6 0) 7 0)) d_Reckoner_know_25 (mj_up_self _ _ _) (by unfold vp_in; decide) rfl ?_
  refine mv_iinc (v := 8) (lv' := [(4, .int 8), (0, .ref 77), (1, .ref 65), (2, .int 1), (3, .int 719)]) d_Reckoner_know_26 rfl (by decide) (by decide) rfl ?_
  refine mv_goto (tgt := 3) d_Reckoner_know_29 (by decide) ?_
  refine mv_iload d_Reckoner_know_3 rfl ?_
  refine mv_bipush (v := 8) d_Reckoner_know_5 (by decide) ?_
  refine mv_icmp_ge_t (tgt := 32) d_Reckoner_know_7 (by decide) (by decide) ?_
  exact mv_vret d_Reckoner_know_32 rfl ⟨rfl, rfl, rfl⟩
theorem c_TrustDesk_closeYear_1 {g : mj_G} {l : Launch} {d nx : Nat} {M : mj_M} (h_64 : M 64 = some (.inr (12, [.ref 65, .ref 70, .ref 77, .ref 80, .ref 90, .ref 94, .ref 95, .ref 96, .ref 97, .ref 98, .int 0, .int 0, .int 0]))) (h_65 : M 65 = some (.inr (5, [.ref 66, .ref 67, .ref 68, .ref 69, .int 0]))) (h_77 : M 77 = some (.inr (10, [.ref 78, .int (-1), .ref 79, .int 0, .int 0]))) (h_78 : M 78 = some (.inl (1, 13, .inr (.inl (vp_updL (vp_updL (vp_updL (vp_updL (vp_updL (vp_updL (vp_updL (vp_updL (fun _ => 0) 0 0) 1 0) 2 0) 3 0) 4 0) 5 0) 6 0) 7 0))))) (h_94 : M 94 = some (.inr (0, [.int 0, .ref 0, .int 0]))) (h_95 : M 95 = some (.inr (0, [.int 0, .ref 0, .int 0]))) : mj_Met g l kY_TrustDesk_closeYear (d + 2) [.ref 64, .int 1] M nx 0 0 (mj_E1 none (mj_up (mj_up (mj_up (mj_up (mj_up (mj_up (mj_up (mj_up M 78 (.inl (1, 13, .inr (.inl (vp_updL (vp_updL (vp_updL (vp_updL (vp_updL (vp_updL (vp_updL (vp_updL (vp_updL (fun _ => 0) 0 0) 1 0) 2 0) 3 0) 4 0) 5 0) 6 0) 7 0) 0 0))))) 78 (.inl (1, 13, .inr (.inl (vp_updL (vp_updL (vp_updL (vp_updL (vp_updL (vp_updL (vp_updL (vp_updL (vp_updL (vp_updL (fun _ => 0) 0 0) 1 0) 2 0) 3 0) 4 0) 5 0) 6 0) 7 0) 0 0) 1 0))))) 78 (.inl (1, 13, .inr (.inl (vp_updL (vp_updL (vp_updL (vp_updL (vp_updL (vp_updL (vp_updL (vp_updL (vp_updL (vp_updL (vp_updL (fun _ => 0) 0 0) 1 0) 2 0) 3 0) 4 0) 5 0) 6 0) 7 0) 0 0) 1 0) 2 0))))) 78 (.inl (1, 13, .inr (.inl (vp_updL (vp_updL (vp_updL (vp_updL (vp_updL (vp_updL (vp_updL (vp_updL (vp_updL (vp_updL (vp_updL (vp_updL (fun _ => 0) 0 0) 1 0) 2 0) 3 0) 4 0) 5 0) 6 0) 7 0) 0 0) 1 0) 2 0) 3 0))))) 78 (.inl (1, 13, .inr (.inl (vp_updL (vp_updL (vp_updL (vp_updL (vp_updL (vp_updL (vp_updL (vp_updL (vp_updL (vp_updL (vp_updL (vp_updL (vp_updL (fun _ => 0) 0 0) 1 0) 2 0) 3 0) 4 0) 5 0) 6 0) 7 0) 0 0) 1 0) 2 0) 3 0) 4 0))))) 78 (.inl (1, 13, .inr (.inl (vp_updL (vp_updL (vp_updL (vp_updL (vp_updL (vp_updL (vp_updL (vp_updL (vp_updL (vp_updL (vp_updL (vp_updL (vp_updL (vp_updL (fun _ => 0) 0 0) 1 0) 2 0) 3 0) 4 0) 5 0) 6 0) 7 0) 0 0) 1 0) 2 0) 3 0) 4 0) 5 0))))) 78 (.inl (1, 13, .inr (.inl (vp_updL (vp_updL (vp_updL (vp_updL (vp_updL (vp_updL (vp_updL (vp_updL (vp_updL (vp_updL (vp_updL (vp_updL (vp_updL (vp_updL (vp_updL (fun _ => 0) 0 0) 1 0) 2 0) 3 0) 4 0) 5 0) 6 0) 7 0) 0 0) 1 0) 2 0) 3 0) 4 0) 5 0) 6 0))))) 78 (.inl (1, 13, .inr (.inl (vp_updL (vp_updL (vp_updL (vp_updL (vp_updL (vp_updL (vp_updL (vp_updL (vp_updL (vp_updL (vp_updL (vp_updL (vp_updL (vp_updL (vp_updL (vp_updL (fun _ => 0) 0 0) 1 0) 2 0) 3 0) 4 0) 5 0) 6 0) 7 0) 0 0) 1 0) 2 0) 3 0) 4 0) 5 0) 6 0) 7 0))))) nx) := by
  refine mj_enter (by decide) (Nat.le_of_ble_eq_true rfl) ?_
  refine mv_iload_n d_TrustDesk_closeYear_0 rfl rfl ?_
  refine mv_callS_s (kc' := 0) (ks' := 0) [.int 1] [.int 1] d_TrustDesk_closeYear_1 lS_TrustDesk_151 (c_TrustDesk_lastDayOf_1 (d := (d + 1))) rfl (Nat.le_of_ble_eq_true rfl) (Nat.le_of_ble_eq_true rfl) (Nat.le_of_ble_eq_true rfl) rfl ?_
  refine mv_istore_n (lv' := [(2, .int 719), (0, .ref 64), (1, .int 1)]) d_TrustDesk_closeYear_4 rfl (by decide) rfl ?_
  refine mv_aload_n d_TrustDesk_closeYear_5 rfl rfl ?_
  refine mv_iload_n d_TrustDesk_closeYear_6 rfl rfl ?_
  refine mv_callV_s (kc' := 0) (ks' := 0) [.int 719] [.int 719, .ref 64] d_TrustDesk_closeYear_7 lV_TrustDesk_114 h_64 rfl (c_TrustDesk_inForce_2 (d := d) (h_64 := h_64) (h_94 := h_94)) rfl (Nat.le_of_ble_eq_true rfl) (Nat.le_of_ble_eq_true rfl) (Nat.le_of_ble_eq_true rfl) rfl ?_
  refine mv_astore_n (lv' := [(3, .ref 90), (2, .int 719), (0, .ref 64), (1, .int 1)]) d_TrustDesk_closeYear_10 rfl (by decide) rfl ?_
  refine mv_aload_n d_TrustDesk_closeYear_11 rfl rfl ?_
  refine mv_get d_TrustDesk_closeYear_12 f_TrustDesk_26_12 h_64 rfl ?_
  refine mv_aload_n d_TrustDesk_closeYear_15 rfl rfl ?_
  refine mv_get d_TrustDesk_closeYear_16 f_TrustDesk_10_12 h_64 rfl ?_
  refine mv_iload_n d_TrustDesk_closeYear_19 rfl rfl ?_
  refine mv_iload_n d_TrustDesk_closeYear_20 rfl rfl ?_
  refine mv_callV_n (kc' := 0) (ks' := 0) [.ref 65, .int 1, .int 719] [.int 719, .int 1, .ref 65, .ref 77] d_TrustDesk_closeYear_21 lV_TrustDesk_154 h_77 rfl (c_Reckoner_know_1 (d := d) (h_65 := h_65) (h_77 := h_77) (h_78 := h_78)) rfl (Nat.le_of_ble_eq_true rfl) (Nat.le_of_ble_eq_true rfl) (Nat.le_of_ble_eq_true rfl) rfl ?_
  refine mv_iconst (v := 0) d_TrustDesk_closeYear_24 (by decide) ?_
  refine mv_istore (lv' := [(4, .int 0), (3, .ref 90), (2, .int 719), (0, .ref 64), (1, .int 1)]) d_TrustDesk_closeYear_25 (by decide) rfl ?_
  refine mv_iload d_TrustDesk_closeYear_27 rfl ?_
  refine mv_aload_n d_TrustDesk_closeYear_29 rfl rfl ?_
  refine mv_get d_TrustDesk_closeYear_30 f_TrustDesk_53_12 ((mj_up_ne _ _ (Nat.ne_of_beq_eq_false rfl)).trans ((mj_up_ne _ _ (Nat.ne_of_beq_eq_false rfl)).trans ((mj_up_ne _ _ (Nat.ne_of_beq_eq_false rfl)).trans ((mj_up_ne _ _ (Nat.ne_of_beq_eq_false rfl)).trans ((mj_up_ne _ _ (Nat.ne_of_beq_eq_false rfl)).trans ((mj_up_ne _ _ (Nat.ne_of_beq_eq_false rfl)).trans ((mj_up_ne _ _ (Nat.ne_of_beq_eq_false rfl)).trans ((mj_up_ne _ _ (Nat.ne_of_beq_eq_false rfl)).trans h_64)))))))) rfl ?_
  refine mv_callV_s (kc' := 0) (ks' := 0) [] [.ref 95, .int 0] d_TrustDesk_closeYear_33 lV_TrustDesk_97 ((mj_up_ne _ _ (Nat.ne_of_beq_eq_false rfl)).trans ((mj_up_ne _ _ (Nat.ne_of_beq_eq_false rfl)).trans ((mj_up_ne _ _ (Nat.ne_of_beq_eq_false rfl)).trans ((mj_up_ne _ _ (Nat.ne_of_beq_eq_false rfl)).trans ((mj_up_ne _ _ (Nat.ne_of_beq_eq_false rfl)).trans ((mj_up_ne _ _ (Nat.ne_of_beq_eq_false rfl)).trans ((mj_up_ne _ _ (Nat.ne_of_beq_eq_false rfl)).trans ((mj_up_ne _ _ (Nat.ne_of_beq_eq_false rfl)).trans h_95)))))))) rfl (c_ArrayList_size_1 (d := (d + 1)) (h_95 := ((mj_up_ne _ _ (Nat.ne_of_beq_eq_false rfl)).trans ((mj_up_ne _ _ (Nat.ne_of_beq_eq_false rfl)).trans ((mj_up_ne _ _ (Nat.ne_of_beq_eq_false rfl)).trans ((mj_up_ne _ _ (Nat.ne_of_beq_eq_false rfl)).trans ((mj_up_ne _ _ (Nat.ne_of_beq_eq_false rfl)).trans ((mj_up_ne _ _ (Nat.ne_of_beq_eq_false rfl)).trans ((mj_up_ne _ _ (Nat.ne_of_beq_eq_false rfl)).trans ((mj_up_ne _ _ (Nat.ne_of_beq_eq_false rfl)).trans h_95)))))))))) rfl (Nat.le_of_ble_eq_true rfl) (Nat.le_of_ble_eq_true rfl) (Nat.le_of_ble_eq_true rfl) rfl ?_
  refine mv_icmp_ge_t (tgt := 75) d_TrustDesk_closeYear_36 (by decide) (by decide) ?_
  exact mv_vret d_TrustDesk_closeYear_75 rfl ⟨rfl, rfl, rfl⟩
theorem c_TrustDesk_days_0 {g : mj_G} {l : Launch} {d nx : Nat} {M : mj_M} {x1 : Int32} (h_64 : M 64 = some (.inr (12, [.ref 65, .ref 70, .ref 77, .ref 80, .ref 90, .ref 94, .ref 95, .ref 96, .ref 97, .ref 98, .int 0, .int 0, .int 0]))) (h_65 : M 65 = some (.inr (5, [.ref 66, .ref 67, .ref 68, .ref 69, .int 0]))) (h_77 : M 77 = some (.inr (10, [.ref 78, .int (-1), .ref 79, .int 0, .int 0]))) (h_78 : M 78 = some (.inl (1, 13, .inr (.inl (fun _ => 0))))) (h_94 : M 94 = some (.inr (0, [.int 0, .ref 0, .int 0]))) (h_95 : M 95 = some (.inr (0, [.int 0, .ref 0, .int 0]))) : mj_Met g l kY_TrustDesk_days (d + 3) [.ref 64, .int x1] M nx 0 0 (mj_KP (some (.int (e_days x1))) M 99 149) := by
  refine mj_enter (by decide) (Nat.le_of_ble_eq_true rfl) ?_
  refine mv_iload_n d_TrustDesk_days_0 rfl rfl ?_
  refine mv_iconst (v := 1) d_TrustDesk_days_1 (by decide) ?_
  refine mv_icmp_ltZ (tgt := 23) (a := x1.toInt) (b := 1) d_TrustDesk_days_2 (by decide) rfl (by decide) (fun b1 => ?_) (fun b1 => ?_)
  · refine mv_iconst (v := (-1)) d_TrustDesk_days_23 (by decide) ?_
    exact mv_iret d_TrustDesk_days_24 rfl (by first | rfl | decide) ⟨(by unfold e_days; first | rw [if_pos (by omega)] | rw [if_neg (by omega)]), fun a ha1 ha2 => rfl⟩
  · refine mv_iload_n d_TrustDesk_days_5 rfl rfl ?_
    refine mv_sipush (v := 720) d_TrustDesk_days_6 (by decide) ?_
    refine mv_icmp_gtZ (tgt := 23) (a := x1.toInt) (b := 720) d_TrustDesk_days_9 (by decide) rfl (by decide) (fun b2 => ?_) (fun b2 => ?_)
    · refine mv_iconst (v := (-1)) d_TrustDesk_days_23 (by decide) ?_
      exact mv_iret d_TrustDesk_days_24 rfl (by first | rfl | decide) ⟨(by unfold e_days; first | rw [if_pos (by omega)] | rw [if_neg (by omega)]), fun a ha1 ha2 => rfl⟩
    · refine mv_aload_n d_TrustDesk_days_12 rfl rfl ?_
      refine mv_get d_TrustDesk_days_13 f_TrustDesk_73_12 h_64 rfl ?_
      refine mv_iload_n d_TrustDesk_days_16 rfl rfl ?_
      refine mv_iaddv (v := x1) d_TrustDesk_days_17 (Int32.zero_add _) ?_
      refine mv_ldc d_TrustDesk_days_18 k_TrustDesk_147 ?_
      refine mv_icmp_leZ (tgt := 25) (a := x1.toInt) (b := 36000) d_TrustDesk_days_20 (by decide) rfl (by decide) (fun b3 => ?_) (fun b3 => absurd b3 (by omega))
      refine mv_aload_n d_TrustDesk_days_25 rfl rfl ?_
      refine mv_get d_TrustDesk_days_26 f_TrustDesk_73_12 h_64 rfl ?_
      refine mv_iload_n d_TrustDesk_days_29 rfl rfl ?_
      refine mv_iaddv (v := x1) d_TrustDesk_days_30 (Int32.zero_add _) ?_
      refine mv_istore_n (lv' := [(2, .int x1), (0, .ref 64), (1, .int x1)]) d_TrustDesk_days_31 rfl (by decide) rfl ?_
      refine mv_aload_n d_TrustDesk_days_32 rfl rfl ?_
      refine mv_get d_TrustDesk_days_33 f_TrustDesk_73_12 h_64 rfl ?_
      refine mv_sipush (v := 360) d_TrustDesk_days_36 (by decide) ?_
      refine mv_idivv (v := 0) d_TrustDesk_days_39 (by decide) (by decide) ?_
      refine mv_istore_n (lv' := [(3, .int 0), (2, .int x1), (0, .ref 64), (1, .int x1)]) d_TrustDesk_days_40 rfl (by decide) rfl ?_
      refine mv_iload_n d_TrustDesk_days_41 rfl rfl ?_
      refine mv_iload_n d_TrustDesk_days_42 rfl rfl ?_
      refine mv_sipush (v := 360) d_TrustDesk_days_43 (by decide) ?_
      refine mv_idiv d_TrustDesk_days_46 (by decide) ?_
      have b4 : (x1 / 360).toInt = x1.toInt / 360 := mz_div (by decide) (by decide) (by omega)
      refine mv_icmp_geZ (tgt := 61) (a := 0) (b := (x1 / 360).toInt) d_TrustDesk_days_47 (by decide) (by decide) rfl (fun b5 => ?_) (fun b5 => ?_)
      · refine mv_aload_n d_TrustDesk_days_61 rfl rfl ?_
        refine mv_iload_n d_TrustDesk_days_62 rfl rfl ?_
        refine mv_put (fs' := [.ref 65, .ref 70, .ref 77, .ref 80, .ref 90, .ref 94, .ref 95, .ref 96, .ref 97, .ref 98, .int 0, .int 0, .int x1]) d_TrustDesk_days_63 p_TrustDesk_73_12 h_64 (Nat.le_of_ble_eq_true rfl) rfl rfl rfl ?_
        refine mv_aload_n d_TrustDesk_days_66 rfl rfl ?_
        refine mv_get d_TrustDesk_days_67 f_TrustDesk_73_12 (mj_up_self _ _ _) rfl ?_
        exact mv_iret d_TrustDesk_days_70 rfl (by first | rfl | decide) ⟨(by unfold e_days; first | rw [if_pos (by omega)] | rw [if_neg (by omega)]), fun a ha1 ha2 => (mj_up_ne _ _ (show a ≠ 64 by omega)).trans (rfl)⟩
      · refine mv_aload_n d_TrustDesk_days_50 rfl rfl ?_
        refine mv_iload_n d_TrustDesk_days_51 rfl rfl ?_
        refine mv_callV_n (kc' := 0) (ks' := 0) [.int 0] [.int 0, .ref 64] d_TrustDesk_days_52 lV_TrustDesk_148 h_64 rfl (c_TrustDesk_closeYear_0 (d := d) (h_64 := h_64) (h_65 := h_65) (h_77 := h_77) (h_78 := h_78) (h_94 := h_94) (h_95 := h_95)) rfl (Nat.le_of_ble_eq_true rfl) (Nat.le_of_ble_eq_true rfl) (Nat.le_of_ble_eq_true rfl) rfl ?_
        refine mv_iinc (v := 1) (lv' := [(3, .int 1), (2, .int x1), (0, .ref 64), (1, .int x1)]) d_TrustDesk_days_55 rfl (by decide) (by decide) rfl ?_
        refine mv_goto (tgt := 41) d_TrustDesk_days_58 (by decide) ?_
        refine mv_iload_n d_TrustDesk_days_41 rfl rfl ?_
        refine mv_iload_n d_TrustDesk_days_42 rfl rfl ?_
        refine mv_sipush (v := 360) d_TrustDesk_days_43 (by decide) ?_
        refine mv_idiv d_TrustDesk_days_46 (by decide) ?_
        have b6 : (x1 / 360).toInt = x1.toInt / 360 := mz_div (by decide) (by decide) (by omega)
        refine mv_icmp_geZ (tgt := 61) (a := 1) (b := (x1 / 360).toInt) d_TrustDesk_days_47 (by decide) (by decide) rfl (fun b7 => ?_) (fun b7 => ?_)
        · refine mv_aload_n d_TrustDesk_days_61 rfl rfl ?_
          refine mv_iload_n d_TrustDesk_days_62 rfl rfl ?_
          refine mv_put (fs' := [.ref 65, .ref 70, .ref 77, .ref 80, .ref 90, .ref 94, .ref 95, .ref 96, .ref 97, .ref 98, .int 0, .int 0, .int x1]) d_TrustDesk_days_63 p_TrustDesk_73_12 ((mj_up_ne _ _ (Nat.ne_of_beq_eq_false rfl)).trans ((mj_up_ne _ _ (Nat.ne_of_beq_eq_false rfl)).trans ((mj_up_ne _ _ (Nat.ne_of_beq_eq_false rfl)).trans ((mj_up_ne _ _ (Nat.ne_of_beq_eq_false rfl)).trans ((mj_up_ne _ _ (Nat.ne_of_beq_eq_false rfl)).trans ((mj_up_ne _ _ (Nat.ne_of_beq_eq_false rfl)).trans ((mj_up_ne _ _ (Nat.ne_of_beq_eq_false rfl)).trans ((mj_up_ne _ _ (Nat.ne_of_beq_eq_false rfl)).trans h_64)))))))) (Nat.le_of_ble_eq_true rfl) rfl rfl rfl ?_
          refine mv_aload_n d_TrustDesk_days_66 rfl rfl ?_
          refine mv_get d_TrustDesk_days_67 f_TrustDesk_73_12 (mj_up_self _ _ _) rfl ?_
          exact mv_iret d_TrustDesk_days_70 rfl (by first | rfl | decide) ⟨(by unfold e_days; first | rw [if_pos (by omega)] | rw [if_neg (by omega)]), fun a ha1 ha2 => (mj_up_ne _ _ (show a ≠ 64 by omega)).trans ((mj_up_ne _ _ (show a ≠ 78 by omega)).trans ((mj_up_ne _ _ (show a ≠ 78 by omega)).trans ((mj_up_ne _ _ (show a ≠ 78 by omega)).trans ((mj_up_ne _ _ (show a ≠ 78 by omega)).trans ((mj_up_ne _ _ (show a ≠ 78 by omega)).trans ((mj_up_ne _ _ (show a ≠ 78 by omega)).trans ((mj_up_ne _ _ (show a ≠ 78 by omega)).trans ((mj_up_ne _ _ (show a ≠ 78 by omega)).trans (rfl)))))))))⟩
        · refine mv_aload_n d_TrustDesk_days_50 rfl rfl ?_
          refine mv_iload_n d_TrustDesk_days_51 rfl rfl ?_
          refine mv_callV_n (kc' := 0) (ks' := 0) [.int 1] [.int 1, .ref 64] d_TrustDesk_days_52 lV_TrustDesk_148 ((mj_up_ne _ _ (Nat.ne_of_beq_eq_false rfl)).trans ((mj_up_ne _ _ (Nat.ne_of_beq_eq_false rfl)).trans ((mj_up_ne _ _ (Nat.ne_of_beq_eq_false rfl)).trans ((mj_up_ne _ _ (Nat.ne_of_beq_eq_false rfl)).trans ((mj_up_ne _ _ (Nat.ne_of_beq_eq_false rfl)).trans ((mj_up_ne _ _ (Nat.ne_of_beq_eq_false rfl)).trans ((mj_up_ne _ _ (Nat.ne_of_beq_eq_false rfl)).trans ((mj_up_ne _ _ (Nat.ne_of_beq_eq_false rfl)).trans h_64)))))))) rfl (c_TrustDesk_closeYear_1 (d := d) (h_64 := ((mj_up_ne _ _ (Nat.ne_of_beq_eq_false rfl)).trans ((mj_up_ne _ _ (Nat.ne_of_beq_eq_false rfl)).trans ((mj_up_ne _ _ (Nat.ne_of_beq_eq_false rfl)).trans ((mj_up_ne _ _ (Nat.ne_of_beq_eq_false rfl)).trans ((mj_up_ne _ _ (Nat.ne_of_beq_eq_false rfl)).trans ((mj_up_ne _ _ (Nat.ne_of_beq_eq_false rfl)).trans ((mj_up_ne _ _ (Nat.ne_of_beq_eq_false rfl)).trans ((mj_up_ne _ _ (Nat.ne_of_beq_eq_false rfl)).trans h_64))))))))) (h_65 := ((mj_up_ne _ _ (Nat.ne_of_beq_eq_false rfl)).trans ((mj_up_ne _ _ (Nat.ne_of_beq_eq_false rfl)).trans ((mj_up_ne _ _ (Nat.ne_of_beq_eq_false rfl)).trans ((mj_up_ne _ _ (Nat.ne_of_beq_eq_false rfl)).trans ((mj_up_ne _ _ (Nat.ne_of_beq_eq_false rfl)).trans ((mj_up_ne _ _ (Nat.ne_of_beq_eq_false rfl)).trans ((mj_up_ne _ _ (Nat.ne_of_beq_eq_false rfl)).trans ((mj_up_ne _ _ (Nat.ne_of_beq_eq_false rfl)).trans h_65))))))))) (h_77 := ((mj_up_ne _ _ (Nat.ne_of_beq_eq_false rfl)).trans ((mj_up_ne _ _ (Nat.ne_of_beq_eq_false rfl)).trans ((mj_up_ne _ _ (Nat.ne_of_beq_eq_false rfl)).trans ((mj_up_ne _ _ (Nat.ne_of_beq_eq_false rfl)).trans ((mj_up_ne _ _ (Nat.ne_of_beq_eq_false rfl)).trans ((mj_up_ne _ _ (Nat.ne_of_beq_eq_false rfl)).trans ((mj_up_ne _ _ (Nat.ne_of_beq_eq_false rfl)).trans ((mj_up_ne _ _ (Nat.ne_of_beq_eq_false rfl)).trans h_77))))))))) (h_78 := (mj_up_self _ _ _)) (h_94 := ((mj_up_ne _ _ (Nat.ne_of_beq_eq_false rfl)).trans ((mj_up_ne _ _ (Nat.ne_of_beq_eq_false rfl)).trans ((mj_up_ne _ _ (Nat.ne_of_beq_eq_false rfl)).trans ((mj_up_ne _ _ (Nat.ne_of_beq_eq_false rfl)).trans ((mj_up_ne _ _ (Nat.ne_of_beq_eq_false rfl)).trans ((mj_up_ne _ _ (Nat.ne_of_beq_eq_false rfl)).trans ((mj_up_ne _ _ (Nat.ne_of_beq_eq_false rfl)).trans ((mj_up_ne _ _ (Nat.ne_of_beq_eq_false rfl)).trans h_94))))))))) (h_95 := ((mj_up_ne _ _ (Nat.ne_of_beq_eq_false rfl)).trans ((mj_up_ne _ _ (Nat.ne_of_beq_eq_false rfl)).trans ((mj_up_ne _ _ (Nat.ne_of_beq_eq_false rfl)).trans ((mj_up_ne _ _ (Nat.ne_of_beq_eq_false rfl)).trans ((mj_up_ne _ _ (Nat.ne_of_beq_eq_false rfl)).trans ((mj_up_ne _ _ (Nat.ne_of_beq_eq_false rfl)).trans ((mj_up_ne _ _ (Nat.ne_of_beq_eq_false rfl)).trans ((mj_up_ne _ _ (Nat.ne_of_beq_eq_false rfl)).trans h_95)))))))))) rfl (Nat.le_of_ble_eq_true rfl) (Nat.le_of_ble_eq_true rfl) (Nat.le_of_ble_eq_true rfl) rfl ?_
          refine mv_iinc (v := 2) (lv' := [(3, .int 2), (2, .int x1), (0, .ref 64), (1, .int x1)]) d_TrustDesk_days_55 rfl (by decide) (by decide) rfl ?_
          refine mv_goto (tgt := 41) d_TrustDesk_days_58 (by decide) ?_
          refine mv_iload_n d_TrustDesk_days_41 rfl rfl ?_
          refine mv_iload_n d_TrustDesk_days_42 rfl rfl ?_
          refine mv_sipush (v := 360) d_TrustDesk_days_43 (by decide) ?_
          refine mv_idiv d_TrustDesk_days_46 (by decide) ?_
          have b8 : (x1 / 360).toInt = x1.toInt / 360 := mz_div (by decide) (by decide) (by omega)
          refine mv_icmp_geZ (tgt := 61) (a := 2) (b := (x1 / 360).toInt) d_TrustDesk_days_47 (by decide) (by decide) rfl (fun b9 => ?_) (fun b9 => absurd b9 (by omega))
          refine mv_aload_n d_TrustDesk_days_61 rfl rfl ?_
          refine mv_iload_n d_TrustDesk_days_62 rfl rfl ?_
          refine mv_put (fs' := [.ref 65, .ref 70, .ref 77, .ref 80, .ref 90, .ref 94, .ref 95, .ref 96, .ref 97, .ref 98, .int 0, .int 0, .int x1]) d_TrustDesk_days_63 p_TrustDesk_73_12 ((mj_up_ne _ _ (Nat.ne_of_beq_eq_false rfl)).trans ((mj_up_ne _ _ (Nat.ne_of_beq_eq_false rfl)).trans ((mj_up_ne _ _ (Nat.ne_of_beq_eq_false rfl)).trans ((mj_up_ne _ _ (Nat.ne_of_beq_eq_false rfl)).trans ((mj_up_ne _ _ (Nat.ne_of_beq_eq_false rfl)).trans ((mj_up_ne _ _ (Nat.ne_of_beq_eq_false rfl)).trans ((mj_up_ne _ _ (Nat.ne_of_beq_eq_false rfl)).trans ((mj_up_ne _ _ (Nat.ne_of_beq_eq_false rfl)).trans ((mj_up_ne _ _ (Nat.ne_of_beq_eq_false rfl)).trans ((mj_up_ne _ _ (Nat.ne_of_beq_eq_false rfl)).trans ((mj_up_ne _ _ (Nat.ne_of_beq_eq_false rfl)).trans ((mj_up_ne _ _ (Nat.ne_of_beq_eq_false rfl)).trans ((mj_up_ne _ _ (Nat.ne_of_beq_eq_false rfl)).trans ((mj_up_ne _ _ (Nat.ne_of_beq_eq_false rfl)).trans ((mj_up_ne _ _ (Nat.ne_of_beq_eq_false rfl)).trans ((mj_up_ne _ _ (Nat.ne_of_beq_eq_false rfl)).trans h_64)))))))))))))))) (Nat.le_of_ble_eq_true rfl) rfl rfl rfl ?_
          refine mv_aload_n d_TrustDesk_days_66 rfl rfl ?_
          refine mv_get d_TrustDesk_days_67 f_TrustDesk_73_12 (mj_up_self _ _ _) rfl ?_
          exact mv_iret d_TrustDesk_days_70 rfl (by first | rfl | decide) ⟨(by unfold e_days; first | rw [if_pos (by omega)] | rw [if_neg (by omega)]), fun a ha1 ha2 => (mj_up_ne _ _ (show a ≠ 64 by omega)).trans ((mj_up_ne _ _ (show a ≠ 78 by omega)).trans ((mj_up_ne _ _ (show a ≠ 78 by omega)).trans ((mj_up_ne _ _ (show a ≠ 78 by omega)).trans ((mj_up_ne _ _ (show a ≠ 78 by omega)).trans ((mj_up_ne _ _ (show a ≠ 78 by omega)).trans ((mj_up_ne _ _ (show a ≠ 78 by omega)).trans ((mj_up_ne _ _ (show a ≠ 78 by omega)).trans ((mj_up_ne _ _ (show a ≠ 78 by omega)).trans ((mj_up_ne _ _ (show a ≠ 78 by omega)).trans ((mj_up_ne _ _ (show a ≠ 78 by omega)).trans ((mj_up_ne _ _ (show a ≠ 78 by omega)).trans ((mj_up_ne _ _ (show a ≠ 78 by omega)).trans ((mj_up_ne _ _ (show a ≠ 78 by omega)).trans ((mj_up_ne _ _ (show a ≠ 78 by omega)).trans ((mj_up_ne _ _ (show a ≠ 78 by omega)).trans ((mj_up_ne _ _ (show a ≠ 78 by omega)).trans (rfl)))))))))))))))))⟩
abbrev kY_TrustDesk_trustee : mj_Y := (⟨"TrustDesk", "trustee", "(II)Z"⟩, prog_1_method_17_code, 4, (Option.some Jvm.ClassFile.FieldType.boolean))
theorem d_TrustDesk_trustee_0 : decode kY_TrustDesk_trustee.2.1 0 = .ok (.aload_n 0, 1) := by decide +kernel
theorem d_TrustDesk_trustee_1 : decode kY_TrustDesk_trustee.2.1 1 = .ok (.iload_n 1, 1) := by decide +kernel
theorem d_TrustDesk_trustee_2 : decode kY_TrustDesk_trustee.2.1 2 = .ok (.invokevirtual 257, 3) := by decide +kernel
abbrev kY_TrustDesk_fundAt : mj_Y := (⟨"TrustDesk", "fundAt", "(I)LTrustDesk$Fund;"⟩, prog_1_method_60_code, 2, (Option.some (Jvm.ClassFile.FieldType.object "TrustDesk$Fund")))
theorem lV_TrustDesk_257 : mj_lV "TrustDesk" 257 kY_TrustDesk_fundAt 1 := ⟨⟨(mj_in1 (List.mem_of_getElem? (i := 938) (by decide +kernel)) rfl), (mj_in1 (List.mem_of_getElem? (i := 1) (by decide +kernel)) rfl), (mj_in1 (List.mem_of_getElem? (i := 941) (by decide +kernel)) rfl), by decide, rfl, by decide⟩, (mj_in1 (List.mem_of_getElem? (i := 940) (by decide +kernel)) rfl), (mj_in (List.mem_append_left _ (List.mem_of_getElem? (i := 49) (by decide +kernel))) rfl)⟩
theorem d_TrustDesk_fundAt_0 : decode kY_TrustDesk_fundAt.2.1 0 = .ok (.iload_n 1, 1) := by decide +kernel
theorem d_TrustDesk_fundAt_1 : decode kY_TrustDesk_fundAt.2.1 1 = .ok (.ifCond .lt 28, 3) := by decide +kernel
theorem d_TrustDesk_fundAt_29 : decode kY_TrustDesk_fundAt.2.1 29 = .ok (.aconst_null, 1) := by decide +kernel
theorem d_TrustDesk_fundAt_30 : decode kY_TrustDesk_fundAt.2.1 30 = .ok (.areturn, 1) := by decide +kernel
theorem d_TrustDesk_fundAt_4 : decode kY_TrustDesk_fundAt.2.1 4 = .ok (.iload_n 1, 1) := by decide +kernel
theorem d_TrustDesk_fundAt_5 : decode kY_TrustDesk_fundAt.2.1 5 = .ok (.aload_n 0, 1) := by decide +kernel
theorem d_TrustDesk_fundAt_6 : decode kY_TrustDesk_fundAt.2.1 6 = .ok (.getfield 53, 3) := by decide +kernel
theorem d_TrustDesk_fundAt_9 : decode kY_TrustDesk_fundAt.2.1 9 = .ok (.invokevirtual 97, 3) := by decide +kernel
theorem d_TrustDesk_fundAt_12 : decode kY_TrustDesk_fundAt.2.1 12 = .ok (.if_icmp .ge 17, 3) := by decide +kernel
theorem c_TrustDesk_fundAt_0 {g : mj_G} {l : Launch} {d nx : Nat} {M : mj_M} {x1 : Int32} (h_64 : M 64 = some (.inr (12, [.ref 65, .ref 70, .ref 77, .ref 80, .ref 90, .ref 94, .ref 95, .ref 96, .ref 97, .ref 98, .int 0, .int 0, .int 0]))) (h_95 : M 95 = some (.inr (0, [.int 0, .ref 0, .int 0]))) : mj_Met g l kY_TrustDesk_fundAt (d + 1) [.ref 64, .int x1] M nx 0 0 (mj_E1 (some (.null)) M nx) := by
  refine mj_enter (by decide) (Nat.le_of_ble_eq_true rfl) ?_
  refine mv_iload_n d_TrustDesk_fundAt_0 rfl rfl ?_
  refine mv_if_ltZ (tgt := 29) (a := x1.toInt) d_TrustDesk_fundAt_1 (by decide) rfl (fun b1 => ?_) (fun b1 => ?_)
  · refine mv_null d_TrustDesk_fundAt_29 ?_
    exact mv_aret (r := none) d_TrustDesk_fundAt_30 rfl (by first | exact Or.inl ⟨_, rfl⟩ | exact Or.inr ⟨_, rfl⟩) ⟨rfl, rfl, rfl⟩
  · refine mv_iload_n d_TrustDesk_fundAt_4 rfl rfl ?_
    refine mv_aload_n d_TrustDesk_fundAt_5 rfl rfl ?_
    refine mv_get d_TrustDesk_fundAt_6 f_TrustDesk_53_12 h_64 rfl ?_
    refine mv_callV_s (kc' := 0) (ks' := 0) [] [.ref 95, .int x1] d_TrustDesk_fundAt_9 lV_TrustDesk_97 h_95 rfl (c_ArrayList_size_1 (d := d) (h_95 := h_95)) rfl (Nat.le_of_ble_eq_true rfl) (Nat.le_of_ble_eq_true rfl) (Nat.le_of_ble_eq_true rfl) rfl ?_
    refine mv_icmp_geZ (tgt := 29) (a := x1.toInt) (b := 0) d_TrustDesk_fundAt_12 (by decide) rfl (by decide) (fun b2 => ?_) (fun b2 => absurd b2 (by omega))
    refine mv_null d_TrustDesk_fundAt_29 ?_
    exact mv_aret (r := none) d_TrustDesk_fundAt_30 rfl (by first | exact Or.inl ⟨_, rfl⟩ | exact Or.inr ⟨_, rfl⟩) ⟨rfl, rfl, rfl⟩
theorem d_TrustDesk_trustee_5 : decode kY_TrustDesk_trustee.2.1 5 = .ok (.astore_n 3, 1) := by decide +kernel
theorem d_TrustDesk_trustee_6 : decode kY_TrustDesk_trustee.2.1 6 = .ok (.aload_n 3, 1) := by decide +kernel
theorem d_TrustDesk_trustee_7 : decode kY_TrustDesk_trustee.2.1 7 = .ok (.ifnull 17, 3) := by decide +kernel
theorem d_TrustDesk_trustee_24 : decode kY_TrustDesk_trustee.2.1 24 = .ok (.iconst 0, 1) := by decide +kernel
theorem d_TrustDesk_trustee_25 : decode kY_TrustDesk_trustee.2.1 25 = .ok (.ireturn, 1) := by decide +kernel
theorem c_TrustDesk_trustee_0 {g : mj_G} {l : Launch} {d nx : Nat} {M : mj_M} {x1 : Int32} {x2 : Int32} (h_64 : M 64 = some (.inr (12, [.ref 65, .ref 70, .ref 77, .ref 80, .ref 90, .ref 94, .ref 95, .ref 96, .ref 97, .ref 98, .int 0, .int 0, .int 0]))) (h_95 : M 95 = some (.inr (0, [.int 0, .ref 0, .int 0]))) : mj_Met g l kY_TrustDesk_trustee (d + 2) [.ref 64, .int x1, .int x2] M nx 0 0 (mj_E1 (some (.int 0)) M nx) := by
  refine mj_enter (by decide) (Nat.le_of_ble_eq_true rfl) ?_
  refine mv_aload_n d_TrustDesk_trustee_0 rfl rfl ?_
  refine mv_iload_n d_TrustDesk_trustee_1 rfl rfl ?_
  refine mv_callV_s (kc' := 0) (ks' := 0) [.int x1] [.int x1, .ref 64] d_TrustDesk_trustee_2 lV_TrustDesk_257 h_64 rfl (c_TrustDesk_fundAt_0 (d := d) (x1 := x1) (h_64 := h_64) (h_95 := h_95)) rfl (Nat.le_of_ble_eq_true rfl) (Nat.le_of_ble_eq_true rfl) (Nat.le_of_ble_eq_true rfl) rfl ?_
  refine mv_astore_nN (lv' := [(3, .null), (0, .ref 64), (1, .int x1), (2, .int x2)]) d_TrustDesk_trustee_5 rfl (by decide) rfl ?_
  refine mv_aload_nN d_TrustDesk_trustee_6 rfl rfl ?_
  refine mv_ifnullN (tgt := 24) d_TrustDesk_trustee_7 (by decide) ?_
  refine mv_iconst (v := 0) d_TrustDesk_trustee_24 (by decide) ?_
  exact mv_iret d_TrustDesk_trustee_25 rfl (by first | rfl | decide) ⟨rfl, rfl, rfl⟩
abbrev kY_TrustDesk_propose : mj_Y := (⟨"TrustDesk", "propose", "(III)I"⟩, prog_1_method_18_code, 5, (Option.some Jvm.ClassFile.FieldType.int))
theorem d_TrustDesk_propose_0 : decode kY_TrustDesk_propose.2.1 0 = .ok (.aload_n 0, 1) := by decide +kernel
theorem d_TrustDesk_propose_1 : decode kY_TrustDesk_propose.2.1 1 = .ok (.iload_n 2, 1) := by decide +kernel
theorem d_TrustDesk_propose_2 : decode kY_TrustDesk_propose.2.1 2 = .ok (.invokevirtual 257, 3) := by decide +kernel
theorem d_TrustDesk_propose_5 : decode kY_TrustDesk_propose.2.1 5 = .ok (.ifnull 24, 3) := by decide +kernel
theorem d_TrustDesk_propose_29 : decode kY_TrustDesk_propose.2.1 29 = .ok (.iconst (-1), 1) := by decide +kernel
theorem d_TrustDesk_propose_30 : decode kY_TrustDesk_propose.2.1 30 = .ok (.ireturn, 1) := by decide +kernel
theorem c_TrustDesk_propose_0 {g : mj_G} {l : Launch} {d nx : Nat} {M : mj_M} {x1 : Int32} {x2 : Int32} {x3 : Int32} (h_64 : M 64 = some (.inr (12, [.ref 65, .ref 70, .ref 77, .ref 80, .ref 90, .ref 94, .ref 95, .ref 96, .ref 97, .ref 98, .int 0, .int 0, .int 0]))) (h_95 : M 95 = some (.inr (0, [.int 0, .ref 0, .int 0]))) : mj_Met g l kY_TrustDesk_propose (d + 2) [.ref 64, .int x1, .int x2, .int x3] M nx 0 0 (mj_E1 (some (.int (-1))) M nx) := by
  refine mj_enter (by decide) (Nat.le_of_ble_eq_true rfl) ?_
  refine mv_aload_n d_TrustDesk_propose_0 rfl rfl ?_
  refine mv_iload_n d_TrustDesk_propose_1 rfl rfl ?_
  refine mv_callV_s (kc' := 0) (ks' := 0) [.int x2] [.int x2, .ref 64] d_TrustDesk_propose_2 lV_TrustDesk_257 h_64 rfl (c_TrustDesk_fundAt_0 (d := d) (x1 := x2) (h_64 := h_64) (h_95 := h_95)) rfl (Nat.le_of_ble_eq_true rfl) (Nat.le_of_ble_eq_true rfl) (Nat.le_of_ble_eq_true rfl) rfl ?_
  refine mv_ifnullN (tgt := 29) d_TrustDesk_propose_5 (by decide) ?_
  refine mv_iconst (v := (-1)) d_TrustDesk_propose_29 (by decide) ?_
  exact mv_iret d_TrustDesk_propose_30 rfl (by first | rfl | decide) ⟨rfl, rfl, rfl⟩
abbrev kY_TrustDesk_objects : mj_Y := (⟨"TrustDesk", "objects", "(II)Z"⟩, prog_1_method_20_code, 4, (Option.some Jvm.ClassFile.FieldType.boolean))
theorem d_TrustDesk_objects_0 : decode kY_TrustDesk_objects.2.1 0 = .ok (.aload_n 0, 1) := by decide +kernel
theorem d_TrustDesk_objects_1 : decode kY_TrustDesk_objects.2.1 1 = .ok (.iload_n 1, 1) := by decide +kernel
theorem d_TrustDesk_objects_2 : decode kY_TrustDesk_objects.2.1 2 = .ok (.invokevirtual 280, 3) := by decide +kernel
abbrev kY_TrustDesk_schemeAt : mj_Y := (⟨"TrustDesk", "schemeAt", "(I)LTrustDesk$Scheme;"⟩, prog_1_method_63_code, 2, (Option.some (Jvm.ClassFile.FieldType.object "TrustDesk$Scheme")))
theorem lV_TrustDesk_280 : mj_lV "TrustDesk" 280 kY_TrustDesk_schemeAt 1 := ⟨⟨(mj_in1 (List.mem_of_getElem? (i := 1017) (by decide +kernel)) rfl), (mj_in1 (List.mem_of_getElem? (i := 1) (by decide +kernel)) rfl), (mj_in1 (List.mem_of_getElem? (i := 1020) (by decide +kernel)) rfl), by decide, rfl, by decide⟩, (mj_in1 (List.mem_of_getElem? (i := 1019) (by decide +kernel)) rfl), (mj_in (List.mem_append_left _ (List.mem_of_getElem? (i := 52) (by decide +kernel))) rfl)⟩
theorem d_TrustDesk_schemeAt_0 : decode kY_TrustDesk_schemeAt.2.1 0 = .ok (.iload_n 1, 1) := by decide +kernel
theorem d_TrustDesk_schemeAt_1 : decode kY_TrustDesk_schemeAt.2.1 1 = .ok (.ifCond .lt 28, 3) := by decide +kernel
theorem d_TrustDesk_schemeAt_29 : decode kY_TrustDesk_schemeAt.2.1 29 = .ok (.aconst_null, 1) := by decide +kernel
theorem d_TrustDesk_schemeAt_30 : decode kY_TrustDesk_schemeAt.2.1 30 = .ok (.areturn, 1) := by decide +kernel
theorem d_TrustDesk_schemeAt_4 : decode kY_TrustDesk_schemeAt.2.1 4 = .ok (.iload_n 1, 1) := by decide +kernel
theorem d_TrustDesk_schemeAt_5 : decode kY_TrustDesk_schemeAt.2.1 5 = .ok (.aload_n 0, 1) := by decide +kernel
theorem d_TrustDesk_schemeAt_6 : decode kY_TrustDesk_schemeAt.2.1 6 = .ok (.getfield 59, 3) := by decide +kernel
theorem f_TrustDesk_59_12 : mj_fl "TrustDesk" 59 12 8 := ⟨kR_TrustDesk, kF_TrustDesk, 13, "TrustDesk", rfl, kg_12, by decide, (mj_in1 (List.mem_of_getElem? (i := 275) (by decide +kernel)) rfl), Or.inl rfl⟩
theorem d_TrustDesk_schemeAt_9 : decode kY_TrustDesk_schemeAt.2.1 9 = .ok (.invokevirtual 97, 3) := by decide +kernel
theorem c_ArrayList_size_3 {g : mj_G} {l : Launch} {d nx : Nat} {M : mj_M} (h_97 : M 97 = some (.inr (0, [.int 0, .ref 0, .int 0]))) : mj_Met g l kY_ArrayList_size d [.ref 97] M nx 0 0 (mj_E1 (some (.int 0)) M nx) := by
  refine mj_enter (by decide) (Nat.le_of_ble_eq_true rfl) ?_
  refine mv_aload_n d_ArrayList_size_0 rfl rfl ?_
  refine mv_get d_ArrayList_size_1 f_ArrayList_48_0 h_97 rfl ?_
  exact mv_iret d_ArrayList_size_4 rfl (by first | rfl | decide) ⟨rfl, rfl, rfl⟩
theorem d_TrustDesk_schemeAt_12 : decode kY_TrustDesk_schemeAt.2.1 12 = .ok (.if_icmp .ge 17, 3) := by decide +kernel
theorem c_TrustDesk_schemeAt_0 {g : mj_G} {l : Launch} {d nx : Nat} {M : mj_M} {x1 : Int32} (h_64 : M 64 = some (.inr (12, [.ref 65, .ref 70, .ref 77, .ref 80, .ref 90, .ref 94, .ref 95, .ref 96, .ref 97, .ref 98, .int 0, .int 0, .int 0]))) (h_97 : M 97 = some (.inr (0, [.int 0, .ref 0, .int 0]))) : mj_Met g l kY_TrustDesk_schemeAt (d + 1) [.ref 64, .int x1] M nx 0 0 (mj_E1 (some (.null)) M nx) := by
  refine mj_enter (by decide) (Nat.le_of_ble_eq_true rfl) ?_
  refine mv_iload_n d_TrustDesk_schemeAt_0 rfl rfl ?_
  refine mv_if_ltZ (tgt := 29) (a := x1.toInt) d_TrustDesk_schemeAt_1 (by decide) rfl (fun b1 => ?_) (fun b1 => ?_)
  · refine mv_null d_TrustDesk_schemeAt_29 ?_
    exact mv_aret (r := none) d_TrustDesk_schemeAt_30 rfl (by first | exact Or.inl ⟨_, rfl⟩ | exact Or.inr ⟨_, rfl⟩) ⟨rfl, rfl, rfl⟩
  · refine mv_iload_n d_TrustDesk_schemeAt_4 rfl rfl ?_
    refine mv_aload_n d_TrustDesk_schemeAt_5 rfl rfl ?_
    refine mv_get d_TrustDesk_schemeAt_6 f_TrustDesk_59_12 h_64 rfl ?_
    refine mv_callV_s (kc' := 0) (ks' := 0) [] [.ref 97, .int x1] d_TrustDesk_schemeAt_9 lV_TrustDesk_97 h_97 rfl (c_ArrayList_size_3 (d := d) (h_97 := h_97)) rfl (Nat.le_of_ble_eq_true rfl) (Nat.le_of_ble_eq_true rfl) (Nat.le_of_ble_eq_true rfl) rfl ?_
    refine mv_icmp_geZ (tgt := 29) (a := x1.toInt) (b := 0) d_TrustDesk_schemeAt_12 (by decide) rfl (by decide) (fun b2 => ?_) (fun b2 => absurd b2 (by omega))
    refine mv_null d_TrustDesk_schemeAt_29 ?_
    exact mv_aret (r := none) d_TrustDesk_schemeAt_30 rfl (by first | exact Or.inl ⟨_, rfl⟩ | exact Or.inr ⟨_, rfl⟩) ⟨rfl, rfl, rfl⟩
theorem d_TrustDesk_objects_5 : decode kY_TrustDesk_objects.2.1 5 = .ok (.astore_n 3, 1) := by decide +kernel
theorem d_TrustDesk_objects_6 : decode kY_TrustDesk_objects.2.1 6 = .ok (.aload_n 3, 1) := by decide +kernel
theorem d_TrustDesk_objects_7 : decode kY_TrustDesk_objects.2.1 7 = .ok (.ifnull 28, 3) := by decide +kernel
theorem d_TrustDesk_objects_35 : decode kY_TrustDesk_objects.2.1 35 = .ok (.iconst 0, 1) := by decide +kernel
theorem d_TrustDesk_objects_36 : decode kY_TrustDesk_objects.2.1 36 = .ok (.ireturn, 1) := by decide +kernel
theorem c_TrustDesk_objects_0 {g : mj_G} {l : Launch} {d nx : Nat} {M : mj_M} {x1 : Int32} {x2 : Int32} (h_64 : M 64 = some (.inr (12, [.ref 65, .ref 70, .ref 77, .ref 80, .ref 90, .ref 94, .ref 95, .ref 96, .ref 97, .ref 98, .int 0, .int 0, .int 0]))) (h_97 : M 97 = some (.inr (0, [.int 0, .ref 0, .int 0]))) : mj_Met g l kY_TrustDesk_objects (d + 2) [.ref 64, .int x1, .int x2] M nx 0 0 (mj_E1 (some (.int 0)) M nx) := by
  refine mj_enter (by decide) (Nat.le_of_ble_eq_true rfl) ?_
  refine mv_aload_n d_TrustDesk_objects_0 rfl rfl ?_
  refine mv_iload_n d_TrustDesk_objects_1 rfl rfl ?_
  refine mv_callV_s (kc' := 0) (ks' := 0) [.int x1] [.int x1, .ref 64] d_TrustDesk_objects_2 lV_TrustDesk_280 h_64 rfl (c_TrustDesk_schemeAt_0 (d := d) (x1 := x1) (h_64 := h_64) (h_97 := h_97)) rfl (Nat.le_of_ble_eq_true rfl) (Nat.le_of_ble_eq_true rfl) (Nat.le_of_ble_eq_true rfl) rfl ?_
  refine mv_astore_nN (lv' := [(3, .null), (0, .ref 64), (1, .int x1), (2, .int x2)]) d_TrustDesk_objects_5 rfl (by decide) rfl ?_
  refine mv_aload_nN d_TrustDesk_objects_6 rfl rfl ?_
  refine mv_ifnullN (tgt := 35) d_TrustDesk_objects_7 (by decide) ?_
  refine mv_iconst (v := 0) d_TrustDesk_objects_35 (by decide) ?_
  exact mv_iret d_TrustDesk_objects_36 rfl (by first | rfl | decide) ⟨rfl, rfl, rfl⟩
abbrev kY_TrustDesk_withdraws : mj_Y := (⟨"TrustDesk", "withdraws", "(II)Z"⟩, prog_1_method_21_code, 4, (Option.some Jvm.ClassFile.FieldType.boolean))
theorem d_TrustDesk_withdraws_0 : decode kY_TrustDesk_withdraws.2.1 0 = .ok (.aload_n 0, 1) := by decide +kernel
theorem d_TrustDesk_withdraws_1 : decode kY_TrustDesk_withdraws.2.1 1 = .ok (.iload_n 1, 1) := by decide +kernel
theorem d_TrustDesk_withdraws_2 : decode kY_TrustDesk_withdraws.2.1 2 = .ok (.invokevirtual 280, 3) := by decide +kernel
theorem d_TrustDesk_withdraws_5 : decode kY_TrustDesk_withdraws.2.1 5 = .ok (.astore_n 3, 1) := by decide +kernel
theorem d_TrustDesk_withdraws_6 : decode kY_TrustDesk_withdraws.2.1 6 = .ok (.aload_n 3, 1) := by decide +kernel
theorem d_TrustDesk_withdraws_7 : decode kY_TrustDesk_withdraws.2.1 7 = .ok (.ifnull 17, 3) := by decide +kernel
theorem d_TrustDesk_withdraws_24 : decode kY_TrustDesk_withdraws.2.1 24 = .ok (.iconst 0, 1) := by decide +kernel
theorem d_TrustDesk_withdraws_25 : decode kY_TrustDesk_withdraws.2.1 25 = .ok (.ireturn, 1) := by decide +kernel
theorem c_TrustDesk_withdraws_0 {g : mj_G} {l : Launch} {d nx : Nat} {M : mj_M} {x1 : Int32} {x2 : Int32} (h_64 : M 64 = some (.inr (12, [.ref 65, .ref 70, .ref 77, .ref 80, .ref 90, .ref 94, .ref 95, .ref 96, .ref 97, .ref 98, .int 0, .int 0, .int 0]))) (h_97 : M 97 = some (.inr (0, [.int 0, .ref 0, .int 0]))) : mj_Met g l kY_TrustDesk_withdraws (d + 2) [.ref 64, .int x1, .int x2] M nx 0 0 (mj_E1 (some (.int 0)) M nx) := by
  refine mj_enter (by decide) (Nat.le_of_ble_eq_true rfl) ?_
  refine mv_aload_n d_TrustDesk_withdraws_0 rfl rfl ?_
  refine mv_iload_n d_TrustDesk_withdraws_1 rfl rfl ?_
  refine mv_callV_s (kc' := 0) (ks' := 0) [.int x1] [.int x1, .ref 64] d_TrustDesk_withdraws_2 lV_TrustDesk_280 h_64 rfl (c_TrustDesk_schemeAt_0 (d := d) (x1 := x1) (h_64 := h_64) (h_97 := h_97)) rfl (Nat.le_of_ble_eq_true rfl) (Nat.le_of_ble_eq_true rfl) (Nat.le_of_ble_eq_true rfl) rfl ?_
  refine mv_astore_nN (lv' := [(3, .null), (0, .ref 64), (1, .int x1), (2, .int x2)]) d_TrustDesk_withdraws_5 rfl (by decide) rfl ?_
  refine mv_aload_nN d_TrustDesk_withdraws_6 rfl rfl ?_
  refine mv_ifnullN (tgt := 24) d_TrustDesk_withdraws_7 (by decide) ?_
  refine mv_iconst (v := 0) d_TrustDesk_withdraws_24 (by decide) ?_
  exact mv_iret d_TrustDesk_withdraws_25 rfl (by first | rfl | decide) ⟨rfl, rfl, rfl⟩
abbrev kY_TrustDesk_vote : mj_Y := (⟨"TrustDesk", "vote", "(IIZ)Z"⟩, prog_1_method_22_code, 5, (Option.some Jvm.ClassFile.FieldType.boolean))
theorem d_TrustDesk_vote_0 : decode kY_TrustDesk_vote.2.1 0 = .ok (.aload_n 0, 1) := by decide +kernel
theorem d_TrustDesk_vote_1 : decode kY_TrustDesk_vote.2.1 1 = .ok (.iload_n 1, 1) := by decide +kernel
theorem d_TrustDesk_vote_2 : decode kY_TrustDesk_vote.2.1 2 = .ok (.invokevirtual 280, 3) := by decide +kernel
theorem d_TrustDesk_vote_5 : decode kY_TrustDesk_vote.2.1 5 = .ok (.astore 4, 2) := by decide +kernel
theorem d_TrustDesk_vote_7 : decode kY_TrustDesk_vote.2.1 7 = .ok (.aload 4, 2) := by decide +kernel
theorem d_TrustDesk_vote_9 : decode kY_TrustDesk_vote.2.1 9 = .ok (.ifnull 28, 3) := by decide +kernel
theorem d_TrustDesk_vote_37 : decode kY_TrustDesk_vote.2.1 37 = .ok (.iconst 0, 1) := by decide +kernel
theorem d_TrustDesk_vote_38 : decode kY_TrustDesk_vote.2.1 38 = .ok (.ireturn, 1) := by decide +kernel
theorem c_TrustDesk_vote_0 {g : mj_G} {l : Launch} {d nx : Nat} {M : mj_M} {x1 : Int32} {x2 : Int32} {x3 : Int32} (h_64 : M 64 = some (.inr (12, [.ref 65, .ref 70, .ref 77, .ref 80, .ref 90, .ref 94, .ref 95, .ref 96, .ref 97, .ref 98, .int 0, .int 0, .int 0]))) (h_97 : M 97 = some (.inr (0, [.int 0, .ref 0, .int 0]))) : mj_Met g l kY_TrustDesk_vote (d + 2) [.ref 64, .int x1, .int x2, .int x3] M nx 0 0 (mj_E1 (some (.int 0)) M nx) := by
  refine mj_enter (by decide) (Nat.le_of_ble_eq_true rfl) ?_
  refine mv_aload_n d_TrustDesk_vote_0 rfl rfl ?_
  refine mv_iload_n d_TrustDesk_vote_1 rfl rfl ?_
  refine mv_callV_s (kc' := 0) (ks' := 0) [.int x1] [.int x1, .ref 64] d_TrustDesk_vote_2 lV_TrustDesk_280 h_64 rfl (c_TrustDesk_schemeAt_0 (d := d) (x1 := x1) (h_64 := h_64) (h_97 := h_97)) rfl (Nat.le_of_ble_eq_true rfl) (Nat.le_of_ble_eq_true rfl) (Nat.le_of_ble_eq_true rfl) rfl ?_
  refine mv_astoreN (lv' := [(4, .null), (0, .ref 64), (1, .int x1), (2, .int x2), (3, .int x3)]) d_TrustDesk_vote_5 (by decide) rfl ?_
  refine mv_aloadN d_TrustDesk_vote_7 rfl ?_
  refine mv_ifnullN (tgt := 37) d_TrustDesk_vote_9 (by decide) ?_
  refine mv_iconst (v := 0) d_TrustDesk_vote_37 (by decide) ?_
  exact mv_iret d_TrustDesk_vote_38 rfl (by first | rfl | decide) ⟨rfl, rfl, rfl⟩
abbrev kY_TrustDesk_settle : mj_Y := (⟨"TrustDesk", "settle", "(I)I"⟩, prog_1_method_24_code, 4, (Option.some Jvm.ClassFile.FieldType.int))
theorem d_TrustDesk_settle_0 : decode kY_TrustDesk_settle.2.1 0 = .ok (.aload_n 0, 1) := by decide +kernel
theorem d_TrustDesk_settle_1 : decode kY_TrustDesk_settle.2.1 1 = .ok (.iload_n 1, 1) := by decide +kernel
theorem d_TrustDesk_settle_2 : decode kY_TrustDesk_settle.2.1 2 = .ok (.invokevirtual 280, 3) := by decide +kernel
theorem d_TrustDesk_settle_5 : decode kY_TrustDesk_settle.2.1 5 = .ok (.astore_n 2, 1) := by decide +kernel
theorem d_TrustDesk_settle_6 : decode kY_TrustDesk_settle.2.1 6 = .ok (.aload_n 2, 1) := by decide +kernel
theorem d_TrustDesk_settle_7 : decode kY_TrustDesk_settle.2.1 7 = .ok (.ifnull 21, 3) := by decide +kernel
theorem d_TrustDesk_settle_28 : decode kY_TrustDesk_settle.2.1 28 = .ok (.iconst (-1), 1) := by decide +kernel
theorem d_TrustDesk_settle_29 : decode kY_TrustDesk_settle.2.1 29 = .ok (.ireturn, 1) := by decide +kernel
theorem c_TrustDesk_settle_0 {g : mj_G} {l : Launch} {d nx : Nat} {M : mj_M} {x1 : Int32} (h_64 : M 64 = some (.inr (12, [.ref 65, .ref 70, .ref 77, .ref 80, .ref 90, .ref 94, .ref 95, .ref 96, .ref 97, .ref 98, .int 0, .int 0, .int 0]))) (h_97 : M 97 = some (.inr (0, [.int 0, .ref 0, .int 0]))) : mj_Met g l kY_TrustDesk_settle (d + 2) [.ref 64, .int x1] M nx 0 0 (mj_E1 (some (.int (-1))) M nx) := by
  refine mj_enter (by decide) (Nat.le_of_ble_eq_true rfl) ?_
  refine mv_aload_n d_TrustDesk_settle_0 rfl rfl ?_
  refine mv_iload_n d_TrustDesk_settle_1 rfl rfl ?_
  refine mv_callV_s (kc' := 0) (ks' := 0) [.int x1] [.int x1, .ref 64] d_TrustDesk_settle_2 lV_TrustDesk_280 h_64 rfl (c_TrustDesk_schemeAt_0 (d := d) (x1 := x1) (h_64 := h_64) (h_97 := h_97)) rfl (Nat.le_of_ble_eq_true rfl) (Nat.le_of_ble_eq_true rfl) (Nat.le_of_ble_eq_true rfl) rfl ?_
  refine mv_astore_nN (lv' := [(2, .null), (0, .ref 64), (1, .int x1)]) d_TrustDesk_settle_5 rfl (by decide) rfl ?_
  refine mv_aload_nN d_TrustDesk_settle_6 rfl rfl ?_
  refine mv_ifnullN (tgt := 28) d_TrustDesk_settle_7 (by decide) ?_
  refine mv_iconst (v := (-1)) d_TrustDesk_settle_28 (by decide) ?_
  exact mv_iret d_TrustDesk_settle_29 rfl (by first | rfl | decide) ⟨rfl, rfl, rfl⟩
abbrev kY_TrustDesk_scheme : mj_Y := (⟨"TrustDesk", "scheme", "(II)I"⟩, prog_1_method_37_code, 4, (Option.some Jvm.ClassFile.FieldType.int))
theorem d_TrustDesk_scheme_0 : decode kY_TrustDesk_scheme.2.1 0 = .ok (.aload_n 0, 1) := by decide +kernel
theorem d_TrustDesk_scheme_1 : decode kY_TrustDesk_scheme.2.1 1 = .ok (.iload_n 1, 1) := by decide +kernel
theorem d_TrustDesk_scheme_2 : decode kY_TrustDesk_scheme.2.1 2 = .ok (.invokevirtual 280, 3) := by decide +kernel
theorem d_TrustDesk_scheme_5 : decode kY_TrustDesk_scheme.2.1 5 = .ok (.astore_n 3, 1) := by decide +kernel
theorem d_TrustDesk_scheme_6 : decode kY_TrustDesk_scheme.2.1 6 = .ok (.aload_n 3, 1) := by decide +kernel
theorem d_TrustDesk_scheme_7 : decode kY_TrustDesk_scheme.2.1 7 = .ok (.ifnonnull 5, 3) := by decide +kernel
theorem d_TrustDesk_scheme_10 : decode kY_TrustDesk_scheme.2.1 10 = .ok (.iconst (-1), 1) := by decide +kernel
theorem d_TrustDesk_scheme_11 : decode kY_TrustDesk_scheme.2.1 11 = .ok (.ireturn, 1) := by decide +kernel
theorem c_TrustDesk_scheme_0 {g : mj_G} {l : Launch} {d nx : Nat} {M : mj_M} {x1 : Int32} {x2 : Int32} (h_64 : M 64 = some (.inr (12, [.ref 65, .ref 70, .ref 77, .ref 80, .ref 90, .ref 94, .ref 95, .ref 96, .ref 97, .ref 98, .int 0, .int 0, .int 0]))) (h_97 : M 97 = some (.inr (0, [.int 0, .ref 0, .int 0]))) : mj_Met g l kY_TrustDesk_scheme (d + 2) [.ref 64, .int x1, .int x2] M nx 0 0 (mj_E1 (some (.int (-1))) M nx) := by
  refine mj_enter (by decide) (Nat.le_of_ble_eq_true rfl) ?_
  refine mv_aload_n d_TrustDesk_scheme_0 rfl rfl ?_
  refine mv_iload_n d_TrustDesk_scheme_1 rfl rfl ?_
  refine mv_callV_s (kc' := 0) (ks' := 0) [.int x1] [.int x1, .ref 64] d_TrustDesk_scheme_2 lV_TrustDesk_280 h_64 rfl (c_TrustDesk_schemeAt_0 (d := d) (x1 := x1) (h_64 := h_64) (h_97 := h_97)) rfl (Nat.le_of_ble_eq_true rfl) (Nat.le_of_ble_eq_true rfl) (Nat.le_of_ble_eq_true rfl) rfl ?_
  refine mv_astore_nN (lv' := [(3, .null), (0, .ref 64), (1, .int x1), (2, .int x2)]) d_TrustDesk_scheme_5 rfl (by decide) rfl ?_
  refine mv_aload_nN d_TrustDesk_scheme_6 rfl rfl ?_
  refine mv_ifnonnullN d_TrustDesk_scheme_7 ?_
  refine mv_iconst (v := (-1)) d_TrustDesk_scheme_10 (by decide) ?_
  exact mv_iret d_TrustDesk_scheme_11 rfl (by first | rfl | decide) ⟨rfl, rfl, rfl⟩
abbrev kY_TrustDesk_coin : mj_Y := (⟨"TrustDesk", "coin", "(I)J"⟩, prog_1_method_39_code, 3, (Option.some Jvm.ClassFile.FieldType.long))
theorem d_TrustDesk_coin_0 : decode kY_TrustDesk_coin.2.1 0 = .ok (.aload_n 0, 1) := by decide +kernel
theorem d_TrustDesk_coin_1 : decode kY_TrustDesk_coin.2.1 1 = .ok (.iload_n 1, 1) := by decide +kernel
theorem d_TrustDesk_coin_2 : decode kY_TrustDesk_coin.2.1 2 = .ok (.invokevirtual 257, 3) := by decide +kernel
theorem d_TrustDesk_coin_5 : decode kY_TrustDesk_coin.2.1 5 = .ok (.astore_n 2, 1) := by decide +kernel
theorem d_TrustDesk_coin_6 : decode kY_TrustDesk_coin.2.1 6 = .ok (.aload_n 2, 1) := by decide +kernel
theorem d_TrustDesk_coin_7 : decode kY_TrustDesk_coin.2.1 7 = .ok (.ifnonnull 9, 3) := by decide +kernel
theorem d_TrustDesk_coin_10 : decode kY_TrustDesk_coin.2.1 10 = .ok (.ldc2_w 463, 3) := by decide +kernel
theorem k_TrustDesk_463 : Cond.constantLong "TrustDesk" 463 (-1) ∈ mj_T := (mj_in1 (List.mem_of_getElem? (i := 1174) (by decide +kernel)) rfl)
theorem d_TrustDesk_coin_13 : decode kY_TrustDesk_coin.2.1 13 = .ok (.goto 7, 3) := by decide +kernel
theorem d_TrustDesk_coin_20 : decode kY_TrustDesk_coin.2.1 20 = .ok (.lreturn, 1) := by decide +kernel
theorem c_TrustDesk_coin_0 {g : mj_G} {l : Launch} {d nx : Nat} {M : mj_M} {x1 : Int32} (h_64 : M 64 = some (.inr (12, [.ref 65, .ref 70, .ref 77, .ref 80, .ref 90, .ref 94, .ref 95, .ref 96, .ref 97, .ref 98, .int 0, .int 0, .int 0]))) (h_95 : M 95 = some (.inr (0, [.int 0, .ref 0, .int 0]))) : mj_Met g l kY_TrustDesk_coin (d + 2) [.ref 64, .int x1] M nx 0 0 (mj_E1 (some (.long (-1))) M nx) := by
  refine mj_enter (by decide) (Nat.le_of_ble_eq_true rfl) ?_
  refine mv_aload_n d_TrustDesk_coin_0 rfl rfl ?_
  refine mv_iload_n d_TrustDesk_coin_1 rfl rfl ?_
  refine mv_callV_s (kc' := 0) (ks' := 0) [.int x1] [.int x1, .ref 64] d_TrustDesk_coin_2 lV_TrustDesk_257 h_64 rfl (c_TrustDesk_fundAt_0 (d := d) (x1 := x1) (h_64 := h_64) (h_95 := h_95)) rfl (Nat.le_of_ble_eq_true rfl) (Nat.le_of_ble_eq_true rfl) (Nat.le_of_ble_eq_true rfl) rfl ?_
  refine mv_astore_nN (lv' := [(2, .null), (0, .ref 64), (1, .int x1)]) d_TrustDesk_coin_5 rfl (by decide) rfl ?_
  refine mv_aload_nN d_TrustDesk_coin_6 rfl rfl ?_
  refine mv_ifnonnullN d_TrustDesk_coin_7 ?_
  refine mv_ldc2 d_TrustDesk_coin_10 k_TrustDesk_463 ?_
  refine mv_goto (tgt := 20) d_TrustDesk_coin_13 (by decide) ?_
  exact mv_lret d_TrustDesk_coin_20 rfl ⟨rfl, rfl, rfl⟩
abbrev kY_TrustDesk_income : mj_Y := (⟨"TrustDesk", "income", "(III)I"⟩, prog_1_method_40_code, 5, (Option.some Jvm.ClassFile.FieldType.int))
theorem d_TrustDesk_income_0 : decode kY_TrustDesk_income.2.1 0 = .ok (.aload_n 0, 1) := by decide +kernel
theorem d_TrustDesk_income_1 : decode kY_TrustDesk_income.2.1 1 = .ok (.iload_n 1, 1) := by decide +kernel
theorem d_TrustDesk_income_2 : decode kY_TrustDesk_income.2.1 2 = .ok (.invokevirtual 257, 3) := by decide +kernel
theorem d_TrustDesk_income_5 : decode kY_TrustDesk_income.2.1 5 = .ok (.astore 4, 2) := by decide +kernel
theorem d_TrustDesk_income_7 : decode kY_TrustDesk_income.2.1 7 = .ok (.aload 4, 2) := by decide +kernel
theorem d_TrustDesk_income_9 : decode kY_TrustDesk_income.2.1 9 = .ok (.ifnull 18, 3) := by decide +kernel
theorem d_TrustDesk_income_27 : decode kY_TrustDesk_income.2.1 27 = .ok (.iconst (-1), 1) := by decide +kernel
theorem d_TrustDesk_income_28 : decode kY_TrustDesk_income.2.1 28 = .ok (.ireturn, 1) := by decide +kernel
theorem c_TrustDesk_income_0 {g : mj_G} {l : Launch} {d nx : Nat} {M : mj_M} {x1 : Int32} {x2 : Int32} {x3 : Int32} (h_64 : M 64 = some (.inr (12, [.ref 65, .ref 70, .ref 77, .ref 80, .ref 90, .ref 94, .ref 95, .ref 96, .ref 97, .ref 98, .int 0, .int 0, .int 0]))) (h_95 : M 95 = some (.inr (0, [.int 0, .ref 0, .int 0]))) : mj_Met g l kY_TrustDesk_income (d + 2) [.ref 64, .int x1, .int x2, .int x3] M nx 0 0 (mj_E1 (some (.int (-1))) M nx) := by
  refine mj_enter (by decide) (Nat.le_of_ble_eq_true rfl) ?_
  refine mv_aload_n d_TrustDesk_income_0 rfl rfl ?_
  refine mv_iload_n d_TrustDesk_income_1 rfl rfl ?_
  refine mv_callV_s (kc' := 0) (ks' := 0) [.int x1] [.int x1, .ref 64] d_TrustDesk_income_2 lV_TrustDesk_257 h_64 rfl (c_TrustDesk_fundAt_0 (d := d) (x1 := x1) (h_64 := h_64) (h_95 := h_95)) rfl (Nat.le_of_ble_eq_true rfl) (Nat.le_of_ble_eq_true rfl) (Nat.le_of_ble_eq_true rfl) rfl ?_
  refine mv_astoreN (lv' := [(4, .null), (0, .ref 64), (1, .int x1), (2, .int x2), (3, .int x3)]) d_TrustDesk_income_5 (by decide) rfl ?_
  refine mv_aloadN d_TrustDesk_income_7 rfl ?_
  refine mv_ifnullN (tgt := 27) d_TrustDesk_income_9 (by decide) ?_
  refine mv_iconst (v := (-1)) d_TrustDesk_income_27 (by decide) ?_
  exact mv_iret d_TrustDesk_income_28 rfl (by first | rfl | decide) ⟨rfl, rfl, rfl⟩
abbrev kY_TrustDesk_part : mj_Y := (⟨"TrustDesk", "part", "(II)I"⟩, prog_1_method_41_code, 4, (Option.some Jvm.ClassFile.FieldType.int))
theorem d_TrustDesk_part_0 : decode kY_TrustDesk_part.2.1 0 = .ok (.aload_n 0, 1) := by decide +kernel
theorem d_TrustDesk_part_1 : decode kY_TrustDesk_part.2.1 1 = .ok (.iload_n 1, 1) := by decide +kernel
theorem d_TrustDesk_part_2 : decode kY_TrustDesk_part.2.1 2 = .ok (.invokevirtual 257, 3) := by decide +kernel
theorem d_TrustDesk_part_5 : decode kY_TrustDesk_part.2.1 5 = .ok (.astore_n 3, 1) := by decide +kernel
theorem d_TrustDesk_part_6 : decode kY_TrustDesk_part.2.1 6 = .ok (.aload_n 3, 1) := by decide +kernel
theorem d_TrustDesk_part_7 : decode kY_TrustDesk_part.2.1 7 = .ok (.ifnull 11, 3) := by decide +kernel
theorem d_TrustDesk_part_18 : decode kY_TrustDesk_part.2.1 18 = .ok (.iconst (-1), 1) := by decide +kernel
theorem d_TrustDesk_part_19 : decode kY_TrustDesk_part.2.1 19 = .ok (.goto 8, 3) := by decide +kernel
theorem d_TrustDesk_part_27 : decode kY_TrustDesk_part.2.1 27 = .ok (.ireturn, 1) := by decide +kernel
theorem c_TrustDesk_part_0 {g : mj_G} {l : Launch} {d nx : Nat} {M : mj_M} {x1 : Int32} {x2 : Int32} (h_64 : M 64 = some (.inr (12, [.ref 65, .ref 70, .ref 77, .ref 80, .ref 90, .ref 94, .ref 95, .ref 96, .ref 97, .ref 98, .int 0, .int 0, .int 0]))) (h_95 : M 95 = some (.inr (0, [.int 0, .ref 0, .int 0]))) : mj_Met g l kY_TrustDesk_part (d + 2) [.ref 64, .int x1, .int x2] M nx 0 0 (mj_E1 (some (.int (-1))) M nx) := by
  refine mj_enter (by decide) (Nat.le_of_ble_eq_true rfl) ?_
  refine mv_aload_n d_TrustDesk_part_0 rfl rfl ?_
  refine mv_iload_n d_TrustDesk_part_1 rfl rfl ?_
  refine mv_callV_s (kc' := 0) (ks' := 0) [.int x1] [.int x1, .ref 64] d_TrustDesk_part_2 lV_TrustDesk_257 h_64 rfl (c_TrustDesk_fundAt_0 (d := d) (x1 := x1) (h_64 := h_64) (h_95 := h_95)) rfl (Nat.le_of_ble_eq_true rfl) (Nat.le_of_ble_eq_true rfl) (Nat.le_of_ble_eq_true rfl) rfl ?_
  refine mv_astore_nN (lv' := [(3, .null), (0, .ref 64), (1, .int x1), (2, .int x2)]) d_TrustDesk_part_5 rfl (by decide) rfl ?_
  refine mv_aload_nN d_TrustDesk_part_6 rfl rfl ?_
  refine mv_ifnullN (tgt := 18) d_TrustDesk_part_7 (by decide) ?_
  refine mv_iconst (v := (-1)) d_TrustDesk_part_18 (by decide) ?_
  refine mv_goto (tgt := 27) d_TrustDesk_part_19 (by decide) ?_
  exact mv_iret d_TrustDesk_part_27 rfl (by first | rfl | decide) ⟨rfl, rfl, rfl⟩
abbrev kY_TrustDesk_paid : mj_Y := (⟨"TrustDesk", "paid", "(I)J"⟩, prog_1_method_42_code, 3, (Option.some Jvm.ClassFile.FieldType.long))
theorem d_TrustDesk_paid_0 : decode kY_TrustDesk_paid.2.1 0 = .ok (.aload_n 0, 1) := by decide +kernel
theorem d_TrustDesk_paid_1 : decode kY_TrustDesk_paid.2.1 1 = .ok (.iload_n 1, 1) := by decide +kernel
theorem d_TrustDesk_paid_2 : decode kY_TrustDesk_paid.2.1 2 = .ok (.invokevirtual 257, 3) := by decide +kernel
theorem d_TrustDesk_paid_5 : decode kY_TrustDesk_paid.2.1 5 = .ok (.astore_n 2, 1) := by decide +kernel
theorem d_TrustDesk_paid_6 : decode kY_TrustDesk_paid.2.1 6 = .ok (.aload_n 2, 1) := by decide +kernel
theorem d_TrustDesk_paid_7 : decode kY_TrustDesk_paid.2.1 7 = .ok (.ifnonnull 9, 3) := by decide +kernel
theorem d_TrustDesk_paid_10 : decode kY_TrustDesk_paid.2.1 10 = .ok (.ldc2_w 463, 3) := by decide +kernel
theorem d_TrustDesk_paid_13 : decode kY_TrustDesk_paid.2.1 13 = .ok (.goto 7, 3) := by decide +kernel
theorem d_TrustDesk_paid_20 : decode kY_TrustDesk_paid.2.1 20 = .ok (.lreturn, 1) := by decide +kernel
theorem c_TrustDesk_paid_0 {g : mj_G} {l : Launch} {d nx : Nat} {M : mj_M} {x1 : Int32} (h_64 : M 64 = some (.inr (12, [.ref 65, .ref 70, .ref 77, .ref 80, .ref 90, .ref 94, .ref 95, .ref 96, .ref 97, .ref 98, .int 0, .int 0, .int 0]))) (h_95 : M 95 = some (.inr (0, [.int 0, .ref 0, .int 0]))) : mj_Met g l kY_TrustDesk_paid (d + 2) [.ref 64, .int x1] M nx 0 0 (mj_E1 (some (.long (-1))) M nx) := by
  refine mj_enter (by decide) (Nat.le_of_ble_eq_true rfl) ?_
  refine mv_aload_n d_TrustDesk_paid_0 rfl rfl ?_
  refine mv_iload_n d_TrustDesk_paid_1 rfl rfl ?_
  refine mv_callV_s (kc' := 0) (ks' := 0) [.int x1] [.int x1, .ref 64] d_TrustDesk_paid_2 lV_TrustDesk_257 h_64 rfl (c_TrustDesk_fundAt_0 (d := d) (x1 := x1) (h_64 := h_64) (h_95 := h_95)) rfl (Nat.le_of_ble_eq_true rfl) (Nat.le_of_ble_eq_true rfl) (Nat.le_of_ble_eq_true rfl) rfl ?_
  refine mv_astore_nN (lv' := [(2, .null), (0, .ref 64), (1, .int x1)]) d_TrustDesk_paid_5 rfl (by decide) rfl ?_
  refine mv_aload_nN d_TrustDesk_paid_6 rfl rfl ?_
  refine mv_ifnonnullN d_TrustDesk_paid_7 ?_
  refine mv_ldc2 d_TrustDesk_paid_10 k_TrustDesk_463 ?_
  refine mv_goto (tgt := 20) d_TrustDesk_paid_13 (by decide) ?_
  exact mv_lret d_TrustDesk_paid_20 rfl ⟨rfl, rfl, rfl⟩
abbrev kY_TrustDesk_endOf : mj_Y := (⟨"TrustDesk", "endOf", "(III)I"⟩, prog_1_method_43_code, 5, (Option.some Jvm.ClassFile.FieldType.int))
theorem d_TrustDesk_endOf_0 : decode kY_TrustDesk_endOf.2.1 0 = .ok (.aload_n 0, 1) := by decide +kernel
theorem d_TrustDesk_endOf_1 : decode kY_TrustDesk_endOf.2.1 1 = .ok (.iload_n 1, 1) := by decide +kernel
theorem d_TrustDesk_endOf_2 : decode kY_TrustDesk_endOf.2.1 2 = .ok (.iload_n 2, 1) := by decide +kernel
theorem d_TrustDesk_endOf_3 : decode kY_TrustDesk_endOf.2.1 3 = .ok (.invokevirtual 465, 3) := by decide +kernel
abbrev kY_TrustDesk_endAt : mj_Y := (⟨"TrustDesk", "endAt", "(II)LTrustDesk$End;"⟩, prog_1_method_61_code, 4, (Option.some (Jvm.ClassFile.FieldType.object "TrustDesk$End")))
theorem lV_TrustDesk_465 : mj_lV "TrustDesk" 465 kY_TrustDesk_endAt 2 := ⟨⟨(mj_in1 (List.mem_of_getElem? (i := 1191) (by decide +kernel)) rfl), (mj_in1 (List.mem_of_getElem? (i := 1) (by decide +kernel)) rfl), (mj_in1 (List.mem_of_getElem? (i := 1194) (by decide +kernel)) rfl), by decide, rfl, by decide⟩, (mj_in1 (List.mem_of_getElem? (i := 1193) (by decide +kernel)) rfl), (mj_in (List.mem_append_left _ (List.mem_of_getElem? (i := 66) (by decide +kernel))) rfl)⟩
theorem d_TrustDesk_endAt_0 : decode kY_TrustDesk_endAt.2.1 0 = .ok (.aload_n 0, 1) := by decide +kernel
theorem d_TrustDesk_endAt_1 : decode kY_TrustDesk_endAt.2.1 1 = .ok (.iload_n 1, 1) := by decide +kernel
theorem d_TrustDesk_endAt_2 : decode kY_TrustDesk_endAt.2.1 2 = .ok (.invokevirtual 257, 3) := by decide +kernel
theorem d_TrustDesk_endAt_5 : decode kY_TrustDesk_endAt.2.1 5 = .ok (.astore_n 3, 1) := by decide +kernel
theorem d_TrustDesk_endAt_6 : decode kY_TrustDesk_endAt.2.1 6 = .ok (.aload_n 3, 1) := by decide +kernel
theorem d_TrustDesk_endAt_7 : decode kY_TrustDesk_endAt.2.1 7 = .ok (.ifnonnull 7, 3) := by decide +kernel
theorem d_TrustDesk_endAt_10 : decode kY_TrustDesk_endAt.2.1 10 = .ok (.aconst_null, 1) := by decide +kernel
theorem d_TrustDesk_endAt_11 : decode kY_TrustDesk_endAt.2.1 11 = .ok (.goto 8, 3) := by decide +kernel
theorem d_TrustDesk_endAt_19 : decode kY_TrustDesk_endAt.2.1 19 = .ok (.areturn, 1) := by decide +kernel
theorem c_TrustDesk_endAt_0 {g : mj_G} {l : Launch} {d nx : Nat} {M : mj_M} {x1 : Int32} {x2 : Int32} (h_64 : M 64 = some (.inr (12, [.ref 65, .ref 70, .ref 77, .ref 80, .ref 90, .ref 94, .ref 95, .ref 96, .ref 97, .ref 98, .int 0, .int 0, .int 0]))) (h_95 : M 95 = some (.inr (0, [.int 0, .ref 0, .int 0]))) : mj_Met g l kY_TrustDesk_endAt (d + 2) [.ref 64, .int x1, .int x2] M nx 0 0 (mj_E1 (some (.null)) M nx) := by
  refine mj_enter (by decide) (Nat.le_of_ble_eq_true rfl) ?_
  refine mv_aload_n d_TrustDesk_endAt_0 rfl rfl ?_
  refine mv_iload_n d_TrustDesk_endAt_1 rfl rfl ?_
  refine mv_callV_s (kc' := 0) (ks' := 0) [.int x1] [.int x1, .ref 64] d_TrustDesk_endAt_2 lV_TrustDesk_257 h_64 rfl (c_TrustDesk_fundAt_0 (d := d) (x1 := x1) (h_64 := h_64) (h_95 := h_95)) rfl (Nat.le_of_ble_eq_true rfl) (Nat.le_of_ble_eq_true rfl) (Nat.le_of_ble_eq_true rfl) rfl ?_
  refine mv_astore_nN (lv' := [(3, .null), (0, .ref 64), (1, .int x1), (2, .int x2)]) d_TrustDesk_endAt_5 rfl (by decide) rfl ?_
  refine mv_aload_nN d_TrustDesk_endAt_6 rfl rfl ?_
  refine mv_ifnonnullN d_TrustDesk_endAt_7 ?_
  refine mv_null d_TrustDesk_endAt_10 ?_
  refine mv_goto (tgt := 19) d_TrustDesk_endAt_11 (by decide) ?_
  exact mv_aret (r := none) d_TrustDesk_endAt_19 rfl (by first | exact Or.inl ⟨_, rfl⟩ | exact Or.inr ⟨_, rfl⟩) ⟨rfl, rfl, rfl⟩
theorem d_TrustDesk_endOf_6 : decode kY_TrustDesk_endOf.2.1 6 = .ok (.astore 4, 2) := by decide +kernel
theorem d_TrustDesk_endOf_8 : decode kY_TrustDesk_endOf.2.1 8 = .ok (.aload 4, 2) := by decide +kernel
theorem d_TrustDesk_endOf_10 : decode kY_TrustDesk_endOf.2.1 10 = .ok (.ifnonnull 5, 3) := by decide +kernel
theorem d_TrustDesk_endOf_13 : decode kY_TrustDesk_endOf.2.1 13 = .ok (.iconst (-1), 1) := by decide +kernel
theorem d_TrustDesk_endOf_14 : decode kY_TrustDesk_endOf.2.1 14 = .ok (.ireturn, 1) := by decide +kernel
theorem c_TrustDesk_endOf_0 {g : mj_G} {l : Launch} {d nx : Nat} {M : mj_M} {x1 : Int32} {x2 : Int32} {x3 : Int32} (h_64 : M 64 = some (.inr (12, [.ref 65, .ref 70, .ref 77, .ref 80, .ref 90, .ref 94, .ref 95, .ref 96, .ref 97, .ref 98, .int 0, .int 0, .int 0]))) (h_95 : M 95 = some (.inr (0, [.int 0, .ref 0, .int 0]))) : mj_Met g l kY_TrustDesk_endOf (d + 3) [.ref 64, .int x1, .int x2, .int x3] M nx 0 0 (mj_E1 (some (.int (-1))) M nx) := by
  refine mj_enter (by decide) (Nat.le_of_ble_eq_true rfl) ?_
  refine mv_aload_n d_TrustDesk_endOf_0 rfl rfl ?_
  refine mv_iload_n d_TrustDesk_endOf_1 rfl rfl ?_
  refine mv_iload_n d_TrustDesk_endOf_2 rfl rfl ?_
  refine mv_callV_s (kc' := 0) (ks' := 0) [.int x1, .int x2] [.int x2, .int x1, .ref 64] d_TrustDesk_endOf_3 lV_TrustDesk_465 h_64 rfl (c_TrustDesk_endAt_0 (d := d) (x1 := x1) (x2 := x2) (h_64 := h_64) (h_95 := h_95)) rfl (Nat.le_of_ble_eq_true rfl) (Nat.le_of_ble_eq_true rfl) (Nat.le_of_ble_eq_true rfl) rfl ?_
  refine mv_astoreN (lv' := [(4, .null), (0, .ref 64), (1, .int x1), (2, .int x2), (3, .int x3)]) d_TrustDesk_endOf_6 (by decide) rfl ?_
  refine mv_aloadN d_TrustDesk_endOf_8 rfl ?_
  refine mv_ifnonnullN d_TrustDesk_endOf_10 ?_
  refine mv_iconst (v := (-1)) d_TrustDesk_endOf_13 (by decide) ?_
  exact mv_iret d_TrustDesk_endOf_14 rfl (by first | rfl | decide) ⟨rfl, rfl, rfl⟩
abbrev kY_TrustDesk_due : mj_Y := (⟨"TrustDesk", "due", "(IIII)I"⟩, prog_1_method_44_code, 6, (Option.some Jvm.ClassFile.FieldType.int))
theorem d_TrustDesk_due_0 : decode kY_TrustDesk_due.2.1 0 = .ok (.aload_n 0, 1) := by decide +kernel
theorem d_TrustDesk_due_1 : decode kY_TrustDesk_due.2.1 1 = .ok (.iload_n 1, 1) := by decide +kernel
theorem d_TrustDesk_due_2 : decode kY_TrustDesk_due.2.1 2 = .ok (.iload_n 2, 1) := by decide +kernel
theorem d_TrustDesk_due_3 : decode kY_TrustDesk_due.2.1 3 = .ok (.invokevirtual 465, 3) := by decide +kernel
theorem d_TrustDesk_due_6 : decode kY_TrustDesk_due.2.1 6 = .ok (.astore 5, 2) := by decide +kernel
theorem d_TrustDesk_due_8 : decode kY_TrustDesk_due.2.1 8 = .ok (.aload 5, 2) := by decide +kernel
theorem d_TrustDesk_due_10 : decode kY_TrustDesk_due.2.1 10 = .ok (.ifnull 19, 3) := by decide +kernel
theorem d_TrustDesk_due_29 : decode kY_TrustDesk_due.2.1 29 = .ok (.iconst (-1), 1) := by decide +kernel
theorem d_TrustDesk_due_30 : decode kY_TrustDesk_due.2.1 30 = .ok (.ireturn, 1) := by decide +kernel
theorem c_TrustDesk_due_0 {g : mj_G} {l : Launch} {d nx : Nat} {M : mj_M} {x1 : Int32} {x2 : Int32} {x3 : Int32} {x4 : Int32} (h_64 : M 64 = some (.inr (12, [.ref 65, .ref 70, .ref 77, .ref 80, .ref 90, .ref 94, .ref 95, .ref 96, .ref 97, .ref 98, .int 0, .int 0, .int 0]))) (h_95 : M 95 = some (.inr (0, [.int 0, .ref 0, .int 0]))) : mj_Met g l kY_TrustDesk_due (d + 3) [.ref 64, .int x1, .int x2, .int x3, .int x4] M nx 0 0 (mj_E1 (some (.int (-1))) M nx) := by
  refine mj_enter (by decide) (Nat.le_of_ble_eq_true rfl) ?_
  refine mv_aload_n d_TrustDesk_due_0 rfl rfl ?_
  refine mv_iload_n d_TrustDesk_due_1 rfl rfl ?_
  refine mv_iload_n d_TrustDesk_due_2 rfl rfl ?_
  refine mv_callV_s (kc' := 0) (ks' := 0) [.int x1, .int x2] [.int x2, .int x1, .ref 64] d_TrustDesk_due_3 lV_TrustDesk_465 h_64 rfl (c_TrustDesk_endAt_0 (d := d) (x1 := x1) (x2 := x2) (h_64 := h_64) (h_95 := h_95)) rfl (Nat.le_of_ble_eq_true rfl) (Nat.le_of_ble_eq_true rfl) (Nat.le_of_ble_eq_true rfl) rfl ?_
  refine mv_astoreN (lv' := [(5, .null), (0, .ref 64), (1, .int x1), (2, .int x2), (3, .int x3), (4, .int x4)]) d_TrustDesk_due_6 (by decide) rfl ?_
  refine mv_aloadN d_TrustDesk_due_8 rfl ?_
  refine mv_ifnullN (tgt := 29) d_TrustDesk_due_10 (by decide) ?_
  refine mv_iconst (v := (-1)) d_TrustDesk_due_29 (by decide) ?_
  exact mv_iret d_TrustDesk_due_30 rfl (by first | rfl | decide) ⟨rfl, rfl, rfl⟩
abbrev kY_TrustDesk_why : mj_Y := (⟨"TrustDesk", "why", "(IIII)I"⟩, prog_1_method_45_code, 6, (Option.some Jvm.ClassFile.FieldType.int))
theorem d_TrustDesk_why_0 : decode kY_TrustDesk_why.2.1 0 = .ok (.aload_n 0, 1) := by decide +kernel
theorem d_TrustDesk_why_1 : decode kY_TrustDesk_why.2.1 1 = .ok (.iload_n 1, 1) := by decide +kernel
theorem d_TrustDesk_why_2 : decode kY_TrustDesk_why.2.1 2 = .ok (.iload_n 2, 1) := by decide +kernel
theorem d_TrustDesk_why_3 : decode kY_TrustDesk_why.2.1 3 = .ok (.invokevirtual 465, 3) := by decide +kernel
theorem d_TrustDesk_why_6 : decode kY_TrustDesk_why.2.1 6 = .ok (.astore 5, 2) := by decide +kernel
theorem d_TrustDesk_why_8 : decode kY_TrustDesk_why.2.1 8 = .ok (.aload 5, 2) := by decide +kernel
theorem d_TrustDesk_why_10 : decode kY_TrustDesk_why.2.1 10 = .ok (.ifnull 19, 3) := by decide +kernel
theorem d_TrustDesk_why_29 : decode kY_TrustDesk_why.2.1 29 = .ok (.iconst (-1), 1) := by decide +kernel
theorem d_TrustDesk_why_30 : decode kY_TrustDesk_why.2.1 30 = .ok (.ireturn, 1) := by decide +kernel
theorem c_TrustDesk_why_0 {g : mj_G} {l : Launch} {d nx : Nat} {M : mj_M} {x1 : Int32} {x2 : Int32} {x3 : Int32} {x4 : Int32} (h_64 : M 64 = some (.inr (12, [.ref 65, .ref 70, .ref 77, .ref 80, .ref 90, .ref 94, .ref 95, .ref 96, .ref 97, .ref 98, .int 0, .int 0, .int 0]))) (h_95 : M 95 = some (.inr (0, [.int 0, .ref 0, .int 0]))) : mj_Met g l kY_TrustDesk_why (d + 3) [.ref 64, .int x1, .int x2, .int x3, .int x4] M nx 0 0 (mj_E1 (some (.int (-1))) M nx) := by
  refine mj_enter (by decide) (Nat.le_of_ble_eq_true rfl) ?_
  refine mv_aload_n d_TrustDesk_why_0 rfl rfl ?_
  refine mv_iload_n d_TrustDesk_why_1 rfl rfl ?_
  refine mv_iload_n d_TrustDesk_why_2 rfl rfl ?_
  refine mv_callV_s (kc' := 0) (ks' := 0) [.int x1, .int x2] [.int x2, .int x1, .ref 64] d_TrustDesk_why_3 lV_TrustDesk_465 h_64 rfl (c_TrustDesk_endAt_0 (d := d) (x1 := x1) (x2 := x2) (h_64 := h_64) (h_95 := h_95)) rfl (Nat.le_of_ble_eq_true rfl) (Nat.le_of_ble_eq_true rfl) (Nat.le_of_ble_eq_true rfl) rfl ?_
  refine mv_astoreN (lv' := [(5, .null), (0, .ref 64), (1, .int x1), (2, .int x2), (3, .int x3), (4, .int x4)]) d_TrustDesk_why_6 (by decide) rfl ?_
  refine mv_aloadN d_TrustDesk_why_8 rfl ?_
  refine mv_ifnullN (tgt := 29) d_TrustDesk_why_10 (by decide) ?_
  refine mv_iconst (v := (-1)) d_TrustDesk_why_29 (by decide) ?_
  exact mv_iret d_TrustDesk_why_30 rfl (by first | rfl | decide) ⟨rfl, rfl, rfl⟩
abbrev kY_TrustDesk_entry : mj_Y := (⟨"TrustDesk", "entry", "(II)I"⟩, prog_1_method_46_code, 4, (Option.some Jvm.ClassFile.FieldType.int))
theorem d_TrustDesk_entry_0 : decode kY_TrustDesk_entry.2.1 0 = .ok (.iload_n 1, 1) := by decide +kernel
theorem d_TrustDesk_entry_1 : decode kY_TrustDesk_entry.2.1 1 = .ok (.ifCond .lt 20, 3) := by decide +kernel
theorem d_TrustDesk_entry_21 : decode kY_TrustDesk_entry.2.1 21 = .ok (.iconst (-1), 1) := by decide +kernel
theorem d_TrustDesk_entry_22 : decode kY_TrustDesk_entry.2.1 22 = .ok (.ireturn, 1) := by decide +kernel
theorem d_TrustDesk_entry_4 : decode kY_TrustDesk_entry.2.1 4 = .ok (.iload_n 1, 1) := by decide +kernel
theorem d_TrustDesk_entry_5 : decode kY_TrustDesk_entry.2.1 5 = .ok (.aload_n 0, 1) := by decide +kernel
theorem d_TrustDesk_entry_6 : decode kY_TrustDesk_entry.2.1 6 = .ok (.getfield 254, 3) := by decide +kernel
theorem f_TrustDesk_254_12 : mj_fl "TrustDesk" 254 12 10 := ⟨kR_TrustDesk, kF_TrustDesk, 13, "TrustDesk", rfl, kg_12, by decide, (mj_in1 (List.mem_of_getElem? (i := 277) (by decide +kernel)) rfl), Or.inl rfl⟩
theorem d_TrustDesk_entry_9 : decode kY_TrustDesk_entry.2.1 9 = .ok (.if_icmp .ge 12, 3) := by decide +kernel
theorem c_TrustDesk_entry_0 {g : mj_G} {l : Launch} {d nx : Nat} {M : mj_M} {x1 : Int32} {x2 : Int32} (h_64 : M 64 = some (.inr (12, [.ref 65, .ref 70, .ref 77, .ref 80, .ref 90, .ref 94, .ref 95, .ref 96, .ref 97, .ref 98, .int 0, .int 0, .int 0]))) : mj_Met g l kY_TrustDesk_entry d [.ref 64, .int x1, .int x2] M nx 0 0 (mj_E1 (some (.int (-1))) M nx) := by
  refine mj_enter (by decide) (Nat.le_of_ble_eq_true rfl) ?_
  refine mv_iload_n d_TrustDesk_entry_0 rfl rfl ?_
  refine mv_if_ltZ (tgt := 21) (a := x1.toInt) d_TrustDesk_entry_1 (by decide) rfl (fun b1 => ?_) (fun b1 => ?_)
  · refine mv_iconst (v := (-1)) d_TrustDesk_entry_21 (by decide) ?_
    exact mv_iret d_TrustDesk_entry_22 rfl (by first | rfl | decide) ⟨rfl, rfl, rfl⟩
  · refine mv_iload_n d_TrustDesk_entry_4 rfl rfl ?_
    refine mv_aload_n d_TrustDesk_entry_5 rfl rfl ?_
    refine mv_get d_TrustDesk_entry_6 f_TrustDesk_254_12 h_64 rfl ?_
    refine mv_icmp_geZ (tgt := 21) (a := x1.toInt) (b := 0) d_TrustDesk_entry_9 (by decide) rfl (by decide) (fun b2 => ?_) (fun b2 => absurd b2 (by omega))
    refine mv_iconst (v := (-1)) d_TrustDesk_entry_21 (by decide) ?_
    exact mv_iret d_TrustDesk_entry_22 rfl (by first | rfl | decide) ⟨rfl, rfl, rfl⟩
abbrev kY_TrustDesk_nearest : mj_Y := (⟨"TrustDesk", "nearest", "(I)I"⟩, prog_1_method_47_code, 7, (Option.some Jvm.ClassFile.FieldType.int))
theorem d_TrustDesk_nearest_0 : decode kY_TrustDesk_nearest.2.1 0 = .ok (.aload_n 0, 1) := by decide +kernel
theorem d_TrustDesk_nearest_1 : decode kY_TrustDesk_nearest.2.1 1 = .ok (.iload_n 1, 1) := by decide +kernel
theorem d_TrustDesk_nearest_2 : decode kY_TrustDesk_nearest.2.1 2 = .ok (.invokevirtual 257, 3) := by decide +kernel
theorem d_TrustDesk_nearest_5 : decode kY_TrustDesk_nearest.2.1 5 = .ok (.astore_n 2, 1) := by decide +kernel
theorem d_TrustDesk_nearest_6 : decode kY_TrustDesk_nearest.2.1 6 = .ok (.aload_n 2, 1) := by decide +kernel
theorem d_TrustDesk_nearest_7 : decode kY_TrustDesk_nearest.2.1 7 = .ok (.ifnull 10, 3) := by decide +kernel
theorem d_TrustDesk_nearest_17 : decode kY_TrustDesk_nearest.2.1 17 = .ok (.iconst (-1), 1) := by decide +kernel
theorem d_TrustDesk_nearest_18 : decode kY_TrustDesk_nearest.2.1 18 = .ok (.ireturn, 1) := by decide +kernel
theorem c_TrustDesk_nearest_0 {g : mj_G} {l : Launch} {d nx : Nat} {M : mj_M} {x1 : Int32} (h_64 : M 64 = some (.inr (12, [.ref 65, .ref 70, .ref 77, .ref 80, .ref 90, .ref 94, .ref 95, .ref 96, .ref 97, .ref 98, .int 0, .int 0, .int 0]))) (h_95 : M 95 = some (.inr (0, [.int 0, .ref 0, .int 0]))) : mj_Met g l kY_TrustDesk_nearest (d + 2) [.ref 64, .int x1] M nx 0 0 (mj_E1 (some (.int (-1))) M nx) := by
  refine mj_enter (by decide) (Nat.le_of_ble_eq_true rfl) ?_
  refine mv_aload_n d_TrustDesk_nearest_0 rfl rfl ?_
  refine mv_iload_n d_TrustDesk_nearest_1 rfl rfl ?_
  refine mv_callV_s (kc' := 0) (ks' := 0) [.int x1] [.int x1, .ref 64] d_TrustDesk_nearest_2 lV_TrustDesk_257 h_64 rfl (c_TrustDesk_fundAt_0 (d := d) (x1 := x1) (h_64 := h_64) (h_95 := h_95)) rfl (Nat.le_of_ble_eq_true rfl) (Nat.le_of_ble_eq_true rfl) (Nat.le_of_ble_eq_true rfl) rfl ?_
  refine mv_astore_nN (lv' := [(2, .null), (0, .ref 64), (1, .int x1)]) d_TrustDesk_nearest_5 rfl (by decide) rfl ?_
  refine mv_aload_nN d_TrustDesk_nearest_6 rfl rfl ?_
  refine mv_ifnullN (tgt := 17) d_TrustDesk_nearest_7 (by decide) ?_
  refine mv_iconst (v := (-1)) d_TrustDesk_nearest_17 (by decide) ?_
  exact mv_iret d_TrustDesk_nearest_18 rfl (by first | rfl | decide) ⟨rfl, rfl, rfl⟩
abbrev kY_TrustDesk_marks : mj_Y := (⟨"TrustDesk", "marks", "(III)I"⟩, prog_1_method_48_code, 6, (Option.some Jvm.ClassFile.FieldType.int))
theorem d_TrustDesk_marks_0 : decode kY_TrustDesk_marks.2.1 0 = .ok (.aload_n 0, 1) := by decide +kernel
theorem d_TrustDesk_marks_1 : decode kY_TrustDesk_marks.2.1 1 = .ok (.iload_n 1, 1) := by decide +kernel
theorem d_TrustDesk_marks_2 : decode kY_TrustDesk_marks.2.1 2 = .ok (.invokevirtual 257, 3) := by decide +kernel
theorem d_TrustDesk_marks_5 : decode kY_TrustDesk_marks.2.1 5 = .ok (.astore 4, 2) := by decide +kernel
theorem d_TrustDesk_marks_7 : decode kY_TrustDesk_marks.2.1 7 = .ok (.aload_n 0, 1) := by decide +kernel
theorem d_TrustDesk_marks_8 : decode kY_TrustDesk_marks.2.1 8 = .ok (.iload_n 2, 1) := by decide +kernel
theorem d_TrustDesk_marks_9 : decode kY_TrustDesk_marks.2.1 9 = .ok (.invokevirtual 276, 3) := by decide +kernel
abbrev kY_TrustDesk_nearAt : mj_Y := (⟨"TrustDesk", "nearAt", "(I)LTrustDesk$NearEnd;"⟩, prog_1_method_62_code, 2, (Option.some (Jvm.ClassFile.FieldType.object "TrustDesk$NearEnd")))
theorem lV_TrustDesk_276 : mj_lV "TrustDesk" 276 kY_TrustDesk_nearAt 1 := ⟨⟨(mj_in1 (List.mem_of_getElem? (i := 957) (by decide +kernel)) rfl), (mj_in1 (List.mem_of_getElem? (i := 1) (by decide +kernel)) rfl), (mj_in1 (List.mem_of_getElem? (i := 960) (by decide +kernel)) rfl), by decide, rfl, by decide⟩, (mj_in1 (List.mem_of_getElem? (i := 959) (by decide +kernel)) rfl), (mj_in (List.mem_append_left _ (List.mem_of_getElem? (i := 51) (by decide +kernel))) rfl)⟩
theorem d_TrustDesk_nearAt_0 : decode kY_TrustDesk_nearAt.2.1 0 = .ok (.iload_n 1, 1) := by decide +kernel
theorem d_TrustDesk_nearAt_1 : decode kY_TrustDesk_nearAt.2.1 1 = .ok (.ifCond .lt 28, 3) := by decide +kernel
theorem d_TrustDesk_nearAt_29 : decode kY_TrustDesk_nearAt.2.1 29 = .ok (.aconst_null, 1) := by decide +kernel
theorem d_TrustDesk_nearAt_30 : decode kY_TrustDesk_nearAt.2.1 30 = .ok (.areturn, 1) := by decide +kernel
theorem d_TrustDesk_nearAt_4 : decode kY_TrustDesk_nearAt.2.1 4 = .ok (.iload_n 1, 1) := by decide +kernel
theorem d_TrustDesk_nearAt_5 : decode kY_TrustDesk_nearAt.2.1 5 = .ok (.aload_n 0, 1) := by decide +kernel
theorem d_TrustDesk_nearAt_6 : decode kY_TrustDesk_nearAt.2.1 6 = .ok (.getfield 56, 3) := by decide +kernel
theorem d_TrustDesk_nearAt_9 : decode kY_TrustDesk_nearAt.2.1 9 = .ok (.invokevirtual 97, 3) := by decide +kernel
theorem d_TrustDesk_nearAt_12 : decode kY_TrustDesk_nearAt.2.1 12 = .ok (.if_icmp .ge 17, 3) := by decide +kernel
theorem c_TrustDesk_nearAt_0 {g : mj_G} {l : Launch} {d nx : Nat} {M : mj_M} {x1 : Int32} (h_64 : M 64 = some (.inr (12, [.ref 65, .ref 70, .ref 77, .ref 80, .ref 90, .ref 94, .ref 95, .ref 96, .ref 97, .ref 98, .int 0, .int 0, .int 0]))) (h_96 : M 96 = some (.inr (0, [.int 0, .ref 0, .int 0]))) : mj_Met g l kY_TrustDesk_nearAt (d + 1) [.ref 64, .int x1] M nx 0 0 (mj_E1 (some (.null)) M nx) := by
  refine mj_enter (by decide) (Nat.le_of_ble_eq_true rfl) ?_
  refine mv_iload_n d_TrustDesk_nearAt_0 rfl rfl ?_
  refine mv_if_ltZ (tgt := 29) (a := x1.toInt) d_TrustDesk_nearAt_1 (by decide) rfl (fun b1 => ?_) (fun b1 => ?_)
  · refine mv_null d_TrustDesk_nearAt_29 ?_
    exact mv_aret (r := none) d_TrustDesk_nearAt_30 rfl (by first | exact Or.inl ⟨_, rfl⟩ | exact Or.inr ⟨_, rfl⟩) ⟨rfl, rfl, rfl⟩
  · refine mv_iload_n d_TrustDesk_nearAt_4 rfl rfl ?_
    refine mv_aload_n d_TrustDesk_nearAt_5 rfl rfl ?_
    refine mv_get d_TrustDesk_nearAt_6 f_TrustDesk_56_12 h_64 rfl ?_
    refine mv_callV_s (kc' := 0) (ks' := 0) [] [.ref 96, .int x1] d_TrustDesk_nearAt_9 lV_TrustDesk_97 h_96 rfl (c_ArrayList_size_2 (d := d) (h_96 := h_96)) rfl (Nat.le_of_ble_eq_true rfl) (Nat.le_of_ble_eq_true rfl) (Nat.le_of_ble_eq_true rfl) rfl ?_
    refine mv_icmp_geZ (tgt := 29) (a := x1.toInt) (b := 0) d_TrustDesk_nearAt_12 (by decide) rfl (by decide) (fun b2 => ?_) (fun b2 => absurd b2 (by omega))
    refine mv_null d_TrustDesk_nearAt_29 ?_
    exact mv_aret (r := none) d_TrustDesk_nearAt_30 rfl (by first | exact Or.inl ⟨_, rfl⟩ | exact Or.inr ⟨_, rfl⟩) ⟨rfl, rfl, rfl⟩
theorem d_TrustDesk_marks_12 : decode kY_TrustDesk_marks.2.1 12 = .ok (.astore 5, 2) := by decide +kernel
theorem d_TrustDesk_marks_14 : decode kY_TrustDesk_marks.2.1 14 = .ok (.aload 4, 2) := by decide +kernel
theorem d_TrustDesk_marks_16 : decode kY_TrustDesk_marks.2.1 16 = .ok (.ifnull 17, 3) := by decide +kernel
theorem d_TrustDesk_marks_33 : decode kY_TrustDesk_marks.2.1 33 = .ok (.iconst (-1), 1) := by decide +kernel
theorem d_TrustDesk_marks_34 : decode kY_TrustDesk_marks.2.1 34 = .ok (.ireturn, 1) := by decide +kernel
theorem c_TrustDesk_marks_0 {g : mj_G} {l : Launch} {d nx : Nat} {M : mj_M} {x1 : Int32} {x2 : Int32} {x3 : Int32} (h_64 : M 64 = some (.inr (12, [.ref 65, .ref 70, .ref 77, .ref 80, .ref 90, .ref 94, .ref 95, .ref 96, .ref 97, .ref 98, .int 0, .int 0, .int 0]))) (h_95 : M 95 = some (.inr (0, [.int 0, .ref 0, .int 0]))) (h_96 : M 96 = some (.inr (0, [.int 0, .ref 0, .int 0]))) : mj_Met g l kY_TrustDesk_marks (d + 2) [.ref 64, .int x1, .int x2, .int x3] M nx 0 0 (mj_E1 (some (.int (-1))) M nx) := by
  refine mj_enter (by decide) (Nat.le_of_ble_eq_true rfl) ?_
  refine mv_aload_n d_TrustDesk_marks_0 rfl rfl ?_
  refine mv_iload_n d_TrustDesk_marks_1 rfl rfl ?_
  refine mv_callV_s (kc' := 0) (ks' := 0) [.int x1] [.int x1, .ref 64] d_TrustDesk_marks_2 lV_TrustDesk_257 h_64 rfl (c_TrustDesk_fundAt_0 (d := d) (x1 := x1) (h_64 := h_64) (h_95 := h_95)) rfl (Nat.le_of_ble_eq_true rfl) (Nat.le_of_ble_eq_true rfl) (Nat.le_of_ble_eq_true rfl) rfl ?_
  refine mv_astoreN (lv' := [(4, .null), (0, .ref 64), (1, .int x1), (2, .int x2), (3, .int x3)]) d_TrustDesk_marks_5 (by decide) rfl ?_
  refine mv_aload_n d_TrustDesk_marks_7 rfl rfl ?_
  refine mv_iload_n d_TrustDesk_marks_8 rfl rfl ?_
  refine mv_callV_s (kc' := 0) (ks' := 0) [.int x2] [.int x2, .ref 64] d_TrustDesk_marks_9 lV_TrustDesk_276 h_64 rfl (c_TrustDesk_nearAt_0 (d := d) (x1 := x2) (h_64 := h_64) (h_96 := h_96)) rfl (Nat.le_of_ble_eq_true rfl) (Nat.le_of_ble_eq_true rfl) (Nat.le_of_ble_eq_true rfl) rfl ?_
  refine mv_astoreN (lv' := [(5, .null), (4, .null), (0, .ref 64), (1, .int x1), (2, .int x2), (3, .int x3)]) d_TrustDesk_marks_12 (by decide) rfl ?_
  refine mv_aloadN d_TrustDesk_marks_14 rfl ?_
  refine mv_ifnullN (tgt := 33) d_TrustDesk_marks_16 (by decide) ?_
  refine mv_iconst (v := (-1)) d_TrustDesk_marks_33 (by decide) ?_
  exact mv_iret d_TrustDesk_marks_34 rfl (by first | rfl | decide) ⟨rfl, rfl, rfl⟩
abbrev kY_TrustDesk_group : mj_Y := (⟨"TrustDesk", "group", "(I)J"⟩, prog_1_method_49_code, 2, (Option.some Jvm.ClassFile.FieldType.long))
theorem d_TrustDesk_group_0 : decode kY_TrustDesk_group.2.1 0 = .ok (.aload_n 0, 1) := by decide +kernel
theorem d_TrustDesk_group_1 : decode kY_TrustDesk_group.2.1 1 = .ok (.iload_n 1, 1) := by decide +kernel
theorem d_TrustDesk_group_2 : decode kY_TrustDesk_group.2.1 2 = .ok (.invokevirtual 477, 3) := by decide +kernel
abbrev kY_TrustDesk_gather : mj_Y := (⟨"TrustDesk", "gather", "(I)Z"⟩, prog_1_method_53_code, 4, (Option.some Jvm.ClassFile.FieldType.boolean))
theorem lV_TrustDesk_477 : mj_lV "TrustDesk" 477 kY_TrustDesk_gather 1 := ⟨⟨(mj_in1 (List.mem_of_getElem? (i := 1219) (by decide +kernel)) rfl), (mj_in1 (List.mem_of_getElem? (i := 1) (by decide +kernel)) rfl), (mj_in1 (List.mem_of_getElem? (i := 1222) (by decide +kernel)) rfl), by decide, rfl, by decide⟩, (mj_in1 (List.mem_of_getElem? (i := 1221) (by decide +kernel)) rfl), (mj_in (List.mem_append_left _ (List.mem_of_getElem? (i := 67) (by decide +kernel))) rfl)⟩
theorem d_TrustDesk_gather_0 : decode kY_TrustDesk_gather.2.1 0 = .ok (.aload_n 0, 1) := by decide +kernel
theorem d_TrustDesk_gather_1 : decode kY_TrustDesk_gather.2.1 1 = .ok (.iload_n 1, 1) := by decide +kernel
theorem d_TrustDesk_gather_2 : decode kY_TrustDesk_gather.2.1 2 = .ok (.invokevirtual 496, 3) := by decide +kernel
abbrev kY_TrustDesk_canGather : mj_Y := (⟨"TrustDesk", "canGather", "(I)Z"⟩, prog_1_method_54_code, 4, (Option.some Jvm.ClassFile.FieldType.boolean))
theorem lV_TrustDesk_496 : mj_lV "TrustDesk" 496 kY_TrustDesk_canGather 1 := ⟨⟨(mj_in1 (List.mem_of_getElem? (i := 1223) (by decide +kernel)) rfl), (mj_in1 (List.mem_of_getElem? (i := 1) (by decide +kernel)) rfl), (mj_in1 (List.mem_of_getElem? (i := 1226) (by decide +kernel)) rfl), by decide, rfl, by decide⟩, (mj_in1 (List.mem_of_getElem? (i := 1225) (by decide +kernel)) rfl), (mj_in (List.mem_append_left _ (List.mem_of_getElem? (i := 68) (by decide +kernel))) rfl)⟩
theorem d_TrustDesk_canGather_0 : decode kY_TrustDesk_canGather.2.1 0 = .ok (.iload_n 1, 1) := by decide +kernel
theorem d_TrustDesk_canGather_1 : decode kY_TrustDesk_canGather.2.1 1 = .ok (.invokestatic 337, 3) := by decide +kernel
abbrev kY_Integer_bitCount : mj_Y := (⟨"java/lang/Integer", "bitCount", "(I)I"⟩, prog_20_method_49_code, 1, (Option.some Jvm.ClassFile.FieldType.int))
theorem lS_TrustDesk_337 : mj_lS "TrustDesk" 337 kY_Integer_bitCount 1 := ⟨⟨(mj_in1 (List.mem_of_getElem? (i := 1089) (by decide +kernel)) rfl), (mj_in1 (List.mem_of_getElem? (i := 26) (by decide +kernel)) rfl), (mj_in1 (List.mem_of_getElem? (i := 1091) (by decide +kernel)) rfl), by decide, rfl, by decide⟩, (mj_in1 (List.mem_of_getElem? (i := 1090) (by decide +kernel)) rfl)⟩
theorem d_Integer_bitCount_0 : decode kY_Integer_bitCount.2.1 0 = .ok (.iload_n 0, 1) := by decide +kernel
theorem d_Integer_bitCount_1 : decode kY_Integer_bitCount.2.1 1 = .ok (.iload_n 0, 1) := by decide +kernel
theorem d_Integer_bitCount_2 : decode kY_Integer_bitCount.2.1 2 = .ok (.iconst 1, 1) := by decide +kernel
theorem d_Integer_bitCount_3 : decode kY_Integer_bitCount.2.1 3 = .ok (.iushr, 1) := by decide +kernel
theorem d_Integer_bitCount_4 : decode kY_Integer_bitCount.2.1 4 = .ok (.ldc_w 265, 3) := by decide +kernel
theorem k_Integer_265 : Cond.constant "java/lang/Integer" 265 1431655765 ∈ mj_T := (mj_in1 (List.mem_of_getElem? (i := 1092) (by decide +kernel)) rfl)
theorem d_Integer_bitCount_7 : decode kY_Integer_bitCount.2.1 7 = .ok (.iand, 1) := by decide +kernel
theorem d_Integer_bitCount_8 : decode kY_Integer_bitCount.2.1 8 = .ok (.isub, 1) := by decide +kernel
theorem d_Integer_bitCount_9 : decode kY_Integer_bitCount.2.1 9 = .ok (.istore_n 0, 1) := by decide +kernel
theorem d_Integer_bitCount_10 : decode kY_Integer_bitCount.2.1 10 = .ok (.iload_n 0, 1) := by decide +kernel
theorem d_Integer_bitCount_11 : decode kY_Integer_bitCount.2.1 11 = .ok (.ldc_w 266, 3) := by decide +kernel
theorem k_Integer_266 : Cond.constant "java/lang/Integer" 266 858993459 ∈ mj_T := (mj_in1 (List.mem_of_getElem? (i := 1093) (by decide +kernel)) rfl)
theorem d_Integer_bitCount_14 : decode kY_Integer_bitCount.2.1 14 = .ok (.iand, 1) := by decide +kernel
theorem d_Integer_bitCount_15 : decode kY_Integer_bitCount.2.1 15 = .ok (.iload_n 0, 1) := by decide +kernel
theorem d_Integer_bitCount_16 : decode kY_Integer_bitCount.2.1 16 = .ok (.iconst 2, 1) := by decide +kernel
theorem d_Integer_bitCount_17 : decode kY_Integer_bitCount.2.1 17 = .ok (.iushr, 1) := by decide +kernel
theorem d_Integer_bitCount_18 : decode kY_Integer_bitCount.2.1 18 = .ok (.ldc_w 266, 3) := by decide +kernel
theorem d_Integer_bitCount_21 : decode kY_Integer_bitCount.2.1 21 = .ok (.iand, 1) := by decide +kernel
theorem d_Integer_bitCount_22 : decode kY_Integer_bitCount.2.1 22 = .ok (.iadd, 1) := by decide +kernel
theorem d_Integer_bitCount_23 : decode kY_Integer_bitCount.2.1 23 = .ok (.istore_n 0, 1) := by decide +kernel
theorem d_Integer_bitCount_24 : decode kY_Integer_bitCount.2.1 24 = .ok (.iload_n 0, 1) := by decide +kernel
theorem d_Integer_bitCount_25 : decode kY_Integer_bitCount.2.1 25 = .ok (.iload_n 0, 1) := by decide +kernel
theorem d_Integer_bitCount_26 : decode kY_Integer_bitCount.2.1 26 = .ok (.iconst 4, 1) := by decide +kernel
theorem d_Integer_bitCount_27 : decode kY_Integer_bitCount.2.1 27 = .ok (.iushr, 1) := by decide +kernel
theorem d_Integer_bitCount_28 : decode kY_Integer_bitCount.2.1 28 = .ok (.iadd, 1) := by decide +kernel
theorem d_Integer_bitCount_29 : decode kY_Integer_bitCount.2.1 29 = .ok (.ldc_w 267, 3) := by decide +kernel
theorem k_Integer_267 : Cond.constant "java/lang/Integer" 267 252645135 ∈ mj_T := (mj_in1 (List.mem_of_getElem? (i := 1094) (by decide +kernel)) rfl)
theorem d_Integer_bitCount_32 : decode kY_Integer_bitCount.2.1 32 = .ok (.iand, 1) := by decide +kernel
theorem d_Integer_bitCount_33 : decode kY_Integer_bitCount.2.1 33 = .ok (.istore_n 0, 1) := by decide +kernel
theorem d_Integer_bitCount_34 : decode kY_Integer_bitCount.2.1 34 = .ok (.iload_n 0, 1) := by decide +kernel
theorem d_Integer_bitCount_35 : decode kY_Integer_bitCount.2.1 35 = .ok (.iload_n 0, 1) := by decide +kernel
theorem d_Integer_bitCount_36 : decode kY_Integer_bitCount.2.1 36 = .ok (.bipush 8, 2) := by decide +kernel
theorem d_Integer_bitCount_38 : decode kY_Integer_bitCount.2.1 38 = .ok (.iushr, 1) := by decide +kernel
theorem d_Integer_bitCount_39 : decode kY_Integer_bitCount.2.1 39 = .ok (.iadd, 1) := by decide +kernel
theorem d_Integer_bitCount_40 : decode kY_Integer_bitCount.2.1 40 = .ok (.istore_n 0, 1) := by decide +kernel
theorem d_Integer_bitCount_41 : decode kY_Integer_bitCount.2.1 41 = .ok (.iload_n 0, 1) := by decide +kernel
theorem d_Integer_bitCount_42 : decode kY_Integer_bitCount.2.1 42 = .ok (.iload_n 0, 1) := by decide +kernel
theorem d_Integer_bitCount_43 : decode kY_Integer_bitCount.2.1 43 = .ok (.bipush 16, 2) := by decide +kernel
theorem d_Integer_bitCount_45 : decode kY_Integer_bitCount.2.1 45 = .ok (.iushr, 1) := by decide +kernel
theorem d_Integer_bitCount_46 : decode kY_Integer_bitCount.2.1 46 = .ok (.iadd, 1) := by decide +kernel
theorem d_Integer_bitCount_47 : decode kY_Integer_bitCount.2.1 47 = .ok (.istore_n 0, 1) := by decide +kernel
theorem d_Integer_bitCount_48 : decode kY_Integer_bitCount.2.1 48 = .ok (.iload_n 0, 1) := by decide +kernel
theorem d_Integer_bitCount_49 : decode kY_Integer_bitCount.2.1 49 = .ok (.bipush 63, 2) := by decide +kernel
theorem d_Integer_bitCount_51 : decode kY_Integer_bitCount.2.1 51 = .ok (.iand, 1) := by decide +kernel
theorem d_Integer_bitCount_52 : decode kY_Integer_bitCount.2.1 52 = .ok (.ireturn, 1) := by decide +kernel
theorem c_Integer_bitCount_0 {g : mj_G} {l : Launch} {d nx : Nat} {M : mj_M} {x0 : Int32} : mj_Met g l kY_Integer_bitCount d [.int x0] M nx 0 0 (mj_E1 (some (.int (mj_bc x0))) M nx) := by
  refine mj_enter (by decide) (Nat.le_of_ble_eq_true rfl) ?_
  refine mv_iload_n d_Integer_bitCount_0 rfl rfl ?_
  refine mv_iload_n d_Integer_bitCount_1 rfl rfl ?_
  refine mv_iconst (v := 1) d_Integer_bitCount_2 (by decide) ?_
  refine mv_iushr (v := (x0.toUInt32 >>> ((1 : Int32).toUInt32 &&& Int32.toUInt32 31)).toInt32) d_Integer_bitCount_3 rfl ?_
  refine mv_ldcw d_Integer_bitCount_4 k_Integer_265 ?_
  refine mv_iand d_Integer_bitCount_7 ?_
  refine mv_isub d_Integer_bitCount_8 ?_
  refine mv_istore_n (lv' := [(0, .int (x0 - (((x0.toUInt32 >>> ((1 : Int32).toUInt32 &&& Int32.toUInt32 31)).toInt32) &&& 1431655765)))]) d_Integer_bitCount_9 rfl (by decide) rfl ?_
  refine mv_iload_n d_Integer_bitCount_10 rfl rfl ?_
  refine mv_ldcw d_Integer_bitCount_11 k_Integer_266 ?_
  refine mv_iand d_Integer_bitCount_14 ?_
  refine mv_iload_n d_Integer_bitCount_15 rfl rfl ?_
  refine mv_iconst (v := 2) d_Integer_bitCount_16 (by decide) ?_
  refine mv_iushr (v := ((x0 - (((x0.toUInt32 >>> ((1 : Int32).toUInt32 &&& Int32.toUInt32 31)).toInt32) &&& 1431655765)).toUInt32 >>> ((2 : Int32).toUInt32 &&& Int32.toUInt32 31)).toInt32) d_Integer_bitCount_17 rfl ?_
  refine mv_ldcw d_Integer_bitCount_18 k_Integer_266 ?_
  refine mv_iand d_Integer_bitCount_21 ?_
  refine mv_iadd d_Integer_bitCount_22 ?_
  refine mv_istore_n (lv' := [(0, .int (((x0 - (((x0.toUInt32 >>> ((1 : Int32).toUInt32 &&& Int32.toUInt32 31)).toInt32) &&& 1431655765)) &&& 858993459) + ((((x0 - (((x0.toUInt32 >>> ((1 : Int32).toUInt32 &&& Int32.toUInt32 31)).toInt32) &&& 1431655765)).toUInt32 >>> ((2 : Int32).toUInt32 &&& Int32.toUInt32 31)).toInt32) &&& 858993459)))]) d_Integer_bitCount_23 rfl (by decide) rfl ?_
  refine mv_iload_n d_Integer_bitCount_24 rfl rfl ?_
  refine mv_iload_n d_Integer_bitCount_25 rfl rfl ?_
  refine mv_iconst (v := 4) d_Integer_bitCount_26 (by decide) ?_
  refine mv_iushr (v := ((((x0 - (((x0.toUInt32 >>> ((1 : Int32).toUInt32 &&& Int32.toUInt32 31)).toInt32) &&& 1431655765)) &&& 858993459) + ((((x0 - (((x0.toUInt32 >>> ((1 : Int32).toUInt32 &&& Int32.toUInt32 31)).toInt32) &&& 1431655765)).toUInt32 >>> ((2 : Int32).toUInt32 &&& Int32.toUInt32 31)).toInt32) &&& 858993459)).toUInt32 >>> ((4 : Int32).toUInt32 &&& Int32.toUInt32 31)).toInt32) d_Integer_bitCount_27 rfl ?_
  refine mv_iadd d_Integer_bitCount_28 ?_
  refine mv_ldcw d_Integer_bitCount_29 k_Integer_267 ?_
  refine mv_iand d_Integer_bitCount_32 ?_
  refine mv_istore_n (lv' := [(0, .int (((((x0 - (((x0.toUInt32 >>> ((1 : Int32).toUInt32 &&& Int32.toUInt32 31)).toInt32) &&& 1431655765)) &&& 858993459) + ((((x0 - (((x0.toUInt32 >>> ((1 : Int32).toUInt32 &&& Int32.toUInt32 31)).toInt32) &&& 1431655765)).toUInt32 >>> ((2 : Int32).toUInt32 &&& Int32.toUInt32 31)).toInt32) &&& 858993459)) + (((((x0 - (((x0.toUInt32 >>> ((1 : Int32).toUInt32 &&& Int32.toUInt32 31)).toInt32) &&& 1431655765)) &&& 858993459) + ((((x0 - (((x0.toUInt32 >>> ((1 : Int32).toUInt32 &&& Int32.toUInt32 31)).toInt32) &&& 1431655765)).toUInt32 >>> ((2 : Int32).toUInt32 &&& Int32.toUInt32 31)).toInt32) &&& 858993459)).toUInt32 >>> ((4 : Int32).toUInt32 &&& Int32.toUInt32 31)).toInt32)) &&& 252645135))]) d_Integer_bitCount_33 rfl (by decide) rfl ?_
  refine mv_iload_n d_Integer_bitCount_34 rfl rfl ?_
  refine mv_iload_n d_Integer_bitCount_35 rfl rfl ?_
  refine mv_bipush (v := 8) d_Integer_bitCount_36 (by decide) ?_
  refine mv_iushr (v := ((((((x0 - (((x0.toUInt32 >>> ((1 : Int32).toUInt32 &&& Int32.toUInt32 31)).toInt32) &&& 1431655765)) &&& 858993459) + ((((x0 - (((x0.toUInt32 >>> ((1 : Int32).toUInt32 &&& Int32.toUInt32 31)).toInt32) &&& 1431655765)).toUInt32 >>> ((2 : Int32).toUInt32 &&& Int32.toUInt32 31)).toInt32) &&& 858993459)) + (((((x0 - (((x0.toUInt32 >>> ((1 : Int32).toUInt32 &&& Int32.toUInt32 31)).toInt32) &&& 1431655765)) &&& 858993459) + ((((x0 - (((x0.toUInt32 >>> ((1 : Int32).toUInt32 &&& Int32.toUInt32 31)).toInt32) &&& 1431655765)).toUInt32 >>> ((2 : Int32).toUInt32 &&& Int32.toUInt32 31)).toInt32) &&& 858993459)).toUInt32 >>> ((4 : Int32).toUInt32 &&& Int32.toUInt32 31)).toInt32)) &&& 252645135).toUInt32 >>> ((8 : Int32).toUInt32 &&& Int32.toUInt32 31)).toInt32) d_Integer_bitCount_38 rfl ?_
  refine mv_iadd d_Integer_bitCount_39 ?_
  refine mv_istore_n (lv' := [(0, .int ((((((x0 - (((x0.toUInt32 >>> ((1 : Int32).toUInt32 &&& Int32.toUInt32 31)).toInt32) &&& 1431655765)) &&& 858993459) + ((((x0 - (((x0.toUInt32 >>> ((1 : Int32).toUInt32 &&& Int32.toUInt32 31)).toInt32) &&& 1431655765)).toUInt32 >>> ((2 : Int32).toUInt32 &&& Int32.toUInt32 31)).toInt32) &&& 858993459)) + (((((x0 - (((x0.toUInt32 >>> ((1 : Int32).toUInt32 &&& Int32.toUInt32 31)).toInt32) &&& 1431655765)) &&& 858993459) + ((((x0 - (((x0.toUInt32 >>> ((1 : Int32).toUInt32 &&& Int32.toUInt32 31)).toInt32) &&& 1431655765)).toUInt32 >>> ((2 : Int32).toUInt32 &&& Int32.toUInt32 31)).toInt32) &&& 858993459)).toUInt32 >>> ((4 : Int32).toUInt32 &&& Int32.toUInt32 31)).toInt32)) &&& 252645135) + (((((((x0 - (((x0.toUInt32 >>> ((1 : Int32).toUInt32 &&& Int32.toUInt32 31)).toInt32) &&& 1431655765)) &&& 858993459) + ((((x0 - (((x0.toUInt32 >>> ((1 : Int32).toUInt32 &&& Int32.toUInt32 31)).toInt32) &&& 1431655765)).toUInt32 >>> ((2 : Int32).toUInt32 &&& Int32.toUInt32 31)).toInt32) &&& 858993459)) + (((((x0 - (((x0.toUInt32 >>> ((1 : Int32).toUInt32 &&& Int32.toUInt32 31)).toInt32) &&& 1431655765)) &&& 858993459) + ((((x0 - (((x0.toUInt32 >>> ((1 : Int32).toUInt32 &&& Int32.toUInt32 31)).toInt32) &&& 1431655765)).toUInt32 >>> ((2 : Int32).toUInt32 &&& Int32.toUInt32 31)).toInt32) &&& 858993459)).toUInt32 >>> ((4 : Int32).toUInt32 &&& Int32.toUInt32 31)).toInt32)) &&& 252645135).toUInt32 >>> ((8 : Int32).toUInt32 &&& Int32.toUInt32 31)).toInt32)))]) d_Integer_bitCount_40 rfl (by decide) rfl ?_
  refine mv_iload_n d_Integer_bitCount_41 rfl rfl ?_
  refine mv_iload_n d_Integer_bitCount_42 rfl rfl ?_
  refine mv_bipush (v := 16) d_Integer_bitCount_43 (by decide) ?_
  refine mv_iushr (v := (((((((x0 - (((x0.toUInt32 >>> ((1 : Int32).toUInt32 &&& Int32.toUInt32 31)).toInt32) &&& 1431655765)) &&& 858993459) + ((((x0 - (((x0.toUInt32 >>> ((1 : Int32).toUInt32 &&& Int32.toUInt32 31)).toInt32) &&& 1431655765)).toUInt32 >>> ((2 : Int32).toUInt32 &&& Int32.toUInt32 31)).toInt32) &&& 858993459)) + (((((x0 - (((x0.toUInt32 >>> ((1 : Int32).toUInt32 &&& Int32.toUInt32 31)).toInt32) &&& 1431655765)) &&& 858993459) + ((((x0 - (((x0.toUInt32 >>> ((1 : Int32).toUInt32 &&& Int32.toUInt32 31)).toInt32) &&& 1431655765)).toUInt32 >>> ((2 : Int32).toUInt32 &&& Int32.toUInt32 31)).toInt32) &&& 858993459)).toUInt32 >>> ((4 : Int32).toUInt32 &&& Int32.toUInt32 31)).toInt32)) &&& 252645135) + (((((((x0 - (((x0.toUInt32 >>> ((1 : Int32).toUInt32 &&& Int32.toUInt32 31)).toInt32) &&& 1431655765)) &&& 858993459) + ((((x0 - (((x0.toUInt32 >>> ((1 : Int32).toUInt32 &&& Int32.toUInt32 31)).toInt32) &&& 1431655765)).toUInt32 >>> ((2 : Int32).toUInt32 &&& Int32.toUInt32 31)).toInt32) &&& 858993459)) + (((((x0 - (((x0.toUInt32 >>> ((1 : Int32).toUInt32 &&& Int32.toUInt32 31)).toInt32) &&& 1431655765)) &&& 858993459) + ((((x0 - (((x0.toUInt32 >>> ((1 : Int32).toUInt32 &&& Int32.toUInt32 31)).toInt32) &&& 1431655765)).toUInt32 >>> ((2 : Int32).toUInt32 &&& Int32.toUInt32 31)).toInt32) &&& 858993459)).toUInt32 >>> ((4 : Int32).toUInt32 &&& Int32.toUInt32 31)).toInt32)) &&& 252645135).toUInt32 >>> ((8 : Int32).toUInt32 &&& Int32.toUInt32 31)).toInt32)).toUInt32 >>> ((16 : Int32).toUInt32 &&& Int32.toUInt32 31)).toInt32) d_Integer_bitCount_45 rfl ?_
  refine mv_iadd d_Integer_bitCount_46 ?_
  refine mv_istore_n (lv' := [(0, .int (((((((x0 - (((x0.toUInt32 >>> ((1 : Int32).toUInt32 &&& Int32.toUInt32 31)).toInt32) &&& 1431655765)) &&& 858993459) + ((((x0 - (((x0.toUInt32 >>> ((1 : Int32).toUInt32 &&& Int32.toUInt32 31)).toInt32) &&& 1431655765)).toUInt32 >>> ((2 : Int32).toUInt32 &&& Int32.toUInt32 31)).toInt32) &&& 858993459)) + (((((x0 - (((x0.toUInt32 >>> ((1 : Int32).toUInt32 &&& Int32.toUInt32 31)).toInt32) &&& 1431655765)) &&& 858993459) + ((((x0 - (((x0.toUInt32 >>> ((1 : Int32).toUInt32 &&& Int32.toUInt32 31)).toInt32) &&& 1431655765)).toUInt32 >>> ((2 : Int32).toUInt32 &&& Int32.toUInt32 31)).toInt32) &&& 858993459)).toUInt32 >>> ((4 : Int32).toUInt32 &&& Int32.toUInt32 31)).toInt32)) &&& 252645135) + (((((((x0 - (((x0.toUInt32 >>> ((1 : Int32).toUInt32 &&& Int32.toUInt32 31)).toInt32) &&& 1431655765)) &&& 858993459) + ((((x0 - (((x0.toUInt32 >>> ((1 : Int32).toUInt32 &&& Int32.toUInt32 31)).toInt32) &&& 1431655765)).toUInt32 >>> ((2 : Int32).toUInt32 &&& Int32.toUInt32 31)).toInt32) &&& 858993459)) + (((((x0 - (((x0.toUInt32 >>> ((1 : Int32).toUInt32 &&& Int32.toUInt32 31)).toInt32) &&& 1431655765)) &&& 858993459) + ((((x0 - (((x0.toUInt32 >>> ((1 : Int32).toUInt32 &&& Int32.toUInt32 31)).toInt32) &&& 1431655765)).toUInt32 >>> ((2 : Int32).toUInt32 &&& Int32.toUInt32 31)).toInt32) &&& 858993459)).toUInt32 >>> ((4 : Int32).toUInt32 &&& Int32.toUInt32 31)).toInt32)) &&& 252645135).toUInt32 >>> ((8 : Int32).toUInt32 &&& Int32.toUInt32 31)).toInt32)) + ((((((((x0 - (((x0.toUInt32 >>> ((1 : Int32).toUInt32 &&& Int32.toUInt32 31)).toInt32) &&& 1431655765)) &&& 858993459) + ((((x0 - (((x0.toUInt32 >>> ((1 : Int32).toUInt32 &&& Int32.toUInt32 31)).toInt32) &&& 1431655765)).toUInt32 >>> ((2 : Int32).toUInt32 &&& Int32.toUInt32 31)).toInt32) &&& 858993459)) + (((((x0 - (((x0.toUInt32 >>> ((1 : Int32).toUInt32 &&& Int32.toUInt32 31)).toInt32) &&& 1431655765)) &&& 858993459) + ((((x0 - (((x0.toUInt32 >>> ((1 : Int32).toUInt32 &&& Int32.toUInt32 31)).toInt32) &&& 1431655765)).toUInt32 >>> ((2 : Int32).toUInt32 &&& Int32.toUInt32 31)).toInt32) &&& 858993459)).toUInt32 >>> ((4 : Int32).toUInt32 &&& Int32.toUInt32 31)).toInt32)) &&& 252645135) + (((((((x0 - (((x0.toUInt32 >>> ((1 : Int32).toUInt32 &&& Int32.toUInt32 31)).toInt32) &&& 1431655765)) &&& 858993459) + ((((x0 - (((x0.toUInt32 >>> ((1 : Int32).toUInt32 &&& Int32.toUInt32 31)).toInt32) &&& 1431655765)).toUInt32 >>> ((2 : Int32).toUInt32 &&& Int32.toUInt32 31)).toInt32) &&& 858993459)) + (((((x0 - (((x0.toUInt32 >>> ((1 : Int32).toUInt32 &&& Int32.toUInt32 31)).toInt32) &&& 1431655765)) &&& 858993459) + ((((x0 - (((x0.toUInt32 >>> ((1 : Int32).toUInt32 &&& Int32.toUInt32 31)).toInt32) &&& 1431655765)).toUInt32 >>> ((2 : Int32).toUInt32 &&& Int32.toUInt32 31)).toInt32) &&& 858993459)).toUInt32 >>> ((4 : Int32).toUInt32 &&& Int32.toUInt32 31)).toInt32)) &&& 252645135).toUInt32 >>> ((8 : Int32).toUInt32 &&& Int32.toUInt32 31)).toInt32)).toUInt32 >>> ((16 : Int32).toUInt32 &&& Int32.toUInt32 31)).toInt32)))]) d_Integer_bitCount_47 rfl (by decide) rfl ?_
  refine mv_iload_n d_Integer_bitCount_48 rfl rfl ?_
  refine mv_bipush (v := 63) d_Integer_bitCount_49 (by decide) ?_
  refine mv_iand d_Integer_bitCount_51 ?_
  exact mv_iret d_Integer_bitCount_52 rfl (by first | rfl | decide) ⟨rfl, rfl, rfl⟩
theorem d_TrustDesk_canGather_4 : decode kY_TrustDesk_canGather.2.1 4 = .ok (.istore_n 2, 1) := by decide +kernel
theorem d_TrustDesk_canGather_5 : decode kY_TrustDesk_canGather.2.1 5 = .ok (.iload_n 2, 1) := by decide +kernel
theorem d_TrustDesk_canGather_6 : decode kY_TrustDesk_canGather.2.1 6 = .ok (.iconst 1, 1) := by decide +kernel
theorem d_TrustDesk_canGather_7 : decode kY_TrustDesk_canGather.2.1 7 = .ok (.if_icmp .lt 21, 3) := by decide +kernel
theorem d_TrustDesk_canGather_28 : decode kY_TrustDesk_canGather.2.1 28 = .ok (.iconst 0, 1) := by decide +kernel
theorem d_TrustDesk_canGather_29 : decode kY_TrustDesk_canGather.2.1 29 = .ok (.ireturn, 1) := by decide +kernel
theorem d_TrustDesk_canGather_10 : decode kY_TrustDesk_canGather.2.1 10 = .ok (.iload_n 2, 1) := by decide +kernel
theorem d_TrustDesk_canGather_11 : decode kY_TrustDesk_canGather.2.1 11 = .ok (.bipush 8, 2) := by decide +kernel
theorem d_TrustDesk_canGather_13 : decode kY_TrustDesk_canGather.2.1 13 = .ok (.if_icmp .gt 15, 3) := by decide +kernel
theorem d_TrustDesk_canGather_16 : decode kY_TrustDesk_canGather.2.1 16 = .ok (.iload_n 1, 1) := by decide +kernel
theorem d_TrustDesk_canGather_17 : decode kY_TrustDesk_canGather.2.1 17 = .ok (.aload_n 0, 1) := by decide +kernel
theorem d_TrustDesk_canGather_18 : decode kY_TrustDesk_canGather.2.1 18 = .ok (.getfield 53, 3) := by decide +kernel
theorem d_TrustDesk_canGather_21 : decode kY_TrustDesk_canGather.2.1 21 = .ok (.invokevirtual 97, 3) := by decide +kernel
theorem d_TrustDesk_canGather_24 : decode kY_TrustDesk_canGather.2.1 24 = .ok (.ishr, 1) := by decide +kernel
theorem d_TrustDesk_canGather_25 : decode kY_TrustDesk_canGather.2.1 25 = .ok (.ifCond .eq 5, 3) := by decide +kernel
theorem c_TrustDesk_canGather_0 {g : mj_G} {l : Launch} {d nx : Nat} {M : mj_M} {x1 : Int32} (h_64 : M 64 = some (.inr (12, [.ref 65, .ref 70, .ref 77, .ref 80, .ref 90, .ref 94, .ref 95, .ref 96, .ref 97, .ref 98, .int 0, .int 0, .int 0]))) (h_95 : M 95 = some (.inr (0, [.int 0, .ref 0, .int 0]))) : mj_Met g l kY_TrustDesk_canGather (d + 1) [.ref 64, .int x1] M nx 0 0 (mj_E1 (some (.int 0)) M nx) := by
  refine mj_enter (by decide) (Nat.le_of_ble_eq_true rfl) ?_
  refine mv_iload_n d_TrustDesk_canGather_0 rfl rfl ?_
  refine mv_callS_s (kc' := 0) (ks' := 0) [.int x1] [.int x1] d_TrustDesk_canGather_1 lS_TrustDesk_337 (c_Integer_bitCount_0 (d := d) (x0 := x1)) rfl (Nat.le_of_ble_eq_true rfl) (Nat.le_of_ble_eq_true rfl) (Nat.le_of_ble_eq_true rfl) rfl ?_
  refine mv_istore_n (lv' := [(2, .int (mj_bc x1)), (0, .ref 64), (1, .int x1)]) d_TrustDesk_canGather_4 rfl (by decide) rfl ?_
  refine mv_iload_n d_TrustDesk_canGather_5 rfl rfl ?_
  refine mv_iconst (v := 1) d_TrustDesk_canGather_6 (by decide) ?_
  refine mv_icmp_ltZ (tgt := 28) (a := (mj_bc x1).toInt) (b := 1) d_TrustDesk_canGather_7 (by decide) rfl (by decide) (fun b1 => ?_) (fun b1 => ?_)
  · refine mv_iconst (v := 0) d_TrustDesk_canGather_28 (by decide) ?_
    exact mv_iret d_TrustDesk_canGather_29 rfl (by first | rfl | decide) ⟨rfl, rfl, rfl⟩
  · refine mv_iload_n d_TrustDesk_canGather_10 rfl rfl ?_
    refine mv_bipush (v := 8) d_TrustDesk_canGather_11 (by decide) ?_
    refine mv_icmp_gtZ (tgt := 28) (a := (mj_bc x1).toInt) (b := 8) d_TrustDesk_canGather_13 (by decide) rfl (by decide) (fun b2 => ?_) (fun b2 => ?_)
    · refine mv_iconst (v := 0) d_TrustDesk_canGather_28 (by decide) ?_
      exact mv_iret d_TrustDesk_canGather_29 rfl (by first | rfl | decide) ⟨rfl, rfl, rfl⟩
    · refine mv_iload_n d_TrustDesk_canGather_16 rfl rfl ?_
      refine mv_aload_n d_TrustDesk_canGather_17 rfl rfl ?_
      refine mv_get d_TrustDesk_canGather_18 f_TrustDesk_53_12 h_64 rfl ?_
      refine mv_callV_s (kc' := 0) (ks' := 0) [] [.ref 95, .int x1] d_TrustDesk_canGather_21 lV_TrustDesk_97 h_95 rfl (c_ArrayList_size_1 (d := d) (h_95 := h_95)) rfl (Nat.le_of_ble_eq_true rfl) (Nat.le_of_ble_eq_true rfl) (Nat.le_of_ble_eq_true rfl) rfl ?_
      refine mv_ishr d_TrustDesk_canGather_24 ?_
      refine mv_if_eqZ (tgt := 30) (a := (x1 >>> (0 &&& 31)).toInt) d_TrustDesk_canGather_25 (by decide) rfl (fun b3 => (mj_bc_0 b3 (by omega)).elim) (fun b3 => ?_)
      refine mv_iconst (v := 0) d_TrustDesk_canGather_28 (by decide) ?_
      exact mv_iret d_TrustDesk_canGather_29 rfl (by first | rfl | decide) ⟨rfl, rfl, rfl⟩
theorem d_TrustDesk_gather_5 : decode kY_TrustDesk_gather.2.1 5 = .ok (.ifCond .ne 5, 3) := by decide +kernel
theorem d_TrustDesk_gather_8 : decode kY_TrustDesk_gather.2.1 8 = .ok (.iconst 0, 1) := by decide +kernel
theorem d_TrustDesk_gather_9 : decode kY_TrustDesk_gather.2.1 9 = .ok (.ireturn, 1) := by decide +kernel
theorem c_TrustDesk_gather_0 {g : mj_G} {l : Launch} {d nx : Nat} {M : mj_M} {x1 : Int32} (h_64 : M 64 = some (.inr (12, [.ref 65, .ref 70, .ref 77, .ref 80, .ref 90, .ref 94, .ref 95, .ref 96, .ref 97, .ref 98, .int 0, .int 0, .int 0]))) (h_95 : M 95 = some (.inr (0, [.int 0, .ref 0, .int 0]))) : mj_Met g l kY_TrustDesk_gather (d + 2) [.ref 64, .int x1] M nx 0 0 (mj_E1 (some (.int 0)) M nx) := by
  refine mj_enter (by decide) (Nat.le_of_ble_eq_true rfl) ?_
  refine mv_aload_n d_TrustDesk_gather_0 rfl rfl ?_
  refine mv_iload_n d_TrustDesk_gather_1 rfl rfl ?_
  refine mv_callV_s (kc' := 0) (ks' := 0) [.int x1] [.int x1, .ref 64] d_TrustDesk_gather_2 lV_TrustDesk_496 h_64 rfl (c_TrustDesk_canGather_0 (d := d) (x1 := x1) (h_64 := h_64) (h_95 := h_95)) rfl (Nat.le_of_ble_eq_true rfl) (Nat.le_of_ble_eq_true rfl) (Nat.le_of_ble_eq_true rfl) rfl ?_
  refine mv_if_ne_f (tgt := 10) d_TrustDesk_gather_5 (by decide) (by decide) ?_
  refine mv_iconst (v := 0) d_TrustDesk_gather_8 (by decide) ?_
  exact mv_iret d_TrustDesk_gather_9 rfl (by first | rfl | decide) ⟨rfl, rfl, rfl⟩
theorem d_TrustDesk_group_5 : decode kY_TrustDesk_group.2.1 5 = .ok (.ifCond .ne 7, 3) := by decide +kernel
theorem d_TrustDesk_group_8 : decode kY_TrustDesk_group.2.1 8 = .ok (.ldc2_w 463, 3) := by decide +kernel
theorem d_TrustDesk_group_11 : decode kY_TrustDesk_group.2.1 11 = .ok (.lreturn, 1) := by decide +kernel
theorem c_TrustDesk_group_0 {g : mj_G} {l : Launch} {d nx : Nat} {M : mj_M} {x1 : Int32} (h_64 : M 64 = some (.inr (12, [.ref 65, .ref 70, .ref 77, .ref 80, .ref 90, .ref 94, .ref 95, .ref 96, .ref 97, .ref 98, .int 0, .int 0, .int 0]))) (h_95 : M 95 = some (.inr (0, [.int 0, .ref 0, .int 0]))) : mj_Met g l kY_TrustDesk_group (d + 3) [.ref 64, .int x1] M nx 0 0 (mj_E1 (some (.long (-1))) M nx) := by
  refine mj_enter (by decide) (Nat.le_of_ble_eq_true rfl) ?_
  refine mv_aload_n d_TrustDesk_group_0 rfl rfl ?_
  refine mv_iload_n d_TrustDesk_group_1 rfl rfl ?_
  refine mv_callV_s (kc' := 0) (ks' := 0) [.int x1] [.int x1, .ref 64] d_TrustDesk_group_2 lV_TrustDesk_477 h_64 rfl (c_TrustDesk_gather_0 (d := d) (x1 := x1) (h_64 := h_64) (h_95 := h_95)) rfl (Nat.le_of_ble_eq_true rfl) (Nat.le_of_ble_eq_true rfl) (Nat.le_of_ble_eq_true rfl) rfl ?_
  refine mv_if_ne_f (tgt := 12) d_TrustDesk_group_5 (by decide) (by decide) ?_
  refine mv_ldc2 d_TrustDesk_group_8 k_TrustDesk_463 ?_
  exact mv_lret d_TrustDesk_group_11 rfl ⟨rfl, rfl, rfl⟩
abbrev kY_TrustDesk_grouped : mj_Y := (⟨"TrustDesk", "grouped", "(II)I"⟩, prog_1_method_50_code, 4, (Option.some Jvm.ClassFile.FieldType.int))
theorem d_TrustDesk_grouped_0 : decode kY_TrustDesk_grouped.2.1 0 = .ok (.aload_n 0, 1) := by decide +kernel
theorem d_TrustDesk_grouped_1 : decode kY_TrustDesk_grouped.2.1 1 = .ok (.iload_n 2, 1) := by decide +kernel
theorem d_TrustDesk_grouped_2 : decode kY_TrustDesk_grouped.2.1 2 = .ok (.invokevirtual 257, 3) := by decide +kernel
theorem d_TrustDesk_grouped_5 : decode kY_TrustDesk_grouped.2.1 5 = .ok (.ifnull 19, 3) := by decide +kernel
theorem d_TrustDesk_grouped_24 : decode kY_TrustDesk_grouped.2.1 24 = .ok (.iconst (-1), 1) := by decide +kernel
theorem d_TrustDesk_grouped_25 : decode kY_TrustDesk_grouped.2.1 25 = .ok (.ireturn, 1) := by decide +kernel
theorem c_TrustDesk_grouped_0 {g : mj_G} {l : Launch} {d nx : Nat} {M : mj_M} {x1 : Int32} {x2 : Int32} (h_64 : M 64 = some (.inr (12, [.ref 65, .ref 70, .ref 77, .ref 80, .ref 90, .ref 94, .ref 95, .ref 96, .ref 97, .ref 98, .int 0, .int 0, .int 0]))) (h_95 : M 95 = some (.inr (0, [.int 0, .ref 0, .int 0]))) : mj_Met g l kY_TrustDesk_grouped (d + 2) [.ref 64, .int x1, .int x2] M nx 0 0 (mj_E1 (some (.int (-1))) M nx) := by
  refine mj_enter (by decide) (Nat.le_of_ble_eq_true rfl) ?_
  refine mv_aload_n d_TrustDesk_grouped_0 rfl rfl ?_
  refine mv_iload_n d_TrustDesk_grouped_1 rfl rfl ?_
  refine mv_callV_s (kc' := 0) (ks' := 0) [.int x2] [.int x2, .ref 64] d_TrustDesk_grouped_2 lV_TrustDesk_257 h_64 rfl (c_TrustDesk_fundAt_0 (d := d) (x1 := x2) (h_64 := h_64) (h_95 := h_95)) rfl (Nat.le_of_ble_eq_true rfl) (Nat.le_of_ble_eq_true rfl) (Nat.le_of_ble_eq_true rfl) rfl ?_
  refine mv_ifnullN (tgt := 24) d_TrustDesk_grouped_5 (by decide) ?_
  refine mv_iconst (v := (-1)) d_TrustDesk_grouped_24 (by decide) ?_
  exact mv_iret d_TrustDesk_grouped_25 rfl (by first | rfl | decide) ⟨rfl, rfl, rfl⟩
abbrev kY_TrustDesk_lay : mj_Y := (⟨"TrustDesk", "lay", "(II)Z"⟩, prog_1_method_51_code, 4, (Option.some Jvm.ClassFile.FieldType.boolean))
theorem d_TrustDesk_lay_0 : decode kY_TrustDesk_lay.2.1 0 = .ok (.aload_n 0, 1) := by decide +kernel
theorem d_TrustDesk_lay_1 : decode kY_TrustDesk_lay.2.1 1 = .ok (.iload_n 1, 1) := by decide +kernel
theorem d_TrustDesk_lay_2 : decode kY_TrustDesk_lay.2.1 2 = .ok (.invokevirtual 257, 3) := by decide +kernel
theorem d_TrustDesk_lay_5 : decode kY_TrustDesk_lay.2.1 5 = .ok (.astore_n 3, 1) := by decide +kernel
theorem d_TrustDesk_lay_6 : decode kY_TrustDesk_lay.2.1 6 = .ok (.aload_n 3, 1) := by decide +kernel
theorem d_TrustDesk_lay_7 : decode kY_TrustDesk_lay.2.1 7 = .ok (.ifnull 13, 3) := by decide +kernel
theorem d_TrustDesk_lay_20 : decode kY_TrustDesk_lay.2.1 20 = .ok (.iconst 0, 1) := by decide +kernel
theorem d_TrustDesk_lay_21 : decode kY_TrustDesk_lay.2.1 21 = .ok (.ireturn, 1) := by decide +kernel
theorem c_TrustDesk_lay_0 {g : mj_G} {l : Launch} {d nx : Nat} {M : mj_M} {x1 : Int32} {x2 : Int32} (h_64 : M 64 = some (.inr (12, [.ref 65, .ref 70, .ref 77, .ref 80, .ref 90, .ref 94, .ref 95, .ref 96, .ref 97, .ref 98, .int 0, .int 0, .int 0]))) (h_95 : M 95 = some (.inr (0, [.int 0, .ref 0, .int 0]))) : mj_Met g l kY_TrustDesk_lay (d + 2) [.ref 64, .int x1, .int x2] M nx 0 0 (mj_E1 (some (.int 0)) M nx) := by
  refine mj_enter (by decide) (Nat.le_of_ble_eq_true rfl) ?_
  refine mv_aload_n d_TrustDesk_lay_0 rfl rfl ?_
  refine mv_iload_n d_TrustDesk_lay_1 rfl rfl ?_
  refine mv_callV_s (kc' := 0) (ks' := 0) [.int x1] [.int x1, .ref 64] d_TrustDesk_lay_2 lV_TrustDesk_257 h_64 rfl (c_TrustDesk_fundAt_0 (d := d) (x1 := x1) (h_64 := h_64) (h_95 := h_95)) rfl (Nat.le_of_ble_eq_true rfl) (Nat.le_of_ble_eq_true rfl) (Nat.le_of_ble_eq_true rfl) rfl ?_
  refine mv_astore_nN (lv' := [(3, .null), (0, .ref 64), (1, .int x1), (2, .int x2)]) d_TrustDesk_lay_5 rfl (by decide) rfl ?_
  refine mv_aload_nN d_TrustDesk_lay_6 rfl rfl ?_
  refine mv_ifnullN (tgt := 20) d_TrustDesk_lay_7 (by decide) ?_
  refine mv_iconst (v := 0) d_TrustDesk_lay_20 (by decide) ?_
  exact mv_iret d_TrustDesk_lay_21 rfl (by first | rfl | decide) ⟨rfl, rfl, rfl⟩
abbrev kY_TrustDesk_judge : mj_Y := (⟨"TrustDesk", "judge", "(I)J"⟩, prog_1_method_52_code, 2, (Option.some Jvm.ClassFile.FieldType.long))
theorem d_TrustDesk_judge_0 : decode kY_TrustDesk_judge.2.1 0 = .ok (.aload_n 0, 1) := by decide +kernel
theorem d_TrustDesk_judge_1 : decode kY_TrustDesk_judge.2.1 1 = .ok (.iload_n 1, 1) := by decide +kernel
theorem d_TrustDesk_judge_2 : decode kY_TrustDesk_judge.2.1 2 = .ok (.invokevirtual 477, 3) := by decide +kernel
theorem d_TrustDesk_judge_5 : decode kY_TrustDesk_judge.2.1 5 = .ok (.ifCond .ne 7, 3) := by decide +kernel
theorem d_TrustDesk_judge_8 : decode kY_TrustDesk_judge.2.1 8 = .ok (.ldc2_w 463, 3) := by decide +kernel
theorem d_TrustDesk_judge_11 : decode kY_TrustDesk_judge.2.1 11 = .ok (.lreturn, 1) := by decide +kernel
theorem c_TrustDesk_judge_0 {g : mj_G} {l : Launch} {d nx : Nat} {M : mj_M} {x1 : Int32} (h_64 : M 64 = some (.inr (12, [.ref 65, .ref 70, .ref 77, .ref 80, .ref 90, .ref 94, .ref 95, .ref 96, .ref 97, .ref 98, .int 0, .int 0, .int 0]))) (h_95 : M 95 = some (.inr (0, [.int 0, .ref 0, .int 0]))) : mj_Met g l kY_TrustDesk_judge (d + 3) [.ref 64, .int x1] M nx 0 0 (mj_E1 (some (.long (-1))) M nx) := by
  refine mj_enter (by decide) (Nat.le_of_ble_eq_true rfl) ?_
  refine mv_aload_n d_TrustDesk_judge_0 rfl rfl ?_
  refine mv_iload_n d_TrustDesk_judge_1 rfl rfl ?_
  refine mv_callV_s (kc' := 0) (ks' := 0) [.int x1] [.int x1, .ref 64] d_TrustDesk_judge_2 lV_TrustDesk_477 h_64 rfl (c_TrustDesk_gather_0 (d := d) (x1 := x1) (h_64 := h_64) (h_95 := h_95)) rfl (Nat.le_of_ble_eq_true rfl) (Nat.le_of_ble_eq_true rfl) (Nat.le_of_ble_eq_true rfl) rfl ?_
  refine mv_if_ne_f (tgt := 12) d_TrustDesk_judge_5 (by decide) (by decide) ?_
  refine mv_ldc2 d_TrustDesk_judge_8 k_TrustDesk_463 ?_
  exact mv_lret d_TrustDesk_judge_11 rfl ⟨rfl, rfl, rfl⟩
abbrev kY_TrustDesk_account : mj_Y := (⟨"TrustDesk", "account", "(II)I"⟩, prog_1_method_56_code, 6, (Option.some Jvm.ClassFile.FieldType.int))
theorem d_TrustDesk_account_0 : decode kY_TrustDesk_account.2.1 0 = .ok (.aload_n 0, 1) := by decide +kernel
theorem d_TrustDesk_account_1 : decode kY_TrustDesk_account.2.1 1 = .ok (.iload_n 1, 1) := by decide +kernel
theorem d_TrustDesk_account_2 : decode kY_TrustDesk_account.2.1 2 = .ok (.invokevirtual 257, 3) := by decide +kernel
theorem d_TrustDesk_account_5 : decode kY_TrustDesk_account.2.1 5 = .ok (.astore_n 3, 1) := by decide +kernel
theorem d_TrustDesk_account_6 : decode kY_TrustDesk_account.2.1 6 = .ok (.aload_n 3, 1) := by decide +kernel
theorem d_TrustDesk_account_7 : decode kY_TrustDesk_account.2.1 7 = .ok (.ifnull 39, 3) := by decide +kernel
theorem d_TrustDesk_account_46 : decode kY_TrustDesk_account.2.1 46 = .ok (.iconst (-1), 1) := by decide +kernel
theorem d_TrustDesk_account_47 : decode kY_TrustDesk_account.2.1 47 = .ok (.ireturn, 1) := by decide +kernel
theorem c_TrustDesk_account_0 {g : mj_G} {l : Launch} {d nx : Nat} {M : mj_M} {x1 : Int32} {x2 : Int32} (h_64 : M 64 = some (.inr (12, [.ref 65, .ref 70, .ref 77, .ref 80, .ref 90, .ref 94, .ref 95, .ref 96, .ref 97, .ref 98, .int 0, .int 0, .int 0]))) (h_95 : M 95 = some (.inr (0, [.int 0, .ref 0, .int 0]))) : mj_Met g l kY_TrustDesk_account (d + 2) [.ref 64, .int x1, .int x2] M nx 0 0 (mj_E1 (some (.int (-1))) M nx) := by
  refine mj_enter (by decide) (Nat.le_of_ble_eq_true rfl) ?_
  refine mv_aload_n d_TrustDesk_account_0 rfl rfl ?_
  refine mv_iload_n d_TrustDesk_account_1 rfl rfl ?_
  refine mv_callV_s (kc' := 0) (ks' := 0) [.int x1] [.int x1, .ref 64] d_TrustDesk_account_2 lV_TrustDesk_257 h_64 rfl (c_TrustDesk_fundAt_0 (d := d) (x1 := x1) (h_64 := h_64) (h_95 := h_95)) rfl (Nat.le_of_ble_eq_true rfl) (Nat.le_of_ble_eq_true rfl) (Nat.le_of_ble_eq_true rfl) rfl ?_
  refine mv_astore_nN (lv' := [(3, .null), (0, .ref 64), (1, .int x1), (2, .int x2)]) d_TrustDesk_account_5 rfl (by decide) rfl ?_
  refine mv_aload_nN d_TrustDesk_account_6 rfl rfl ?_
  refine mv_ifnullN (tgt := 46) d_TrustDesk_account_7 (by decide) ?_
  refine mv_iconst (v := (-1)) d_TrustDesk_account_46 (by decide) ?_
  exact mv_iret d_TrustDesk_account_47 rfl (by first | rfl | decide) ⟨rfl, rfl, rfl⟩
abbrev kY_TrustDesk_count : mj_Y := (⟨"TrustDesk", "count", "(I)I"⟩, prog_1_method_57_code, 2, (Option.some Jvm.ClassFile.FieldType.int))
theorem d_TrustDesk_count_0 : decode kY_TrustDesk_count.2.1 0 = .ok (.iload_n 1, 1) := by decide +kernel
theorem d_TrustDesk_count_1 : decode kY_TrustDesk_count.2.1 1 = .ok (.tableswitch 144 0 11 #[63, 68, 76, 84, 92, 100, 108, 116, 121, 129, 134, 139], 63) := by decide +kernel
theorem d_TrustDesk_count_145 : decode kY_TrustDesk_count.2.1 145 = .ok (.iconst (-1), 1) := by decide +kernel
theorem d_TrustDesk_count_146 : decode kY_TrustDesk_count.2.1 146 = .ok (.ireturn, 1) := by decide +kernel
theorem d_TrustDesk_count_64 : decode kY_TrustDesk_count.2.1 64 = .ok (.aload_n 0, 1) := by decide +kernel
theorem d_TrustDesk_count_65 : decode kY_TrustDesk_count.2.1 65 = .ok (.getfield 73, 3) := by decide +kernel
theorem d_TrustDesk_count_68 : decode kY_TrustDesk_count.2.1 68 = .ok (.ireturn, 1) := by decide +kernel
theorem d_TrustDesk_count_69 : decode kY_TrustDesk_count.2.1 69 = .ok (.aload_n 0, 1) := by decide +kernel
theorem d_TrustDesk_count_70 : decode kY_TrustDesk_count.2.1 70 = .ok (.getfield 73, 3) := by decide +kernel
theorem d_TrustDesk_count_73 : decode kY_TrustDesk_count.2.1 73 = .ok (.invokestatic 366, 3) := by decide +kernel
abbrev kY_TrustDesk_yearOf : mj_Y := (⟨"TrustDesk", "yearOf", "(I)I"⟩, prog_1_method_70_code, 1, (Option.some Jvm.ClassFile.FieldType.int))
theorem lS_TrustDesk_366 : mj_lS "TrustDesk" 366 kY_TrustDesk_yearOf 1 := ⟨⟨(mj_in1 (List.mem_of_getElem? (i := 1085) (by decide +kernel)) rfl), (mj_in1 (List.mem_of_getElem? (i := 1) (by decide +kernel)) rfl), (mj_in1 (List.mem_of_getElem? (i := 1087) (by decide +kernel)) rfl), by decide, rfl, by decide⟩, (mj_in1 (List.mem_of_getElem? (i := 1086) (by decide +kernel)) rfl)⟩
theorem d_TrustDesk_yearOf_0 : decode kY_TrustDesk_yearOf.2.1 0 = .ok (.iload_n 0, 1) := by decide +kernel
theorem d_TrustDesk_yearOf_1 : decode kY_TrustDesk_yearOf.2.1 1 = .ok (.sipush 360, 3) := by decide +kernel
theorem d_TrustDesk_yearOf_4 : decode kY_TrustDesk_yearOf.2.1 4 = .ok (.idiv, 1) := by decide +kernel
theorem d_TrustDesk_yearOf_5 : decode kY_TrustDesk_yearOf.2.1 5 = .ok (.ireturn, 1) := by decide +kernel
theorem c_TrustDesk_yearOf_0 {g : mj_G} {l : Launch} {d nx : Nat} {M : mj_M} : mj_Met g l kY_TrustDesk_yearOf d [.int 0] M nx 0 0 (mj_E1 (some (.int 0)) M nx) := by
  refine mj_enter (by decide) (Nat.le_of_ble_eq_true rfl) ?_
  refine mv_iload_n d_TrustDesk_yearOf_0 rfl rfl ?_
  refine mv_sipush (v := 360) d_TrustDesk_yearOf_1 (by decide) ?_
  refine mv_idivv (v := 0) d_TrustDesk_yearOf_4 (by decide) (by decide) ?_
  exact mv_iret d_TrustDesk_yearOf_5 rfl (by first | rfl | decide) ⟨rfl, rfl, rfl⟩
theorem d_TrustDesk_count_76 : decode kY_TrustDesk_count.2.1 76 = .ok (.ireturn, 1) := by decide +kernel
theorem d_TrustDesk_count_77 : decode kY_TrustDesk_count.2.1 77 = .ok (.aload_n 0, 1) := by decide +kernel
theorem d_TrustDesk_count_78 : decode kY_TrustDesk_count.2.1 78 = .ok (.getfield 10, 3) := by decide +kernel
theorem d_TrustDesk_count_81 : decode kY_TrustDesk_count.2.1 81 = .ok (.getfield 515, 3) := by decide +kernel
theorem f_TrustDesk_515_5 : mj_fl "TrustDesk" 515 5 4 := ⟨kR_Facts, kF_Facts, 5, "TrustDesk$Facts", rfl, kg_5, by decide, (mj_in1 (List.mem_of_getElem? (i := 50) (by decide +kernel)) rfl), Or.inl rfl⟩
theorem d_TrustDesk_count_84 : decode kY_TrustDesk_count.2.1 84 = .ok (.ireturn, 1) := by decide +kernel
theorem d_TrustDesk_count_85 : decode kY_TrustDesk_count.2.1 85 = .ok (.aload_n 0, 1) := by decide +kernel
theorem d_TrustDesk_count_86 : decode kY_TrustDesk_count.2.1 86 = .ok (.getfield 49, 3) := by decide +kernel
theorem d_TrustDesk_count_89 : decode kY_TrustDesk_count.2.1 89 = .ok (.invokevirtual 97, 3) := by decide +kernel
theorem d_TrustDesk_count_92 : decode kY_TrustDesk_count.2.1 92 = .ok (.ireturn, 1) := by decide +kernel
theorem d_TrustDesk_count_93 : decode kY_TrustDesk_count.2.1 93 = .ok (.aload_n 0, 1) := by decide +kernel
theorem d_TrustDesk_count_94 : decode kY_TrustDesk_count.2.1 94 = .ok (.getfield 53, 3) := by decide +kernel
theorem d_TrustDesk_count_97 : decode kY_TrustDesk_count.2.1 97 = .ok (.invokevirtual 97, 3) := by decide +kernel
theorem d_TrustDesk_count_100 : decode kY_TrustDesk_count.2.1 100 = .ok (.ireturn, 1) := by decide +kernel
theorem d_TrustDesk_count_101 : decode kY_TrustDesk_count.2.1 101 = .ok (.aload_n 0, 1) := by decide +kernel
theorem d_TrustDesk_count_102 : decode kY_TrustDesk_count.2.1 102 = .ok (.getfield 56, 3) := by decide +kernel
theorem d_TrustDesk_count_105 : decode kY_TrustDesk_count.2.1 105 = .ok (.invokevirtual 97, 3) := by decide +kernel
theorem d_TrustDesk_count_108 : decode kY_TrustDesk_count.2.1 108 = .ok (.ireturn, 1) := by decide +kernel
theorem d_TrustDesk_count_109 : decode kY_TrustDesk_count.2.1 109 = .ok (.aload_n 0, 1) := by decide +kernel
theorem d_TrustDesk_count_110 : decode kY_TrustDesk_count.2.1 110 = .ok (.getfield 59, 3) := by decide +kernel
theorem d_TrustDesk_count_113 : decode kY_TrustDesk_count.2.1 113 = .ok (.invokevirtual 97, 3) := by decide +kernel
theorem d_TrustDesk_count_116 : decode kY_TrustDesk_count.2.1 116 = .ok (.ireturn, 1) := by decide +kernel
theorem d_TrustDesk_count_117 : decode kY_TrustDesk_count.2.1 117 = .ok (.aload_n 0, 1) := by decide +kernel
theorem d_TrustDesk_count_118 : decode kY_TrustDesk_count.2.1 118 = .ok (.getfield 254, 3) := by decide +kernel
theorem d_TrustDesk_count_121 : decode kY_TrustDesk_count.2.1 121 = .ok (.ireturn, 1) := by decide +kernel
theorem d_TrustDesk_count_122 : decode kY_TrustDesk_count.2.1 122 = .ok (.aload_n 0, 1) := by decide +kernel
theorem d_TrustDesk_count_123 : decode kY_TrustDesk_count.2.1 123 = .ok (.getfield 19, 3) := by decide +kernel
theorem d_TrustDesk_count_126 : decode kY_TrustDesk_count.2.1 126 = .ok (.getfield 88, 3) := by decide +kernel
theorem d_TrustDesk_count_129 : decode kY_TrustDesk_count.2.1 129 = .ok (.ireturn, 1) := by decide +kernel
theorem d_TrustDesk_count_130 : decode kY_TrustDesk_count.2.1 130 = .ok (.aload_n 0, 1) := by decide +kernel
theorem d_TrustDesk_count_131 : decode kY_TrustDesk_count.2.1 131 = .ok (.getfield 509, 3) := by decide +kernel
theorem f_TrustDesk_509_12 : mj_fl "TrustDesk" 509 12 11 := ⟨kR_TrustDesk, kF_TrustDesk, 13, "TrustDesk", rfl, kg_12, by decide, (mj_in1 (List.mem_of_getElem? (i := 278) (by decide +kernel)) rfl), Or.inl rfl⟩
theorem d_TrustDesk_count_134 : decode kY_TrustDesk_count.2.1 134 = .ok (.ireturn, 1) := by decide +kernel
theorem d_TrustDesk_count_135 : decode kY_TrustDesk_count.2.1 135 = .ok (.aload_n 0, 1) := by decide +kernel
theorem d_TrustDesk_count_136 : decode kY_TrustDesk_count.2.1 136 = .ok (.invokevirtual 518, 3) := by decide +kernel
abbrev kY_TrustDesk_schemesMade : mj_Y := (⟨"TrustDesk", "schemesMade", "()I"⟩, prog_1_method_58_code, 3, (Option.some Jvm.ClassFile.FieldType.int))
theorem lV_TrustDesk_518 : mj_lV "TrustDesk" 518 kY_TrustDesk_schemesMade 0 := ⟨⟨(mj_in1 (List.mem_of_getElem? (i := 1298) (by decide +kernel)) rfl), (mj_in1 (List.mem_of_getElem? (i := 1) (by decide +kernel)) rfl), (mj_in1 (List.mem_of_getElem? (i := 1301) (by decide +kernel)) rfl), by decide, rfl, by decide⟩, (mj_in1 (List.mem_of_getElem? (i := 1300) (by decide +kernel)) rfl), (mj_in (List.mem_append_left _ (List.mem_of_getElem? (i := 75) (by decide +kernel))) rfl)⟩
theorem d_TrustDesk_schemesMade_0 : decode kY_TrustDesk_schemesMade.2.1 0 = .ok (.iconst 0, 1) := by decide +kernel
theorem d_TrustDesk_schemesMade_1 : decode kY_TrustDesk_schemesMade.2.1 1 = .ok (.istore_n 1, 1) := by decide +kernel
theorem d_TrustDesk_schemesMade_2 : decode kY_TrustDesk_schemesMade.2.1 2 = .ok (.iconst 0, 1) := by decide +kernel
theorem d_TrustDesk_schemesMade_3 : decode kY_TrustDesk_schemesMade.2.1 3 = .ok (.istore_n 2, 1) := by decide +kernel
theorem d_TrustDesk_schemesMade_4 : decode kY_TrustDesk_schemesMade.2.1 4 = .ok (.iload_n 2, 1) := by decide +kernel
theorem d_TrustDesk_schemesMade_5 : decode kY_TrustDesk_schemesMade.2.1 5 = .ok (.aload_n 0, 1) := by decide +kernel
theorem d_TrustDesk_schemesMade_6 : decode kY_TrustDesk_schemesMade.2.1 6 = .ok (.getfield 59, 3) := by decide +kernel
theorem d_TrustDesk_schemesMade_9 : decode kY_TrustDesk_schemesMade.2.1 9 = .ok (.invokevirtual 97, 3) := by decide +kernel
theorem d_TrustDesk_schemesMade_12 : decode kY_TrustDesk_schemesMade.2.1 12 = .ok (.if_icmp .ge 30, 3) := by decide +kernel
theorem d_TrustDesk_schemesMade_42 : decode kY_TrustDesk_schemesMade.2.1 42 = .ok (.iload_n 1, 1) := by decide +kernel
theorem d_TrustDesk_schemesMade_43 : decode kY_TrustDesk_schemesMade.2.1 43 = .ok (.ireturn, 1) := by decide +kernel
theorem c_TrustDesk_schemesMade_0 {g : mj_G} {l : Launch} {d nx : Nat} {M : mj_M} (h_64 : M 64 = some (.inr (12, [.ref 65, .ref 70, .ref 77, .ref 80, .ref 90, .ref 94, .ref 95, .ref 96, .ref 97, .ref 98, .int 0, .int 0, .int 0]))) (h_97 : M 97 = some (.inr (0, [.int 0, .ref 0, .int 0]))) : mj_Met g l kY_TrustDesk_schemesMade (d + 1) [.ref 64] M nx 0 0 (mj_E1 (some (.int 0)) M nx) := by
  refine mj_enter (by decide) (Nat.le_of_ble_eq_true rfl) ?_
  refine mv_iconst (v := 0) d_TrustDesk_schemesMade_0 (by decide) ?_
  refine mv_istore_n (lv' := [(1, .int 0), (0, .ref 64)]) d_TrustDesk_schemesMade_1 rfl (by decide) rfl ?_
  refine mv_iconst (v := 0) d_TrustDesk_schemesMade_2 (by decide) ?_
  refine mv_istore_n (lv' := [(2, .int 0), (1, .int 0), (0, .ref 64)]) d_TrustDesk_schemesMade_3 rfl (by decide) rfl ?_
  refine mv_iload_n d_TrustDesk_schemesMade_4 rfl rfl ?_
  refine mv_aload_n d_TrustDesk_schemesMade_5 rfl rfl ?_
  refine mv_get d_TrustDesk_schemesMade_6 f_TrustDesk_59_12 h_64 rfl ?_
  refine mv_callV_s (kc' := 0) (ks' := 0) [] [.ref 97, .int 0] d_TrustDesk_schemesMade_9 lV_TrustDesk_97 h_97 rfl (c_ArrayList_size_3 (d := d) (h_97 := h_97)) rfl (Nat.le_of_ble_eq_true rfl) (Nat.le_of_ble_eq_true rfl) (Nat.le_of_ble_eq_true rfl) rfl ?_
  refine mv_icmp_ge_t (tgt := 42) d_TrustDesk_schemesMade_12 (by decide) (by decide) ?_
  refine mv_iload_n d_TrustDesk_schemesMade_42 rfl rfl ?_
  exact mv_iret d_TrustDesk_schemesMade_43 rfl (by first | rfl | decide) ⟨rfl, rfl, rfl⟩
theorem d_TrustDesk_count_139 : decode kY_TrustDesk_count.2.1 139 = .ok (.ireturn, 1) := by decide +kernel
theorem d_TrustDesk_count_140 : decode kY_TrustDesk_count.2.1 140 = .ok (.aload_n 0, 1) := by decide +kernel
theorem d_TrustDesk_count_141 : decode kY_TrustDesk_count.2.1 141 = .ok (.invokevirtual 521, 3) := by decide +kernel
abbrev kY_TrustDesk_fundsNotJoined : mj_Y := (⟨"TrustDesk", "fundsNotJoined", "()I"⟩, prog_1_method_59_code, 3, (Option.some Jvm.ClassFile.FieldType.int))
theorem lV_TrustDesk_521 : mj_lV "TrustDesk" 521 kY_TrustDesk_fundsNotJoined 0 := ⟨⟨(mj_in1 (List.mem_of_getElem? (i := 1302) (by decide +kernel)) rfl), (mj_in1 (List.mem_of_getElem? (i := 1) (by decide +kernel)) rfl), (mj_in1 (List.mem_of_getElem? (i := 1305) (by decide +kernel)) rfl), by decide, rfl, by decide⟩, (mj_in1 (List.mem_of_getElem? (i := 1304) (by decide +kernel)) rfl), (mj_in (List.mem_append_left _ (List.mem_of_getElem? (i := 76) (by decide +kernel))) rfl)⟩
theorem d_TrustDesk_fundsNotJoined_0 : decode kY_TrustDesk_fundsNotJoined.2.1 0 = .ok (.iconst 0, 1) := by decide +kernel
theorem d_TrustDesk_fundsNotJoined_1 : decode kY_TrustDesk_fundsNotJoined.2.1 1 = .ok (.istore_n 1, 1) := by decide +kernel
theorem d_TrustDesk_fundsNotJoined_2 : decode kY_TrustDesk_fundsNotJoined.2.1 2 = .ok (.iconst 0, 1) := by decide +kernel
theorem d_TrustDesk_fundsNotJoined_3 : decode kY_TrustDesk_fundsNotJoined.2.1 3 = .ok (.istore_n 2, 1) := by decide +kernel
theorem d_TrustDesk_fundsNotJoined_4 : decode kY_TrustDesk_fundsNotJoined.2.1 4 = .ok (.iload_n 2, 1) := by decide +kernel
theorem d_TrustDesk_fundsNotJoined_5 : decode kY_TrustDesk_fundsNotJoined.2.1 5 = .ok (.aload_n 0, 1) := by decide +kernel
theorem d_TrustDesk_fundsNotJoined_6 : decode kY_TrustDesk_fundsNotJoined.2.1 6 = .ok (.getfield 53, 3) := by decide +kernel
theorem d_TrustDesk_fundsNotJoined_9 : decode kY_TrustDesk_fundsNotJoined.2.1 9 = .ok (.invokevirtual 97, 3) := by decide +kernel
theorem d_TrustDesk_fundsNotJoined_12 : decode kY_TrustDesk_fundsNotJoined.2.1 12 = .ok (.if_icmp .ge 29, 3) := by decide +kernel
theorem d_TrustDesk_fundsNotJoined_41 : decode kY_TrustDesk_fundsNotJoined.2.1 41 = .ok (.iload_n 1, 1) := by decide +kernel
theorem d_TrustDesk_fundsNotJoined_42 : decode kY_TrustDesk_fundsNotJoined.2.1 42 = .ok (.ireturn, 1) := by decide +kernel
theorem c_TrustDesk_fundsNotJoined_0 {g : mj_G} {l : Launch} {d nx : Nat} {M : mj_M} (h_64 : M 64 = some (.inr (12, [.ref 65, .ref 70, .ref 77, .ref 80, .ref 90, .ref 94, .ref 95, .ref 96, .ref 97, .ref 98, .int 0, .int 0, .int 0]))) (h_95 : M 95 = some (.inr (0, [.int 0, .ref 0, .int 0]))) : mj_Met g l kY_TrustDesk_fundsNotJoined (d + 1) [.ref 64] M nx 0 0 (mj_E1 (some (.int 0)) M nx) := by
  refine mj_enter (by decide) (Nat.le_of_ble_eq_true rfl) ?_
  refine mv_iconst (v := 0) d_TrustDesk_fundsNotJoined_0 (by decide) ?_
  refine mv_istore_n (lv' := [(1, .int 0), (0, .ref 64)]) d_TrustDesk_fundsNotJoined_1 rfl (by decide) rfl ?_
  refine mv_iconst (v := 0) d_TrustDesk_fundsNotJoined_2 (by decide) ?_
  refine mv_istore_n (lv' := [(2, .int 0), (1, .int 0), (0, .ref 64)]) d_TrustDesk_fundsNotJoined_3 rfl (by decide) rfl ?_
  refine mv_iload_n d_TrustDesk_fundsNotJoined_4 rfl rfl ?_
  refine mv_aload_n d_TrustDesk_fundsNotJoined_5 rfl rfl ?_
  refine mv_get d_TrustDesk_fundsNotJoined_6 f_TrustDesk_53_12 h_64 rfl ?_
  refine mv_callV_s (kc' := 0) (ks' := 0) [] [.ref 95, .int 0] d_TrustDesk_fundsNotJoined_9 lV_TrustDesk_97 h_95 rfl (c_ArrayList_size_1 (d := d) (h_95 := h_95)) rfl (Nat.le_of_ble_eq_true rfl) (Nat.le_of_ble_eq_true rfl) (Nat.le_of_ble_eq_true rfl) rfl ?_
  refine mv_icmp_ge_t (tgt := 41) d_TrustDesk_fundsNotJoined_12 (by decide) (by decide) ?_
  refine mv_iload_n d_TrustDesk_fundsNotJoined_41 rfl rfl ?_
  exact mv_iret d_TrustDesk_fundsNotJoined_42 rfl (by first | rfl | decide) ⟨rfl, rfl, rfl⟩
theorem d_TrustDesk_count_144 : decode kY_TrustDesk_count.2.1 144 = .ok (.ireturn, 1) := by decide +kernel
theorem c_TrustDesk_count_0 {g : mj_G} {l : Launch} {d nx : Nat} {M : mj_M} {x1 : Int32} (h_64 : M 64 = some (.inr (12, [.ref 65, .ref 70, .ref 77, .ref 80, .ref 90, .ref 94, .ref 95, .ref 96, .ref 97, .ref 98, .int 0, .int 0, .int 0]))) (h_65 : M 65 = some (.inr (5, [.ref 66, .ref 67, .ref 68, .ref 69, .int 0]))) (h_70 : M 70 = some (.inr (9, [.int 0, .int 0, .int (-1), .ref 71, .ref 72, .ref 73, .ref 74, .ref 75, .int 0, .int 0, .int 0, .int 0, .int 0, .int 0, .int 0, .int 0, .int 0, .ref 76, .int 0]))) (h_94 : M 94 = some (.inr (0, [.int 0, .ref 0, .int 0]))) (h_95 : M 95 = some (.inr (0, [.int 0, .ref 0, .int 0]))) (h_96 : M 96 = some (.inr (0, [.int 0, .ref 0, .int 0]))) (h_97 : M 97 = some (.inr (0, [.int 0, .ref 0, .int 0]))) : mj_Met g l kY_TrustDesk_count (d + 2) [.ref 64, .int x1] M nx 0 0 (mj_KP (some (.int (e_count x1))) M 99 149) := by
  refine mj_enter (by decide) (Nat.le_of_ble_eq_true rfl) ?_
  refine mv_iload_n d_TrustDesk_count_0 rfl rfl ?_
  rcases (show (x1.toInt < 0 ∨ 11 < x1.toInt) ∨ x1.toInt = 0 ∨ x1.toInt = 1 ∨ x1.toInt = 2 ∨ x1.toInt = 3 ∨ x1.toInt = 4 ∨ x1.toInt = 5 ∨ x1.toInt = 6 ∨ x1.toInt = 7 ∨ x1.toInt = 8 ∨ x1.toInt = 9 ∨ x1.toInt = 10 ∨ x1.toInt = 11 by omega) with b1 | b1 | b1 | b1 | b1 | b1 | b1 | b1 | b1 | b1 | b1 | b1 | b1
  · refine mv_tableOut (tgt := 145) d_TrustDesk_count_1 b1 (by decide) ?_
    refine mv_iconst (v := (-1)) d_TrustDesk_count_145 (by decide) ?_
    exact mv_iret d_TrustDesk_count_146 rfl (by first | rfl | decide) ⟨(by unfold e_count; first | rw [if_pos (by omega)] | rw [if_neg (by omega)]), fun a ha1 ha2 => rfl⟩
  · refine mv_tableIn (tgt := 64) (off := 63) d_TrustDesk_count_1 (by omega) (by omega) (by rw [b1]; rfl) (by decide) ?_
    refine mv_aload_n d_TrustDesk_count_64 rfl rfl ?_
    refine mv_get d_TrustDesk_count_65 f_TrustDesk_73_12 h_64 rfl ?_
    exact mv_iret d_TrustDesk_count_68 rfl (by first | rfl | decide) ⟨(by unfold e_count; first | rw [if_pos (by omega)] | rw [if_neg (by omega)]), fun a ha1 ha2 => rfl⟩
  · refine mv_tableIn (tgt := 69) (off := 68) d_TrustDesk_count_1 (by omega) (by omega) (by rw [b1]; rfl) (by decide) ?_
    refine mv_aload_n d_TrustDesk_count_69 rfl rfl ?_
    refine mv_get d_TrustDesk_count_70 f_TrustDesk_73_12 h_64 rfl ?_
    refine mv_callS_s (kc' := 0) (ks' := 0) [.int 0] [.int 0] d_TrustDesk_count_73 lS_TrustDesk_366 (c_TrustDesk_yearOf_0 (d := (d + 1))) rfl (Nat.le_of_ble_eq_true rfl) (Nat.le_of_ble_eq_true rfl) (Nat.le_of_ble_eq_true rfl) rfl ?_
    exact mv_iret d_TrustDesk_count_76 rfl (by first | rfl | decide) ⟨(by unfold e_count; first | rw [if_pos (by omega)] | rw [if_neg (by omega)]), fun a ha1 ha2 => rfl⟩
  · refine mv_tableIn (tgt := 77) (off := 76) d_TrustDesk_count_1 (by omega) (by omega) (by rw [b1]; rfl) (by decide) ?_
    refine mv_aload_n d_TrustDesk_count_77 rfl rfl ?_
    refine mv_get d_TrustDesk_count_78 f_TrustDesk_10_12 h_64 rfl ?_
    refine mv_get d_TrustDesk_count_81 f_TrustDesk_515_5 h_65 rfl ?_
    exact mv_iret d_TrustDesk_count_84 rfl (by first | rfl | decide) ⟨(by unfold e_count; first | rw [if_pos (by omega)] | rw [if_neg (by omega)]), fun a ha1 ha2 => rfl⟩
  · refine mv_tableIn (tgt := 85) (off := 84) d_TrustDesk_count_1 (by omega) (by omega) (by rw [b1]; rfl) (by decide) ?_
    refine mv_aload_n d_TrustDesk_count_85 rfl rfl ?_
    refine mv_get d_TrustDesk_count_86 f_TrustDesk_49_12 h_64 rfl ?_
    refine mv_callV_s (kc' := 0) (ks' := 0) [] [.ref 94] d_TrustDesk_count_89 lV_TrustDesk_97 h_94 rfl (c_ArrayList_size_0 (d := (d + 1)) (h_94 := h_94)) rfl (Nat.le_of_ble_eq_true rfl) (Nat.le_of_ble_eq_true rfl) (Nat.le_of_ble_eq_true rfl) rfl ?_
    exact mv_iret d_TrustDesk_count_92 rfl (by first | rfl | decide) ⟨(by unfold e_count; first | rw [if_pos (by omega)] | rw [if_neg (by omega)]), fun a ha1 ha2 => rfl⟩
  · refine mv_tableIn (tgt := 93) (off := 92) d_TrustDesk_count_1 (by omega) (by omega) (by rw [b1]; rfl) (by decide) ?_
    refine mv_aload_n d_TrustDesk_count_93 rfl rfl ?_
    refine mv_get d_TrustDesk_count_94 f_TrustDesk_53_12 h_64 rfl ?_
    refine mv_callV_s (kc' := 0) (ks' := 0) [] [.ref 95] d_TrustDesk_count_97 lV_TrustDesk_97 h_95 rfl (c_ArrayList_size_1 (d := (d + 1)) (h_95 := h_95)) rfl (Nat.le_of_ble_eq_true rfl) (Nat.le_of_ble_eq_true rfl) (Nat.le_of_ble_eq_true rfl) rfl ?_
    exact mv_iret d_TrustDesk_count_100 rfl (by first | rfl | decide) ⟨(by unfold e_count; first | rw [if_pos (by omega)] | rw [if_neg (by omega)]), fun a ha1 ha2 => rfl⟩
  · refine mv_tableIn (tgt := 101) (off := 100) d_TrustDesk_count_1 (by omega) (by omega) (by rw [b1]; rfl) (by decide) ?_
    refine mv_aload_n d_TrustDesk_count_101 rfl rfl ?_
    refine mv_get d_TrustDesk_count_102 f_TrustDesk_56_12 h_64 rfl ?_
    refine mv_callV_s (kc' := 0) (ks' := 0) [] [.ref 96] d_TrustDesk_count_105 lV_TrustDesk_97 h_96 rfl (c_ArrayList_size_2 (d := (d + 1)) (h_96 := h_96)) rfl (Nat.le_of_ble_eq_true rfl) (Nat.le_of_ble_eq_true rfl) (Nat.le_of_ble_eq_true rfl) rfl ?_
    exact mv_iret d_TrustDesk_count_108 rfl (by first | rfl | decide) ⟨(by unfold e_count; first | rw [if_pos (by omega)] | rw [if_neg (by omega)]), fun a ha1 ha2 => rfl⟩
  · refine mv_tableIn (tgt := 109) (off := 108) d_TrustDesk_count_1 (by omega) (by omega) (by rw [b1]; rfl) (by decide) ?_
    refine mv_aload_n d_TrustDesk_count_109 rfl rfl ?_
    refine mv_get d_TrustDesk_count_110 f_TrustDesk_59_12 h_64 rfl ?_
    refine mv_callV_s (kc' := 0) (ks' := 0) [] [.ref 97] d_TrustDesk_count_113 lV_TrustDesk_97 h_97 rfl (c_ArrayList_size_3 (d := (d + 1)) (h_97 := h_97)) rfl (Nat.le_of_ble_eq_true rfl) (Nat.le_of_ble_eq_true rfl) (Nat.le_of_ble_eq_true rfl) rfl ?_
    exact mv_iret d_TrustDesk_count_116 rfl (by first | rfl | decide) ⟨(by unfold e_count; first | rw [if_pos (by omega)] | rw [if_neg (by omega)]), fun a ha1 ha2 => rfl⟩
  · refine mv_tableIn (tgt := 117) (off := 116) d_TrustDesk_count_1 (by omega) (by omega) (by rw [b1]; rfl) (by decide) ?_
    refine mv_aload_n d_TrustDesk_count_117 rfl rfl ?_
    refine mv_get d_TrustDesk_count_118 f_TrustDesk_254_12 h_64 rfl ?_
    exact mv_iret d_TrustDesk_count_121 rfl (by first | rfl | decide) ⟨(by unfold e_count; first | rw [if_pos (by omega)] | rw [if_neg (by omega)]), fun a ha1 ha2 => rfl⟩
  · refine mv_tableIn (tgt := 122) (off := 121) d_TrustDesk_count_1 (by omega) (by omega) (by rw [b1]; rfl) (by decide) ?_
    refine mv_aload_n d_TrustDesk_count_122 rfl rfl ?_
    refine mv_get d_TrustDesk_count_123 f_TrustDesk_19_12 h_64 rfl ?_
    refine mv_get d_TrustDesk_count_126 f_TrustDesk_88_9 h_70 rfl ?_
    exact mv_iret d_TrustDesk_count_129 rfl (by first | rfl | decide) ⟨(by unfold e_count; first | rw [if_pos (by omega)] | rw [if_neg (by omega)]), fun a ha1 ha2 => rfl⟩
  · refine mv_tableIn (tgt := 130) (off := 129) d_TrustDesk_count_1 (by omega) (by omega) (by rw [b1]; rfl) (by decide) ?_
    refine mv_aload_n d_TrustDesk_count_130 rfl rfl ?_
    refine mv_get d_TrustDesk_count_131 f_TrustDesk_509_12 h_64 rfl ?_
    exact mv_iret d_TrustDesk_count_134 rfl (by first | rfl | decide) ⟨(by unfold e_count; first | rw [if_pos (by omega)] | rw [if_neg (by omega)]), fun a ha1 ha2 => rfl⟩
  · refine mv_tableIn (tgt := 135) (off := 134) d_TrustDesk_count_1 (by omega) (by omega) (by rw [b1]; rfl) (by decide) ?_
    refine mv_aload_n d_TrustDesk_count_135 rfl rfl ?_
    refine mv_callV_s (kc' := 0) (ks' := 0) [] [.ref 64] d_TrustDesk_count_136 lV_TrustDesk_518 h_64 rfl (c_TrustDesk_schemesMade_0 (d := d) (h_64 := h_64) (h_97 := h_97)) rfl (Nat.le_of_ble_eq_true rfl) (Nat.le_of_ble_eq_true rfl) (Nat.le_of_ble_eq_true rfl) rfl ?_
    exact mv_iret d_TrustDesk_count_139 rfl (by first | rfl | decide) ⟨(by unfold e_count; first | rw [if_pos (by omega)] | rw [if_neg (by omega)]), fun a ha1 ha2 => rfl⟩
  · refine mv_tableIn (tgt := 140) (off := 139) d_TrustDesk_count_1 (by omega) (by omega) (by rw [b1]; rfl) (by decide) ?_
    refine mv_aload_n d_TrustDesk_count_140 rfl rfl ?_
    refine mv_callV_s (kc' := 0) (ks' := 0) [] [.ref 64] d_TrustDesk_count_141 lV_TrustDesk_521 h_64 rfl (c_TrustDesk_fundsNotJoined_0 (d := d) (h_64 := h_64) (h_95 := h_95)) rfl (Nat.le_of_ble_eq_true rfl) (Nat.le_of_ble_eq_true rfl) (Nat.le_of_ble_eq_true rfl) rfl ?_
    exact mv_iret d_TrustDesk_count_144 rfl (by first | rfl | decide) ⟨(by unfold e_count; first | rw [if_pos (by omega)] | rw [if_neg (by omega)]), fun a ha1 ha2 => rfl⟩
