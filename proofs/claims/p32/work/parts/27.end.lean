abbrev kY_TrustDeskModel_readEnd : mj_Y := (⟨"TrustDeskModel", "readEnd", "(I)V"⟩, prog_14_method_37_code, 2, (Option.none : Option Jvm.ClassFile.FieldType))
theorem d_TrustDeskModel_readEnd_0 : decode kY_TrustDeskModel_readEnd.2.1 0 = .ok (.aload_n 0, 1) := by decide +kernel
theorem d_TrustDeskModel_readEnd_1 : decode kY_TrustDeskModel_readEnd.2.1 1 = .ok (.getfield 198, 3) := by decide +kernel
theorem d_TrustDeskModel_readEnd_4 : decode kY_TrustDeskModel_readEnd.2.1 4 = .ok (.iconst 3, 1) := by decide +kernel
theorem d_TrustDeskModel_readEnd_5 : decode kY_TrustDeskModel_readEnd.2.1 5 = .ok (.if_icmp .ne 17, 3) := by decide +kernel
theorem d_TrustDeskModel_readEnd_22 : decode kY_TrustDeskModel_readEnd.2.1 22 = .ok (.aload_n 0, 1) := by decide +kernel
theorem d_TrustDeskModel_readEnd_23 : decode kY_TrustDeskModel_readEnd.2.1 23 = .ok (.iconst 1, 1) := by decide +kernel
theorem d_TrustDeskModel_readEnd_24 : decode kY_TrustDeskModel_readEnd.2.1 24 = .ok (.invokevirtual 240, 3) := by decide +kernel
theorem d_TrustDeskModel_readEnd_27 : decode kY_TrustDeskModel_readEnd.2.1 27 = .ok (.goto 15, 3) := by decide +kernel
theorem d_TrustDeskModel_readEnd_42 : decode kY_TrustDeskModel_readEnd.2.1 42 = .ok (.aload_n 0, 1) := by decide +kernel
theorem d_TrustDeskModel_readEnd_43 : decode kY_TrustDeskModel_readEnd.2.1 43 = .ok (.invokevirtual 230, 3) := by decide +kernel
theorem d_TrustDeskModel_readEnd_46 : decode kY_TrustDeskModel_readEnd.2.1 46 = .ok (.ifCond .ne 4, 3) := by decide +kernel
theorem d_TrustDeskModel_readEnd_49 : decode kY_TrustDeskModel_readEnd.2.1 49 = .ok (.return_, 1) := by decide +kernel
theorem d_TrustDeskModel_readEnd_8 : decode kY_TrustDeskModel_readEnd.2.1 8 = .ok (.aload_n 0, 1) := by decide +kernel
theorem d_TrustDeskModel_readEnd_9 : decode kY_TrustDeskModel_readEnd.2.1 9 = .ok (.getfield 192, 3) := by decide +kernel
theorem d_TrustDeskModel_readEnd_12 : decode kY_TrustDeskModel_readEnd.2.1 12 = .ok (.aload_n 0, 1) := by decide +kernel
theorem d_TrustDeskModel_readEnd_13 : decode kY_TrustDeskModel_readEnd.2.1 13 = .ok (.getfield 195, 3) := by decide +kernel
theorem d_TrustDeskModel_readEnd_16 : decode kY_TrustDeskModel_readEnd.2.1 16 = .ok (.isub, 1) := by decide +kernel
theorem d_TrustDeskModel_readEnd_17 : decode kY_TrustDeskModel_readEnd.2.1 17 = .ok (.bipush 8, 2) := by decide +kernel
theorem d_TrustDeskModel_readEnd_19 : decode kY_TrustDeskModel_readEnd.2.1 19 = .ok (.if_icmp .le 11, 3) := by decide +kernel
theorem d_TrustDeskModel_readEnd_30 : decode kY_TrustDeskModel_readEnd.2.1 30 = .ok (.aload_n 0, 1) := by decide +kernel
theorem d_TrustDeskModel_readEnd_31 : decode kY_TrustDeskModel_readEnd.2.1 31 = .ok (.invokevirtual 324, 3) := by decide +kernel
theorem lV_TrustDeskModel_324 : mj_lV "TrustDeskModel" 324 kY_TrustDeskModel_isThere 0 := ⟨⟨(mj_in1 (List.mem_of_getElem? (i := 1806) (by decide +kernel)) rfl), (mj_in1 (List.mem_of_getElem? (i := 10) (by decide +kernel)) rfl), (mj_in1 (List.mem_of_getElem? (i := 1809) (by decide +kernel)) rfl), by decide, rfl, by decide⟩, (mj_in1 (List.mem_of_getElem? (i := 1808) (by decide +kernel)) rfl), (mj_in (List.mem_append_left _ (List.mem_of_getElem? (i := 108) (by decide +kernel))) rfl)⟩
theorem d_TrustDeskModel_readEnd_34 : decode kY_TrustDeskModel_readEnd.2.1 34 = .ok (.ifCond .eq 8, 3) := by decide +kernel
theorem d_TrustDeskModel_readEnd_50 : decode kY_TrustDeskModel_readEnd.2.1 50 = .ok (.aload_n 0, 1) := by decide +kernel
theorem d_TrustDeskModel_readEnd_51 : decode kY_TrustDeskModel_readEnd.2.1 51 = .ok (.getfield 51, 3) := by decide +kernel
theorem d_TrustDeskModel_readEnd_54 : decode kY_TrustDeskModel_readEnd.2.1 54 = .ok (.aload_n 0, 1) := by decide +kernel
theorem d_TrustDeskModel_readEnd_55 : decode kY_TrustDeskModel_readEnd.2.1 55 = .ok (.getfield 321, 3) := by decide +kernel
theorem d_TrustDeskModel_readEnd_58 : decode kY_TrustDeskModel_readEnd.2.1 58 = .ok (.aload_n 0, 1) := by decide +kernel
theorem d_TrustDeskModel_readEnd_59 : decode kY_TrustDeskModel_readEnd.2.1 59 = .ok (.getfield 195, 3) := by decide +kernel
theorem d_TrustDeskModel_readEnd_62 : decode kY_TrustDeskModel_readEnd.2.1 62 = .ok (.iastore, 1) := by decide +kernel
theorem d_TrustDeskModel_readEnd_63 : decode kY_TrustDeskModel_readEnd.2.1 63 = .ok (.aload_n 0, 1) := by decide +kernel
theorem d_TrustDeskModel_readEnd_64 : decode kY_TrustDeskModel_readEnd.2.1 64 = .ok (.getfield 54, 3) := by decide +kernel
theorem d_TrustDeskModel_readEnd_67 : decode kY_TrustDeskModel_readEnd.2.1 67 = .ok (.aload_n 0, 1) := by decide +kernel
theorem d_TrustDeskModel_readEnd_68 : decode kY_TrustDeskModel_readEnd.2.1 68 = .ok (.getfield 321, 3) := by decide +kernel
theorem d_TrustDeskModel_readEnd_71 : decode kY_TrustDeskModel_readEnd.2.1 71 = .ok (.aload_n 0, 1) := by decide +kernel
theorem d_TrustDeskModel_readEnd_72 : decode kY_TrustDeskModel_readEnd.2.1 72 = .ok (.getfield 192, 3) := by decide +kernel
theorem d_TrustDeskModel_readEnd_75 : decode kY_TrustDeskModel_readEnd.2.1 75 = .ok (.aload_n 0, 1) := by decide +kernel
theorem d_TrustDeskModel_readEnd_76 : decode kY_TrustDeskModel_readEnd.2.1 76 = .ok (.getfield 195, 3) := by decide +kernel
theorem d_TrustDeskModel_readEnd_79 : decode kY_TrustDeskModel_readEnd.2.1 79 = .ok (.isub, 1) := by decide +kernel
theorem d_TrustDeskModel_readEnd_80 : decode kY_TrustDeskModel_readEnd.2.1 80 = .ok (.iastore, 1) := by decide +kernel
theorem d_TrustDeskModel_readEnd_81 : decode kY_TrustDeskModel_readEnd.2.1 81 = .ok (.aload_n 0, 1) := by decide +kernel
theorem d_TrustDeskModel_readEnd_82 : decode kY_TrustDeskModel_readEnd.2.1 82 = .ok (.getfield 29, 3) := by decide +kernel
theorem d_TrustDeskModel_readEnd_85 : decode kY_TrustDeskModel_readEnd.2.1 85 = .ok (.iload_n 1, 1) := by decide +kernel
theorem d_TrustDeskModel_readEnd_86 : decode kY_TrustDeskModel_readEnd.2.1 86 = .ok (.aload_n 0, 1) := by decide +kernel
theorem d_TrustDeskModel_readEnd_87 : decode kY_TrustDeskModel_readEnd.2.1 87 = .ok (.getfield 192, 3) := by decide +kernel
theorem d_TrustDeskModel_readEnd_90 : decode kY_TrustDeskModel_readEnd.2.1 90 = .ok (.aload_n 0, 1) := by decide +kernel
theorem d_TrustDeskModel_readEnd_91 : decode kY_TrustDeskModel_readEnd.2.1 91 = .ok (.getfield 195, 3) := by decide +kernel
theorem d_TrustDeskModel_readEnd_94 : decode kY_TrustDeskModel_readEnd.2.1 94 = .ok (.isub, 1) := by decide +kernel
theorem d_TrustDeskModel_readEnd_95 : decode kY_TrustDeskModel_readEnd.2.1 95 = .ok (.iastore, 1) := by decide +kernel
theorem d_TrustDeskModel_readEnd_96 : decode kY_TrustDeskModel_readEnd.2.1 96 = .ok (.aload_n 0, 1) := by decide +kernel
theorem d_TrustDeskModel_readEnd_97 : decode kY_TrustDeskModel_readEnd.2.1 97 = .ok (.dup, 1) := by decide +kernel
theorem d_TrustDeskModel_readEnd_98 : decode kY_TrustDeskModel_readEnd.2.1 98 = .ok (.getfield 321, 3) := by decide +kernel
theorem d_TrustDeskModel_readEnd_101 : decode kY_TrustDeskModel_readEnd.2.1 101 = .ok (.iconst 1, 1) := by decide +kernel
theorem d_TrustDeskModel_readEnd_102 : decode kY_TrustDeskModel_readEnd.2.1 102 = .ok (.iadd, 1) := by decide +kernel
theorem d_TrustDeskModel_readEnd_103 : decode kY_TrustDeskModel_readEnd.2.1 103 = .ok (.putfield 321, 3) := by decide +kernel
theorem d_TrustDeskModel_readEnd_106 : decode kY_TrustDeskModel_readEnd.2.1 106 = .ok (.aload_n 0, 1) := by decide +kernel
theorem d_TrustDeskModel_readEnd_107 : decode kY_TrustDeskModel_readEnd.2.1 107 = .ok (.invokevirtual 237, 3) := by decide +kernel
theorem d_TrustDeskModel_readEnd_110 : decode kY_TrustDeskModel_readEnd.2.1 110 = .ok (.aload_n 0, 1) := by decide +kernel
theorem d_TrustDeskModel_readEnd_111 : decode kY_TrustDeskModel_readEnd.2.1 111 = .ok (.ldc_w 327, 3) := by decide +kernel
theorem d_TrustDeskModel_readEnd_114 : decode kY_TrustDeskModel_readEnd.2.1 114 = .ok (.invokevirtual 329, 3) := by decide +kernel
abbrev kY_TrustDeskModel_wantWord : mj_Y := (⟨"TrustDeskModel", "wantWord", "(Ljava/lang/String;)V"⟩, prog_14_method_22_code, 2, (Option.none : Option Jvm.ClassFile.FieldType))
theorem d_TrustDeskModel_wantWord_0 : decode kY_TrustDeskModel_wantWord.2.1 0 = .ok (.aload_n 0, 1) := by decide +kernel
theorem d_TrustDeskModel_wantWord_1 : decode kY_TrustDeskModel_wantWord.2.1 1 = .ok (.invokevirtual 230, 3) := by decide +kernel
theorem d_TrustDeskModel_wantWord_4 : decode kY_TrustDeskModel_wantWord.2.1 4 = .ok (.ifCond .ne 4, 3) := by decide +kernel
theorem d_TrustDeskModel_wantWord_7 : decode kY_TrustDeskModel_wantWord.2.1 7 = .ok (.return_, 1) := by decide +kernel
theorem d_TrustDeskModel_wantWord_8 : decode kY_TrustDeskModel_wantWord.2.1 8 = .ok (.aload_n 0, 1) := by decide +kernel
theorem d_TrustDeskModel_wantWord_9 : decode kY_TrustDeskModel_wantWord.2.1 9 = .ok (.aload_n 1, 1) := by decide +kernel
theorem d_TrustDeskModel_wantWord_10 : decode kY_TrustDeskModel_wantWord.2.1 10 = .ok (.invokevirtual 244, 3) := by decide +kernel
def w_TrustDeskModel_isWord_s1_45_x : List Nat := []
set_option maxHeartbeats 100000000 in theorem tc_TrustDeskModel_isWord_s1_45_x {g : mj_G} {l : Launch} {d : Nat} {T0 : tm_H} {M0 : mj_M} {n0 x9 : Nat} {o0 : Nat} (h_o0 : T0 o0 = some (0, 13, 0)) (yR : rI M0 o0) (I0 : tm_I tm_FT (tm_in w_TrustDeskModel_isWord_s1_45_x) x9 T0 M0 n0 T0 M0 n0) : mj_Met g l kY_TrustDeskModel_isWord (d + 4) [.ref o0, .ref 45] M0 n0 0 0 (tm_Q tm_FT (tm_in w_TrustDeskModel_isWord_s1_45_x) x9 T0 M0 n0 (fun r _ M => ∃ v : Int32, r = some (.int v) ∧ 0 ≤ v.toInt ∧ v.toInt ≤ 1 ∧ rI M o0 ∧ (v.toInt = 1 → rv M0 o0 17 = 3) ∧ (v.toInt = 1 → rv M0 o0 17 = 3 ∧ rv M0 o0 15 - rv M0 o0 16 = 4 ∧ ra M0 o0 13 ((rv M0 o0 16).toNat + 0) = 112 ∧ ra M0 o0 13 ((rv M0 o0 16).toNat + 1) = 97 ∧ ra M0 o0 13 ((rv M0 o0 16).toNat + 2) = 121 ∧ ra M0 o0 13 ((rv M0 o0 16).toNat + 3) = 115) ∧ (v.toInt = 0 → ¬ (rv M0 o0 17 = 3 ∧ rv M0 o0 15 - rv M0 o0 16 = 4 ∧ ra M0 o0 13 ((rv M0 o0 16).toNat + 0) = 112 ∧ ra M0 o0 13 ((rv M0 o0 16).toNat + 1) = 97 ∧ ra M0 o0 13 ((rv M0 o0 16).toNat + 2) = 121 ∧ ra M0 o0 13 ((rv M0 o0 16).toNat + 3) = 115)))) := by
  refine mj_enter (by decide) (Nat.le_of_ble_eq_true rfl) ?_
  refine mv_aload_n d_TrustDeskModel_isWord_0 rfl rfl ?_
  obtain ⟨v2, q1⟩ := tm_atI I0 h_o0 (k := 17) rfl
  refine tr_getK q1 d_TrustDeskModel_isWord_1 f_TrustDeskModel_198_13 ?_
  have := tm_rv q1
  refine mv_iconst (v := 3) d_TrustDeskModel_isWord_4 (by decide) ?_
  have := mz_hi v2
  refine mv_icmp_neZ (tgt := 24) (a := v2.toInt) (b := 3) d_TrustDeskModel_isWord_5 (by decide) rfl (by decide) (fun b3 => ?_) (fun b3 => ?_)
  · refine mv_iconst (v := 0) d_TrustDeskModel_isWord_24 (by decide) ?_
    exact mv_iret d_TrustDeskModel_isWord_25 rfl (by decide) ⟨_, I0, _, rfl, by decide, by decide, yR, (fun h => absurd h (by decide)), (fun h => absurd h (by decide)), (fun _ h => by obtain ⟨h1, h2, h3, h4, h5, h6⟩ := h; have := yR.1 15 _ _ rfl; have := yR.1 16 _ _ rfl; have := yR.1 19 _ _ rfl; omega)⟩
  · refine mv_aload_n d_TrustDeskModel_isWord_8 rfl rfl ?_
    obtain ⟨v5, q4⟩ := tm_atI I0 h_o0 (k := 15) rfl
    refine tr_getK q4 d_TrustDeskModel_isWord_9 f_TrustDeskModel_192_13 ?_
    have := yR.f (k := 15) q4 rfl
    have := tm_rv q4
    refine mv_aload_n d_TrustDeskModel_isWord_12 rfl rfl ?_
    obtain ⟨v7, q6⟩ := tm_atI I0 h_o0 (k := 16) rfl
    refine tr_getK q6 d_TrustDeskModel_isWord_13 f_TrustDeskModel_195_13 ?_
    have := yR.f (k := 16) q6 rfl
    have := tm_rv q6
    refine mv_isub d_TrustDeskModel_isWord_16 ?_
    refine mv_aload_n d_TrustDeskModel_isWord_17 rfl rfl ?_
    refine mv_slenK (i := 35) (v := 4) d_TrustDeskModel_isWord_18 lV_TrustDeskModel_214 (by decide) rfl (by decide) (Nat.le_of_ble_eq_true rfl) ?_
    have b8 : (v5 - v7 : Int32).toInt = (v5.toInt - v7.toInt) := mz_sub2 rfl rfl (by have := yR.1 15 _ _ rfl; have := yR.1 16 _ _ rfl; have := yR.1 19 _ _ rfl; omega) (by have := yR.1 15 _ _ rfl; have := yR.1 16 _ _ rfl; have := yR.1 19 _ _ rfl; omega)
    have := mz_hi (v5 - v7)
    refine mv_icmp_eqZ (tgt := 26) (a := (v5 - v7).toInt) (b := 4) d_TrustDeskModel_isWord_21 (by decide) rfl (by decide) (fun b9 => ?_) (fun b9 => ?_)
    · refine mv_iconst (v := 0) d_TrustDeskModel_isWord_26 (by decide) ?_
      refine mv_istore_n (lv' := [(2, .int 0), (0, .ref o0), (1, .ref 45)]) d_TrustDeskModel_isWord_27 rfl (by decide) rfl ?_
      refine mv_iload_n d_TrustDeskModel_isWord_28 rfl rfl ?_
      refine mv_aload_n d_TrustDeskModel_isWord_29 rfl rfl ?_
      refine mv_slenK (i := 35) (v := 4) d_TrustDeskModel_isWord_30 lV_TrustDeskModel_214 (by decide) rfl (by decide) (Nat.le_of_ble_eq_true rfl) ?_
      refine mv_icmp_ge_f (tgt := 63) d_TrustDeskModel_isWord_33 (by decide) (by decide) ?_
      refine mv_aload_n d_TrustDeskModel_isWord_36 rfl rfl ?_
      obtain ⟨a11, q10, t_a11⟩ := tm_atR I0 h_o0 (k := 13) rfl
      refine tr_getK q10 d_TrustDeskModel_isWord_37 f_TrustDeskModel_44_13 ?_
      refine mv_aload_n d_TrustDeskModel_isWord_40 rfl rfl ?_
      refine tr_getK (k := 16) q6 d_TrustDeskModel_isWord_41 f_TrustDeskModel_195_13 ?_
      refine mv_iload_n d_TrustDeskModel_isWord_44 rfl rfl ?_
      refine mv_iadd d_TrustDeskModel_isWord_45 ?_
      have b12 : (v7 + 0 : Int32).toInt = (v7.toInt + 0) := mz_add2 rfl (by decide) (by have := yR.1 15 _ _ rfl; have := yR.1 16 _ _ rfl; have := yR.1 19 _ _ rfl; omega) (by have := yR.1 15 _ _ rfl; have := yR.1 16 _ _ rfl; have := yR.1 19 _ _ rfl; omega)
      refine tr_baldR (o := o0) (k := 13) I0 q10 t_a11 (by decide) d_TrustDeskModel_isWord_46 (vp_in_iff.mpr (by have := yR.1 15 _ _ rfl; have := yR.1 16 _ _ rfl; have := yR.1 19 _ _ rfl; omega)) (fun v13 e14 => ?_)
      have := yR.a (k := 13) rfl ((v7 + 0) : Int32).toNatClampNeg
      have h15 : (v7 + 0).toNatClampNeg = (rv M0 o0 16).toNat + 0 := by have := mz_nat9 (i := (v7 + 0)) (by have := yR.1 15 _ _ rfl; have := yR.1 16 _ _ rfl; have := yR.1 19 _ _ rfl; omega); have := yR.1 15 _ _ rfl; have := yR.1 16 _ _ rfl; have := yR.1 19 _ _ rfl; omega
      have : v13.toInt = ra M0 o0 13 ((rv M0 o0 16).toNat + 0) := by rw [e14, h15]
      refine mv_aload_n d_TrustDeskModel_isWord_47 rfl rfl ?_
      refine mv_iload_n d_TrustDeskModel_isWord_48 rfl rfl ?_
      refine mv_schC (i := 35) (v := 112) d_TrustDeskModel_isWord_49 lV_TrustDeskModel_220 (by decide) rfl (by decide) (by decide) (Nat.le_of_ble_eq_true rfl) (by decide) ?_
      have := mz_hi v13
      refine mv_icmp_eqZ (tgt := 57) (a := v13.toInt) (b := 112) d_TrustDeskModel_isWord_52 (by decide) rfl (by decide) (fun b16 => ?_) (fun b16 => ?_)
      · refine mv_iinc (v := 1) (lv' := [(2, .int 1), (0, .ref o0), (1, .ref 45)]) d_TrustDeskModel_isWord_57 rfl (by decide) (by decide) rfl ?_
        refine mv_goto (tgt := 28) d_TrustDeskModel_isWord_60 (by decide) ?_
        refine mv_iload_n d_TrustDeskModel_isWord_28 rfl rfl ?_
        refine mv_aload_n d_TrustDeskModel_isWord_29 rfl rfl ?_
        refine mv_slenK (i := 35) (v := 4) d_TrustDeskModel_isWord_30 lV_TrustDeskModel_214 (by decide) rfl (by decide) (Nat.le_of_ble_eq_true rfl) ?_
        refine mv_icmp_ge_f (tgt := 63) d_TrustDeskModel_isWord_33 (by decide) (by decide) ?_
        refine mv_aload_n d_TrustDeskModel_isWord_36 rfl rfl ?_
        refine tr_getK (k := 13) q10 d_TrustDeskModel_isWord_37 f_TrustDeskModel_44_13 ?_
        refine mv_aload_n d_TrustDeskModel_isWord_40 rfl rfl ?_
        refine tr_getK (k := 16) q6 d_TrustDeskModel_isWord_41 f_TrustDeskModel_195_13 ?_
        refine mv_iload_n d_TrustDeskModel_isWord_44 rfl rfl ?_
        refine mv_iadd d_TrustDeskModel_isWord_45 ?_
        have b17 : (v7 + 1 : Int32).toInt = (v7.toInt + 1) := mz_add2 rfl (by decide) (by have := yR.1 15 _ _ rfl; have := yR.1 16 _ _ rfl; have := yR.1 19 _ _ rfl; omega) (by have := yR.1 15 _ _ rfl; have := yR.1 16 _ _ rfl; have := yR.1 19 _ _ rfl; omega)
        refine tr_baldR (o := o0) (k := 13) I0 q10 t_a11 (by decide) d_TrustDeskModel_isWord_46 (vp_in_iff.mpr (by have := yR.1 15 _ _ rfl; have := yR.1 16 _ _ rfl; have := yR.1 19 _ _ rfl; omega)) (fun v18 e19 => ?_)
        have := yR.a (k := 13) rfl ((v7 + 1) : Int32).toNatClampNeg
        have h20 : (v7 + 1).toNatClampNeg = (rv M0 o0 16).toNat + 1 := by have := mz_nat9 (i := (v7 + 1)) (by have := yR.1 15 _ _ rfl; have := yR.1 16 _ _ rfl; have := yR.1 19 _ _ rfl; omega); have := yR.1 15 _ _ rfl; have := yR.1 16 _ _ rfl; have := yR.1 19 _ _ rfl; omega
        have : v18.toInt = ra M0 o0 13 ((rv M0 o0 16).toNat + 1) := by rw [e19, h20]
        refine mv_aload_n d_TrustDeskModel_isWord_47 rfl rfl ?_
        refine mv_iload_n d_TrustDeskModel_isWord_48 rfl rfl ?_
        refine mv_schC (i := 35) (v := 97) d_TrustDeskModel_isWord_49 lV_TrustDeskModel_220 (by decide) rfl (by decide) (by decide) (Nat.le_of_ble_eq_true rfl) (by decide) ?_
        have := mz_hi v18
        refine mv_icmp_eqZ (tgt := 57) (a := v18.toInt) (b := 97) d_TrustDeskModel_isWord_52 (by decide) rfl (by decide) (fun b21 => ?_) (fun b21 => ?_)
        · refine mv_iinc (v := 2) (lv' := [(2, .int 2), (0, .ref o0), (1, .ref 45)]) d_TrustDeskModel_isWord_57 rfl (by decide) (by decide) rfl ?_
          refine mv_goto (tgt := 28) d_TrustDeskModel_isWord_60 (by decide) ?_
          refine mv_iload_n d_TrustDeskModel_isWord_28 rfl rfl ?_
          refine mv_aload_n d_TrustDeskModel_isWord_29 rfl rfl ?_
          refine mv_slenK (i := 35) (v := 4) d_TrustDeskModel_isWord_30 lV_TrustDeskModel_214 (by decide) rfl (by decide) (Nat.le_of_ble_eq_true rfl) ?_
          refine mv_icmp_ge_f (tgt := 63) d_TrustDeskModel_isWord_33 (by decide) (by decide) ?_
          refine mv_aload_n d_TrustDeskModel_isWord_36 rfl rfl ?_
          refine tr_getK (k := 13) q10 d_TrustDeskModel_isWord_37 f_TrustDeskModel_44_13 ?_
          refine mv_aload_n d_TrustDeskModel_isWord_40 rfl rfl ?_
          refine tr_getK (k := 16) q6 d_TrustDeskModel_isWord_41 f_TrustDeskModel_195_13 ?_
          refine mv_iload_n d_TrustDeskModel_isWord_44 rfl rfl ?_
          refine mv_iadd d_TrustDeskModel_isWord_45 ?_
          have b22 : (v7 + 2 : Int32).toInt = (v7.toInt + 2) := mz_add2 rfl (by decide) (by have := yR.1 15 _ _ rfl; have := yR.1 16 _ _ rfl; have := yR.1 19 _ _ rfl; omega) (by have := yR.1 15 _ _ rfl; have := yR.1 16 _ _ rfl; have := yR.1 19 _ _ rfl; omega)
          refine tr_baldR (o := o0) (k := 13) I0 q10 t_a11 (by decide) d_TrustDeskModel_isWord_46 (vp_in_iff.mpr (by have := yR.1 15 _ _ rfl; have := yR.1 16 _ _ rfl; have := yR.1 19 _ _ rfl; omega)) (fun v23 e24 => ?_)
          have := yR.a (k := 13) rfl ((v7 + 2) : Int32).toNatClampNeg
          have h25 : (v7 + 2).toNatClampNeg = (rv M0 o0 16).toNat + 2 := by have := mz_nat9 (i := (v7 + 2)) (by have := yR.1 15 _ _ rfl; have := yR.1 16 _ _ rfl; have := yR.1 19 _ _ rfl; omega); have := yR.1 15 _ _ rfl; have := yR.1 16 _ _ rfl; have := yR.1 19 _ _ rfl; omega
          have : v23.toInt = ra M0 o0 13 ((rv M0 o0 16).toNat + 2) := by rw [e24, h25]
          refine mv_aload_n d_TrustDeskModel_isWord_47 rfl rfl ?_
          refine mv_iload_n d_TrustDeskModel_isWord_48 rfl rfl ?_
          refine mv_schC (i := 35) (v := 121) d_TrustDeskModel_isWord_49 lV_TrustDeskModel_220 (by decide) rfl (by decide) (by decide) (Nat.le_of_ble_eq_true rfl) (by decide) ?_
          have := mz_hi v23
          refine mv_icmp_eqZ (tgt := 57) (a := v23.toInt) (b := 121) d_TrustDeskModel_isWord_52 (by decide) rfl (by decide) (fun b26 => ?_) (fun b26 => ?_)
          · refine mv_iinc (v := 3) (lv' := [(2, .int 3), (0, .ref o0), (1, .ref 45)]) d_TrustDeskModel_isWord_57 rfl (by decide) (by decide) rfl ?_
            refine mv_goto (tgt := 28) d_TrustDeskModel_isWord_60 (by decide) ?_
            refine mv_iload_n d_TrustDeskModel_isWord_28 rfl rfl ?_
            refine mv_aload_n d_TrustDeskModel_isWord_29 rfl rfl ?_
            refine mv_slenK (i := 35) (v := 4) d_TrustDeskModel_isWord_30 lV_TrustDeskModel_214 (by decide) rfl (by decide) (Nat.le_of_ble_eq_true rfl) ?_
            refine mv_icmp_ge_f (tgt := 63) d_TrustDeskModel_isWord_33 (by decide) (by decide) ?_
            refine mv_aload_n d_TrustDeskModel_isWord_36 rfl rfl ?_
            refine tr_getK (k := 13) q10 d_TrustDeskModel_isWord_37 f_TrustDeskModel_44_13 ?_
            refine mv_aload_n d_TrustDeskModel_isWord_40 rfl rfl ?_
            refine tr_getK (k := 16) q6 d_TrustDeskModel_isWord_41 f_TrustDeskModel_195_13 ?_
            refine mv_iload_n d_TrustDeskModel_isWord_44 rfl rfl ?_
            refine mv_iadd d_TrustDeskModel_isWord_45 ?_
            have b27 : (v7 + 3 : Int32).toInt = (v7.toInt + 3) := mz_add2 rfl (by decide) (by have := yR.1 15 _ _ rfl; have := yR.1 16 _ _ rfl; have := yR.1 19 _ _ rfl; omega) (by have := yR.1 15 _ _ rfl; have := yR.1 16 _ _ rfl; have := yR.1 19 _ _ rfl; omega)
            refine tr_baldR (o := o0) (k := 13) I0 q10 t_a11 (by decide) d_TrustDeskModel_isWord_46 (vp_in_iff.mpr (by have := yR.1 15 _ _ rfl; have := yR.1 16 _ _ rfl; have := yR.1 19 _ _ rfl; omega)) (fun v28 e29 => ?_)
            have := yR.a (k := 13) rfl ((v7 + 3) : Int32).toNatClampNeg
            have h30 : (v7 + 3).toNatClampNeg = (rv M0 o0 16).toNat + 3 := by have := mz_nat9 (i := (v7 + 3)) (by have := yR.1 15 _ _ rfl; have := yR.1 16 _ _ rfl; have := yR.1 19 _ _ rfl; omega); have := yR.1 15 _ _ rfl; have := yR.1 16 _ _ rfl; have := yR.1 19 _ _ rfl; omega
            have : v28.toInt = ra M0 o0 13 ((rv M0 o0 16).toNat + 3) := by rw [e29, h30]
            refine mv_aload_n d_TrustDeskModel_isWord_47 rfl rfl ?_
            refine mv_iload_n d_TrustDeskModel_isWord_48 rfl rfl ?_
            refine mv_schC (i := 35) (v := 115) d_TrustDeskModel_isWord_49 lV_TrustDeskModel_220 (by decide) rfl (by decide) (by decide) (Nat.le_of_ble_eq_true rfl) (by decide) ?_
            have := mz_hi v28
            refine mv_icmp_eqZ (tgt := 57) (a := v28.toInt) (b := 115) d_TrustDeskModel_isWord_52 (by decide) rfl (by decide) (fun b31 => ?_) (fun b31 => ?_)
            · refine mv_iinc (v := 4) (lv' := [(2, .int 4), (0, .ref o0), (1, .ref 45)]) d_TrustDeskModel_isWord_57 rfl (by decide) (by decide) rfl ?_
              refine mv_goto (tgt := 28) d_TrustDeskModel_isWord_60 (by decide) ?_
              refine mv_iload_n d_TrustDeskModel_isWord_28 rfl rfl ?_
              refine mv_aload_n d_TrustDeskModel_isWord_29 rfl rfl ?_
              refine mv_slenK (i := 35) (v := 4) d_TrustDeskModel_isWord_30 lV_TrustDeskModel_214 (by decide) rfl (by decide) (Nat.le_of_ble_eq_true rfl) ?_
              refine mv_icmp_ge_t (tgt := 63) d_TrustDeskModel_isWord_33 (by decide) (by decide) ?_
              refine mv_iconst (v := 1) d_TrustDeskModel_isWord_63 (by decide) ?_
              exact mv_iret d_TrustDeskModel_isWord_64 rfl (by decide) ⟨_, I0, _, rfl, by decide, by decide, yR, (fun _ => by have := yR.1 15 _ _ rfl; have := yR.1 16 _ _ rfl; have := yR.1 19 _ _ rfl; omega), (fun _ => ⟨by have := yR.1 15 _ _ rfl; have := yR.1 16 _ _ rfl; have := yR.1 19 _ _ rfl; omega, by have := yR.1 15 _ _ rfl; have := yR.1 16 _ _ rfl; have := yR.1 19 _ _ rfl; omega, by have := yR.1 15 _ _ rfl; have := yR.1 16 _ _ rfl; have := yR.1 19 _ _ rfl; omega, by have := yR.1 15 _ _ rfl; have := yR.1 16 _ _ rfl; have := yR.1 19 _ _ rfl; omega, by have := yR.1 15 _ _ rfl; have := yR.1 16 _ _ rfl; have := yR.1 19 _ _ rfl; omega, by have := yR.1 15 _ _ rfl; have := yR.1 16 _ _ rfl; have := yR.1 19 _ _ rfl; omega⟩), (fun h => absurd h (by decide))⟩
            · refine mv_iconst (v := 0) d_TrustDeskModel_isWord_55 (by decide) ?_
              exact mv_iret d_TrustDeskModel_isWord_56 rfl (by decide) ⟨_, I0, _, rfl, by decide, by decide, yR, (fun h => absurd h (by decide)), (fun h => absurd h (by decide)), (fun _ h => by obtain ⟨h1, h2, h3, h4, h5, h6⟩ := h; have := yR.1 15 _ _ rfl; have := yR.1 16 _ _ rfl; have := yR.1 19 _ _ rfl; omega)⟩
          · refine mv_iconst (v := 0) d_TrustDeskModel_isWord_55 (by decide) ?_
            exact mv_iret d_TrustDeskModel_isWord_56 rfl (by decide) ⟨_, I0, _, rfl, by decide, by decide, yR, (fun h => absurd h (by decide)), (fun h => absurd h (by decide)), (fun _ h => by obtain ⟨h1, h2, h3, h4, h5, h6⟩ := h; have := yR.1 15 _ _ rfl; have := yR.1 16 _ _ rfl; have := yR.1 19 _ _ rfl; omega)⟩
        · refine mv_iconst (v := 0) d_TrustDeskModel_isWord_55 (by decide) ?_
          exact mv_iret d_TrustDeskModel_isWord_56 rfl (by decide) ⟨_, I0, _, rfl, by decide, by decide, yR, (fun h => absurd h (by decide)), (fun h => absurd h (by decide)), (fun _ h => by obtain ⟨h1, h2, h3, h4, h5, h6⟩ := h; have := yR.1 15 _ _ rfl; have := yR.1 16 _ _ rfl; have := yR.1 19 _ _ rfl; omega)⟩
      · refine mv_iconst (v := 0) d_TrustDeskModel_isWord_55 (by decide) ?_
        exact mv_iret d_TrustDeskModel_isWord_56 rfl (by decide) ⟨_, I0, _, rfl, by decide, by decide, yR, (fun h => absurd h (by decide)), (fun h => absurd h (by decide)), (fun _ h => by obtain ⟨h1, h2, h3, h4, h5, h6⟩ := h; have := yR.1 15 _ _ rfl; have := yR.1 16 _ _ rfl; have := yR.1 19 _ _ rfl; omega)⟩
    · refine mv_iconst (v := 0) d_TrustDeskModel_isWord_24 (by decide) ?_
      exact mv_iret d_TrustDeskModel_isWord_25 rfl (by decide) ⟨_, I0, _, rfl, by decide, by decide, yR, (fun h => absurd h (by decide)), (fun h => absurd h (by decide)), (fun _ h => by obtain ⟨h1, h2, h3, h4, h5, h6⟩ := h; have := yR.1 15 _ _ rfl; have := yR.1 16 _ _ rfl; have := yR.1 19 _ _ rfl; omega)⟩
theorem d_TrustDeskModel_wantWord_13 : decode kY_TrustDeskModel_wantWord.2.1 13 = .ok (.ifCond .eq 10, 3) := by decide +kernel
theorem d_TrustDeskModel_wantWord_23 : decode kY_TrustDeskModel_wantWord.2.1 23 = .ok (.aload_n 0, 1) := by decide +kernel
theorem d_TrustDeskModel_wantWord_24 : decode kY_TrustDeskModel_wantWord.2.1 24 = .ok (.iconst 1, 1) := by decide +kernel
theorem d_TrustDeskModel_wantWord_25 : decode kY_TrustDeskModel_wantWord.2.1 25 = .ok (.invokevirtual 240, 3) := by decide +kernel
theorem d_TrustDeskModel_wantWord_28 : decode kY_TrustDeskModel_wantWord.2.1 28 = .ok (.return_, 1) := by decide +kernel
theorem d_TrustDeskModel_wantWord_16 : decode kY_TrustDeskModel_wantWord.2.1 16 = .ok (.aload_n 0, 1) := by decide +kernel
theorem d_TrustDeskModel_wantWord_17 : decode kY_TrustDeskModel_wantWord.2.1 17 = .ok (.invokevirtual 237, 3) := by decide +kernel
theorem d_TrustDeskModel_wantWord_20 : decode kY_TrustDeskModel_wantWord.2.1 20 = .ok (.goto 8, 3) := by decide +kernel
def w_TrustDeskModel_wantWord_s1_45_x : List Nat := [1315, 1316, 1317, 1318, 1319, 1320]
set_option maxHeartbeats 100000000 in theorem tc_TrustDeskModel_wantWord_s1_45_x {g : mj_G} {l : Launch} {d : Nat} {T0 : tm_H} {M0 : mj_M} {n0 x9 : Nat} {o0 : Nat} (h_o0 : T0 o0 = some (0, 13, 0)) (yR : rI M0 o0) (yT : rT M0 o0) (yS : rv M0 o0 19 = 0 → ra M0 o0 5 44 ≤ rv M0 o0 16) {pb : Nat → Int} {pn : Nat} {pa : Int} {ps : p_S} (yO : pO M0 o0 pb pn pa ps) (I0 : tm_I tm_FT (tm_in w_TrustDeskModel_wantWord_s1_45_x) x9 T0 M0 n0 T0 M0 n0) : mj_Met g l kY_TrustDeskModel_wantWord (d + 5) [.ref o0, .ref 45] M0 n0 0 0 (tm_Q tm_FT (tm_in w_TrustDeskModel_wantWord_s1_45_x) x9 T0 M0 n0 (fun r _ M => r = none ∧ rI M o0 ∧ (rE M0 M o0 0 1) ∧ (pO M o0 pb pn pa (p_wd pb pn 27 ps)))) := by
  refine mj_enter (by decide) (Nat.le_of_ble_eq_true rfl) ?_
  have yE0 := rE.rf yT
  have := yO.w
  refine mv_aload_n d_TrustDeskModel_wantWord_0 rfl rfl ?_
  obtain ⟨_, b1, -⟩ := I0.1 _ _ h_o0
  refine mv_callV (kc1 := 0) (ks1 := 0) (kc' := 0) (ks' := 0) (As := []) (st9 := [.ref o0]) d_TrustDeskModel_wantWord_1 lV_TrustDeskModel_230 b1 rfl (mj_enter (by decide) (Nat.le_of_ble_eq_true rfl) ?_) rfl (Nat.le_of_ble_eq_true rfl) (Nat.le_of_ble_eq_true rfl) (Nat.le_of_ble_eq_true rfl) (hst := rfl) (fun _ _ _ h => h)
  refine mv_aload_n d_TrustDeskModel_isWell_0 rfl rfl ?_
  obtain ⟨v3, q2⟩ := tm_atI I0 h_o0 (k := 19) rfl
  refine tr_getK q2 d_TrustDeskModel_isWell_1 f_TrustDeskModel_224_13 ?_
  have := yR.f (k := 19) q2 rfl
  have := tm_rv q2
  have := mz_hi v3
  refine mv_if_neZ (tgt := 11) (a := v3.toInt) d_TrustDeskModel_isWell_4 (by decide) rfl (fun b4 => ?_) (fun b4 => ?_)
  · refine mv_iconst (v := 0) d_TrustDeskModel_isWell_11 (by decide) ?_
    refine mv_iret d_TrustDeskModel_isWell_12 rfl (by decide) ?_
    refine mv_if_ne_f (tgt := 8) d_TrustDeskModel_wantWord_4 (by decide) (by decide) ?_
    exact mv_vret d_TrustDeskModel_wantWord_7 rfl ⟨_, I0, rfl, yR, yE0.vac (by have := yR.1 15 _ _ rfl; have := yR.1 16 _ _ rfl; have := yR.1 19 _ _ rfl; have := yE0.f yS; omega) 0 1, (by first | (rw [show p_wd pb pn 27 ps = ps from (by unfold p_wd; skip; ((repeat' (first | (with_reducible rfl) | split)) <;> (exfalso; omega)))]; exact yO) | (exfalso; have := yR.1 15 _ _ rfl; have := yR.1 16 _ _ rfl; have := yR.1 19 _ _ rfl; have := yE0.f yS; omega))⟩
  · refine mv_iconst (v := 1) d_TrustDeskModel_isWell_7 (by decide) ?_
    refine mv_goto (tgt := 12) d_TrustDeskModel_isWell_8 (by decide) ?_
    refine mv_iret d_TrustDeskModel_isWell_12 rfl (by decide) ?_
    refine mv_if_ne_t (tgt := 8) d_TrustDeskModel_wantWord_4 (by decide) (by decide) ?_
    refine mv_aload_n d_TrustDeskModel_wantWord_8 rfl rfl ?_
    refine mv_aload_n d_TrustDeskModel_wantWord_9 rfl rfl ?_
    obtain ⟨_, b11, -⟩ := I0.1 _ _ h_o0
    refine mv_callV (kc' := 0) (ks' := 0) (As := [.ref 45]) (st9 := [.ref 45, .ref o0]) d_TrustDeskModel_wantWord_10 lV_TrustDeskModel_244 b11 rfl (tc_TrustDeskModel_isWord_s1_45_x (d := d) (x9 := x9) (o0 := o0) h_o0 yR I0.start) rfl (Nat.le_of_ble_eq_true rfl) (Nat.le_of_ble_eq_true rfl) (Nat.le_of_ble_eq_true rfl) (hst := rfl) (fun b5r M6 n7 b5 => ?_)
    obtain ⟨T8, J9, v12, rfl, b13, b14, R15, f16, f17, f18⟩ := b5
    have I10 := I0.call J9 (tm_sub (by decide)) (Or.inl rfl)
    have t19 := J9.up h_o0
    replace f17 := Im.i f17
    replace f18 := Im.i f18
    have z20 := (rv_c I0 J9 (I0.up h_o0) (k := 16) rfl)
    have z21 := (rv_c I0 J9 (I0.up h_o0) (k := 17) rfl)
    have z22 := (rv_c I0 J9 (I0.up h_o0) (k := 19) rfl)
    have z23 := (rv_c I0 J9 (I0.up h_o0) (k := 22) rfl)
    have E24 : rE M0 M6 o0 0 0 := yE0.same (rE_hv I0 J9 (I0.up h_o0) 15 19 (by decide)) (rE_ha I0 J9 (I0.up h_o0) (by decide))
    have Z925 : pO M6 o0 pb pn pa ps := yO.same (rE_hv I0 J9 (I0.up h_o0) 14 20 (by decide)) (rv_c I0 J9 (I0.up h_o0) (k := 23) rfl) (ra_call I0 J9 (I0.up h_o0) (k := 13) rfl rfl rfl)
    have d26 := Im.i (pO.w_27 yO (by have := yR.1 15 _ _ rfl; have := yR.1 16 _ _ rfl; have := yR.1 19 _ _ rfl; have := yE0.f yS; omega) (Im.o f17) (Im.o f18) (by have := yR.1 15 _ _ rfl; have := yR.1 16 _ _ rfl; have := yR.1 19 _ _ rfl; have := yE0.f yS; omega))
    have q27 := J9.keep h_o0 (by decide) q2
    have := mz_hi v12
    refine mv_if_eqZ (tgt := 23) (a := v12.toInt) d_TrustDeskModel_wantWord_13 (by decide) rfl (fun b28 => ?_) (fun b28 => ?_)
    · refine mv_aload_n d_TrustDeskModel_wantWord_23 rfl rfl ?_
      refine mv_iconst (v := 1) d_TrustDeskModel_wantWord_24 (by decide) ?_
      obtain ⟨_, b35, -⟩ := I10.1 _ _ t19
      have : (1 : Int32).toInt = 1 := by decide
      refine mv_callV (kc' := 0) (ks' := 0) (As := [.int 1]) (st9 := [.int 1, .ref o0]) d_TrustDeskModel_wantWord_25 lV_TrustDeskModel_240 b35 rfl (tc_TrustDeskModel_fails_x (d := (d + 4)) (x9 := x9) (o0 := o0) (x1 := 1) t19 R15 (by decide) Z925 I10.start) rfl (Nat.le_of_ble_eq_true rfl) (Nat.le_of_ble_eq_true rfl) (Nat.le_of_ble_eq_true rfl) (hst := rfl) (fun b29r M30 n31 b29 => ?_)
      obtain ⟨T32, J33, rfl, R36, f37, f38⟩ := b29
      have I34 := I10.call J33 (tm_sub (by decide)) (Or.inl rfl)
      have t39 := J33.up t19
      have z40 := (rv_c I10 J33 (I10.up h_o0) (k := 16) rfl).trans z20
      have z41 := (rv_c I10 J33 (I10.up h_o0) (k := 17) rfl).trans z21
      have z42 := (rv_c I10 J33 (I10.up h_o0) (k := 22) rfl).trans z23
      have E43 : rE M0 M30 o0 0 0 := E24.fails (rE_hv I10 J33 (I10.up h_o0) 15 18 (by decide)) (rE_ha I10 J33 (I10.up h_o0) (by decide)) f37 0 0
      rw [show (1 : Int32).toInt = 1 from by decide] at f38
      obtain ⟨s44, e45⟩ : ∃ s9 : p_S, p_fl pb pn 1 ps = s9 := ⟨_, rfl⟩
      rw [e45] at f38
      have := f38.w
      clear z20 z21 z23
      exact mv_vret d_TrustDeskModel_wantWord_28 rfl ⟨_, I34, rfl, R36, E43.vac (by have := R36.1 15 _ _ rfl; have := R36.1 16 _ _ rfl; have := R36.1 19 _ _ rfl; have := E43.f yS; omega) 0 1, (by first | (have := pW0 (Im.o d26) (by omega); have := Z925.wk; rw [show p_wd pb pn 27 ps = s44 from (by unfold p_wd; (try simp only [e45]); ((repeat' (first | (with_reducible rfl) | split)) <;> (exfalso; omega)))]; exact f38) | (exfalso; have := R36.1 15 _ _ rfl; have := R36.1 16 _ _ rfl; have := R36.1 19 _ _ rfl; have := E43.f yS; omega))⟩
    · refine mv_aload_n d_TrustDeskModel_wantWord_16 rfl rfl ?_
      obtain ⟨_, b52, -⟩ := I10.1 _ _ t19
      refine mv_callV (kc' := 0) (ks' := 0) (As := []) (st9 := [.ref o0]) d_TrustDeskModel_wantWord_17 lV_TrustDeskModel_237 b52 rfl (tc_TrustDeskModel_next_x (d := (d + 3)) (x9 := x9) (o0 := o0) t19 R15 Z925.p I10.start) rfl (Nat.le_of_ble_eq_true rfl) (Nat.le_of_ble_eq_true rfl) (Nat.le_of_ble_eq_true rfl) (hst := rfl) (fun b46r M47 n48 b46 => ?_)
      obtain ⟨T49, J50, rfl, R53, f54, f55, f56⟩ := b46
      have I51 := I10.call J50 (tm_sub (by decide)) (Or.inl rfl)
      have t57 := J50.up t19
      have z58 := (rv_c I10 J50 (I10.up h_o0) (k := 19) rfl).trans z22
      have z59 := (rv_c I10 J50 (I10.up h_o0) (k := 22) rfl).trans z23
      have h61 : rv M6 o0 16 + 1 ≤ rv M6 o0 15 := (by have := R15.1 15 _ _ rfl; have := R15.1 16 _ _ rfl; have := R15.1 19 _ _ rfl; have := E24.f yS; omega)
      have E60 : rE M0 M47 o0 0 1 := E24.next f54 f55 (rv_c I10 J50 (I10.up h_o0) (k := 19) rfl) (rE_ha I10 J50 (I10.up h_o0) (by decide)) (e := 1) h61 (by decide)
      obtain ⟨s62, e63⟩ : ∃ s9 : p_S, p_nx ps = s9 := ⟨_, rfl⟩
      rw [e63] at f56
      have := f56.w
      clear z22 z23
      have q64 := J50.keep t19 (by decide) q27
      refine mv_goto (tgt := 28) d_TrustDeskModel_wantWord_20 (by decide) ?_
      exact mv_vret d_TrustDeskModel_wantWord_28 rfl ⟨_, I51, rfl, R53, E60, (by first | (have := pW1 (Im.o d26) (by omega); have := Z925.wk; rw [show p_wd pb pn 27 ps = s62 from (by unfold p_wd; (try simp only [e63]); ((repeat' (first | (with_reducible rfl) | split)) <;> (exfalso; omega)))]; exact f56) | (exfalso; have := R53.1 15 _ _ rfl; have := R53.1 16 _ _ rfl; have := R53.1 19 _ _ rfl; have := E60.f yS; omega))⟩
theorem lV_TrustDeskModel_329 : mj_lV "TrustDeskModel" 329 kY_TrustDeskModel_wantWord 1 := ⟨⟨(mj_in1 (List.mem_of_getElem? (i := 1700) (by decide +kernel)) rfl), (mj_in1 (List.mem_of_getElem? (i := 10) (by decide +kernel)) rfl), (mj_in1 (List.mem_of_getElem? (i := 1703) (by decide +kernel)) rfl), by decide, rfl, by decide⟩, (mj_in1 (List.mem_of_getElem? (i := 1702) (by decide +kernel)) rfl), (mj_in (List.mem_append_left _ (List.mem_of_getElem? (i := 89) (by decide +kernel))) rfl)⟩
theorem d_TrustDeskModel_readEnd_117 : decode kY_TrustDeskModel_readEnd.2.1 117 = .ok (.aload_n 0, 1) := by decide +kernel
theorem d_TrustDeskModel_readEnd_118 : decode kY_TrustDeskModel_readEnd.2.1 118 = .ok (.invokevirtual 288, 3) := by decide +kernel
theorem d_TrustDeskModel_readEnd_121 : decode kY_TrustDeskModel_readEnd.2.1 121 = .ok (.aload_n 0, 1) := by decide +kernel
theorem d_TrustDeskModel_readEnd_122 : decode kY_TrustDeskModel_readEnd.2.1 122 = .ok (.getfield 38, 3) := by decide +kernel
theorem f_TrustDeskModel_38_13 : mj_fl "TrustDeskModel" 38 13 11 := ⟨kR_TrustDeskModel, kF_TrustDeskModel, 72, "TrustDeskModel", rfl, kg_13, by decide, (mj_in1 (List.mem_of_getElem? (i := 1397) (by decide +kernel)) rfl), Or.inl rfl⟩
theorem d_TrustDeskModel_readEnd_125 : decode kY_TrustDeskModel_readEnd.2.1 125 = .ok (.iload_n 1, 1) := by decide +kernel
theorem d_TrustDeskModel_readEnd_126 : decode kY_TrustDeskModel_readEnd.2.1 126 = .ok (.aload_n 0, 1) := by decide +kernel
theorem d_TrustDeskModel_readEnd_127 : decode kY_TrustDeskModel_readEnd.2.1 127 = .ok (.getfield 20, 3) := by decide +kernel
theorem d_TrustDeskModel_readEnd_130 : decode kY_TrustDeskModel_readEnd.2.1 130 = .ok (.bipush 44, 2) := by decide +kernel
theorem d_TrustDeskModel_readEnd_132 : decode kY_TrustDeskModel_readEnd.2.1 132 = .ok (.iaload, 1) := by decide +kernel
theorem d_TrustDeskModel_readEnd_133 : decode kY_TrustDeskModel_readEnd.2.1 133 = .ok (.iastore, 1) := by decide +kernel
theorem d_TrustDeskModel_readEnd_134 : decode kY_TrustDeskModel_readEnd.2.1 134 = .ok (.aload_n 0, 1) := by decide +kernel
theorem d_TrustDeskModel_readEnd_135 : decode kY_TrustDeskModel_readEnd.2.1 135 = .ok (.ldc_w 333, 3) := by decide +kernel
theorem d_TrustDeskModel_readEnd_138 : decode kY_TrustDeskModel_readEnd.2.1 138 = .ok (.invokevirtual 329, 3) := by decide +kernel
def w_TrustDeskModel_isWord_s1_25_x : List Nat := []
set_option maxHeartbeats 100000000 in theorem tc_TrustDeskModel_isWord_s1_25_x {g : mj_G} {l : Launch} {d : Nat} {T0 : tm_H} {M0 : mj_M} {n0 x9 : Nat} {o0 : Nat} (h_o0 : T0 o0 = some (0, 13, 0)) (yR : rI M0 o0) (I0 : tm_I tm_FT (tm_in w_TrustDeskModel_isWord_s1_25_x) x9 T0 M0 n0 T0 M0 n0) : mj_Met g l kY_TrustDeskModel_isWord (d + 4) [.ref o0, .ref 25] M0 n0 0 0 (tm_Q tm_FT (tm_in w_TrustDeskModel_isWord_s1_25_x) x9 T0 M0 n0 (fun r _ M => ∃ v : Int32, r = some (.int v) ∧ 0 ≤ v.toInt ∧ v.toInt ≤ 1 ∧ rI M o0 ∧ (v.toInt = 1 → rv M0 o0 17 = 3) ∧ (v.toInt = 1 → rv M0 o0 17 = 3 ∧ rv M0 o0 15 - rv M0 o0 16 = 2 ∧ ra M0 o0 13 ((rv M0 o0 16).toNat + 0) = 105 ∧ ra M0 o0 13 ((rv M0 o0 16).toNat + 1) = 102) ∧ (v.toInt = 0 → ¬ (rv M0 o0 17 = 3 ∧ rv M0 o0 15 - rv M0 o0 16 = 2 ∧ ra M0 o0 13 ((rv M0 o0 16).toNat + 0) = 105 ∧ ra M0 o0 13 ((rv M0 o0 16).toNat + 1) = 102)))) := by
  refine mj_enter (by decide) (Nat.le_of_ble_eq_true rfl) ?_
  refine mv_aload_n d_TrustDeskModel_isWord_0 rfl rfl ?_
  obtain ⟨v2, q1⟩ := tm_atI I0 h_o0 (k := 17) rfl
  refine tr_getK q1 d_TrustDeskModel_isWord_1 f_TrustDeskModel_198_13 ?_
  have := tm_rv q1
  refine mv_iconst (v := 3) d_TrustDeskModel_isWord_4 (by decide) ?_
  have := mz_hi v2
  refine mv_icmp_neZ (tgt := 24) (a := v2.toInt) (b := 3) d_TrustDeskModel_isWord_5 (by decide) rfl (by decide) (fun b3 => ?_) (fun b3 => ?_)
  · refine mv_iconst (v := 0) d_TrustDeskModel_isWord_24 (by decide) ?_
    exact mv_iret d_TrustDeskModel_isWord_25 rfl (by decide) ⟨_, I0, _, rfl, by decide, by decide, yR, (fun h => absurd h (by decide)), (fun h => absurd h (by decide)), (fun _ h => by obtain ⟨h1, h2, h3, h4⟩ := h; have := yR.1 15 _ _ rfl; have := yR.1 16 _ _ rfl; have := yR.1 19 _ _ rfl; omega)⟩
  · refine mv_aload_n d_TrustDeskModel_isWord_8 rfl rfl ?_
    obtain ⟨v5, q4⟩ := tm_atI I0 h_o0 (k := 15) rfl
    refine tr_getK q4 d_TrustDeskModel_isWord_9 f_TrustDeskModel_192_13 ?_
    have := yR.f (k := 15) q4 rfl
    have := tm_rv q4
    refine mv_aload_n d_TrustDeskModel_isWord_12 rfl rfl ?_
    obtain ⟨v7, q6⟩ := tm_atI I0 h_o0 (k := 16) rfl
    refine tr_getK q6 d_TrustDeskModel_isWord_13 f_TrustDeskModel_195_13 ?_
    have := yR.f (k := 16) q6 rfl
    have := tm_rv q6
    refine mv_isub d_TrustDeskModel_isWord_16 ?_
    refine mv_aload_n d_TrustDeskModel_isWord_17 rfl rfl ?_
    refine mv_slenK (i := 15) (v := 2) d_TrustDeskModel_isWord_18 lV_TrustDeskModel_214 (by decide) rfl (by decide) (Nat.le_of_ble_eq_true rfl) ?_
    have b8 : (v5 - v7 : Int32).toInt = (v5.toInt - v7.toInt) := mz_sub2 rfl rfl (by have := yR.1 15 _ _ rfl; have := yR.1 16 _ _ rfl; have := yR.1 19 _ _ rfl; omega) (by have := yR.1 15 _ _ rfl; have := yR.1 16 _ _ rfl; have := yR.1 19 _ _ rfl; omega)
    have := mz_hi (v5 - v7)
    refine mv_icmp_eqZ (tgt := 26) (a := (v5 - v7).toInt) (b := 2) d_TrustDeskModel_isWord_21 (by decide) rfl (by decide) (fun b9 => ?_) (fun b9 => ?_)
    · refine mv_iconst (v := 0) d_TrustDeskModel_isWord_26 (by decide) ?_
      refine mv_istore_n (lv' := [(2, .int 0), (0, .ref o0), (1, .ref 25)]) d_TrustDeskModel_isWord_27 rfl (by decide) rfl ?_
      refine mv_iload_n d_TrustDeskModel_isWord_28 rfl rfl ?_
      refine mv_aload_n d_TrustDeskModel_isWord_29 rfl rfl ?_
      refine mv_slenK (i := 15) (v := 2) d_TrustDeskModel_isWord_30 lV_TrustDeskModel_214 (by decide) rfl (by decide) (Nat.le_of_ble_eq_true rfl) ?_
      refine mv_icmp_ge_f (tgt := 63) d_TrustDeskModel_isWord_33 (by decide) (by decide) ?_
      refine mv_aload_n d_TrustDeskModel_isWord_36 rfl rfl ?_
      obtain ⟨a11, q10, t_a11⟩ := tm_atR I0 h_o0 (k := 13) rfl
      refine tr_getK q10 d_TrustDeskModel_isWord_37 f_TrustDeskModel_44_13 ?_
      refine mv_aload_n d_TrustDeskModel_isWord_40 rfl rfl ?_
      refine tr_getK (k := 16) q6 d_TrustDeskModel_isWord_41 f_TrustDeskModel_195_13 ?_
      refine mv_iload_n d_TrustDeskModel_isWord_44 rfl rfl ?_
      refine mv_iadd d_TrustDeskModel_isWord_45 ?_
      have b12 : (v7 + 0 : Int32).toInt = (v7.toInt + 0) := mz_add2 rfl (by decide) (by have := yR.1 15 _ _ rfl; have := yR.1 16 _ _ rfl; have := yR.1 19 _ _ rfl; omega) (by have := yR.1 15 _ _ rfl; have := yR.1 16 _ _ rfl; have := yR.1 19 _ _ rfl; omega)
      refine tr_baldR (o := o0) (k := 13) I0 q10 t_a11 (by decide) d_TrustDeskModel_isWord_46 (vp_in_iff.mpr (by have := yR.1 15 _ _ rfl; have := yR.1 16 _ _ rfl; have := yR.1 19 _ _ rfl; omega)) (fun v13 e14 => ?_)
      have := yR.a (k := 13) rfl ((v7 + 0) : Int32).toNatClampNeg
      have h15 : (v7 + 0).toNatClampNeg = (rv M0 o0 16).toNat + 0 := by have := mz_nat9 (i := (v7 + 0)) (by have := yR.1 15 _ _ rfl; have := yR.1 16 _ _ rfl; have := yR.1 19 _ _ rfl; omega); have := yR.1 15 _ _ rfl; have := yR.1 16 _ _ rfl; have := yR.1 19 _ _ rfl; omega
      have : v13.toInt = ra M0 o0 13 ((rv M0 o0 16).toNat + 0) := by rw [e14, h15]
      refine mv_aload_n d_TrustDeskModel_isWord_47 rfl rfl ?_
      refine mv_iload_n d_TrustDeskModel_isWord_48 rfl rfl ?_
      refine mv_schC (i := 15) (v := 105) d_TrustDeskModel_isWord_49 lV_TrustDeskModel_220 (by decide) rfl (by decide) (by decide) (Nat.le_of_ble_eq_true rfl) (by decide) ?_
      have := mz_hi v13
      refine mv_icmp_eqZ (tgt := 57) (a := v13.toInt) (b := 105) d_TrustDeskModel_isWord_52 (by decide) rfl (by decide) (fun b16 => ?_) (fun b16 => ?_)
      · refine mv_iinc (v := 1) (lv' := [(2, .int 1), (0, .ref o0), (1, .ref 25)]) d_TrustDeskModel_isWord_57 rfl (by decide) (by decide) rfl ?_
        refine mv_goto (tgt := 28) d_TrustDeskModel_isWord_60 (by decide) ?_
        refine mv_iload_n d_TrustDeskModel_isWord_28 rfl rfl ?_
        refine mv_aload_n d_TrustDeskModel_isWord_29 rfl rfl ?_
        refine mv_slenK (i := 15) (v := 2) d_TrustDeskModel_isWord_30 lV_TrustDeskModel_214 (by decide) rfl (by decide) (Nat.le_of_ble_eq_true rfl) ?_
        refine mv_icmp_ge_f (tgt := 63) d_TrustDeskModel_isWord_33 (by decide) (by decide) ?_
        refine mv_aload_n d_TrustDeskModel_isWord_36 rfl rfl ?_
        refine tr_getK (k := 13) q10 d_TrustDeskModel_isWord_37 f_TrustDeskModel_44_13 ?_
        refine mv_aload_n d_TrustDeskModel_isWord_40 rfl rfl ?_
        refine tr_getK (k := 16) q6 d_TrustDeskModel_isWord_41 f_TrustDeskModel_195_13 ?_
        refine mv_iload_n d_TrustDeskModel_isWord_44 rfl rfl ?_
        refine mv_iadd d_TrustDeskModel_isWord_45 ?_
        have b17 : (v7 + 1 : Int32).toInt = (v7.toInt + 1) := mz_add2 rfl (by decide) (by have := yR.1 15 _ _ rfl; have := yR.1 16 _ _ rfl; have := yR.1 19 _ _ rfl; omega) (by have := yR.1 15 _ _ rfl; have := yR.1 16 _ _ rfl; have := yR.1 19 _ _ rfl; omega)
        refine tr_baldR (o := o0) (k := 13) I0 q10 t_a11 (by decide) d_TrustDeskModel_isWord_46 (vp_in_iff.mpr (by have := yR.1 15 _ _ rfl; have := yR.1 16 _ _ rfl; have := yR.1 19 _ _ rfl; omega)) (fun v18 e19 => ?_)
        have := yR.a (k := 13) rfl ((v7 + 1) : Int32).toNatClampNeg
        have h20 : (v7 + 1).toNatClampNeg = (rv M0 o0 16).toNat + 1 := by have := mz_nat9 (i := (v7 + 1)) (by have := yR.1 15 _ _ rfl; have := yR.1 16 _ _ rfl; have := yR.1 19 _ _ rfl; omega); have := yR.1 15 _ _ rfl; have := yR.1 16 _ _ rfl; have := yR.1 19 _ _ rfl; omega
        have : v18.toInt = ra M0 o0 13 ((rv M0 o0 16).toNat + 1) := by rw [e19, h20]
        refine mv_aload_n d_TrustDeskModel_isWord_47 rfl rfl ?_
        refine mv_iload_n d_TrustDeskModel_isWord_48 rfl rfl ?_
        refine mv_schC (i := 15) (v := 102) d_TrustDeskModel_isWord_49 lV_TrustDeskModel_220 (by decide) rfl (by decide) (by decide) (Nat.le_of_ble_eq_true rfl) (by decide) ?_
        have := mz_hi v18
        refine mv_icmp_eqZ (tgt := 57) (a := v18.toInt) (b := 102) d_TrustDeskModel_isWord_52 (by decide) rfl (by decide) (fun b21 => ?_) (fun b21 => ?_)
        · refine mv_iinc (v := 2) (lv' := [(2, .int 2), (0, .ref o0), (1, .ref 25)]) d_TrustDeskModel_isWord_57 rfl (by decide) (by decide) rfl ?_
          refine mv_goto (tgt := 28) d_TrustDeskModel_isWord_60 (by decide) ?_
          refine mv_iload_n d_TrustDeskModel_isWord_28 rfl rfl ?_
          refine mv_aload_n d_TrustDeskModel_isWord_29 rfl rfl ?_
          refine mv_slenK (i := 15) (v := 2) d_TrustDeskModel_isWord_30 lV_TrustDeskModel_214 (by decide) rfl (by decide) (Nat.le_of_ble_eq_true rfl) ?_
          refine mv_icmp_ge_t (tgt := 63) d_TrustDeskModel_isWord_33 (by decide) (by decide) ?_
          refine mv_iconst (v := 1) d_TrustDeskModel_isWord_63 (by decide) ?_
          exact mv_iret d_TrustDeskModel_isWord_64 rfl (by decide) ⟨_, I0, _, rfl, by decide, by decide, yR, (fun _ => by have := yR.1 15 _ _ rfl; have := yR.1 16 _ _ rfl; have := yR.1 19 _ _ rfl; omega), (fun _ => ⟨by have := yR.1 15 _ _ rfl; have := yR.1 16 _ _ rfl; have := yR.1 19 _ _ rfl; omega, by have := yR.1 15 _ _ rfl; have := yR.1 16 _ _ rfl; have := yR.1 19 _ _ rfl; omega, by have := yR.1 15 _ _ rfl; have := yR.1 16 _ _ rfl; have := yR.1 19 _ _ rfl; omega, by have := yR.1 15 _ _ rfl; have := yR.1 16 _ _ rfl; have := yR.1 19 _ _ rfl; omega⟩), (fun h => absurd h (by decide))⟩
        · refine mv_iconst (v := 0) d_TrustDeskModel_isWord_55 (by decide) ?_
          exact mv_iret d_TrustDeskModel_isWord_56 rfl (by decide) ⟨_, I0, _, rfl, by decide, by decide, yR, (fun h => absurd h (by decide)), (fun h => absurd h (by decide)), (fun _ h => by obtain ⟨h1, h2, h3, h4⟩ := h; have := yR.1 15 _ _ rfl; have := yR.1 16 _ _ rfl; have := yR.1 19 _ _ rfl; omega)⟩
      · refine mv_iconst (v := 0) d_TrustDeskModel_isWord_55 (by decide) ?_
        exact mv_iret d_TrustDeskModel_isWord_56 rfl (by decide) ⟨_, I0, _, rfl, by decide, by decide, yR, (fun h => absurd h (by decide)), (fun h => absurd h (by decide)), (fun _ h => by obtain ⟨h1, h2, h3, h4⟩ := h; have := yR.1 15 _ _ rfl; have := yR.1 16 _ _ rfl; have := yR.1 19 _ _ rfl; omega)⟩
    · refine mv_iconst (v := 0) d_TrustDeskModel_isWord_24 (by decide) ?_
      exact mv_iret d_TrustDeskModel_isWord_25 rfl (by decide) ⟨_, I0, _, rfl, by decide, by decide, yR, (fun h => absurd h (by decide)), (fun h => absurd h (by decide)), (fun _ h => by obtain ⟨h1, h2, h3, h4⟩ := h; have := yR.1 15 _ _ rfl; have := yR.1 16 _ _ rfl; have := yR.1 19 _ _ rfl; omega)⟩
def w_TrustDeskModel_wantWord_s1_25_x : List Nat := [1315, 1316, 1317, 1318, 1319, 1320]
set_option maxHeartbeats 100000000 in theorem tc_TrustDeskModel_wantWord_s1_25_x {g : mj_G} {l : Launch} {d : Nat} {T0 : tm_H} {M0 : mj_M} {n0 x9 : Nat} {o0 : Nat} (h_o0 : T0 o0 = some (0, 13, 0)) (yR : rI M0 o0) (yT : rT M0 o0) (yS : rv M0 o0 19 = 0 → ra M0 o0 5 44 ≤ rv M0 o0 16) {pb : Nat → Int} {pn : Nat} {pa : Int} {ps : p_S} (yO : pO M0 o0 pb pn pa ps) (I0 : tm_I tm_FT (tm_in w_TrustDeskModel_wantWord_s1_25_x) x9 T0 M0 n0 T0 M0 n0) : mj_Met g l kY_TrustDeskModel_wantWord (d + 5) [.ref o0, .ref 25] M0 n0 0 0 (tm_Q tm_FT (tm_in w_TrustDeskModel_wantWord_s1_25_x) x9 T0 M0 n0 (fun r _ M => r = none ∧ rI M o0 ∧ (rE M0 M o0 0 1) ∧ (pO M o0 pb pn pa (p_wd pb pn 28 ps)))) := by
  refine mj_enter (by decide) (Nat.le_of_ble_eq_true rfl) ?_
  have yE0 := rE.rf yT
  have := yO.w
  refine mv_aload_n d_TrustDeskModel_wantWord_0 rfl rfl ?_
  obtain ⟨_, b1, -⟩ := I0.1 _ _ h_o0
  refine mv_callV (kc1 := 0) (ks1 := 0) (kc' := 0) (ks' := 0) (As := []) (st9 := [.ref o0]) d_TrustDeskModel_wantWord_1 lV_TrustDeskModel_230 b1 rfl (mj_enter (by decide) (Nat.le_of_ble_eq_true rfl) ?_) rfl (Nat.le_of_ble_eq_true rfl) (Nat.le_of_ble_eq_true rfl) (Nat.le_of_ble_eq_true rfl) (hst := rfl) (fun _ _ _ h => h)
  refine mv_aload_n d_TrustDeskModel_isWell_0 rfl rfl ?_
  obtain ⟨v3, q2⟩ := tm_atI I0 h_o0 (k := 19) rfl
  refine tr_getK q2 d_TrustDeskModel_isWell_1 f_TrustDeskModel_224_13 ?_
  have := yR.f (k := 19) q2 rfl
  have := tm_rv q2
  have := mz_hi v3
  refine mv_if_neZ (tgt := 11) (a := v3.toInt) d_TrustDeskModel_isWell_4 (by decide) rfl (fun b4 => ?_) (fun b4 => ?_)
  · refine mv_iconst (v := 0) d_TrustDeskModel_isWell_11 (by decide) ?_
    refine mv_iret d_TrustDeskModel_isWell_12 rfl (by decide) ?_
    refine mv_if_ne_f (tgt := 8) d_TrustDeskModel_wantWord_4 (by decide) (by decide) ?_
    exact mv_vret d_TrustDeskModel_wantWord_7 rfl ⟨_, I0, rfl, yR, yE0.vac (by have := yR.1 15 _ _ rfl; have := yR.1 16 _ _ rfl; have := yR.1 19 _ _ rfl; have := yE0.f yS; omega) 0 1, (by first | (rw [show p_wd pb pn 28 ps = ps from (by unfold p_wd; skip; ((repeat' (first | (with_reducible rfl) | split)) <;> (exfalso; omega)))]; exact yO) | (exfalso; have := yR.1 15 _ _ rfl; have := yR.1 16 _ _ rfl; have := yR.1 19 _ _ rfl; have := yE0.f yS; omega))⟩
  · refine mv_iconst (v := 1) d_TrustDeskModel_isWell_7 (by decide) ?_
    refine mv_goto (tgt := 12) d_TrustDeskModel_isWell_8 (by decide) ?_
    refine mv_iret d_TrustDeskModel_isWell_12 rfl (by decide) ?_
    refine mv_if_ne_t (tgt := 8) d_TrustDeskModel_wantWord_4 (by decide) (by decide) ?_
    refine mv_aload_n d_TrustDeskModel_wantWord_8 rfl rfl ?_
    refine mv_aload_n d_TrustDeskModel_wantWord_9 rfl rfl ?_
    obtain ⟨_, b11, -⟩ := I0.1 _ _ h_o0
    refine mv_callV (kc' := 0) (ks' := 0) (As := [.ref 25]) (st9 := [.ref 25, .ref o0]) d_TrustDeskModel_wantWord_10 lV_TrustDeskModel_244 b11 rfl (tc_TrustDeskModel_isWord_s1_25_x (d := d) (x9 := x9) (o0 := o0) h_o0 yR I0.start) rfl (Nat.le_of_ble_eq_true rfl) (Nat.le_of_ble_eq_true rfl) (Nat.le_of_ble_eq_true rfl) (hst := rfl) (fun b5r M6 n7 b5 => ?_)
    obtain ⟨T8, J9, v12, rfl, b13, b14, R15, f16, f17, f18⟩ := b5
    have I10 := I0.call J9 (tm_sub (by decide)) (Or.inl rfl)
    have t19 := J9.up h_o0
    replace f17 := Im.i f17
    replace f18 := Im.i f18
    have z20 := (rv_c I0 J9 (I0.up h_o0) (k := 16) rfl)
    have z21 := (rv_c I0 J9 (I0.up h_o0) (k := 17) rfl)
    have z22 := (rv_c I0 J9 (I0.up h_o0) (k := 19) rfl)
    have z23 := (rv_c I0 J9 (I0.up h_o0) (k := 22) rfl)
    have E24 : rE M0 M6 o0 0 0 := yE0.same (rE_hv I0 J9 (I0.up h_o0) 15 19 (by decide)) (rE_ha I0 J9 (I0.up h_o0) (by decide))
    have Z925 : pO M6 o0 pb pn pa ps := yO.same (rE_hv I0 J9 (I0.up h_o0) 14 20 (by decide)) (rv_c I0 J9 (I0.up h_o0) (k := 23) rfl) (ra_call I0 J9 (I0.up h_o0) (k := 13) rfl rfl rfl)
    have d26 := Im.i (pO.w_28 yO (by have := yR.1 15 _ _ rfl; have := yR.1 16 _ _ rfl; have := yR.1 19 _ _ rfl; have := yE0.f yS; omega) (Im.o f17) (Im.o f18) (by have := yR.1 15 _ _ rfl; have := yR.1 16 _ _ rfl; have := yR.1 19 _ _ rfl; have := yE0.f yS; omega))
    have q27 := J9.keep h_o0 (by decide) q2
    have := mz_hi v12
    refine mv_if_eqZ (tgt := 23) (a := v12.toInt) d_TrustDeskModel_wantWord_13 (by decide) rfl (fun b28 => ?_) (fun b28 => ?_)
    · refine mv_aload_n d_TrustDeskModel_wantWord_23 rfl rfl ?_
      refine mv_iconst (v := 1) d_TrustDeskModel_wantWord_24 (by decide) ?_
      obtain ⟨_, b35, -⟩ := I10.1 _ _ t19
      have : (1 : Int32).toInt = 1 := by decide
      refine mv_callV (kc' := 0) (ks' := 0) (As := [.int 1]) (st9 := [.int 1, .ref o0]) d_TrustDeskModel_wantWord_25 lV_TrustDeskModel_240 b35 rfl (tc_TrustDeskModel_fails_x (d := (d + 4)) (x9 := x9) (o0 := o0) (x1 := 1) t19 R15 (by decide) Z925 I10.start) rfl (Nat.le_of_ble_eq_true rfl) (Nat.le_of_ble_eq_true rfl) (Nat.le_of_ble_eq_true rfl) (hst := rfl) (fun b29r M30 n31 b29 => ?_)
      obtain ⟨T32, J33, rfl, R36, f37, f38⟩ := b29
      have I34 := I10.call J33 (tm_sub (by decide)) (Or.inl rfl)
      have t39 := J33.up t19
      have z40 := (rv_c I10 J33 (I10.up h_o0) (k := 16) rfl).trans z20
      have z41 := (rv_c I10 J33 (I10.up h_o0) (k := 17) rfl).trans z21
      have z42 := (rv_c I10 J33 (I10.up h_o0) (k := 22) rfl).trans z23
      have E43 : rE M0 M30 o0 0 0 := E24.fails (rE_hv I10 J33 (I10.up h_o0) 15 18 (by decide)) (rE_ha I10 J33 (I10.up h_o0) (by decide)) f37 0 0
      rw [show (1 : Int32).toInt = 1 from by decide] at f38
      obtain ⟨s44, e45⟩ : ∃ s9 : p_S, p_fl pb pn 1 ps = s9 := ⟨_, rfl⟩
      rw [e45] at f38
      have := f38.w
      clear z20 z21 z23
      exact mv_vret d_TrustDeskModel_wantWord_28 rfl ⟨_, I34, rfl, R36, E43.vac (by have := R36.1 15 _ _ rfl; have := R36.1 16 _ _ rfl; have := R36.1 19 _ _ rfl; have := E43.f yS; omega) 0 1, (by first | (have := pW0 (Im.o d26) (by omega); have := Z925.wk; rw [show p_wd pb pn 28 ps = s44 from (by unfold p_wd; (try simp only [e45]); ((repeat' (first | (with_reducible rfl) | split)) <;> (exfalso; omega)))]; exact f38) | (exfalso; have := R36.1 15 _ _ rfl; have := R36.1 16 _ _ rfl; have := R36.1 19 _ _ rfl; have := E43.f yS; omega))⟩
    · refine mv_aload_n d_TrustDeskModel_wantWord_16 rfl rfl ?_
      obtain ⟨_, b52, -⟩ := I10.1 _ _ t19
      refine mv_callV (kc' := 0) (ks' := 0) (As := []) (st9 := [.ref o0]) d_TrustDeskModel_wantWord_17 lV_TrustDeskModel_237 b52 rfl (tc_TrustDeskModel_next_x (d := (d + 3)) (x9 := x9) (o0 := o0) t19 R15 Z925.p I10.start) rfl (Nat.le_of_ble_eq_true rfl) (Nat.le_of_ble_eq_true rfl) (Nat.le_of_ble_eq_true rfl) (hst := rfl) (fun b46r M47 n48 b46 => ?_)
      obtain ⟨T49, J50, rfl, R53, f54, f55, f56⟩ := b46
      have I51 := I10.call J50 (tm_sub (by decide)) (Or.inl rfl)
      have t57 := J50.up t19
      have z58 := (rv_c I10 J50 (I10.up h_o0) (k := 19) rfl).trans z22
      have z59 := (rv_c I10 J50 (I10.up h_o0) (k := 22) rfl).trans z23
      have h61 : rv M6 o0 16 + 1 ≤ rv M6 o0 15 := (by have := R15.1 15 _ _ rfl; have := R15.1 16 _ _ rfl; have := R15.1 19 _ _ rfl; have := E24.f yS; omega)
      have E60 : rE M0 M47 o0 0 1 := E24.next f54 f55 (rv_c I10 J50 (I10.up h_o0) (k := 19) rfl) (rE_ha I10 J50 (I10.up h_o0) (by decide)) (e := 1) h61 (by decide)
      obtain ⟨s62, e63⟩ : ∃ s9 : p_S, p_nx ps = s9 := ⟨_, rfl⟩
      rw [e63] at f56
      have := f56.w
      clear z22 z23
      have q64 := J50.keep t19 (by decide) q27
      refine mv_goto (tgt := 28) d_TrustDeskModel_wantWord_20 (by decide) ?_
      exact mv_vret d_TrustDeskModel_wantWord_28 rfl ⟨_, I51, rfl, R53, E60, (by first | (have := pW1 (Im.o d26) (by omega); have := Z925.wk; rw [show p_wd pb pn 28 ps = s62 from (by unfold p_wd; (try simp only [e63]); ((repeat' (first | (with_reducible rfl) | split)) <;> (exfalso; omega)))]; exact f56) | (exfalso; have := R53.1 15 _ _ rfl; have := R53.1 16 _ _ rfl; have := R53.1 19 _ _ rfl; have := E60.f yS; omega))⟩
theorem d_TrustDeskModel_readEnd_141 : decode kY_TrustDeskModel_readEnd.2.1 141 = .ok (.aload_n 0, 1) := by decide +kernel
theorem d_TrustDeskModel_readEnd_142 : decode kY_TrustDeskModel_readEnd.2.1 142 = .ok (.invokevirtual 302, 3) := by decide +kernel
theorem d_TrustDeskModel_readEnd_145 : decode kY_TrustDeskModel_readEnd.2.1 145 = .ok (.aload_n 0, 1) := by decide +kernel
theorem d_TrustDeskModel_readEnd_146 : decode kY_TrustDeskModel_readEnd.2.1 146 = .ok (.getfield 32, 3) := by decide +kernel
theorem f_TrustDeskModel_32_13 : mj_fl "TrustDeskModel" 32 13 9 := ⟨kR_TrustDeskModel, kF_TrustDeskModel, 72, "TrustDeskModel", rfl, kg_13, by decide, (mj_in1 (List.mem_of_getElem? (i := 1395) (by decide +kernel)) rfl), Or.inl rfl⟩
theorem d_TrustDeskModel_readEnd_149 : decode kY_TrustDeskModel_readEnd.2.1 149 = .ok (.iload_n 1, 1) := by decide +kernel
theorem d_TrustDeskModel_readEnd_150 : decode kY_TrustDeskModel_readEnd.2.1 150 = .ok (.iconst 0, 1) := by decide +kernel
theorem d_TrustDeskModel_readEnd_151 : decode kY_TrustDeskModel_readEnd.2.1 151 = .ok (.iastore, 1) := by decide +kernel
theorem d_TrustDeskModel_readEnd_152 : decode kY_TrustDeskModel_readEnd.2.1 152 = .ok (.aload_n 0, 1) := by decide +kernel
theorem d_TrustDeskModel_readEnd_153 : decode kY_TrustDeskModel_readEnd.2.1 153 = .ok (.invokevirtual 230, 3) := by decide +kernel
theorem d_TrustDeskModel_readEnd_156 : decode kY_TrustDeskModel_readEnd.2.1 156 = .ok (.ifCond .eq 24, 3) := by decide +kernel
theorem d_TrustDeskModel_readEnd_180 : decode kY_TrustDeskModel_readEnd.2.1 180 = .ok (.return_, 1) := by decide +kernel
theorem d_TrustDeskModel_readEnd_159 : decode kY_TrustDeskModel_readEnd.2.1 159 = .ok (.aload_n 0, 1) := by decide +kernel
theorem d_TrustDeskModel_readEnd_160 : decode kY_TrustDeskModel_readEnd.2.1 160 = .ok (.ldc_w 335, 3) := by decide +kernel
theorem d_TrustDeskModel_readEnd_163 : decode kY_TrustDeskModel_readEnd.2.1 163 = .ok (.invokevirtual 244, 3) := by decide +kernel
def w_TrustDeskModel_isWord_s1_46_x : List Nat := []
set_option maxHeartbeats 100000000 in theorem tc_TrustDeskModel_isWord_s1_46_x {g : mj_G} {l : Launch} {d : Nat} {T0 : tm_H} {M0 : mj_M} {n0 x9 : Nat} {o0 : Nat} (h_o0 : T0 o0 = some (0, 13, 0)) (yR : rI M0 o0) (I0 : tm_I tm_FT (tm_in w_TrustDeskModel_isWord_s1_46_x) x9 T0 M0 n0 T0 M0 n0) : mj_Met g l kY_TrustDeskModel_isWord (d + 4) [.ref o0, .ref 46] M0 n0 0 0 (tm_Q tm_FT (tm_in w_TrustDeskModel_isWord_s1_46_x) x9 T0 M0 n0 (fun r _ M => ∃ v : Int32, r = some (.int v) ∧ 0 ≤ v.toInt ∧ v.toInt ≤ 1 ∧ rI M o0 ∧ (v.toInt = 1 → rv M0 o0 17 = 3) ∧ (v.toInt = 1 → rv M0 o0 17 = 3 ∧ rv M0 o0 15 - rv M0 o0 16 = 4 ∧ ra M0 o0 13 ((rv M0 o0 16).toNat + 0) = 112 ∧ ra M0 o0 13 ((rv M0 o0 16).toNat + 1) = 97 ∧ ra M0 o0 13 ((rv M0 o0 16).toNat + 2) = 114 ∧ ra M0 o0 13 ((rv M0 o0 16).toNat + 3) = 116) ∧ (v.toInt = 0 → ¬ (rv M0 o0 17 = 3 ∧ rv M0 o0 15 - rv M0 o0 16 = 4 ∧ ra M0 o0 13 ((rv M0 o0 16).toNat + 0) = 112 ∧ ra M0 o0 13 ((rv M0 o0 16).toNat + 1) = 97 ∧ ra M0 o0 13 ((rv M0 o0 16).toNat + 2) = 114 ∧ ra M0 o0 13 ((rv M0 o0 16).toNat + 3) = 116)))) := by
  refine mj_enter (by decide) (Nat.le_of_ble_eq_true rfl) ?_
  refine mv_aload_n d_TrustDeskModel_isWord_0 rfl rfl ?_
  obtain ⟨v2, q1⟩ := tm_atI I0 h_o0 (k := 17) rfl
  refine tr_getK q1 d_TrustDeskModel_isWord_1 f_TrustDeskModel_198_13 ?_
  have := tm_rv q1
  refine mv_iconst (v := 3) d_TrustDeskModel_isWord_4 (by decide) ?_
  have := mz_hi v2
  refine mv_icmp_neZ (tgt := 24) (a := v2.toInt) (b := 3) d_TrustDeskModel_isWord_5 (by decide) rfl (by decide) (fun b3 => ?_) (fun b3 => ?_)
  · refine mv_iconst (v := 0) d_TrustDeskModel_isWord_24 (by decide) ?_
    exact mv_iret d_TrustDeskModel_isWord_25 rfl (by decide) ⟨_, I0, _, rfl, by decide, by decide, yR, (fun h => absurd h (by decide)), (fun h => absurd h (by decide)), (fun _ h => by obtain ⟨h1, h2, h3, h4, h5, h6⟩ := h; have := yR.1 15 _ _ rfl; have := yR.1 16 _ _ rfl; have := yR.1 19 _ _ rfl; omega)⟩
  · refine mv_aload_n d_TrustDeskModel_isWord_8 rfl rfl ?_
    obtain ⟨v5, q4⟩ := tm_atI I0 h_o0 (k := 15) rfl
    refine tr_getK q4 d_TrustDeskModel_isWord_9 f_TrustDeskModel_192_13 ?_
    have := yR.f (k := 15) q4 rfl
    have := tm_rv q4
    refine mv_aload_n d_TrustDeskModel_isWord_12 rfl rfl ?_
    obtain ⟨v7, q6⟩ := tm_atI I0 h_o0 (k := 16) rfl
    refine tr_getK q6 d_TrustDeskModel_isWord_13 f_TrustDeskModel_195_13 ?_
    have := yR.f (k := 16) q6 rfl
    have := tm_rv q6
    refine mv_isub d_TrustDeskModel_isWord_16 ?_
    refine mv_aload_n d_TrustDeskModel_isWord_17 rfl rfl ?_
    refine mv_slenK (i := 36) (v := 4) d_TrustDeskModel_isWord_18 lV_TrustDeskModel_214 (by decide) rfl (by decide) (Nat.le_of_ble_eq_true rfl) ?_
    have b8 : (v5 - v7 : Int32).toInt = (v5.toInt - v7.toInt) := mz_sub2 rfl rfl (by have := yR.1 15 _ _ rfl; have := yR.1 16 _ _ rfl; have := yR.1 19 _ _ rfl; omega) (by have := yR.1 15 _ _ rfl; have := yR.1 16 _ _ rfl; have := yR.1 19 _ _ rfl; omega)
    have := mz_hi (v5 - v7)
    refine mv_icmp_eqZ (tgt := 26) (a := (v5 - v7).toInt) (b := 4) d_TrustDeskModel_isWord_21 (by decide) rfl (by decide) (fun b9 => ?_) (fun b9 => ?_)
    · refine mv_iconst (v := 0) d_TrustDeskModel_isWord_26 (by decide) ?_
      refine mv_istore_n (lv' := [(2, .int 0), (0, .ref o0), (1, .ref 46)]) d_TrustDeskModel_isWord_27 rfl (by decide) rfl ?_
      refine mv_iload_n d_TrustDeskModel_isWord_28 rfl rfl ?_
      refine mv_aload_n d_TrustDeskModel_isWord_29 rfl rfl ?_
      refine mv_slenK (i := 36) (v := 4) d_TrustDeskModel_isWord_30 lV_TrustDeskModel_214 (by decide) rfl (by decide) (Nat.le_of_ble_eq_true rfl) ?_
      refine mv_icmp_ge_f (tgt := 63) d_TrustDeskModel_isWord_33 (by decide) (by decide) ?_
      refine mv_aload_n d_TrustDeskModel_isWord_36 rfl rfl ?_
      obtain ⟨a11, q10, t_a11⟩ := tm_atR I0 h_o0 (k := 13) rfl
      refine tr_getK q10 d_TrustDeskModel_isWord_37 f_TrustDeskModel_44_13 ?_
      refine mv_aload_n d_TrustDeskModel_isWord_40 rfl rfl ?_
      refine tr_getK (k := 16) q6 d_TrustDeskModel_isWord_41 f_TrustDeskModel_195_13 ?_
      refine mv_iload_n d_TrustDeskModel_isWord_44 rfl rfl ?_
      refine mv_iadd d_TrustDeskModel_isWord_45 ?_
      have b12 : (v7 + 0 : Int32).toInt = (v7.toInt + 0) := mz_add2 rfl (by decide) (by have := yR.1 15 _ _ rfl; have := yR.1 16 _ _ rfl; have := yR.1 19 _ _ rfl; omega) (by have := yR.1 15 _ _ rfl; have := yR.1 16 _ _ rfl; have := yR.1 19 _ _ rfl; omega)
      refine tr_baldR (o := o0) (k := 13) I0 q10 t_a11 (by decide) d_TrustDeskModel_isWord_46 (vp_in_iff.mpr (by have := yR.1 15 _ _ rfl; have := yR.1 16 _ _ rfl; have := yR.1 19 _ _ rfl; omega)) (fun v13 e14 => ?_)
      have := yR.a (k := 13) rfl ((v7 + 0) : Int32).toNatClampNeg
      have h15 : (v7 + 0).toNatClampNeg = (rv M0 o0 16).toNat + 0 := by have := mz_nat9 (i := (v7 + 0)) (by have := yR.1 15 _ _ rfl; have := yR.1 16 _ _ rfl; have := yR.1 19 _ _ rfl; omega); have := yR.1 15 _ _ rfl; have := yR.1 16 _ _ rfl; have := yR.1 19 _ _ rfl; omega
      have : v13.toInt = ra M0 o0 13 ((rv M0 o0 16).toNat + 0) := by rw [e14, h15]
      refine mv_aload_n d_TrustDeskModel_isWord_47 rfl rfl ?_
      refine mv_iload_n d_TrustDeskModel_isWord_48 rfl rfl ?_
      refine mv_schC (i := 36) (v := 112) d_TrustDeskModel_isWord_49 lV_TrustDeskModel_220 (by decide) rfl (by decide) (by decide) (Nat.le_of_ble_eq_true rfl) (by decide) ?_
      have := mz_hi v13
      refine mv_icmp_eqZ (tgt := 57) (a := v13.toInt) (b := 112) d_TrustDeskModel_isWord_52 (by decide) rfl (by decide) (fun b16 => ?_) (fun b16 => ?_)
      · refine mv_iinc (v := 1) (lv' := [(2, .int 1), (0, .ref o0), (1, .ref 46)]) d_TrustDeskModel_isWord_57 rfl (by decide) (by decide) rfl ?_
        refine mv_goto (tgt := 28) d_TrustDeskModel_isWord_60 (by decide) ?_
        refine mv_iload_n d_TrustDeskModel_isWord_28 rfl rfl ?_
        refine mv_aload_n d_TrustDeskModel_isWord_29 rfl rfl ?_
        refine mv_slenK (i := 36) (v := 4) d_TrustDeskModel_isWord_30 lV_TrustDeskModel_214 (by decide) rfl (by decide) (Nat.le_of_ble_eq_true rfl) ?_
        refine mv_icmp_ge_f (tgt := 63) d_TrustDeskModel_isWord_33 (by decide) (by decide) ?_
        refine mv_aload_n d_TrustDeskModel_isWord_36 rfl rfl ?_
        refine tr_getK (k := 13) q10 d_TrustDeskModel_isWord_37 f_TrustDeskModel_44_13 ?_
        refine mv_aload_n d_TrustDeskModel_isWord_40 rfl rfl ?_
        refine tr_getK (k := 16) q6 d_TrustDeskModel_isWord_41 f_TrustDeskModel_195_13 ?_
        refine mv_iload_n d_TrustDeskModel_isWord_44 rfl rfl ?_
        refine mv_iadd d_TrustDeskModel_isWord_45 ?_
        have b17 : (v7 + 1 : Int32).toInt = (v7.toInt + 1) := mz_add2 rfl (by decide) (by have := yR.1 15 _ _ rfl; have := yR.1 16 _ _ rfl; have := yR.1 19 _ _ rfl; omega) (by have := yR.1 15 _ _ rfl; have := yR.1 16 _ _ rfl; have := yR.1 19 _ _ rfl; omega)
        refine tr_baldR (o := o0) (k := 13) I0 q10 t_a11 (by decide) d_TrustDeskModel_isWord_46 (vp_in_iff.mpr (by have := yR.1 15 _ _ rfl; have := yR.1 16 _ _ rfl; have := yR.1 19 _ _ rfl; omega)) (fun v18 e19 => ?_)
        have := yR.a (k := 13) rfl ((v7 + 1) : Int32).toNatClampNeg
        have h20 : (v7 + 1).toNatClampNeg = (rv M0 o0 16).toNat + 1 := by have := mz_nat9 (i := (v7 + 1)) (by have := yR.1 15 _ _ rfl; have := yR.1 16 _ _ rfl; have := yR.1 19 _ _ rfl; omega); have := yR.1 15 _ _ rfl; have := yR.1 16 _ _ rfl; have := yR.1 19 _ _ rfl; omega
        have : v18.toInt = ra M0 o0 13 ((rv M0 o0 16).toNat + 1) := by rw [e19, h20]
        refine mv_aload_n d_TrustDeskModel_isWord_47 rfl rfl ?_
        refine mv_iload_n d_TrustDeskModel_isWord_48 rfl rfl ?_
        refine mv_schC (i := 36) (v := 97) d_TrustDeskModel_isWord_49 lV_TrustDeskModel_220 (by decide) rfl (by decide) (by decide) (Nat.le_of_ble_eq_true rfl) (by decide) ?_
        have := mz_hi v18
        refine mv_icmp_eqZ (tgt := 57) (a := v18.toInt) (b := 97) d_TrustDeskModel_isWord_52 (by decide) rfl (by decide) (fun b21 => ?_) (fun b21 => ?_)
        · refine mv_iinc (v := 2) (lv' := [(2, .int 2), (0, .ref o0), (1, .ref 46)]) d_TrustDeskModel_isWord_57 rfl (by decide) (by decide) rfl ?_
          refine mv_goto (tgt := 28) d_TrustDeskModel_isWord_60 (by decide) ?_
          refine mv_iload_n d_TrustDeskModel_isWord_28 rfl rfl ?_
          refine mv_aload_n d_TrustDeskModel_isWord_29 rfl rfl ?_
          refine mv_slenK (i := 36) (v := 4) d_TrustDeskModel_isWord_30 lV_TrustDeskModel_214 (by decide) rfl (by decide) (Nat.le_of_ble_eq_true rfl) ?_
          refine mv_icmp_ge_f (tgt := 63) d_TrustDeskModel_isWord_33 (by decide) (by decide) ?_
          refine mv_aload_n d_TrustDeskModel_isWord_36 rfl rfl ?_
          refine tr_getK (k := 13) q10 d_TrustDeskModel_isWord_37 f_TrustDeskModel_44_13 ?_
          refine mv_aload_n d_TrustDeskModel_isWord_40 rfl rfl ?_
          refine tr_getK (k := 16) q6 d_TrustDeskModel_isWord_41 f_TrustDeskModel_195_13 ?_
          refine mv_iload_n d_TrustDeskModel_isWord_44 rfl rfl ?_
          refine mv_iadd d_TrustDeskModel_isWord_45 ?_
          have b22 : (v7 + 2 : Int32).toInt = (v7.toInt + 2) := mz_add2 rfl (by decide) (by have := yR.1 15 _ _ rfl; have := yR.1 16 _ _ rfl; have := yR.1 19 _ _ rfl; omega) (by have := yR.1 15 _ _ rfl; have := yR.1 16 _ _ rfl; have := yR.1 19 _ _ rfl; omega)
          refine tr_baldR (o := o0) (k := 13) I0 q10 t_a11 (by decide) d_TrustDeskModel_isWord_46 (vp_in_iff.mpr (by have := yR.1 15 _ _ rfl; have := yR.1 16 _ _ rfl; have := yR.1 19 _ _ rfl; omega)) (fun v23 e24 => ?_)
          have := yR.a (k := 13) rfl ((v7 + 2) : Int32).toNatClampNeg
          have h25 : (v7 + 2).toNatClampNeg = (rv M0 o0 16).toNat + 2 := by have := mz_nat9 (i := (v7 + 2)) (by have := yR.1 15 _ _ rfl; have := yR.1 16 _ _ rfl; have := yR.1 19 _ _ rfl; omega); have := yR.1 15 _ _ rfl; have := yR.1 16 _ _ rfl; have := yR.1 19 _ _ rfl; omega
          have : v23.toInt = ra M0 o0 13 ((rv M0 o0 16).toNat + 2) := by rw [e24, h25]
          refine mv_aload_n d_TrustDeskModel_isWord_47 rfl rfl ?_
          refine mv_iload_n d_TrustDeskModel_isWord_48 rfl rfl ?_
          refine mv_schC (i := 36) (v := 114) d_TrustDeskModel_isWord_49 lV_TrustDeskModel_220 (by decide) rfl (by decide) (by decide) (Nat.le_of_ble_eq_true rfl) (by decide) ?_
          have := mz_hi v23
          refine mv_icmp_eqZ (tgt := 57) (a := v23.toInt) (b := 114) d_TrustDeskModel_isWord_52 (by decide) rfl (by decide) (fun b26 => ?_) (fun b26 => ?_)
          · refine mv_iinc (v := 3) (lv' := [(2, .int 3), (0, .ref o0), (1, .ref 46)]) d_TrustDeskModel_isWord_57 rfl (by decide) (by decide) rfl ?_
            refine mv_goto (tgt := 28) d_TrustDeskModel_isWord_60 (by decide) ?_
            refine mv_iload_n d_TrustDeskModel_isWord_28 rfl rfl ?_
            refine mv_aload_n d_TrustDeskModel_isWord_29 rfl rfl ?_
            refine mv_slenK (i := 36) (v := 4) d_TrustDeskModel_isWord_30 lV_TrustDeskModel_214 (by decide) rfl (by decide) (Nat.le_of_ble_eq_true rfl) ?_
            refine mv_icmp_ge_f (tgt := 63) d_TrustDeskModel_isWord_33 (by decide) (by decide) ?_
            refine mv_aload_n d_TrustDeskModel_isWord_36 rfl rfl ?_
            refine tr_getK (k := 13) q10 d_TrustDeskModel_isWord_37 f_TrustDeskModel_44_13 ?_
            refine mv_aload_n d_TrustDeskModel_isWord_40 rfl rfl ?_
            refine tr_getK (k := 16) q6 d_TrustDeskModel_isWord_41 f_TrustDeskModel_195_13 ?_
            refine mv_iload_n d_TrustDeskModel_isWord_44 rfl rfl ?_
            refine mv_iadd d_TrustDeskModel_isWord_45 ?_
            have b27 : (v7 + 3 : Int32).toInt = (v7.toInt + 3) := mz_add2 rfl (by decide) (by have := yR.1 15 _ _ rfl; have := yR.1 16 _ _ rfl; have := yR.1 19 _ _ rfl; omega) (by have := yR.1 15 _ _ rfl; have := yR.1 16 _ _ rfl; have := yR.1 19 _ _ rfl; omega)
            refine tr_baldR (o := o0) (k := 13) I0 q10 t_a11 (by decide) d_TrustDeskModel_isWord_46 (vp_in_iff.mpr (by have := yR.1 15 _ _ rfl; have := yR.1 16 _ _ rfl; have := yR.1 19 _ _ rfl; omega)) (fun v28 e29 => ?_)
            have := yR.a (k := 13) rfl ((v7 + 3) : Int32).toNatClampNeg
            have h30 : (v7 + 3).toNatClampNeg = (rv M0 o0 16).toNat + 3 := by have := mz_nat9 (i := (v7 + 3)) (by have := yR.1 15 _ _ rfl; have := yR.1 16 _ _ rfl; have := yR.1 19 _ _ rfl; omega); have := yR.1 15 _ _ rfl; have := yR.1 16 _ _ rfl; have := yR.1 19 _ _ rfl; omega
            have : v28.toInt = ra M0 o0 13 ((rv M0 o0 16).toNat + 3) := by rw [e29, h30]
            refine mv_aload_n d_TrustDeskModel_isWord_47 rfl rfl ?_
            refine mv_iload_n d_TrustDeskModel_isWord_48 rfl rfl ?_
            refine mv_schC (i := 36) (v := 116) d_TrustDeskModel_isWord_49 lV_TrustDeskModel_220 (by decide) rfl (by decide) (by decide) (Nat.le_of_ble_eq_true rfl) (by decide) ?_
            have := mz_hi v28
            refine mv_icmp_eqZ (tgt := 57) (a := v28.toInt) (b := 116) d_TrustDeskModel_isWord_52 (by decide) rfl (by decide) (fun b31 => ?_) (fun b31 => ?_)
            · refine mv_iinc (v := 4) (lv' := [(2, .int 4), (0, .ref o0), (1, .ref 46)]) d_TrustDeskModel_isWord_57 rfl (by decide) (by decide) rfl ?_
              refine mv_goto (tgt := 28) d_TrustDeskModel_isWord_60 (by decide) ?_
              refine mv_iload_n d_TrustDeskModel_isWord_28 rfl rfl ?_
              refine mv_aload_n d_TrustDeskModel_isWord_29 rfl rfl ?_
              refine mv_slenK (i := 36) (v := 4) d_TrustDeskModel_isWord_30 lV_TrustDeskModel_214 (by decide) rfl (by decide) (Nat.le_of_ble_eq_true rfl) ?_
              refine mv_icmp_ge_t (tgt := 63) d_TrustDeskModel_isWord_33 (by decide) (by decide) ?_
              refine mv_iconst (v := 1) d_TrustDeskModel_isWord_63 (by decide) ?_
              exact mv_iret d_TrustDeskModel_isWord_64 rfl (by decide) ⟨_, I0, _, rfl, by decide, by decide, yR, (fun _ => by have := yR.1 15 _ _ rfl; have := yR.1 16 _ _ rfl; have := yR.1 19 _ _ rfl; omega), (fun _ => ⟨by have := yR.1 15 _ _ rfl; have := yR.1 16 _ _ rfl; have := yR.1 19 _ _ rfl; omega, by have := yR.1 15 _ _ rfl; have := yR.1 16 _ _ rfl; have := yR.1 19 _ _ rfl; omega, by have := yR.1 15 _ _ rfl; have := yR.1 16 _ _ rfl; have := yR.1 19 _ _ rfl; omega, by have := yR.1 15 _ _ rfl; have := yR.1 16 _ _ rfl; have := yR.1 19 _ _ rfl; omega, by have := yR.1 15 _ _ rfl; have := yR.1 16 _ _ rfl; have := yR.1 19 _ _ rfl; omega, by have := yR.1 15 _ _ rfl; have := yR.1 16 _ _ rfl; have := yR.1 19 _ _ rfl; omega⟩), (fun h => absurd h (by decide))⟩
            · refine mv_iconst (v := 0) d_TrustDeskModel_isWord_55 (by decide) ?_
              exact mv_iret d_TrustDeskModel_isWord_56 rfl (by decide) ⟨_, I0, _, rfl, by decide, by decide, yR, (fun h => absurd h (by decide)), (fun h => absurd h (by decide)), (fun _ h => by obtain ⟨h1, h2, h3, h4, h5, h6⟩ := h; have := yR.1 15 _ _ rfl; have := yR.1 16 _ _ rfl; have := yR.1 19 _ _ rfl; omega)⟩
          · refine mv_iconst (v := 0) d_TrustDeskModel_isWord_55 (by decide) ?_
            exact mv_iret d_TrustDeskModel_isWord_56 rfl (by decide) ⟨_, I0, _, rfl, by decide, by decide, yR, (fun h => absurd h (by decide)), (fun h => absurd h (by decide)), (fun _ h => by obtain ⟨h1, h2, h3, h4, h5, h6⟩ := h; have := yR.1 15 _ _ rfl; have := yR.1 16 _ _ rfl; have := yR.1 19 _ _ rfl; omega)⟩
        · refine mv_iconst (v := 0) d_TrustDeskModel_isWord_55 (by decide) ?_
          exact mv_iret d_TrustDeskModel_isWord_56 rfl (by decide) ⟨_, I0, _, rfl, by decide, by decide, yR, (fun h => absurd h (by decide)), (fun h => absurd h (by decide)), (fun _ h => by obtain ⟨h1, h2, h3, h4, h5, h6⟩ := h; have := yR.1 15 _ _ rfl; have := yR.1 16 _ _ rfl; have := yR.1 19 _ _ rfl; omega)⟩
      · refine mv_iconst (v := 0) d_TrustDeskModel_isWord_55 (by decide) ?_
        exact mv_iret d_TrustDeskModel_isWord_56 rfl (by decide) ⟨_, I0, _, rfl, by decide, by decide, yR, (fun h => absurd h (by decide)), (fun h => absurd h (by decide)), (fun _ h => by obtain ⟨h1, h2, h3, h4, h5, h6⟩ := h; have := yR.1 15 _ _ rfl; have := yR.1 16 _ _ rfl; have := yR.1 19 _ _ rfl; omega)⟩
    · refine mv_iconst (v := 0) d_TrustDeskModel_isWord_24 (by decide) ?_
      exact mv_iret d_TrustDeskModel_isWord_25 rfl (by decide) ⟨_, I0, _, rfl, by decide, by decide, yR, (fun h => absurd h (by decide)), (fun h => absurd h (by decide)), (fun _ h => by obtain ⟨h1, h2, h3, h4, h5, h6⟩ := h; have := yR.1 15 _ _ rfl; have := yR.1 16 _ _ rfl; have := yR.1 19 _ _ rfl; omega)⟩
theorem d_TrustDeskModel_readEnd_166 : decode kY_TrustDeskModel_readEnd.2.1 166 = .ok (.ifCond .eq 14, 3) := by decide +kernel
theorem d_TrustDeskModel_readEnd_169 : decode kY_TrustDeskModel_readEnd.2.1 169 = .ok (.aload_n 0, 1) := by decide +kernel
theorem d_TrustDeskModel_readEnd_170 : decode kY_TrustDeskModel_readEnd.2.1 170 = .ok (.getfield 32, 3) := by decide +kernel
theorem d_TrustDeskModel_readEnd_173 : decode kY_TrustDeskModel_readEnd.2.1 173 = .ok (.iload_n 1, 1) := by decide +kernel
theorem d_TrustDeskModel_readEnd_174 : decode kY_TrustDeskModel_readEnd.2.1 174 = .ok (.iconst 1, 1) := by decide +kernel
theorem d_TrustDeskModel_readEnd_175 : decode kY_TrustDeskModel_readEnd.2.1 175 = .ok (.iastore, 1) := by decide +kernel
theorem d_TrustDeskModel_readEnd_176 : decode kY_TrustDeskModel_readEnd.2.1 176 = .ok (.aload_n 0, 1) := by decide +kernel
theorem d_TrustDeskModel_readEnd_177 : decode kY_TrustDeskModel_readEnd.2.1 177 = .ok (.invokevirtual 237, 3) := by decide +kernel
theorem d_TrustDeskModel_readEnd_37 : decode kY_TrustDeskModel_readEnd.2.1 37 = .ok (.aload_n 0, 1) := by decide +kernel
theorem d_TrustDeskModel_readEnd_38 : decode kY_TrustDeskModel_readEnd.2.1 38 = .ok (.iconst 3, 1) := by decide +kernel
theorem d_TrustDeskModel_readEnd_39 : decode kY_TrustDeskModel_readEnd.2.1 39 = .ok (.invokevirtual 240, 3) := by decide +kernel
def w_TrustDeskModel_readEnd_x : List Nat := [1315, 1316, 1317, 1318, 1319, 1320, 1322, 1324, 20004, 20005, 20008, 20009, 20011, 20025, 20026]
set_option maxHeartbeats 100000000 in theorem tc_TrustDeskModel_readEnd_x {g : mj_G} {l : Launch} {d : Nat} {T0 : tm_H} {M0 : mj_M} {n0 x9 : Nat} {o0 : Nat} {x1 : Int32} (h_o0 : T0 o0 = some (0, 13, 0)) (yR : rI M0 o0) (yT : rT M0 o0) (yS : rv M0 o0 19 = 0 → ra M0 o0 5 44 ≤ rv M0 o0 16) (yw : rv M0 o0 19 = 0) (yr : 880 ≤ x1.toInt ∧ x1.toInt ≤ 899) (yne : rv M0 o0 24 ≤ 5) (yn : nN M0 o0) (yq : rv M0 o0 22 = 0) {pb : Nat → Int} {pn : Nat} {pa : Int} {ps : p_S} (yO : pO M0 o0 pb pn pa ps) {pN9 : List (Nat × Nat)} (yM : pN M0 o0 pn pN9) (I0 : tm_I tm_FT (tm_in w_TrustDeskModel_readEnd_x) x9 T0 M0 n0 T0 M0 n0) : mj_Met g l kY_TrustDeskModel_readEnd (d + 25) [.ref o0, .int x1] M0 n0 0 0 (tm_Q tm_FT (tm_in w_TrustDeskModel_readEnd_x) x9 T0 M0 n0 (fun r _ M => r = none ∧ rI M o0 ∧ (rE M0 M o0 2 0) ∧ (rK M0 M o0 x1.toNatClampNeg) ∧ (nN M o0) ∧ (rv M o0 19 = 0 → rv M o0 24 = rv M0 o0 24 + 1 ∧ 0 ≤ ra M o0 8 x1.toNatClampNeg ∧ rv M o0 22 = 0) ∧ (rv M0 o0 24 ≤ rv M o0 24) ∧ (rv M o0 19 = 0 → rD M0 M o0 x1.toNatClampNeg) ∧ (pO M o0 pb pn pa (p_en1 pb pn pa pN9 ps)) ∧ (rv M o0 19 = 0 → pN M o0 pn (pN9 ++ [(p_st pb pn ps.2.2, p_sp pb pn ps.2.2)])))) := by
  refine mj_enter (by decide) (Nat.le_of_ble_eq_true rfl) ?_
  have yE0 := rE.rf yT
  have K1 : rK M0 M0 o0 x1.toNatClampNeg := rK.rf
  have K2 : nN M0 o0 := yn
  have := yO.w
  have := yM.1
  refine mv_aload_n d_TrustDeskModel_readEnd_0 rfl rfl ?_
  obtain ⟨v4, q3⟩ := tm_atI I0 h_o0 (k := 17) rfl
  refine tr_getK q3 d_TrustDeskModel_readEnd_1 f_TrustDeskModel_198_13 ?_
  have := tm_rv q3
  refine mv_iconst (v := 3) d_TrustDeskModel_readEnd_4 (by decide) ?_
  have := mz_hi v4
  refine mv_icmp_neZ (tgt := 22) (a := v4.toInt) (b := 3) d_TrustDeskModel_readEnd_5 (by decide) rfl (by decide) (fun b5 => ?_) (fun b5 => ?_)
  · refine mv_aload_n d_TrustDeskModel_readEnd_22 rfl rfl ?_
    refine mv_iconst (v := 1) d_TrustDeskModel_readEnd_23 (by decide) ?_
    obtain ⟨_, b12, -⟩ := I0.1 _ _ h_o0
    have : (1 : Int32).toInt = 1 := by decide
    refine mv_callV (kc' := 0) (ks' := 0) (As := [.int 1]) (st9 := [.int 1, .ref o0]) d_TrustDeskModel_readEnd_24 lV_TrustDeskModel_240 b12 rfl (tc_TrustDeskModel_fails_x (d := (d + 24)) (x9 := x9) (o0 := o0) (x1 := 1) h_o0 yR (by decide) yO I0.start) rfl (Nat.le_of_ble_eq_true rfl) (Nat.le_of_ble_eq_true rfl) (Nat.le_of_ble_eq_true rfl) (hst := rfl) (fun b6r M7 n8 b6 => ?_)
    obtain ⟨T9, J10, rfl, R13, f14, f15⟩ := b6
    have I11 := I0.call J10 (tm_sub (by decide)) (Or.inl rfl)
    have t16 := J10.up h_o0
    have z17 := (rv_c I0 J10 (I0.up h_o0) (k := 15) rfl)
    have z18 := (rv_c I0 J10 (I0.up h_o0) (k := 16) rfl)
    have z19 := (rv_c I0 J10 (I0.up h_o0) (k := 17) rfl)
    have z20 := (rv_c I0 J10 (I0.up h_o0) (k := 22) rfl)
    have z21 := (rv_c I0 J10 (I0.up h_o0) (k := 24) rfl)
    have z22 := (ra_call I0 J10 (I0.up h_o0) (k := 5) rfl rfl rfl 44)
    have E23 : rE M0 M7 o0 0 0 := yE0.fails (rE_hv I0 J10 (I0.up h_o0) 15 18 (by decide)) (rE_ha I0 J10 (I0.up h_o0) (by decide)) f14 0 0
    have K24 : rK M0 M7 o0 x1.toNatClampNeg := K1.same (sA_c I0 J10 (I0.up h_o0) (by decide +kernel))
    have K25 : nN M7 o0 := K2.same (sA_c I0 J10 (I0.up h_o0) (by decide +kernel)) (sF_c I0 J10 (I0.up h_o0) (by decide +kernel))
    have K26 : pN M7 o0 pn pN9 := yM.same (sA_c I0 J10 (I0.up h_o0) (by decide +kernel)) (sF_c I0 J10 (I0.up h_o0) (by decide +kernel))
    rw [show (1 : Int32).toInt = 1 from by decide] at f15
    obtain ⟨s27, e28⟩ : ∃ s9 : p_S, p_fl pb pn 1 ps = s9 := ⟨_, rfl⟩
    rw [e28] at f15
    have := f15.w
    have q29 := J10.keep h_o0 (by decide) q3
    refine mv_goto (tgt := 42) d_TrustDeskModel_readEnd_27 (by decide) ?_
    refine mv_aload_n d_TrustDeskModel_readEnd_42 rfl rfl ?_
    obtain ⟨_, b30, -⟩ := I11.1 _ _ t16
    refine mv_callV (kc1 := 0) (ks1 := 0) (kc' := 0) (ks' := 0) (As := []) (st9 := [.ref o0]) d_TrustDeskModel_readEnd_43 lV_TrustDeskModel_230 b30 rfl (mj_enter (by decide) (Nat.le_of_ble_eq_true rfl) ?_) rfl (Nat.le_of_ble_eq_true rfl) (Nat.le_of_ble_eq_true rfl) (Nat.le_of_ble_eq_true rfl) (hst := rfl) (fun _ _ _ h => h)
    refine mv_aload_n d_TrustDeskModel_isWell_0 rfl rfl ?_
    obtain ⟨v32, q31⟩ := tm_atI I11 t16 (k := 19) rfl
    refine tr_getK q31 d_TrustDeskModel_isWell_1 f_TrustDeskModel_224_13 ?_
    have := R13.f (k := 19) q31 rfl
    have := tm_rv q31
    refine mv_if_neZ (tgt := 11) (a := v32.toInt) d_TrustDeskModel_isWell_4 (by decide) rfl (fun b33 => ?_) (fun b33 => ?_)
    · refine mv_iconst (v := 0) d_TrustDeskModel_isWell_11 (by decide) ?_
      refine mv_iret d_TrustDeskModel_isWell_12 rfl (by decide) ?_
      refine mv_if_ne_f (tgt := 50) d_TrustDeskModel_readEnd_46 (by decide) (by decide) ?_
      exact mv_vret d_TrustDeskModel_readEnd_49 rfl ⟨_, I11, rfl, R13, E23.vac (by have := R13.1 15 _ _ rfl; have := R13.1 16 _ _ rfl; have := R13.1 19 _ _ rfl; omega) 2 0, K24, K25, (fun h9 => absurd h9 (by have := R13.1 15 _ _ rfl; have := R13.1 16 _ _ rfl; have := R13.1 19 _ _ rfl; omega)), (by have := R13.1 15 _ _ rfl; have := R13.1 16 _ _ rfl; have := R13.1 19 _ _ rfl; omega), (fun h9 => absurd h9 (by have := R13.1 15 _ _ rfl; have := R13.1 16 _ _ rfl; have := R13.1 19 _ _ rfl; omega)), (by first | (have := yO.n3 (by omega) (by omega); rw [show p_en1 pb pn pa pN9 ps = s27 from (by unfold p_en1; unfold p_prt; (try simp only [e28]); ((repeat' (first | (with_reducible rfl) | split)) <;> (first | ((try simp only [e28]); done) | ((try simp only [e28]); first | exact p_sg_Z _ (by omega) | exact (p_sg_Z _ (by omega)).symm | omega) | (exfalso; omega))))]; exact f15) | (exfalso; have := R13.1 15 _ _ rfl; have := R13.1 16 _ _ rfl; have := R13.1 19 _ _ rfl; omega)), (fun h9 => absurd h9 (by have := R13.1 15 _ _ rfl; have := R13.1 16 _ _ rfl; have := R13.1 19 _ _ rfl; omega))⟩
    · exfalso
      have := R13.1 15 _ _ rfl; have := R13.1 16 _ _ rfl; have := R13.1 19 _ _ rfl; omega
  · refine mv_aload_n d_TrustDeskModel_readEnd_8 rfl rfl ?_
    obtain ⟨v35, q34⟩ := tm_atI I0 h_o0 (k := 15) rfl
    refine tr_getK q34 d_TrustDeskModel_readEnd_9 f_TrustDeskModel_192_13 ?_
    have := yR.f (k := 15) q34 rfl
    have := tm_rv q34
    refine mv_aload_n d_TrustDeskModel_readEnd_12 rfl rfl ?_
    obtain ⟨v37, q36⟩ := tm_atI I0 h_o0 (k := 16) rfl
    refine tr_getK q36 d_TrustDeskModel_readEnd_13 f_TrustDeskModel_195_13 ?_
    have := yR.f (k := 16) q36 rfl
    have := tm_rv q36
    refine mv_isub d_TrustDeskModel_readEnd_16 ?_
    refine mv_bipush (v := 8) d_TrustDeskModel_readEnd_17 (by decide) ?_
    have b38 : (v35 - v37 : Int32).toInt = (v35.toInt - v37.toInt) := mz_sub2 rfl rfl (by have := yR.1 15 _ _ rfl; have := yR.1 16 _ _ rfl; have := yR.1 19 _ _ rfl; omega) (by have := yR.1 15 _ _ rfl; have := yR.1 16 _ _ rfl; have := yR.1 19 _ _ rfl; omega)
    have := mz_hi (v35 - v37)
    refine mv_icmp_leZ (tgt := 30) (a := (v35 - v37).toInt) (b := 8) d_TrustDeskModel_readEnd_19 (by decide) rfl (by decide) (fun b39 => ?_) (fun b39 => ?_)
    · refine mv_aload_n d_TrustDeskModel_readEnd_30 rfl rfl ?_
      obtain ⟨_, b46, -⟩ := I0.1 _ _ h_o0
      refine mv_callV (kc' := 0) (ks' := 0) (As := []) (st9 := [.ref o0]) d_TrustDeskModel_readEnd_31 lV_TrustDeskModel_324 b46 rfl (tc_TrustDeskModel_isThere_x (d := (d + 24)) (x9 := x9) (o0 := o0) h_o0 yR yE0.1 K2 yO (by have := yR.1 15 _ _ rfl; have := yR.1 16 _ _ rfl; have := yR.1 19 _ _ rfl; omega) yM I0.start) rfl (Nat.le_of_ble_eq_true rfl) (Nat.le_of_ble_eq_true rfl) (Nat.le_of_ble_eq_true rfl) (hst := rfl) (fun b40r M41 n42 b40 => ?_)
      obtain ⟨T43, J44, v47, rfl, b48, b49, R50, f51⟩ := b40
      have I45 := I0.call J44 (tm_sub (by decide)) (Or.inl rfl)
      have t52 := J44.up h_o0
      have z53 := (rv_c I0 J44 (I0.up h_o0) (k := 15) rfl)
      have z54 := (rv_c I0 J44 (I0.up h_o0) (k := 16) rfl)
      have z55 := (rv_c I0 J44 (I0.up h_o0) (k := 17) rfl)
      have z56 := (rv_c I0 J44 (I0.up h_o0) (k := 19) rfl)
      have z57 := (rv_c I0 J44 (I0.up h_o0) (k := 22) rfl)
      have z58 := (rv_c I0 J44 (I0.up h_o0) (k := 24) rfl)
      have z59 := (ra_call I0 J44 (I0.up h_o0) (k := 5) rfl rfl rfl 44)
      have E60 : rE M0 M41 o0 0 0 := yE0.same (rE_hv I0 J44 (I0.up h_o0) 15 19 (by decide)) (rE_ha I0 J44 (I0.up h_o0) (by decide))
      have K61 : rK M0 M41 o0 x1.toNatClampNeg := K1.same (sA_c I0 J44 (I0.up h_o0) (by decide +kernel))
      have K62 : nN M41 o0 := K2.same (sA_c I0 J44 (I0.up h_o0) (by decide +kernel)) (sF_c I0 J44 (I0.up h_o0) (by decide +kernel))
      have K63 : pN M41 o0 pn pN9 := yM.same (sA_c I0 J44 (I0.up h_o0) (by decide +kernel)) (sF_c I0 J44 (I0.up h_o0) (by decide +kernel))
      have Z964 : pO M41 o0 pb pn pa ps := yO.same (rE_hv I0 J44 (I0.up h_o0) 14 20 (by decide)) (rv_c I0 J44 (I0.up h_o0) (k := 23) rfl) (ra_call I0 J44 (I0.up h_o0) (k := 13) rfl rfl rfl)
      have q65 := J44.keep h_o0 (by decide) q3
      have q66 := J44.keep h_o0 (by decide) q34
      have q67 := J44.keep h_o0 (by decide) q36
      have := mz_hi v47
      refine mv_if_eqZ (tgt := 42) (a := v47.toInt) d_TrustDeskModel_readEnd_34 (by decide) rfl (fun b68 => ?_) (fun b68 => ?_)
      · refine mv_aload_n d_TrustDeskModel_readEnd_42 rfl rfl ?_
        obtain ⟨_, b69, -⟩ := I45.1 _ _ t52
        refine mv_callV (kc1 := 0) (ks1 := 0) (kc' := 0) (ks' := 0) (As := []) (st9 := [.ref o0]) d_TrustDeskModel_readEnd_43 lV_TrustDeskModel_230 b69 rfl (mj_enter (by decide) (Nat.le_of_ble_eq_true rfl) ?_) rfl (Nat.le_of_ble_eq_true rfl) (Nat.le_of_ble_eq_true rfl) (Nat.le_of_ble_eq_true rfl) (hst := rfl) (fun _ _ _ h => h)
        refine mv_aload_n d_TrustDeskModel_isWell_0 rfl rfl ?_
        obtain ⟨v71, q70⟩ := tm_atI I45 t52 (k := 19) rfl
        refine tr_getK q70 d_TrustDeskModel_isWell_1 f_TrustDeskModel_224_13 ?_
        have := R50.f (k := 19) q70 rfl
        have := (tm_rv q70).symm.trans z56
        have := tm_rv q70
        have := mz_hi v71
        refine mv_if_neZ (tgt := 11) (a := v71.toInt) d_TrustDeskModel_isWell_4 (by decide) rfl (fun b72 => ?_) (fun b72 => ?_)
        · refine mv_iconst (v := 0) d_TrustDeskModel_isWell_11 (by decide) ?_
          refine mv_iret d_TrustDeskModel_isWell_12 rfl (by decide) ?_
          refine mv_if_ne_f (tgt := 50) d_TrustDeskModel_readEnd_46 (by decide) (by decide) ?_
          exact mv_vret d_TrustDeskModel_readEnd_49 rfl ⟨_, I45, rfl, R50, E60.vac (by have := R50.1 15 _ _ rfl; have := R50.1 16 _ _ rfl; have := R50.1 19 _ _ rfl; omega) 2 0, K61, K62, (fun h9 => absurd h9 (by have := R50.1 15 _ _ rfl; have := R50.1 16 _ _ rfl; have := R50.1 19 _ _ rfl; omega)), (by have := R50.1 15 _ _ rfl; have := R50.1 16 _ _ rfl; have := R50.1 19 _ _ rfl; omega), (fun h9 => absurd h9 (by have := R50.1 15 _ _ rfl; have := R50.1 16 _ _ rfl; have := R50.1 19 _ _ rfl; omega)), (by first | (have := (yO.t (by omega)).2.1; have := (yO.t (by omega)).1; have := yO.s3 (by omega) (by omega); rw [show p_en1 pb pn pa pN9 ps = ps from (by unfold p_en1; unfold p_prt; (try simp only [eq_self]); ((repeat' (first | (with_reducible rfl) | split)) <;> (first | ((try simp only [eq_self]); done) | ((try simp only [eq_self]); first | exact p_sg_Z _ (by omega) | exact (p_sg_Z _ (by omega)).symm | omega) | (exfalso; omega))))]; exact Z964) | (exfalso; have := R50.1 15 _ _ rfl; have := R50.1 16 _ _ rfl; have := R50.1 19 _ _ rfl; omega)), (fun h9 => absurd h9 (by have := R50.1 15 _ _ rfl; have := R50.1 16 _ _ rfl; have := R50.1 19 _ _ rfl; omega))⟩
        · refine mv_iconst (v := 1) d_TrustDeskModel_isWell_7 (by decide) ?_
          refine mv_goto (tgt := 12) d_TrustDeskModel_isWell_8 (by decide) ?_
          refine mv_iret d_TrustDeskModel_isWell_12 rfl (by decide) ?_
          refine mv_if_ne_t (tgt := 50) d_TrustDeskModel_readEnd_46 (by decide) (by decide) ?_
          refine mv_aload_n d_TrustDeskModel_readEnd_50 rfl rfl ?_
          obtain ⟨a74, q73, t_a74⟩ := tm_atR I45 t52 (k := 25) rfl
          refine tr_getK q73 d_TrustDeskModel_readEnd_51 f_TrustDeskModel_51_13 ?_
          refine mv_aload_n d_TrustDeskModel_readEnd_54 rfl rfl ?_
          obtain ⟨v76, q75⟩ := tm_atI I45 t52 (k := 24) rfl
          refine tr_getK q75 d_TrustDeskModel_readEnd_55 f_TrustDeskModel_321_13 ?_
          have := R50.f (k := 24) q75 rfl
          have := (tm_rv q75).symm.trans z58
          have := tm_rv q75
          refine mv_aload_n d_TrustDeskModel_readEnd_58 rfl rfl ?_
          refine tr_getK (k := 16) q67 d_TrustDeskModel_readEnd_59 f_TrustDeskModel_195_13 ?_
          have := E60.1.1
          refine tr_iastR (k := 25) I45 R50 (I45.up h_o0) q73 t_a74 (by decide) (by decide) (fun lo hi h => by cases h; have := R50.1 15 _ _ rfl; have := R50.1 16 _ _ rfl; have := R50.1 19 _ _ rfl; exact ⟨by show (0 : Int) ≤ v37.toInt; omega, by show v37.toInt ≤ (400 : Int); omega⟩) (Or.inl (by decide)) d_TrustDeskModel_readEnd_62 (vp_in_iff.mpr (by have := R50.1 15 _ _ rfl; have := R50.1 16 _ _ rfl; have := R50.1 19 _ _ rfl; omega)) (fun M77 I78 K79 R80 E81 A82 V83 => ?_)
          have z84 := (V83 15).trans z53
          have z85 := (V83 16).trans z54
          have z86 := (V83 17).trans z55
          have z87 := (V83 19).trans z56
          have z88 := (V83 22).trans z57
          have z89 := (V83 24).trans z58
          have z90 := (A82 5 (by decide) rfl 44).trans z59
          have E91 : rE M0 M77 o0 0 0 := E60.same (fun k _ _ => V83 k) (fun k h1 h2 => A82 k (by omega) (by rcases (show k = 4 ∨ k = 5 by omega) with rfl | rfl <;> rfl))
          have h92 : (rv M0 o0 24).toNat = v76.toNatClampNeg := by have := mz_nat9 (i := v76) (by have := R50.1 15 _ _ rfl; have := R50.1 16 _ _ rfl; have := R50.1 19 _ _ rfl; omega); have := R50.1 15 _ _ rfl; have := R50.1 16 _ _ rfl; have := R50.1 19 _ _ rfl; omega
          have z93 : ra M77 o0 25 ((rv M0 o0 24).toNat) = v37.toInt := (E81 _).trans (if_pos h92)
          have K94 : rK M0 M77 o0 x1.toNatClampNeg := K61.same (sA_a A82 (by decide +kernel))
          have K95 : nN M77 o0 := K62.st A82 E81 V83 (Or.inl rfl) (by have := mz_nat9 (i := v76) (by have := R50.1 15 _ _ rfl; have := R50.1 16 _ _ rfl; have := R50.1 19 _ _ rfl; omega); have := R50.1 15 _ _ rfl; have := R50.1 16 _ _ rfl; have := R50.1 19 _ _ rfl; omega)
          have K96 : pN M77 o0 pn pN9 := K63.st A82 E81 V83 (Or.inl rfl) (by have := mz_nat9 (i := v76) (by have := R50.1 15 _ _ rfl; have := R50.1 16 _ _ rfl; have := R50.1 19 _ _ rfl; omega); have := R50.1 15 _ _ rfl; have := R50.1 16 _ _ rfl; have := R50.1 19 _ _ rfl; omega)
          have Z997 : pO M77 o0 pb pn pa ps := Z964.same (fun k _ _ => V83 k) (V83 23) (A82 13 (by decide) rfl)
          clear z53 z54 z55 z57 z58 z59
          refine mv_aload_n d_TrustDeskModel_readEnd_63 rfl rfl ?_
          obtain ⟨a99, q98, t_a99⟩ := tm_atR I78 t52 (k := 26) rfl
          refine tr_getK q98 d_TrustDeskModel_readEnd_64 f_TrustDeskModel_54_13 ?_
          refine mv_aload_n d_TrustDeskModel_readEnd_67 rfl rfl ?_
          refine tr_getK (k := 24) (K79 _ 13 24 _ q75) d_TrustDeskModel_readEnd_68 f_TrustDeskModel_321_13 ?_
          refine mv_aload_n d_TrustDeskModel_readEnd_71 rfl rfl ?_
          refine tr_getK (k := 15) (K79 _ 13 15 _ q66) d_TrustDeskModel_readEnd_72 f_TrustDeskModel_192_13 ?_
          refine mv_aload_n d_TrustDeskModel_readEnd_75 rfl rfl ?_
          refine tr_getK (k := 16) (K79 _ 13 16 _ q67) d_TrustDeskModel_readEnd_76 f_TrustDeskModel_195_13 ?_
          refine mv_isub d_TrustDeskModel_readEnd_79 ?_
          have := E91.1.1
          have b100 : (v35 - v37 : Int32).toInt = (v35.toInt - v37.toInt) := mz_sub2 rfl rfl (by have := R80.1 15 _ _ rfl; have := R80.1 16 _ _ rfl; have := R80.1 19 _ _ rfl; omega) (by have := R80.1 15 _ _ rfl; have := R80.1 16 _ _ rfl; have := R80.1 19 _ _ rfl; omega)
          refine tr_iastR (k := 26) I78 R80 (I78.up h_o0) q98 t_a99 (by decide) (by decide) (fun lo hi h => by cases h; have := R80.1 15 _ _ rfl; have := R80.1 16 _ _ rfl; have := R80.1 19 _ _ rfl; exact ⟨by show (0 : Int) ≤ (v35 - v37).toInt; omega, by show (v35 - v37).toInt ≤ (8 : Int); omega⟩) (Or.inl (by decide)) d_TrustDeskModel_readEnd_80 (vp_in_iff.mpr (by have := R80.1 15 _ _ rfl; have := R80.1 16 _ _ rfl; have := R80.1 19 _ _ rfl; omega)) (fun M101 I102 K103 R104 E105 A106 V107 => ?_)
          have z108 := (V107 15).trans z84
          have z109 := (V107 16).trans z85
          have z110 := (V107 17).trans z86
          have z111 := (V107 19).trans z87
          have z112 := (V107 22).trans z88
          have z113 := (V107 24).trans z89
          have z114 := (A106 5 (by decide) rfl 44).trans z90
          have z115 := (A106 25 (by decide) rfl ((rv M0 o0 24).toNat)).trans z93
          have E116 : rE M0 M101 o0 0 0 := E91.same (fun k _ _ => V107 k) (fun k h1 h2 => A106 k (by omega) (by rcases (show k = 4 ∨ k = 5 by omega) with rfl | rfl <;> rfl))
          have h117 : (rv M0 o0 24).toNat = v76.toNatClampNeg := by have := mz_nat9 (i := v76) (by have := R80.1 15 _ _ rfl; have := R80.1 16 _ _ rfl; have := R80.1 19 _ _ rfl; omega); have := R80.1 15 _ _ rfl; have := R80.1 16 _ _ rfl; have := R80.1 19 _ _ rfl; omega
          have z118 : ra M101 o0 26 ((rv M0 o0 24).toNat) = (v35 - v37).toInt := (E105 _).trans (if_pos h117)
          have K119 : rK M0 M101 o0 x1.toNatClampNeg := K94.same (sA_a A106 (by decide +kernel))
          have K120 : nN M101 o0 := K95.st A106 E105 V107 (Or.inr rfl) (by have := mz_nat9 (i := v76) (by have := R80.1 15 _ _ rfl; have := R80.1 16 _ _ rfl; have := R80.1 19 _ _ rfl; omega); have := R80.1 15 _ _ rfl; have := R80.1 16 _ _ rfl; have := R80.1 19 _ _ rfl; omega)
          have K121 : pN M101 o0 pn pN9 := K96.st A106 E105 V107 (Or.inr rfl) (by have := mz_nat9 (i := v76) (by have := R80.1 15 _ _ rfl; have := R80.1 16 _ _ rfl; have := R80.1 19 _ _ rfl; omega); have := R80.1 15 _ _ rfl; have := R80.1 16 _ _ rfl; have := R80.1 19 _ _ rfl; omega)
          have Z9122 : pO M101 o0 pb pn pa ps := Z997.same (fun k _ _ => V107 k) (V107 23) (A106 13 (by decide) rfl)
          clear z84 z85 z86 z88 z89 z90 z93
          refine mv_aload_n d_TrustDeskModel_readEnd_81 rfl rfl ?_
          obtain ⟨a124, q123, t_a124⟩ := tm_atR I102 t52 (k := 8) rfl
          refine tr_getK q123 d_TrustDeskModel_readEnd_82 f_TrustDeskModel_29_13 ?_
          refine mv_iload_n d_TrustDeskModel_readEnd_85 rfl rfl ?_
          refine mv_aload_n d_TrustDeskModel_readEnd_86 rfl rfl ?_
          refine tr_getK (k := 15) (K103 _ 13 15 _ (K79 _ 13 15 _ q66)) d_TrustDeskModel_readEnd_87 f_TrustDeskModel_192_13 ?_
          refine mv_aload_n d_TrustDeskModel_readEnd_90 rfl rfl ?_
          refine tr_getK (k := 16) (K103 _ 13 16 _ (K79 _ 13 16 _ q67)) d_TrustDeskModel_readEnd_91 f_TrustDeskModel_195_13 ?_
          refine mv_isub d_TrustDeskModel_readEnd_94 ?_
          have := E116.1.1
          have b125 : (v35 - v37 : Int32).toInt = (v35.toInt - v37.toInt) := mz_sub2 rfl rfl (by have := R104.1 15 _ _ rfl; have := R104.1 16 _ _ rfl; have := R104.1 19 _ _ rfl; omega) (by have := R104.1 15 _ _ rfl; have := R104.1 16 _ _ rfl; have := R104.1 19 _ _ rfl; omega)
          refine tr_iastR (k := 8) I102 R104 (I102.up h_o0) q123 t_a124 (by decide) (by decide) (fun lo hi h => by cases h; have := R104.1 15 _ _ rfl; have := R104.1 16 _ _ rfl; have := R104.1 19 _ _ rfl; exact ⟨by show ((-1) : Int) ≤ (v35 - v37).toInt; omega, by show (v35 - v37).toInt ≤ (720 : Int); omega⟩) (Or.inl (by decide)) d_TrustDeskModel_readEnd_95 (vp_in_iff.mpr (by have := R104.1 15 _ _ rfl; have := R104.1 16 _ _ rfl; have := R104.1 19 _ _ rfl; omega)) (fun M126 I127 K128 R129 E130 A131 V132 => ?_)
          have z133 := (V132 15).trans z108
          have z134 := (V132 16).trans z109
          have z135 := (V132 17).trans z110
          have z136 := (V132 19).trans z111
          have z137 := (V132 22).trans z112
          have z138 := (V132 24).trans z113
          have z139 := (A131 5 (by decide) rfl 44).trans z114
          have z140 := (A131 25 (by decide) rfl ((rv M0 o0 24).toNat)).trans z115
          have z141 := (A131 26 (by decide) rfl ((rv M0 o0 24).toNat)).trans z118
          have E142 : rE M0 M126 o0 0 0 := E116.same (fun k _ _ => V132 k) (fun k h1 h2 => A131 k (by omega) (by rcases (show k = 4 ∨ k = 5 by omega) with rfl | rfl <;> rfl))
          have h143 : x1.toNatClampNeg = x1.toNatClampNeg := rfl
          have z144 : ra M126 o0 8 x1.toNatClampNeg = (v35 - v37).toInt := (E130 _).trans (if_pos h143)
          have K145 : rK M0 M126 o0 x1.toNatClampNeg := K119.st A131 E130 (by have := mz_nat9 (i := x1) (by have := R104.1 15 _ _ rfl; have := R104.1 16 _ _ rfl; have := R104.1 19 _ _ rfl; omega); have := R104.1 15 _ _ rfl; have := R104.1 16 _ _ rfl; have := R104.1 19 _ _ rfl; omega)
          have K146 : nN M126 o0 := K120.same (sA_a A131 (by decide +kernel)) (sF_a V132)
          have K147 : pN M126 o0 pn pN9 := K121.same (sA_a A131 (by decide +kernel)) (sF_a V132)
          have Z9148 : pO M126 o0 pb pn pa ps := Z9122.same (fun k _ _ => V132 k) (V132 23) (A131 13 (by decide) rfl)
          clear z108 z109 z110 z112 z113 z114 z115 z118
          refine mv_aload_n d_TrustDeskModel_readEnd_96 rfl rfl ?_
          refine mv_dup d_TrustDeskModel_readEnd_97 rfl ?_
          refine tr_getK (k := 24) (K128 _ 13 24 _ (K103 _ 13 24 _ (K79 _ 13 24 _ q75))) d_TrustDeskModel_readEnd_98 f_TrustDeskModel_321_13 ?_
          refine mv_iconst (v := 1) d_TrustDeskModel_readEnd_101 (by decide) ?_
          refine mv_iadd d_TrustDeskModel_readEnd_102 ?_
          have b149 : (v76 + 1 : Int32).toInt = (v76.toInt + 1) := mz_add2 rfl (by decide) (by have := R129.1 15 _ _ rfl; have := R129.1 16 _ _ rfl; have := R129.1 19 _ _ rfl; omega) (by have := R129.1 15 _ _ rfl; have := R129.1 16 _ _ rfl; have := R129.1 19 _ _ rfl; omega)
          refine tr_putR (k := 24) I127 R129 t52 rfl ⟨_, rfl⟩ (fun _ h => by cases h) rfl (fun lo hi h => by cases h; have := R129.1 15 _ _ rfl; have := R129.1 16 _ _ rfl; have := R129.1 19 _ _ rfl; exact ⟨by show (0 : Int) ≤ (v76 + 1).toInt; omega, by show (v76 + 1).toInt ≤ (6 : Int); omega⟩) (Or.inl (by decide)) d_TrustDeskModel_readEnd_103 p_TrustDeskModel_321_13 rfl rfl (fun M150 I151 q152 K153 R154 A155 V156 => ?_)
          have z157 := (V156 15 (by decide)).trans z133
          have z158 := (V156 16 (by decide)).trans z134
          have z159 := (V156 17 (by decide)).trans z135
          have z160 := (V156 19 (by decide)).trans z136
          have z161 := (V156 22 (by decide)).trans z137
          have z162 := (A155 5 (by decide) 44).trans z139
          have z163 := (A155 25 (by decide) ((rv M0 o0 24).toNat)).trans z140
          have z164 := (A155 26 (by decide) ((rv M0 o0 24).toNat)).trans z141
          have z165 := (A155 8 (by decide) x1.toNatClampNeg).trans z144
          have z166 : rv M150 o0 24 = (v76 + 1).toInt := tm_rv q152
          have E167 : rE M0 M150 o0 0 0 := E142.same (fun k h1 h2 => V156 k (by omega)) (fun k h1 h2 => A155 k (by omega))
          have K168 : rK M0 M150 o0 x1.toNatClampNeg := K145.same (sA_f A155 (by decide))
          have K169 : nN M150 o0 := K146.inc (n := (rv M0 o0 24).toNat) A155 (by have := R129.1 15 _ _ rfl; have := R129.1 16 _ _ rfl; have := R129.1 19 _ _ rfl; omega) (by have := R129.1 15 _ _ rfl; have := R129.1 16 _ _ rfl; have := R129.1 19 _ _ rfl; omega) (by have := R129.1 15 _ _ rfl; have := R129.1 16 _ _ rfl; have := R129.1 19 _ _ rfl; omega)
          obtain ⟨zt1, zt2, -, -⟩ := yO.t (by have := R129.1 15 _ _ rfl; have := R129.1 16 _ _ rfl; have := R129.1 19 _ _ rfl; omega)
          have zt3 := p_tp_le (b := pb) (n := pn) (ps.2.2 + 1)
          have zt4 : p_sp pb pn ps.2.2 = p_tp pb pn (ps.2.2 + 1) := rfl
          have zt5 : p_st pb pn ps.2.2 ≤ p_sp pb pn ps.2.2 := if h9 : p_st pb pn ps.2.2 < pn then Nat.le_of_lt (p_sp_gt h9).1 else (by rw [p_sp_ov h9]; exact p_st_le)
          have K170 : pN M150 o0 pn (pN9 ++ [(p_st pb pn ps.2.2, p_sp pb pn ps.2.2)]) := K147.inc (m := (rv M0 o0 24).toNat) A155 (by have := R129.1 15 _ _ rfl; have := R129.1 16 _ _ rfl; have := R129.1 19 _ _ rfl; omega) (by have := R129.1 15 _ _ rfl; have := R129.1 16 _ _ rfl; have := R129.1 19 _ _ rfl; omega) (by have := R129.1 15 _ _ rfl; have := R129.1 16 _ _ rfl; have := R129.1 19 _ _ rfl; omega) (by have := R129.1 15 _ _ rfl; have := R129.1 16 _ _ rfl; have := R129.1 19 _ _ rfl; omega) (by have := R129.1 15 _ _ rfl; have := R129.1 16 _ _ rfl; have := R129.1 19 _ _ rfl; omega) (by have := R129.1 15 _ _ rfl; have := R129.1 16 _ _ rfl; have := R129.1 19 _ _ rfl; omega)
          have Z9171 : pO M150 o0 pb pn pa ps := Z9148.same (fun k h1 h2 => V156 k (by omega)) (V156 23 (by decide)) (A155 13 (by decide))
          clear z133 z134 z135 z137 z139 z140 z141 z144
          refine mv_aload_n d_TrustDeskModel_readEnd_106 rfl rfl ?_
          obtain ⟨_, b178, -⟩ := I151.1 _ _ t52
          refine mv_callV (kc' := 0) (ks' := 0) (As := []) (st9 := [.ref o0]) d_TrustDeskModel_readEnd_107 lV_TrustDeskModel_237 b178 rfl (tc_TrustDeskModel_next_x (d := (d + 23)) (x9 := x9) (o0 := o0) t52 R154 Z9171.p I151.start) rfl (Nat.le_of_ble_eq_true rfl) (Nat.le_of_ble_eq_true rfl) (Nat.le_of_ble_eq_true rfl) (hst := rfl) (fun b172r M173 n174 b172 => ?_)
          obtain ⟨T175, J176, rfl, R179, f180, f181, f182⟩ := b172
          have I177 := I151.call J176 (tm_sub (by decide)) (Or.inl rfl)
          have t183 := J176.up t52
          have z184 := (rv_c I151 J176 (I151.up h_o0) (k := 19) rfl).trans z160
          have z185 := (rv_c I151 J176 (I151.up h_o0) (k := 22) rfl).trans z161
          have z186 := (rv_c I151 J176 (I151.up h_o0) (k := 24) rfl).trans z166
          have z187 := (ra_call I151 J176 (I151.up h_o0) (k := 5) rfl rfl rfl 44).trans z162
          have z188 := (ra_call I151 J176 (I151.up h_o0) (k := 25) rfl rfl rfl ((rv M0 o0 24).toNat)).trans z163
          have z189 := (ra_call I151 J176 (I151.up h_o0) (k := 26) rfl rfl rfl ((rv M0 o0 24).toNat)).trans z164
          have z190 := (ra_call I151 J176 (I151.up h_o0) (k := 8) rfl rfl rfl x1.toNatClampNeg).trans z165
          have h192 : rv M150 o0 16 + 1 ≤ rv M150 o0 15 := (by have := E167.1.2.1 (by omega); omega)
          have E191 : rE M0 M173 o0 0 1 := E167.next f180 f181 (rv_c I151 J176 (I151.up h_o0) (k := 19) rfl) (rE_ha I151 J176 (I151.up h_o0) (by decide)) (e := 1) h192 (by decide)
          have K193 : rK M0 M173 o0 x1.toNatClampNeg := K168.same (sA_c I151 J176 (I151.up h_o0) (by decide +kernel))
          have K194 : nN M173 o0 := K169.same (sA_c I151 J176 (I151.up h_o0) (by decide +kernel)) (sF_c I151 J176 (I151.up h_o0) (by decide +kernel))
          have K195 : pN M173 o0 pn (pN9 ++ [(p_st pb pn ps.2.2, p_sp pb pn ps.2.2)]) := K170.same (sA_c I151 J176 (I151.up h_o0) (by decide +kernel)) (sF_c I151 J176 (I151.up h_o0) (by decide +kernel))
          obtain ⟨s196, e197⟩ : ∃ s9 : p_S, p_nx ps = s9 := ⟨_, rfl⟩
          rw [e197] at f182
          have := f182.w
          clear z161 z166 z162 z163 z164 z165
          have q198 := J176.keep t52 (by decide) (K153 _ 13 19 _ rfl (K128 _ 13 19 _ (K103 _ 13 19 _ (K79 _ 13 19 _ q70))))
          have q199 := J176.keep t52 (by decide) (K153 _ 13 25 _ rfl (K128 _ 13 25 _ (K103 _ 13 25 _ (K79 _ 13 25 _ q73))))
          have t200 := J176.up t_a74
          have q201 := J176.keep t52 (by decide) (K153 _ 13 26 _ rfl (K128 _ 13 26 _ (K103 _ 13 26 _ q98)))
          have t202 := J176.up t_a99
          have q203 := J176.keep t52 (by decide) (K153 _ 13 8 _ rfl (K128 _ 13 8 _ q123))
          have t204 := J176.up t_a124
          have q205 := J176.keep t52 (by decide) q152
          refine mv_aload_n d_TrustDeskModel_readEnd_110 rfl rfl ?_
          refine mv_ldcSw (id := 45) (tx := "pays") d_TrustDeskModel_readEnd_111 (List.mem_of_getElem? (i := 35) rfl) ?_
          obtain ⟨_, b212, -⟩ := I177.1 _ _ t183
          refine mv_callV (kc' := 0) (ks' := 0) (As := [.ref 45]) (st9 := [.ref 45, .ref o0]) d_TrustDeskModel_readEnd_114 lV_TrustDeskModel_329 b212 rfl (tc_TrustDeskModel_wantWord_s1_45_x (d := (d + 19)) (x9 := x9) (o0 := o0) t183 R179 E191.1 (E191.s yS (by decide)) f182 I177.start) rfl (Nat.le_of_ble_eq_true rfl) (Nat.le_of_ble_eq_true rfl) (Nat.le_of_ble_eq_true rfl) (hst := rfl) (fun b206r M207 n208 b206 => ?_)
          obtain ⟨T209, J210, rfl, R213, f214, f215⟩ := b206
          have I211 := I177.call J210 (tm_sub (by decide)) (Or.inl rfl)
          have t216 := J210.up t183
          have := f214.2.1
          have f217 := Im.i f214.w.2
          have f218 := Im.i f214.w2
          have z219 := (rv_c I177 J210 (I177.up h_o0) (k := 22) rfl).trans z185
          have z220 := (rv_c I177 J210 (I177.up h_o0) (k := 24) rfl).trans z186
          have z221 := (ra_call I177 J210 (I177.up h_o0) (k := 5) rfl rfl rfl 44).trans z187
          have z222 := (ra_call I177 J210 (I177.up h_o0) (k := 25) rfl rfl rfl ((rv M0 o0 24).toNat)).trans z188
          have z223 := (ra_call I177 J210 (I177.up h_o0) (k := 26) rfl rfl rfl ((rv M0 o0 24).toNat)).trans z189
          have z224 := (ra_call I177 J210 (I177.up h_o0) (k := 8) rfl rfl rfl x1.toNatClampNeg).trans z190
          have E225 : rE M0 M207 o0 0 2 := E191.trans f214 (by decide) (yR.2 5 _ _ rfl 44).1 (by decide) (by decide)
          have K226 : rK M0 M207 o0 x1.toNatClampNeg := K193.same (sA_c I177 J210 (I177.up h_o0) (by decide +kernel))
          have K227 : nN M207 o0 := K194.same (sA_c I177 J210 (I177.up h_o0) (by decide +kernel)) (sF_c I177 J210 (I177.up h_o0) (by decide +kernel))
          have K228 : pN M207 o0 pn (pN9 ++ [(p_st pb pn ps.2.2, p_sp pb pn ps.2.2)]) := K195.same (sA_c I177 J210 (I177.up h_o0) (by decide +kernel)) (sF_c I177 J210 (I177.up h_o0) (by decide +kernel))
          obtain ⟨s229, e230⟩ : ∃ s9 : p_S, p_wd pb pn 27 s196 = s9 := ⟨_, rfl⟩
          rw [e230] at f215
          have := f215.w
          clear z185 z186 z187 z188 z189 z190
          have q231 := J210.keep t183 (by decide) q199
          have t232 := J210.up t200
          have q233 := J210.keep t183 (by decide) q201
          have t234 := J210.up t202
          have q235 := J210.keep t183 (by decide) q203
          have t236 := J210.up t204
          have q237 := J210.keep t183 (by decide) q205
          refine mv_aload_n d_TrustDeskModel_readEnd_117 rfl rfl ?_
          obtain ⟨_, b244, -⟩ := I211.1 _ _ t216
          refine mv_callV (kc' := 0) (ks' := 0) (As := []) (st9 := [.ref o0]) d_TrustDeskModel_readEnd_118 lV_TrustDeskModel_288 b244 rfl (tc_TrustDeskModel_sum_q5_x (d := (d + 4)) (x9 := x9) (o0 := o0) t216 R213 E225.1 (E225.s yS (by decide)) (Classical.byCases (fun w9 : rv M207 o0 19 = 0 => by have u91 : rv M207 o0 19 = 0 := (by omega); have := f217.o u91; have := f218.o u91; omega) (fun w9 : ¬ rv M207 o0 19 = 0 => by omega)) f215 I211.start) rfl (Nat.le_of_ble_eq_true rfl) (Nat.le_of_ble_eq_true rfl) (Nat.le_of_ble_eq_true rfl) (hst := rfl) (fun b238r M239 n240 b238 => ?_)
          obtain ⟨T241, J242, rfl, R245, f246, f247, f248⟩ := b238
          have I243 := I211.call J242 (tm_sub (by decide)) (Or.inl rfl)
          have t249 := J242.up t216
          have := f246.2.1
          have f250 := Im.i f246.w.2
          have f251 := Im.i f246.w2
          replace f247 := Im.i f247
          have z252 := (rv_c I211 J242 (I211.up h_o0) (k := 24) rfl).trans z220
          have z253 := (ra_call I211 J242 (I211.up h_o0) (k := 25) rfl rfl rfl ((rv M0 o0 24).toNat)).trans z222
          have z254 := (ra_call I211 J242 (I211.up h_o0) (k := 26) rfl rfl rfl ((rv M0 o0 24).toNat)).trans z223
          have z255 := (ra_call I211 J242 (I211.up h_o0) (k := 8) rfl rfl rfl x1.toNatClampNeg).trans z224
          have E256 : rE M0 M239 o0 1 2 := E225.trans f246 (by decide) (yR.2 5 _ _ rfl 44).1 (by decide) (by decide)
          have K257 : rK M0 M239 o0 x1.toNatClampNeg := K226.same (sA_c I211 J242 (I211.up h_o0) (by decide +kernel))
          have K258 : nN M239 o0 := K227.same (sA_c I211 J242 (I211.up h_o0) (by decide +kernel)) (sF_c I211 J242 (I211.up h_o0) (by decide +kernel))
          have K259 : pN M239 o0 pn (pN9 ++ [(p_st pb pn ps.2.2, p_sp pb pn ps.2.2)]) := K228.same (sA_c I211 J242 (I211.up h_o0) (by decide +kernel)) (sF_c I211 J242 (I211.up h_o0) (by decide +kernel))
          obtain ⟨s260, e261⟩ : ∃ s9 : p_S, p_sum pb pn pa (p_op pb pn pa 4) s229 = s9 := ⟨_, rfl⟩
          rw [e261] at f248
          have := f248.w
          clear z220 z222 z223 z224
          have q262 := J242.keep t216 (by decide) q231
          have t263 := J242.up t232
          have q264 := J242.keep t216 (by decide) q233
          have t265 := J242.up t234
          have q266 := J242.keep t216 (by decide) q235
          have t267 := J242.up t236
          have q268 := J242.keep t216 (by decide) q237
          refine mv_aload_n d_TrustDeskModel_readEnd_121 rfl rfl ?_
          obtain ⟨a270, q269, t_a270⟩ := tm_atR I243 t249 (k := 11) rfl
          refine tr_getK q269 d_TrustDeskModel_readEnd_122 f_TrustDeskModel_38_13 ?_
          refine mv_iload_n d_TrustDeskModel_readEnd_125 rfl rfl ?_
          refine mv_aload_n d_TrustDeskModel_readEnd_126 rfl rfl ?_
          obtain ⟨a272, q271, t_a272⟩ := tm_atR I243 t249 (k := 5) rfl
          refine tr_getK q271 d_TrustDeskModel_readEnd_127 f_TrustDeskModel_20_13 ?_
          refine mv_bipush (v := 44) d_TrustDeskModel_readEnd_130 (by decide) ?_
          refine tr_ialdR (o := o0) (k := 5) I243 q271 t_a272 (by decide) d_TrustDeskModel_readEnd_132 (by unfold vp_in; decide) (fun v273 e274 => ?_)
          have := R245.a (k := 5) rfl (44 : Int32).toNatClampNeg
          have : v273.toInt = ra M239 o0 5 44 := e274
          have := E256.1.1
          refine tr_iastR (k := 11) I243 R245 (I243.up h_o0) q269 t_a270 (by decide) (by decide) (fun lo hi h => by cases h; have := R245.1 15 _ _ rfl; have := R245.1 16 _ _ rfl; have := R245.1 19 _ _ rfl; exact ⟨by show (0 : Int) ≤ v273.toInt; omega, by show v273.toInt ≤ (400 : Int); omega⟩) (Or.inl (by decide)) d_TrustDeskModel_readEnd_133 (vp_in_iff.mpr (by have := R245.1 15 _ _ rfl; have := R245.1 16 _ _ rfl; have := R245.1 19 _ _ rfl; omega)) (fun M275 I276 K277 R278 E279 A280 V281 => ?_)
          have z282 := (V281 15)
          have z283 := (V281 16)
          have z284 := (V281 17)
          have z285 := (V281 19)
          have z286 := (V281 22)
          have z287 := (V281 24).trans z252
          have z288 := (A280 5 (by decide) rfl 44)
          have z289 := (A280 25 (by decide) rfl ((rv M0 o0 24).toNat)).trans z253
          have z290 := (A280 26 (by decide) rfl ((rv M0 o0 24).toNat)).trans z254
          have z291 := (A280 8 (by decide) rfl x1.toNatClampNeg).trans z255
          have E292 : rE M0 M275 o0 1 2 := E256.same (fun k _ _ => V281 k) (fun k h1 h2 => A280 k (by omega) (by rcases (show k = 4 ∨ k = 5 by omega) with rfl | rfl <;> rfl))
          have h293 : x1.toNatClampNeg = x1.toNatClampNeg := rfl
          have z294 : ra M275 o0 11 x1.toNatClampNeg = v273.toInt := (E279 _).trans (if_pos h293)
          have K295 : rK M0 M275 o0 x1.toNatClampNeg := K257.st A280 E279 (by have := mz_nat9 (i := x1) (by have := R245.1 15 _ _ rfl; have := R245.1 16 _ _ rfl; have := R245.1 19 _ _ rfl; omega); have := R245.1 15 _ _ rfl; have := R245.1 16 _ _ rfl; have := R245.1 19 _ _ rfl; omega)
          have K296 : nN M275 o0 := K258.same (sA_a A280 (by decide +kernel)) (sF_a V281)
          have K297 : pN M275 o0 pn (pN9 ++ [(p_st pb pn ps.2.2, p_sp pb pn ps.2.2)]) := K259.same (sA_a A280 (by decide +kernel)) (sF_a V281)
          have F298 : rE M275 M275 o0 0 0 := rE.rf E292.1
          have : ra M275 o0 5 44 = v273.toInt := by omega
          have Z9299 : pO M275 o0 pb pn pa s260 := f248.same (fun k _ _ => V281 k) (V281 23) (A280 13 (by decide) rfl)
          clear z252 z253 z254 z255
          refine mv_aload_n d_TrustDeskModel_readEnd_134 rfl rfl ?_
          refine mv_ldcSw (id := 25) (tx := "if") d_TrustDeskModel_readEnd_135 (List.mem_of_getElem? (i := 15) rfl) ?_
          obtain ⟨_, b306, -⟩ := I276.1 _ _ t249
          refine mv_callV (kc' := 0) (ks' := 0) (As := [.ref 25]) (st9 := [.ref 25, .ref o0]) d_TrustDeskModel_readEnd_138 lV_TrustDeskModel_329 b306 rfl (tc_TrustDeskModel_wantWord_s1_25_x (d := (d + 19)) (x9 := x9) (o0 := o0) t249 R278 E292.1 (E292.s yS (by decide)) Z9299 I276.start) rfl (Nat.le_of_ble_eq_true rfl) (Nat.le_of_ble_eq_true rfl) (Nat.le_of_ble_eq_true rfl) (hst := rfl) (fun b300r M301 n302 b300 => ?_)
          obtain ⟨T303, J304, rfl, R307, f308, f309⟩ := b300
          have I305 := I276.call J304 (tm_sub (by decide)) (Or.inl rfl)
          have t310 := J304.up t249
          have := f308.2.1
          have f311 := Im.i f308.w.2
          have f312 := Im.i f308.w2
          have z313 := (rv_c I276 J304 (I276.up h_o0) (k := 22) rfl).trans z286
          have z314 := (rv_c I276 J304 (I276.up h_o0) (k := 24) rfl).trans z287
          have z315 := (ra_call I276 J304 (I276.up h_o0) (k := 5) rfl rfl rfl 44).trans z288
          have z316 := (ra_call I276 J304 (I276.up h_o0) (k := 25) rfl rfl rfl ((rv M0 o0 24).toNat)).trans z289
          have z317 := (ra_call I276 J304 (I276.up h_o0) (k := 26) rfl rfl rfl ((rv M0 o0 24).toNat)).trans z290
          have z318 := (ra_call I276 J304 (I276.up h_o0) (k := 8) rfl rfl rfl x1.toNatClampNeg).trans z291
          have z319 := (ra_call I276 J304 (I276.up h_o0) (k := 11) rfl rfl rfl x1.toNatClampNeg).trans z294
          have E320 : rE M0 M301 o0 1 3 := E292.trans f308 (by decide) (yR.2 5 _ _ rfl 44).1 (by decide) (by decide)
          have K321 : rK M0 M301 o0 x1.toNatClampNeg := K295.same (sA_c I276 J304 (I276.up h_o0) (by decide +kernel))
          have K322 : nN M301 o0 := K296.same (sA_c I276 J304 (I276.up h_o0) (by decide +kernel)) (sF_c I276 J304 (I276.up h_o0) (by decide +kernel))
          have K323 : pN M301 o0 pn (pN9 ++ [(p_st pb pn ps.2.2, p_sp pb pn ps.2.2)]) := K297.same (sA_c I276 J304 (I276.up h_o0) (by decide +kernel)) (sF_c I276 J304 (I276.up h_o0) (by decide +kernel))
          have F324 : rE M275 M301 o0 0 1 := F298.trans f308 (by decide) (R278.2 5 _ _ rfl 44).1 (by decide) (by decide)
          obtain ⟨s325, e326⟩ : ∃ s9 : p_S, p_wd pb pn 28 s260 = s9 := ⟨_, rfl⟩
          rw [e326] at f309
          have := f309.w
          clear z286 z287 z288 z289 z290 z291 z294
          have q327 := J304.keep t249 (by decide) (K277 _ 13 25 _ q262)
          have t328 := J304.up t263
          have q329 := J304.keep t249 (by decide) (K277 _ 13 26 _ q264)
          have t330 := J304.up t265
          have q331 := J304.keep t249 (by decide) (K277 _ 13 8 _ q266)
          have t332 := J304.up t267
          have q333 := J304.keep t249 (by decide) (K277 _ 13 24 _ q268)
          have q334 := J304.keep t249 (by decide) (K277 _ 13 11 _ q269)
          have t335 := J304.up t_a270
          have q336 := J304.keep t249 (by decide) (K277 _ 13 5 _ q271)
          have t337 := J304.up t_a272
          refine mv_aload_n d_TrustDeskModel_readEnd_141 rfl rfl ?_
          obtain ⟨_, b344, -⟩ := I305.1 _ _ t310
          refine mv_callV (kc' := 0) (ks' := 0) (As := []) (st9 := [.ref o0]) d_TrustDeskModel_readEnd_142 lV_TrustDeskModel_302 b344 rfl (tc_TrustDeskModel_cond_q5_x (d := d) (x9 := x9) (o0 := o0) t310 R307 E320.1 (E320.s yS (by decide)) (Classical.byCases (fun w9 : rv M301 o0 19 = 0 => by have u91 : rv M301 o0 19 = 0 := (by omega); have := f311.o u91; have := f312.o u91; have u92 : rv M239 o0 19 = 0 := (by omega); have := f250.o u92; have := f251.o u92; have := f247.o u92; have u93 : rv M207 o0 19 = 0 := (by omega); have := f217.o u93; have := f218.o u93; omega) (fun w9 : ¬ rv M301 o0 19 = 0 => by omega)) f309 I305.start) rfl (Nat.le_of_ble_eq_true rfl) (Nat.le_of_ble_eq_true rfl) (Nat.le_of_ble_eq_true rfl) (hst := rfl) (fun b338r M339 n340 b338 => ?_)
          obtain ⟨T341, J342, rfl, R345, f346, f347, f348⟩ := b338
          have I343 := I305.call J342 (tm_sub (by decide)) (Or.inl rfl)
          have t349 := J342.up t310
          have := f346.2.1
          have f350 := Im.i f346.w.2
          have f351 := Im.i f346.w2
          replace f347 := Im.i f347
          have z352 := (rv_c I305 J342 (I305.up h_o0) (k := 24) rfl).trans z314
          have z353 := (ra_call I305 J342 (I305.up h_o0) (k := 25) rfl rfl rfl ((rv M0 o0 24).toNat)).trans z316
          have z354 := (ra_call I305 J342 (I305.up h_o0) (k := 26) rfl rfl rfl ((rv M0 o0 24).toNat)).trans z317
          have z355 := (ra_call I305 J342 (I305.up h_o0) (k := 8) rfl rfl rfl x1.toNatClampNeg).trans z318
          have z356 := (ra_call I305 J342 (I305.up h_o0) (k := 11) rfl rfl rfl x1.toNatClampNeg).trans z319
          have E357 : rE M0 M339 o0 2 3 := E320.trans f346 (by decide) (yR.2 5 _ _ rfl 44).1 (by decide) (by decide)
          have K358 : rK M0 M339 o0 x1.toNatClampNeg := K321.same (sA_c I305 J342 (I305.up h_o0) (by decide +kernel))
          have K359 : nN M339 o0 := K322.same (sA_c I305 J342 (I305.up h_o0) (by decide +kernel)) (sF_c I305 J342 (I305.up h_o0) (by decide +kernel))
          have K360 : pN M339 o0 pn (pN9 ++ [(p_st pb pn ps.2.2, p_sp pb pn ps.2.2)]) := K323.same (sA_c I305 J342 (I305.up h_o0) (by decide +kernel)) (sF_c I305 J342 (I305.up h_o0) (by decide +kernel))
          have F361 : rE M275 M339 o0 1 1 := F324.trans f346 (by decide) (R278.2 5 _ _ rfl 44).1 (by decide) (by decide)
          obtain ⟨s362, e363⟩ : ∃ s9 : p_S, p_con pb pn pa 4 (p_oc pb pn pa 4) s325 = s9 := ⟨_, rfl⟩
          rw [e363] at f348
          have := f348.w
          clear z314 z316 z317 z318 z319
          have q364 := J342.keep t310 (by decide) q327
          have t365 := J342.up t328
          have q366 := J342.keep t310 (by decide) q329
          have t367 := J342.up t330
          have q368 := J342.keep t310 (by decide) q331
          have t369 := J342.up t332
          have q370 := J342.keep t310 (by decide) q333
          have q371 := J342.keep t310 (by decide) q334
          have t372 := J342.up t335
          have q373 := J342.keep t310 (by decide) q336
          have t374 := J342.up t337
          refine mv_aload_n d_TrustDeskModel_readEnd_145 rfl rfl ?_
          obtain ⟨a376, q375, t_a376⟩ := tm_atR I343 t349 (k := 9) rfl
          refine tr_getK q375 d_TrustDeskModel_readEnd_146 f_TrustDeskModel_32_13 ?_
          refine mv_iload_n d_TrustDeskModel_readEnd_149 rfl rfl ?_
          refine mv_iconst (v := 0) d_TrustDeskModel_readEnd_150 (by decide) ?_
          have := E357.1.1
          refine tr_iastR (k := 9) I343 R345 (I343.up h_o0) q375 t_a376 (by decide) (by decide) (fun lo hi h => by cases h) (Or.inl (by decide)) d_TrustDeskModel_readEnd_151 (vp_in_iff.mpr (by have := R345.1 15 _ _ rfl; have := R345.1 16 _ _ rfl; have := R345.1 19 _ _ rfl; omega)) (fun M377 I378 K379 R380 E381 A382 V383 => ?_)
          have z384 := (V383 15)
          have z385 := (V383 16)
          have z386 := (V383 17)
          have z387 := (V383 19)
          have z388 := (V383 22)
          have z389 := (V383 24).trans z352
          have z390 := (A382 5 (by decide) rfl 44)
          have z391 := (A382 25 (by decide) rfl ((rv M0 o0 24).toNat)).trans z353
          have z392 := (A382 26 (by decide) rfl ((rv M0 o0 24).toNat)).trans z354
          have z393 := (A382 8 (by decide) rfl x1.toNatClampNeg).trans z355
          have z394 := (A382 11 (by decide) rfl x1.toNatClampNeg).trans z356
          have E395 : rE M0 M377 o0 2 3 := E357.same (fun k _ _ => V383 k) (fun k h1 h2 => A382 k (by omega) (by rcases (show k = 4 ∨ k = 5 by omega) with rfl | rfl <;> rfl))
          have K396 : rK M0 M377 o0 x1.toNatClampNeg := K358.same (sA_a A382 (by decide +kernel))
          have K397 : nN M377 o0 := K359.same (sA_a A382 (by decide +kernel)) (sF_a V383)
          have K398 : pN M377 o0 pn (pN9 ++ [(p_st pb pn ps.2.2, p_sp pb pn ps.2.2)]) := K360.same (sA_a A382 (by decide +kernel)) (sF_a V383)
          have F399 : rE M275 M377 o0 1 1 := F361.same (fun k _ _ => V383 k) (fun k h1 h2 => A382 k (by omega) (by rcases (show k = 4 ∨ k = 5 by omega) with rfl | rfl <;> rfl))
          have Z9400 : pO M377 o0 pb pn pa s362 := f348.same (fun k _ _ => V383 k) (V383 23) (A382 13 (by decide) rfl)
          clear z352 z353 z354 z355 z356
          refine mv_aload_n d_TrustDeskModel_readEnd_152 rfl rfl ?_
          obtain ⟨_, b401, -⟩ := I378.1 _ _ t349
          refine mv_callV (kc1 := 0) (ks1 := 0) (kc' := 0) (ks' := 0) (As := []) (st9 := [.ref o0]) d_TrustDeskModel_readEnd_153 lV_TrustDeskModel_230 b401 rfl (mj_enter (by decide) (Nat.le_of_ble_eq_true rfl) ?_) rfl (Nat.le_of_ble_eq_true rfl) (Nat.le_of_ble_eq_true rfl) (Nat.le_of_ble_eq_true rfl) (hst := rfl) (fun _ _ _ h => h)
          refine mv_aload_n d_TrustDeskModel_isWell_0 rfl rfl ?_
          obtain ⟨v403, q402⟩ := tm_atI I378 t349 (k := 19) rfl
          refine tr_getK q402 d_TrustDeskModel_isWell_1 f_TrustDeskModel_224_13 ?_
          have := R380.f (k := 19) q402 rfl
          have := (tm_rv q402).symm.trans z387
          have := tm_rv q402
          have := mz_hi v403
          refine mv_if_neZ (tgt := 11) (a := v403.toInt) d_TrustDeskModel_isWell_4 (by decide) rfl (fun b404 => ?_) (fun b404 => ?_)
          · refine mv_iconst (v := 0) d_TrustDeskModel_isWell_11 (by decide) ?_
            refine mv_iret d_TrustDeskModel_isWell_12 rfl (by decide) ?_
            refine mv_if_eq_t (tgt := 180) d_TrustDeskModel_readEnd_156 (by decide) (by decide) ?_
            exact mv_vret d_TrustDeskModel_readEnd_180 rfl ⟨_, I378, rfl, R380, E395.less (by decide), K396, K397, (fun h9 => by have u91 : rv M339 o0 19 = 0 := (by omega); have := f350.o u91; have := f351.o u91; have := f347.o u91; have u92 : rv M301 o0 19 = 0 := (by omega); have := f311.o u92; have := f312.o u92; have u93 : rv M239 o0 19 = 0 := (by omega); have := f250.o u93; have := f251.o u93; have := f247.o u93; have u94 : rv M207 o0 19 = 0 := (by omega); have := f217.o u94; have := f218.o u94; exact ⟨(by have := R380.1 15 _ _ rfl; have := R380.1 16 _ _ rfl; have := R380.1 19 _ _ rfl; omega), (by have := R380.1 15 _ _ rfl; have := R380.1 16 _ _ rfl; have := R380.1 19 _ _ rfl; omega), (by have := R380.1 15 _ _ rfl; have := R380.1 16 _ _ rfl; have := R380.1 19 _ _ rfl; omega)⟩), (by have := R380.1 15 _ _ rfl; have := R380.1 16 _ _ rfl; have := R380.1 19 _ _ rfl; omega), (fun w9 => rD.of E292 F399 w9 (by decide) (by decide) (yR.2 5 _ _ rfl 44).1 (by have := R380.1 15 _ _ rfl; have := R380.1 16 _ _ rfl; have := R380.1 19 _ _ rfl; omega)), (by first | (have := (yO.t (by omega)).2.1; have := (yO.t (by omega)).1; have := yO.s3 (by omega) (by omega); rw [show p_en1 pb pn pa pN9 ps = s362 from (by unfold p_en1; unfold p_prt; (try simp only [e197, e230, e261, e326, e363]); ((repeat' (first | (with_reducible rfl) | split)) <;> (first | ((try simp only [e197, e230, e261, e326, e363]); done) | ((try simp only [e197, e230, e261, e326, e363]); first | exact p_sg_Z _ (by omega) | exact (p_sg_Z _ (by omega)).symm | omega) | (exfalso; omega))))]; exact Z9400) | (exfalso; have := R380.1 15 _ _ rfl; have := R380.1 16 _ _ rfl; have := R380.1 19 _ _ rfl; omega)), (fun _ => K398)⟩
          · refine mv_iconst (v := 1) d_TrustDeskModel_isWell_7 (by decide) ?_
            refine mv_goto (tgt := 12) d_TrustDeskModel_isWell_8 (by decide) ?_
            refine mv_iret d_TrustDeskModel_isWell_12 rfl (by decide) ?_
            refine mv_if_eq_f (tgt := 180) d_TrustDeskModel_readEnd_156 (by decide) (by decide) ?_
            refine mv_aload_n d_TrustDeskModel_readEnd_159 rfl rfl ?_
            refine mv_ldcSw (id := 46) (tx := "part") d_TrustDeskModel_readEnd_160 (List.mem_of_getElem? (i := 36) rfl) ?_
            obtain ⟨_, b411, -⟩ := I378.1 _ _ t349
            refine mv_callV (kc' := 0) (ks' := 0) (As := [.ref 46]) (st9 := [.ref 46, .ref o0]) d_TrustDeskModel_readEnd_163 lV_TrustDeskModel_244 b411 rfl (tc_TrustDeskModel_isWord_s1_46_x (d := (d + 20)) (x9 := x9) (o0 := o0) t349 R380 I378.start) rfl (Nat.le_of_ble_eq_true rfl) (Nat.le_of_ble_eq_true rfl) (Nat.le_of_ble_eq_true rfl) (hst := rfl) (fun b405r M406 n407 b405 => ?_)
            obtain ⟨T408, J409, v412, rfl, b413, b414, R415, f416, f417, f418⟩ := b405
            have I410 := I378.call J409 (tm_sub (by decide)) (Or.inl rfl)
            have t419 := J409.up t349
            replace f416 := Im.i f416
            replace f417 := Im.i f417
            replace f418 := Im.i f418
            have z420 := (rv_c I378 J409 (I378.up h_o0) (k := 15) rfl).trans z384
            have z421 := (rv_c I378 J409 (I378.up h_o0) (k := 16) rfl).trans z385
            have z422 := (rv_c I378 J409 (I378.up h_o0) (k := 17) rfl).trans z386
            have z423 := (rv_c I378 J409 (I378.up h_o0) (k := 19) rfl).trans z387
            have z424 := (rv_c I378 J409 (I378.up h_o0) (k := 22) rfl).trans z388
            have z425 := (rv_c I378 J409 (I378.up h_o0) (k := 24) rfl).trans z389
            have z426 := (ra_call I378 J409 (I378.up h_o0) (k := 5) rfl rfl rfl 44).trans z390
            have z427 := (ra_call I378 J409 (I378.up h_o0) (k := 25) rfl rfl rfl ((rv M0 o0 24).toNat)).trans z391
            have z428 := (ra_call I378 J409 (I378.up h_o0) (k := 26) rfl rfl rfl ((rv M0 o0 24).toNat)).trans z392
            have z429 := (ra_call I378 J409 (I378.up h_o0) (k := 8) rfl rfl rfl x1.toNatClampNeg).trans z393
            have z430 := (ra_call I378 J409 (I378.up h_o0) (k := 11) rfl rfl rfl x1.toNatClampNeg).trans z394
            have E431 : rE M0 M406 o0 2 3 := E395.same (rE_hv I378 J409 (I378.up h_o0) 15 19 (by decide)) (rE_ha I378 J409 (I378.up h_o0) (by decide))
            have K432 : rK M0 M406 o0 x1.toNatClampNeg := K396.same (sA_c I378 J409 (I378.up h_o0) (by decide +kernel))
            have K433 : nN M406 o0 := K397.same (sA_c I378 J409 (I378.up h_o0) (by decide +kernel)) (sF_c I378 J409 (I378.up h_o0) (by decide +kernel))
            have K434 : pN M406 o0 pn (pN9 ++ [(p_st pb pn ps.2.2, p_sp pb pn ps.2.2)]) := K398.same (sA_c I378 J409 (I378.up h_o0) (by decide +kernel)) (sF_c I378 J409 (I378.up h_o0) (by decide +kernel))
            have F435 : rE M275 M406 o0 1 1 := F399.same (rE_hv I378 J409 (I378.up h_o0) 15 19 (by decide)) (rE_ha I378 J409 (I378.up h_o0) (by decide))
            have Z9436 : pO M406 o0 pb pn pa s362 := Z9400.same (rE_hv I378 J409 (I378.up h_o0) 14 20 (by decide)) (rv_c I378 J409 (I378.up h_o0) (k := 23) rfl) (ra_call I378 J409 (I378.up h_o0) (k := 13) rfl rfl rfl)
            have d437 := Im.i (pO.w_29 Z9400 (by have := R380.1 15 _ _ rfl; have := R380.1 16 _ _ rfl; have := R380.1 19 _ _ rfl; omega) (Im.o f417) (Im.o f418) (by have := R380.1 15 _ _ rfl; have := R380.1 16 _ _ rfl; have := R380.1 19 _ _ rfl; omega))
            clear z388 z389 z390 z391 z392 z393 z394
            have q438 := J409.keep t349 (by decide) (K379 _ 13 25 _ q364)
            have t439 := J409.up t365
            have q440 := J409.keep t349 (by decide) (K379 _ 13 26 _ q366)
            have t441 := J409.up t367
            have q442 := J409.keep t349 (by decide) (K379 _ 13 8 _ q368)
            have t443 := J409.up t369
            have q444 := J409.keep t349 (by decide) (K379 _ 13 24 _ q370)
            have q445 := J409.keep t349 (by decide) (K379 _ 13 11 _ q371)
            have t446 := J409.up t372
            have q447 := J409.keep t349 (by decide) (K379 _ 13 5 _ q373)
            have t448 := J409.up t374
            have q449 := J409.keep t349 (by decide) (K379 _ 13 9 _ q375)
            have t450 := J409.up t_a376
            have q451 := J409.keep t349 (by decide) q402
            have := mz_hi v412
            refine mv_if_eqZ (tgt := 180) (a := v412.toInt) d_TrustDeskModel_readEnd_166 (by decide) rfl (fun b452 => ?_) (fun b452 => ?_)
            · exact mv_vret d_TrustDeskModel_readEnd_180 rfl ⟨_, I410, rfl, R415, E431.less (by decide), K432, K433, (fun h9 => by have u91 : rv M339 o0 19 = 0 := (by omega); have := f350.o u91; have := f351.o u91; have := f347.o u91; have u92 : rv M301 o0 19 = 0 := (by omega); have := f311.o u92; have := f312.o u92; have u93 : rv M239 o0 19 = 0 := (by omega); have := f250.o u93; have := f251.o u93; have := f247.o u93; have u94 : rv M207 o0 19 = 0 := (by omega); have := f217.o u94; have := f218.o u94; exact ⟨(by have := R415.1 15 _ _ rfl; have := R415.1 16 _ _ rfl; have := R415.1 19 _ _ rfl; omega), (by have := R415.1 15 _ _ rfl; have := R415.1 16 _ _ rfl; have := R415.1 19 _ _ rfl; omega), (by have := R415.1 15 _ _ rfl; have := R415.1 16 _ _ rfl; have := R415.1 19 _ _ rfl; omega)⟩), (by have := R415.1 15 _ _ rfl; have := R415.1 16 _ _ rfl; have := R415.1 19 _ _ rfl; omega), (fun w9 => rD.of E292 F435 w9 (by decide) (by decide) (yR.2 5 _ _ rfl 44).1 (by have := R415.1 15 _ _ rfl; have := R415.1 16 _ _ rfl; have := R415.1 19 _ _ rfl; omega)), (by first | (have := (yO.t (by omega)).2.1; have := (yO.t (by omega)).1; have := yO.s3 (by omega) (by omega); have := pW0 (Im.o d437) (by omega); have := Z9436.wk; rw [show p_en1 pb pn pa pN9 ps = s362 from (by unfold p_en1; unfold p_prt; (try simp only [e197, e230, e261, e326, e363]); ((repeat' (first | (with_reducible rfl) | split)) <;> (first | ((try simp only [e197, e230, e261, e326, e363]); done) | ((try simp only [e197, e230, e261, e326, e363]); first | exact p_sg_Z _ (by omega) | exact (p_sg_Z _ (by omega)).symm | omega) | (exfalso; omega))))]; exact Z9436) | (exfalso; have := R415.1 15 _ _ rfl; have := R415.1 16 _ _ rfl; have := R415.1 19 _ _ rfl; omega)), (fun _ => K434)⟩
            · refine mv_aload_n d_TrustDeskModel_readEnd_169 rfl rfl ?_
              refine tr_getK (k := 9) q449 d_TrustDeskModel_readEnd_170 f_TrustDeskModel_32_13 ?_
              refine mv_iload_n d_TrustDeskModel_readEnd_173 rfl rfl ?_
              refine mv_iconst (v := 1) d_TrustDeskModel_readEnd_174 (by decide) ?_
              have := E431.1.1
              refine tr_iastR (k := 9) I410 R415 (I410.up h_o0) q449 t450 (by decide) (by decide) (fun lo hi h => by cases h) (Or.inl (by decide)) d_TrustDeskModel_readEnd_175 (vp_in_iff.mpr (by have := R415.1 15 _ _ rfl; have := R415.1 16 _ _ rfl; have := R415.1 19 _ _ rfl; omega)) (fun M453 I454 K455 R456 E457 A458 V459 => ?_)
              have z460 := (V459 15).trans z420
              have z461 := (V459 16).trans z421
              have z462 := (V459 17).trans z422
              have z463 := (V459 19).trans z423
              have z464 := (V459 22).trans z424
              have z465 := (V459 24).trans z425
              have z466 := (A458 5 (by decide) rfl 44).trans z426
              have z467 := (A458 25 (by decide) rfl ((rv M0 o0 24).toNat)).trans z427
              have z468 := (A458 26 (by decide) rfl ((rv M0 o0 24).toNat)).trans z428
              have z469 := (A458 8 (by decide) rfl x1.toNatClampNeg).trans z429
              have z470 := (A458 11 (by decide) rfl x1.toNatClampNeg).trans z430
              have E471 : rE M0 M453 o0 2 3 := E431.same (fun k _ _ => V459 k) (fun k h1 h2 => A458 k (by omega) (by rcases (show k = 4 ∨ k = 5 by omega) with rfl | rfl <;> rfl))
              have K472 : rK M0 M453 o0 x1.toNatClampNeg := K432.same (sA_a A458 (by decide +kernel))
              have K473 : nN M453 o0 := K433.same (sA_a A458 (by decide +kernel)) (sF_a V459)
              have K474 : pN M453 o0 pn (pN9 ++ [(p_st pb pn ps.2.2, p_sp pb pn ps.2.2)]) := K434.same (sA_a A458 (by decide +kernel)) (sF_a V459)
              have F475 : rE M275 M453 o0 1 1 := F435.same (fun k _ _ => V459 k) (fun k h1 h2 => A458 k (by omega) (by rcases (show k = 4 ∨ k = 5 by omega) with rfl | rfl <;> rfl))
              have Z9476 : pO M453 o0 pb pn pa s362 := Z9436.same (fun k _ _ => V459 k) (V459 23) (A458 13 (by decide) rfl)
              clear z420 z421 z422 z424 z425 z426 z427 z428 z429 z430
              refine mv_aload_n d_TrustDeskModel_readEnd_176 rfl rfl ?_
              obtain ⟨_, b483, -⟩ := I454.1 _ _ t419
              refine mv_callV (kc' := 0) (ks' := 0) (As := []) (st9 := [.ref o0]) d_TrustDeskModel_readEnd_177 lV_TrustDeskModel_237 b483 rfl (tc_TrustDeskModel_next_x (d := (d + 23)) (x9 := x9) (o0 := o0) t419 R456 Z9476.p I454.start) rfl (Nat.le_of_ble_eq_true rfl) (Nat.le_of_ble_eq_true rfl) (Nat.le_of_ble_eq_true rfl) (hst := rfl) (fun b477r M478 n479 b477 => ?_)
              obtain ⟨T480, J481, rfl, R484, f485, f486, f487⟩ := b477
              have I482 := I454.call J481 (tm_sub (by decide)) (Or.inl rfl)
              have t488 := J481.up t419
              have z489 := (rv_c I454 J481 (I454.up h_o0) (k := 19) rfl).trans z463
              have z490 := (rv_c I454 J481 (I454.up h_o0) (k := 22) rfl).trans z464
              have z491 := (rv_c I454 J481 (I454.up h_o0) (k := 24) rfl).trans z465
              have z492 := (ra_call I454 J481 (I454.up h_o0) (k := 5) rfl rfl rfl 44).trans z466
              have z493 := (ra_call I454 J481 (I454.up h_o0) (k := 25) rfl rfl rfl ((rv M0 o0 24).toNat)).trans z467
              have z494 := (ra_call I454 J481 (I454.up h_o0) (k := 26) rfl rfl rfl ((rv M0 o0 24).toNat)).trans z468
              have z495 := (ra_call I454 J481 (I454.up h_o0) (k := 8) rfl rfl rfl x1.toNatClampNeg).trans z469
              have z496 := (ra_call I454 J481 (I454.up h_o0) (k := 11) rfl rfl rfl x1.toNatClampNeg).trans z470
              have h498 : rv M453 o0 16 + 1 ≤ rv M453 o0 15 := (by have := f416.o (by omega); have := E471.1.2.1 (by omega); omega)
              have E497 : rE M0 M478 o0 2 4 := E471.next f485 f486 (rv_c I454 J481 (I454.up h_o0) (k := 19) rfl) (rE_ha I454 J481 (I454.up h_o0) (by decide)) (e := 1) h498 (by decide)
              have K499 : rK M0 M478 o0 x1.toNatClampNeg := K472.same (sA_c I454 J481 (I454.up h_o0) (by decide +kernel))
              have K500 : nN M478 o0 := K473.same (sA_c I454 J481 (I454.up h_o0) (by decide +kernel)) (sF_c I454 J481 (I454.up h_o0) (by decide +kernel))
              have K501 : pN M478 o0 pn (pN9 ++ [(p_st pb pn ps.2.2, p_sp pb pn ps.2.2)]) := K474.same (sA_c I454 J481 (I454.up h_o0) (by decide +kernel)) (sF_c I454 J481 (I454.up h_o0) (by decide +kernel))
              have F502 : rE M275 M478 o0 1 2 := F475.next f485 f486 (rv_c I454 J481 (I454.up h_o0) (k := 19) rfl) (rE_ha I454 J481 (I454.up h_o0) (by decide)) (e := 1) (by have := R456.1 15 _ _ rfl; have := R456.1 16 _ _ rfl; have := R456.1 19 _ _ rfl; omega) (by decide)
              obtain ⟨s503, e504⟩ : ∃ s9 : p_S, p_nx s362 = s9 := ⟨_, rfl⟩
              rw [e504] at f487
              have := f487.w
              clear z464 z465 z466 z467 z468 z469 z470
              have q505 := J481.keep t419 (by decide) (K455 _ 13 25 _ q438)
              have t506 := J481.up t439
              have q507 := J481.keep t419 (by decide) (K455 _ 13 26 _ q440)
              have t508 := J481.up t441
              have q509 := J481.keep t419 (by decide) (K455 _ 13 8 _ q442)
              have t510 := J481.up t443
              have q511 := J481.keep t419 (by decide) (K455 _ 13 24 _ q444)
              have q512 := J481.keep t419 (by decide) (K455 _ 13 11 _ q445)
              have t513 := J481.up t446
              have q514 := J481.keep t419 (by decide) (K455 _ 13 5 _ q447)
              have t515 := J481.up t448
              have q516 := J481.keep t419 (by decide) (K455 _ 13 9 _ q449)
              have t517 := J481.up t450
              have q518 := J481.keep t419 (by decide) (K455 _ 13 19 _ q451)
              exact mv_vret d_TrustDeskModel_readEnd_180 rfl ⟨_, I482, rfl, R484, E497.less (by decide), K499, K500, (fun h9 => by have u91 : rv M339 o0 19 = 0 := (by omega); have := f350.o u91; have := f351.o u91; have := f347.o u91; have u92 : rv M301 o0 19 = 0 := (by omega); have := f311.o u92; have := f312.o u92; have u93 : rv M239 o0 19 = 0 := (by omega); have := f250.o u93; have := f251.o u93; have := f247.o u93; have u94 : rv M207 o0 19 = 0 := (by omega); have := f217.o u94; have := f218.o u94; exact ⟨(by have := R484.1 15 _ _ rfl; have := R484.1 16 _ _ rfl; have := R484.1 19 _ _ rfl; omega), (by have := R484.1 15 _ _ rfl; have := R484.1 16 _ _ rfl; have := R484.1 19 _ _ rfl; omega), (by have := R484.1 15 _ _ rfl; have := R484.1 16 _ _ rfl; have := R484.1 19 _ _ rfl; omega)⟩), (by have := R484.1 15 _ _ rfl; have := R484.1 16 _ _ rfl; have := R484.1 19 _ _ rfl; omega), (fun w9 => rD.of E292 F502 w9 (by decide) (by decide) (yR.2 5 _ _ rfl 44).1 (by have := R484.1 15 _ _ rfl; have := R484.1 16 _ _ rfl; have := R484.1 19 _ _ rfl; omega)), (by first | (have := (yO.t (by omega)).2.1; have := (yO.t (by omega)).1; have := yO.s3 (by omega) (by omega); have := pW1 (Im.o d437) (by omega); have := Z9436.wk; rw [show p_en1 pb pn pa pN9 ps = s503 from (by unfold p_en1; unfold p_prt; (try simp only [e197, e230, e261, e326, e363, e504]); ((repeat' (first | (with_reducible rfl) | split)) <;> (first | ((try simp only [e197, e230, e261, e326, e363, e504]); done) | ((try simp only [e197, e230, e261, e326, e363, e504]); first | exact p_sg_Z _ (by omega) | exact (p_sg_Z _ (by omega)).symm | omega) | (exfalso; omega))))]; exact f487) | (exfalso; have := R484.1 15 _ _ rfl; have := R484.1 16 _ _ rfl; have := R484.1 19 _ _ rfl; omega)), (fun _ => K501)⟩
      · refine mv_aload_n d_TrustDeskModel_readEnd_37 rfl rfl ?_
        refine mv_iconst (v := 3) d_TrustDeskModel_readEnd_38 (by decide) ?_
        obtain ⟨_, b525, -⟩ := I45.1 _ _ t52
        have : (3 : Int32).toInt = 3 := by decide
        refine mv_callV (kc' := 0) (ks' := 0) (As := [.int 3]) (st9 := [.int 3, .ref o0]) d_TrustDeskModel_readEnd_39 lV_TrustDeskModel_240 b525 rfl (tc_TrustDeskModel_fails_x (d := (d + 24)) (x9 := x9) (o0 := o0) (x1 := 3) t52 R50 (by decide) Z964 I45.start) rfl (Nat.le_of_ble_eq_true rfl) (Nat.le_of_ble_eq_true rfl) (Nat.le_of_ble_eq_true rfl) (hst := rfl) (fun b519r M520 n521 b519 => ?_)
        obtain ⟨T522, J523, rfl, R526, f527, f528⟩ := b519
        have I524 := I45.call J523 (tm_sub (by decide)) (Or.inl rfl)
        have t529 := J523.up t52
        have z530 := (rv_c I45 J523 (I45.up h_o0) (k := 15) rfl).trans z53
        have z531 := (rv_c I45 J523 (I45.up h_o0) (k := 16) rfl).trans z54
        have z532 := (rv_c I45 J523 (I45.up h_o0) (k := 17) rfl).trans z55
        have z533 := (rv_c I45 J523 (I45.up h_o0) (k := 22) rfl).trans z57
        have z534 := (rv_c I45 J523 (I45.up h_o0) (k := 24) rfl).trans z58
        have z535 := (ra_call I45 J523 (I45.up h_o0) (k := 5) rfl rfl rfl 44).trans z59
        have E536 : rE M0 M520 o0 0 0 := E60.fails (rE_hv I45 J523 (I45.up h_o0) 15 18 (by decide)) (rE_ha I45 J523 (I45.up h_o0) (by decide)) f527 0 0
        have K537 : rK M0 M520 o0 x1.toNatClampNeg := K61.same (sA_c I45 J523 (I45.up h_o0) (by decide +kernel))
        have K538 : nN M520 o0 := K62.same (sA_c I45 J523 (I45.up h_o0) (by decide +kernel)) (sF_c I45 J523 (I45.up h_o0) (by decide +kernel))
        have K539 : pN M520 o0 pn pN9 := K63.same (sA_c I45 J523 (I45.up h_o0) (by decide +kernel)) (sF_c I45 J523 (I45.up h_o0) (by decide +kernel))
        rw [show (3 : Int32).toInt = 3 from by decide] at f528
        obtain ⟨s540, e541⟩ : ∃ s9 : p_S, p_fl pb pn 3 ps = s9 := ⟨_, rfl⟩
        rw [e541] at f528
        have := f528.w
        clear z53 z54 z55 z57 z58 z59
        have q542 := J523.keep t52 (by decide) q65
        have q543 := J523.keep t52 (by decide) q66
        have q544 := J523.keep t52 (by decide) q67
        refine mv_aload_n d_TrustDeskModel_readEnd_42 rfl rfl ?_
        obtain ⟨_, b545, -⟩ := I524.1 _ _ t529
        refine mv_callV (kc1 := 0) (ks1 := 0) (kc' := 0) (ks' := 0) (As := []) (st9 := [.ref o0]) d_TrustDeskModel_readEnd_43 lV_TrustDeskModel_230 b545 rfl (mj_enter (by decide) (Nat.le_of_ble_eq_true rfl) ?_) rfl (Nat.le_of_ble_eq_true rfl) (Nat.le_of_ble_eq_true rfl) (Nat.le_of_ble_eq_true rfl) (hst := rfl) (fun _ _ _ h => h)
        refine mv_aload_n d_TrustDeskModel_isWell_0 rfl rfl ?_
        obtain ⟨v547, q546⟩ := tm_atI I524 t529 (k := 19) rfl
        refine tr_getK q546 d_TrustDeskModel_isWell_1 f_TrustDeskModel_224_13 ?_
        have := R526.f (k := 19) q546 rfl
        have := tm_rv q546
        refine mv_if_neZ (tgt := 11) (a := v547.toInt) d_TrustDeskModel_isWell_4 (by decide) rfl (fun b548 => ?_) (fun b548 => ?_)
        · refine mv_iconst (v := 0) d_TrustDeskModel_isWell_11 (by decide) ?_
          refine mv_iret d_TrustDeskModel_isWell_12 rfl (by decide) ?_
          refine mv_if_ne_f (tgt := 50) d_TrustDeskModel_readEnd_46 (by decide) (by decide) ?_
          exact mv_vret d_TrustDeskModel_readEnd_49 rfl ⟨_, I524, rfl, R526, E536.vac (by have := R526.1 15 _ _ rfl; have := R526.1 16 _ _ rfl; have := R526.1 19 _ _ rfl; omega) 2 0, K537, K538, (fun h9 => absurd h9 (by have := R526.1 15 _ _ rfl; have := R526.1 16 _ _ rfl; have := R526.1 19 _ _ rfl; omega)), (by have := R526.1 15 _ _ rfl; have := R526.1 16 _ _ rfl; have := R526.1 19 _ _ rfl; omega), (fun h9 => absurd h9 (by have := R526.1 15 _ _ rfl; have := R526.1 16 _ _ rfl; have := R526.1 19 _ _ rfl; omega)), (by first | (have := (yO.t (by omega)).2.1; have := (yO.t (by omega)).1; have := yO.s3 (by omega) (by omega); rw [show p_en1 pb pn pa pN9 ps = s540 from (by unfold p_en1; unfold p_prt; (try simp only [e541]); ((repeat' (first | (with_reducible rfl) | split)) <;> (first | ((try simp only [e541]); done) | ((try simp only [e541]); first | exact p_sg_Z _ (by omega) | exact (p_sg_Z _ (by omega)).symm | omega) | (exfalso; omega))))]; exact f528) | (exfalso; have := R526.1 15 _ _ rfl; have := R526.1 16 _ _ rfl; have := R526.1 19 _ _ rfl; omega)), (fun h9 => absurd h9 (by have := R526.1 15 _ _ rfl; have := R526.1 16 _ _ rfl; have := R526.1 19 _ _ rfl; omega))⟩
        · exfalso
          have := R526.1 15 _ _ rfl; have := R526.1 16 _ _ rfl; have := R526.1 19 _ _ rfl; omega
    · refine mv_aload_n d_TrustDeskModel_readEnd_22 rfl rfl ?_
      refine mv_iconst (v := 1) d_TrustDeskModel_readEnd_23 (by decide) ?_
      obtain ⟨_, b555, -⟩ := I0.1 _ _ h_o0
      have : (1 : Int32).toInt = 1 := by decide
      refine mv_callV (kc' := 0) (ks' := 0) (As := [.int 1]) (st9 := [.int 1, .ref o0]) d_TrustDeskModel_readEnd_24 lV_TrustDeskModel_240 b555 rfl (tc_TrustDeskModel_fails_x (d := (d + 24)) (x9 := x9) (o0 := o0) (x1 := 1) h_o0 yR (by decide) yO I0.start) rfl (Nat.le_of_ble_eq_true rfl) (Nat.le_of_ble_eq_true rfl) (Nat.le_of_ble_eq_true rfl) (hst := rfl) (fun b549r M550 n551 b549 => ?_)
      obtain ⟨T552, J553, rfl, R556, f557, f558⟩ := b549
      have I554 := I0.call J553 (tm_sub (by decide)) (Or.inl rfl)
      have t559 := J553.up h_o0
      have z560 := (rv_c I0 J553 (I0.up h_o0) (k := 15) rfl)
      have z561 := (rv_c I0 J553 (I0.up h_o0) (k := 16) rfl)
      have z562 := (rv_c I0 J553 (I0.up h_o0) (k := 17) rfl)
      have z563 := (rv_c I0 J553 (I0.up h_o0) (k := 22) rfl)
      have z564 := (rv_c I0 J553 (I0.up h_o0) (k := 24) rfl)
      have z565 := (ra_call I0 J553 (I0.up h_o0) (k := 5) rfl rfl rfl 44)
      have E566 : rE M0 M550 o0 0 0 := yE0.fails (rE_hv I0 J553 (I0.up h_o0) 15 18 (by decide)) (rE_ha I0 J553 (I0.up h_o0) (by decide)) f557 0 0
      have K567 : rK M0 M550 o0 x1.toNatClampNeg := K1.same (sA_c I0 J553 (I0.up h_o0) (by decide +kernel))
      have K568 : nN M550 o0 := K2.same (sA_c I0 J553 (I0.up h_o0) (by decide +kernel)) (sF_c I0 J553 (I0.up h_o0) (by decide +kernel))
      have K569 : pN M550 o0 pn pN9 := yM.same (sA_c I0 J553 (I0.up h_o0) (by decide +kernel)) (sF_c I0 J553 (I0.up h_o0) (by decide +kernel))
      rw [show (1 : Int32).toInt = 1 from by decide] at f558
      obtain ⟨s570, e571⟩ : ∃ s9 : p_S, p_fl pb pn 1 ps = s9 := ⟨_, rfl⟩
      rw [e571] at f558
      have := f558.w
      have q572 := J553.keep h_o0 (by decide) q3
      have q573 := J553.keep h_o0 (by decide) q34
      have q574 := J553.keep h_o0 (by decide) q36
      refine mv_goto (tgt := 42) d_TrustDeskModel_readEnd_27 (by decide) ?_
      refine mv_aload_n d_TrustDeskModel_readEnd_42 rfl rfl ?_
      obtain ⟨_, b575, -⟩ := I554.1 _ _ t559
      refine mv_callV (kc1 := 0) (ks1 := 0) (kc' := 0) (ks' := 0) (As := []) (st9 := [.ref o0]) d_TrustDeskModel_readEnd_43 lV_TrustDeskModel_230 b575 rfl (mj_enter (by decide) (Nat.le_of_ble_eq_true rfl) ?_) rfl (Nat.le_of_ble_eq_true rfl) (Nat.le_of_ble_eq_true rfl) (Nat.le_of_ble_eq_true rfl) (hst := rfl) (fun _ _ _ h => h)
      refine mv_aload_n d_TrustDeskModel_isWell_0 rfl rfl ?_
      obtain ⟨v577, q576⟩ := tm_atI I554 t559 (k := 19) rfl
      refine tr_getK q576 d_TrustDeskModel_isWell_1 f_TrustDeskModel_224_13 ?_
      have := R556.f (k := 19) q576 rfl
      have := tm_rv q576
      refine mv_if_neZ (tgt := 11) (a := v577.toInt) d_TrustDeskModel_isWell_4 (by decide) rfl (fun b578 => ?_) (fun b578 => ?_)
      · refine mv_iconst (v := 0) d_TrustDeskModel_isWell_11 (by decide) ?_
        refine mv_iret d_TrustDeskModel_isWell_12 rfl (by decide) ?_
        refine mv_if_ne_f (tgt := 50) d_TrustDeskModel_readEnd_46 (by decide) (by decide) ?_
        exact mv_vret d_TrustDeskModel_readEnd_49 rfl ⟨_, I554, rfl, R556, E566.vac (by have := R556.1 15 _ _ rfl; have := R556.1 16 _ _ rfl; have := R556.1 19 _ _ rfl; omega) 2 0, K567, K568, (fun h9 => absurd h9 (by have := R556.1 15 _ _ rfl; have := R556.1 16 _ _ rfl; have := R556.1 19 _ _ rfl; omega)), (by have := R556.1 15 _ _ rfl; have := R556.1 16 _ _ rfl; have := R556.1 19 _ _ rfl; omega), (fun h9 => absurd h9 (by have := R556.1 15 _ _ rfl; have := R556.1 16 _ _ rfl; have := R556.1 19 _ _ rfl; omega)), (by first | (have := (yO.t (by omega)).2.1; have := (yO.t (by omega)).1; have := yO.s3 (by omega) (by omega); rw [show p_en1 pb pn pa pN9 ps = s570 from (by unfold p_en1; unfold p_prt; (try simp only [e571]); ((repeat' (first | (with_reducible rfl) | split)) <;> (first | ((try simp only [e571]); done) | ((try simp only [e571]); first | exact p_sg_Z _ (by omega) | exact (p_sg_Z _ (by omega)).symm | omega) | (exfalso; omega))))]; exact f558) | (exfalso; have := R556.1 15 _ _ rfl; have := R556.1 16 _ _ rfl; have := R556.1 19 _ _ rfl; omega)), (fun h9 => absurd h9 (by have := R556.1 15 _ _ rfl; have := R556.1 16 _ _ rfl; have := R556.1 19 _ _ rfl; omega))⟩
      · exfalso
        have := R556.1 15 _ _ rfl; have := R556.1 16 _ _ rfl; have := R556.1 19 _ _ rfl; omega
