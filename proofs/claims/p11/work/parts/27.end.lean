abbrev kY_TrustDeskModel_readEnd : mj_Y := (⟨"TrustDeskModel", "readEnd", "(I)V"⟩, prog_14_method_37_code, 2, (Option.none : Option Jvm.ClassFile.FieldType))
theorem d_TrustDeskModel_readEnd_0 : decode kY_TrustDeskModel_readEnd.2.1 0 = .ok (.aload_n 0, 1) := by decide +kernel
theorem d_TrustDeskModel_readEnd_1 : decode kY_TrustDeskModel_readEnd.2.1 1 = .ok (.getfield 198, 3) := by decide +kernel
theorem d_TrustDeskModel_readEnd_4 : decode kY_TrustDeskModel_readEnd.2.1 4 = .ok (.iconst 3, 1) := by decide +kernel
theorem d_TrustDeskModel_readEnd_5 : decode kY_TrustDeskModel_readEnd.2.1 5 = .ok (.if_icmp .ne 17, 3) := by decide +kernel
theorem d_TrustDeskModel_readEnd_22 : decode kY_TrustDeskModel_readEnd.2.1 22 = .ok (.aload_n 0, 1) := by decide +kernel
theorem d_TrustDeskModel_readEnd_23 : decode kY_TrustDeskModel_readEnd.2.1 23 = .ok (.iconst 1, 1) := by decide +kernel
theorem d_TrustDeskModel_readEnd_24 : decode kY_TrustDeskModel_readEnd.2.1 24 = .ok (.invokevirtual 240, 3) := by decide +kernel
theorem d_TrustDeskModel_readEnd_27 : decode kY_TrustDeskModel_readEnd.2.1 27 = .ok (.goto 15, 3) := by decide +kernel
theorem d_TrustDeskModel_readEnd_42 : decode kY_TrustDeskModel_readEnd.2.1 42 = .ok (.aload_n 0, 1) := by decide +kernel
theorem d_TrustDeskModel_readEnd_43 : decode kY_TrustDeskModel_readEnd.2.1 43 = .ok (.invokevirtual 230, 3) := by decide +kernel
theorem d_TrustDeskModel_readEnd_46 : decode kY_TrustDeskModel_readEnd.2.1 46 = .ok (.ifCond .ne 4, 3) := by decide +kernel
theorem d_TrustDeskModel_readEnd_49 : decode kY_TrustDeskModel_readEnd.2.1 49 = .ok (.return_, 1) := by decide +kernel
theorem d_TrustDeskModel_readEnd_8 : decode kY_TrustDeskModel_readEnd.2.1 8 = .ok (.aload_n 0, 1) := by decide +kernel
theorem d_TrustDeskModel_readEnd_9 : decode kY_TrustDeskModel_readEnd.2.1 9 = .ok (.getfield 192, 3) := by decide +kernel
theorem d_TrustDeskModel_readEnd_12 : decode kY_TrustDeskModel_readEnd.2.1 12 = .ok (.aload_n 0, 1) := by decide +kernel
theorem d_TrustDeskModel_readEnd_13 : decode kY_TrustDeskModel_readEnd.2.1 13 = .ok (.getfield 195, 3) := by decide +kernel
theorem d_TrustDeskModel_readEnd_16 : decode kY_TrustDeskModel_readEnd.2.1 16 = .ok (.isub, 1) := by decide +kernel
theorem d_TrustDeskModel_readEnd_17 : decode kY_TrustDeskModel_readEnd.2.1 17 = .ok (.bipush 8, 2) := by decide +kernel
theorem d_TrustDeskModel_readEnd_19 : decode kY_TrustDeskModel_readEnd.2.1 19 = .ok (.if_icmp .le 11, 3) := by decide +kernel
theorem d_TrustDeskModel_readEnd_30 : decode kY_TrustDeskModel_readEnd.2.1 30 = .ok (.aload_n 0, 1) := by decide +kernel
theorem d_TrustDeskModel_readEnd_31 : decode kY_TrustDeskModel_readEnd.2.1 31 = .ok (.invokevirtual 324, 3) := by decide +kernel
theorem lV_TrustDeskModel_324 : mj_lV "TrustDeskModel" 324 kY_TrustDeskModel_isThere 0 := ⟨⟨(mj_in1 (List.mem_of_getElem? (i := 1806) (by decide +kernel)) rfl), (mj_in1 (List.mem_of_getElem? (i := 10) (by decide +kernel)) rfl), (mj_in1 (List.mem_of_getElem? (i := 1809) (by decide +kernel)) rfl), by decide, rfl, by decide⟩, (mj_in1 (List.mem_of_getElem? (i := 1808) (by decide +kernel)) rfl), (mj_in (List.mem_append_left _ (List.mem_of_getElem? (i := 108) (by decide +kernel))) rfl)⟩
theorem d_TrustDeskModel_readEnd_34 : decode kY_TrustDeskModel_readEnd.2.1 34 = .ok (.ifCond .eq 8, 3) := by decide +kernel
theorem d_TrustDeskModel_readEnd_50 : decode kY_TrustDeskModel_readEnd.2.1 50 = .ok (.aload_n 0, 1) := by decide +kernel
theorem d_TrustDeskModel_readEnd_51 : decode kY_TrustDeskModel_readEnd.2.1 51 = .ok (.getfield 51, 3) := by decide +kernel
theorem d_TrustDeskModel_readEnd_54 : decode kY_TrustDeskModel_readEnd.2.1 54 = .ok (.aload_n 0, 1) := by decide +kernel
theorem d_TrustDeskModel_readEnd_55 : decode kY_TrustDeskModel_readEnd.2.1 55 = .ok (.getfield 321, 3) := by decide +kernel
theorem d_TrustDeskModel_readEnd_58 : decode kY_TrustDeskModel_readEnd.2.1 58 = .ok (.aload_n 0, 1) := by decide +kernel
theorem d_TrustDeskModel_readEnd_59 : decode kY_TrustDeskModel_readEnd.2.1 59 = .ok (.getfield 195, 3) := by decide +kernel
theorem d_TrustDeskModel_readEnd_62 : decode kY_TrustDeskModel_readEnd.2.1 62 = .ok (.iastore, 1) := by decide +kernel
theorem d_TrustDeskModel_readEnd_63 : decode kY_TrustDeskModel_readEnd.2.1 63 = .ok (.aload_n 0, 1) := by decide +kernel
theorem d_TrustDeskModel_readEnd_64 : decode kY_TrustDeskModel_readEnd.2.1 64 = .ok (.getfield 54, 3) := by decide +kernel
theorem d_TrustDeskModel_readEnd_67 : decode kY_TrustDeskModel_readEnd.2.1 67 = .ok (.aload_n 0, 1) := by decide +kernel
theorem d_TrustDeskModel_readEnd_68 : decode kY_TrustDeskModel_readEnd.2.1 68 = .ok (.getfield 321, 3) := by decide +kernel
theorem d_TrustDeskModel_readEnd_71 : decode kY_TrustDeskModel_readEnd.2.1 71 = .ok (.aload_n 0, 1) := by decide +kernel
theorem d_TrustDeskModel_readEnd_72 : decode kY_TrustDeskModel_readEnd.2.1 72 = .ok (.getfield 192, 3) := by decide +kernel
theorem d_TrustDeskModel_readEnd_75 : decode kY_TrustDeskModel_readEnd.2.1 75 = .ok (.aload_n 0, 1) := by decide +kernel
theorem d_TrustDeskModel_readEnd_76 : decode kY_TrustDeskModel_readEnd.2.1 76 = .ok (.getfield 195, 3) := by decide +kernel
theorem d_TrustDeskModel_readEnd_79 : decode kY_TrustDeskModel_readEnd.2.1 79 = .ok (.isub, 1) := by decide +kernel
theorem d_TrustDeskModel_readEnd_80 : decode kY_TrustDeskModel_readEnd.2.1 80 = .ok (.iastore, 1) := by decide +kernel
theorem d_TrustDeskModel_readEnd_81 : decode kY_TrustDeskModel_readEnd.2.1 81 = .ok (.aload_n 0, 1) := by decide +kernel
theorem d_TrustDeskModel_readEnd_82 : decode kY_TrustDeskModel_readEnd.2.1 82 = .ok (.getfield 29, 3) := by decide +kernel
theorem d_TrustDeskModel_readEnd_85 : decode kY_TrustDeskModel_readEnd.2.1 85 = .ok (.iload_n 1, 1) := by decide +kernel
theorem d_TrustDeskModel_readEnd_86 : decode kY_TrustDeskModel_readEnd.2.1 86 = .ok (.aload_n 0, 1) := by decide +kernel
theorem d_TrustDeskModel_readEnd_87 : decode kY_TrustDeskModel_readEnd.2.1 87 = .ok (.getfield 192, 3) := by decide +kernel
theorem d_TrustDeskModel_readEnd_90 : decode kY_TrustDeskModel_readEnd.2.1 90 = .ok (.aload_n 0, 1) := by decide +kernel
theorem d_TrustDeskModel_readEnd_91 : decode kY_TrustDeskModel_readEnd.2.1 91 = .ok (.getfield 195, 3) := by decide +kernel
theorem d_TrustDeskModel_readEnd_94 : decode kY_TrustDeskModel_readEnd.2.1 94 = .ok (.isub, 1) := by decide +kernel
theorem d_TrustDeskModel_readEnd_95 : decode kY_TrustDeskModel_readEnd.2.1 95 = .ok (.iastore, 1) := by decide +kernel
theorem d_TrustDeskModel_readEnd_96 : decode kY_TrustDeskModel_readEnd.2.1 96 = .ok (.aload_n 0, 1) := by decide +kernel
theorem d_TrustDeskModel_readEnd_97 : decode kY_TrustDeskModel_readEnd.2.1 97 = .ok (.dup, 1) := by decide +kernel
theorem d_TrustDeskModel_readEnd_98 : decode kY_TrustDeskModel_readEnd.2.1 98 = .ok (.getfield 321, 3) := by decide +kernel
theorem d_TrustDeskModel_readEnd_101 : decode kY_TrustDeskModel_readEnd.2.1 101 = .ok (.iconst 1, 1) := by decide +kernel
theorem d_TrustDeskModel_readEnd_102 : decode kY_TrustDeskModel_readEnd.2.1 102 = .ok (.iadd, 1) := by decide +kernel
theorem d_TrustDeskModel_readEnd_103 : decode kY_TrustDeskModel_readEnd.2.1 103 = .ok (.putfield 321, 3) := by decide +kernel
theorem d_TrustDeskModel_readEnd_106 : decode kY_TrustDeskModel_readEnd.2.1 106 = .ok (.aload_n 0, 1) := by decide +kernel
theorem d_TrustDeskModel_readEnd_107 : decode kY_TrustDeskModel_readEnd.2.1 107 = .ok (.invokevirtual 237, 3) := by decide +kernel
theorem d_TrustDeskModel_readEnd_110 : decode kY_TrustDeskModel_readEnd.2.1 110 = .ok (.aload_n 0, 1) := by decide +kernel
theorem d_TrustDeskModel_readEnd_111 : decode kY_TrustDeskModel_readEnd.2.1 111 = .ok (.ldc_w 327, 3) := by decide +kernel
theorem d_TrustDeskModel_readEnd_114 : decode kY_TrustDeskModel_readEnd.2.1 114 = .ok (.invokevirtual 329, 3) := by decide +kernel
abbrev kY_TrustDeskModel_wantWord : mj_Y := (⟨"TrustDeskModel", "wantWord", "(Ljava/lang/String;)V"⟩, prog_14_method_22_code, 2, (Option.none : Option Jvm.ClassFile.FieldType))
theorem d_TrustDeskModel_wantWord_0 : decode kY_TrustDeskModel_wantWord.2.1 0 = .ok (.aload_n 0, 1) := by decide +kernel
theorem d_TrustDeskModel_wantWord_1 : decode kY_TrustDeskModel_wantWord.2.1 1 = .ok (.invokevirtual 230, 3) := by decide +kernel
theorem d_TrustDeskModel_wantWord_4 : decode kY_TrustDeskModel_wantWord.2.1 4 = .ok (.ifCond .ne 4, 3) := by decide +kernel
theorem d_TrustDeskModel_wantWord_7 : decode kY_TrustDeskModel_wantWord.2.1 7 = .ok (.return_, 1) := by decide +kernel
theorem d_TrustDeskModel_wantWord_8 : decode kY_TrustDeskModel_wantWord.2.1 8 = .ok (.aload_n 0, 1) := by decide +kernel
theorem d_TrustDeskModel_wantWord_9 : decode kY_TrustDeskModel_wantWord.2.1 9 = .ok (.aload_n 1, 1) := by decide +kernel
theorem d_TrustDeskModel_wantWord_10 : decode kY_TrustDeskModel_wantWord.2.1 10 = .ok (.invokevirtual 244, 3) := by decide +kernel
def w_TrustDeskModel_isWord_s1_45_x : List Nat := []
theorem tc_TrustDeskModel_isWord_s1_45_x {g : mj_G} {l : Launch} {d : Nat} {T0 : tm_H} {M0 : mj_M} {n0 x9 : Nat} {o0 : Nat} (h_o0 : T0 o0 = some (0, 13, 0)) (yR : rI M0 o0) (I0 : tm_I tm_FT (tm_in w_TrustDeskModel_isWord_s1_45_x) x9 T0 M0 n0 T0 M0 n0) : mj_Met g l kY_TrustDeskModel_isWord (d + 4) [.ref o0, .ref 45] M0 n0 0 0 (tm_Q tm_FT (tm_in w_TrustDeskModel_isWord_s1_45_x) x9 T0 M0 n0 (fun r _ M => ∃ v : Int32, r = some (.int v) ∧ 0 ≤ v.toInt ∧ v.toInt ≤ 1 ∧ rI M o0 ∧ (v.toInt = 1 → rv M0 o0 17 = 3))) := by
  refine mj_enter (by decide) (Nat.le_of_ble_eq_true rfl) ?_
  refine mv_aload_n d_TrustDeskModel_isWord_0 rfl rfl ?_
  obtain ⟨v2, q1⟩ := tm_atI I0 h_o0 (k := 17) rfl
  refine tr_getK q1 d_TrustDeskModel_isWord_1 f_TrustDeskModel_198_13 ?_
  have := tm_rv q1
  refine mv_iconst (v := 3) d_TrustDeskModel_isWord_4 (by decide) ?_
  have := mz_hi v2
  refine mv_icmp_neZ (tgt := 24) (a := v2.toInt) (b := 3) d_TrustDeskModel_isWord_5 (by decide) rfl (by decide) (fun b3 => ?_) (fun b3 => ?_)
  · refine mv_iconst (v := 0) d_TrustDeskModel_isWord_24 (by decide) ?_
    exact mv_iret d_TrustDeskModel_isWord_25 rfl (by decide) ⟨_, I0, _, rfl, by decide, by decide, yR, (fun h => absurd h (by decide))⟩
  · refine mv_aload_n d_TrustDeskModel_isWord_8 rfl rfl ?_
    obtain ⟨v5, q4⟩ := tm_atI I0 h_o0 (k := 15) rfl
    refine tr_getK q4 d_TrustDeskModel_isWord_9 f_TrustDeskModel_192_13 ?_
    have := yR.f (k := 15) q4 rfl
    have := tm_rv q4
    refine mv_aload_n d_TrustDeskModel_isWord_12 rfl rfl ?_
    obtain ⟨v7, q6⟩ := tm_atI I0 h_o0 (k := 16) rfl
    refine tr_getK q6 d_TrustDeskModel_isWord_13 f_TrustDeskModel_195_13 ?_
    have := yR.f (k := 16) q6 rfl
    have := tm_rv q6
    refine mv_isub d_TrustDeskModel_isWord_16 ?_
    refine mv_aload_n d_TrustDeskModel_isWord_17 rfl rfl ?_
    refine mv_slenK (i := 35) (v := 4) d_TrustDeskModel_isWord_18 lV_TrustDeskModel_214 (by decide) rfl (by decide) (Nat.le_of_ble_eq_true rfl) ?_
    have b8 : (v5 - v7 : Int32).toInt = (v5.toInt - v7.toInt) := mz_sub2 rfl rfl (by have := yR.1 15 _ _ rfl; have := yR.1 16 _ _ rfl; have := yR.1 19 _ _ rfl; omega) (by have := yR.1 15 _ _ rfl; have := yR.1 16 _ _ rfl; have := yR.1 19 _ _ rfl; omega)
    have := mz_hi (v5 - v7)
    refine mv_icmp_eqZ (tgt := 26) (a := (v5 - v7).toInt) (b := 4) d_TrustDeskModel_isWord_21 (by decide) rfl (by decide) (fun b9 => ?_) (fun b9 => ?_)
    · refine mv_iconst (v := 0) d_TrustDeskModel_isWord_26 (by decide) ?_
      refine mv_istore_n (lv' := [(2, .int 0), (0, .ref o0), (1, .ref 45)]) d_TrustDeskModel_isWord_27 rfl (by decide) rfl ?_
      have L28_10 : ∀ (k : Nat) (i2_10 : Int32) (T_10 : tm_H) (M_10 : mj_M) (n_10 : Nat), tm_I tm_FT (tm_in w_TrustDeskModel_isWord_s1_45_x) x9 T0 M0 n0 T_10 M_10 n_10 → T_10 o0 = some (0, 13, 0) → 0 ≤ i2_10.toInt → rv M_10 o0 15 = rv M0 o0 15 → rv M_10 o0 16 = rv M0 o0 16 → i2_10.toInt ≤ 2147483646 → (rI M_10 o0) → 2147483647 - i2_10.toInt < (k : Int) → mj_V g l kY_TrustDeskModel_isWord (d + 4) 28 [(2, .int i2_10), (0, .ref o0), (1, .ref 45)] [] M_10 n_10 0 0 (tm_Q tm_FT (tm_in w_TrustDeskModel_isWord_s1_45_x) x9 T0 M0 n0 (fun r _ M => ∃ v : Int32, r = some (.int v) ∧ 0 ≤ v.toInt ∧ v.toInt ≤ 1 ∧ rI M o0 ∧ (v.toInt = 1 → rv M0 o0 17 = 3))) := by
        intro k10
        induction k10 with
        | zero =>
          intro i2_10 T_10 M_10 n_10 I_10 h_q0_10 iv0_10 iv1_10 iv2_10 iv3_10 kKR_10 hk10
          have := mz_hi i2_10
          have := kKR_10.1 15 _ _ rfl
          have := kKR_10.1 16 _ _ rfl
          have := kKR_10.1 19 _ _ rfl
          omega
        | succ k10 ih10 =>
          intro i2_10 T_10 M_10 n_10 I_10 h_q0_10 iv0_10 iv1_10 iv2_10 iv3_10 kKR_10 hk10
          refine mv_iload_n d_TrustDeskModel_isWord_28 rfl rfl ?_
          refine mv_aload_n d_TrustDeskModel_isWord_29 rfl rfl ?_
          refine mv_slenK (i := 35) (v := 4) d_TrustDeskModel_isWord_30 lV_TrustDeskModel_214 (by decide) rfl (by decide) (Nat.le_of_ble_eq_true rfl) ?_
          have := mz_hi i2_10
          refine mv_icmp_geZ (tgt := 63) (a := i2_10.toInt) (b := 4) d_TrustDeskModel_isWord_33 (by decide) rfl (by decide) (fun b11 => ?_) (fun b11 => ?_)
          · refine mv_iconst (v := 1) d_TrustDeskModel_isWord_63 (by decide) ?_
            exact mv_iret d_TrustDeskModel_isWord_64 rfl (by decide) ⟨_, I_10, _, rfl, by decide, by decide, kKR_10, (fun _ => by omega)⟩
          · refine mv_aload_n d_TrustDeskModel_isWord_36 rfl rfl ?_
            obtain ⟨a13, q12, t_a13⟩ := tm_atR I_10 h_q0_10 (k := 13) rfl
            refine tr_getK q12 d_TrustDeskModel_isWord_37 f_TrustDeskModel_44_13 ?_
            refine mv_aload_n d_TrustDeskModel_isWord_40 rfl rfl ?_
            obtain ⟨v15, q14⟩ := tm_atI I_10 h_q0_10 (k := 16) rfl
            refine tr_getK q14 d_TrustDeskModel_isWord_41 f_TrustDeskModel_195_13 ?_
            have := kKR_10.f (k := 16) q14 rfl
            have := tm_rv q14
            refine mv_iload_n d_TrustDeskModel_isWord_44 rfl rfl ?_
            refine mv_iadd d_TrustDeskModel_isWord_45 ?_
            have b16 : (v15 + i2_10 : Int32).toInt = (v15.toInt + i2_10.toInt) := mz_add2 rfl rfl (by have := kKR_10.1 15 _ _ rfl; have := kKR_10.1 16 _ _ rfl; have := kKR_10.1 19 _ _ rfl; omega) (by have := kKR_10.1 15 _ _ rfl; have := kKR_10.1 16 _ _ rfl; have := kKR_10.1 19 _ _ rfl; omega)
            refine tr_baldR (o := o0) (k := 13) I_10 q12 t_a13 (by decide) d_TrustDeskModel_isWord_46 (vp_in_iff.mpr (by have := kKR_10.1 15 _ _ rfl; have := kKR_10.1 16 _ _ rfl; have := kKR_10.1 19 _ _ rfl; omega)) (fun v17 e18 => ?_)
            have := kKR_10.a (k := 13) rfl ((v15 + i2_10) : Int32).toNatClampNeg
            refine mv_aload_n d_TrustDeskModel_isWord_47 rfl rfl ?_
            refine mv_iload_n d_TrustDeskModel_isWord_48 rfl rfl ?_
            refine mv_schN (i := 35) (N := 4) d_TrustDeskModel_isWord_49 lV_TrustDeskModel_220 (by decide) rfl rfl (by omega) (by omega) (Nat.le_of_ble_eq_true rfl) (fun v19 => ?_)
            have := mz_hi v17
            have := mz_hi v19
            refine mv_icmp_eqZ (tgt := 57) (a := v17.toInt) (b := v19.toInt) d_TrustDeskModel_isWord_52 (by decide) rfl rfl (fun b20 => ?_) (fun b20 => ?_)
            · refine mv_iinc (v := (i2_10 + 1)) (lv' := [(2, .int (i2_10 + 1)), (0, .ref o0), (1, .ref 45)]) d_TrustDeskModel_isWord_57 rfl rfl (by decide) rfl ?_
              refine mv_goto (tgt := 28) d_TrustDeskModel_isWord_60 (by decide) ?_
              have b21 : (i2_10 + 1).toInt = i2_10.toInt + 1 := mz_addn 1 1 (by decide) (by have := mz_lo i2_10; omega) (by have := mz_hi i2_10; omega)
              exact (ih10 (i2_10 + 1) T_10 M_10 n_10 I_10 h_q0_10 (by have := kKR_10.1 15 _ _ rfl; have := kKR_10.1 16 _ _ rfl; have := kKR_10.1 19 _ _ rfl; first | omega | decide | exact fun h9 => absurd (by decide) h9) (by have := kKR_10.1 15 _ _ rfl; have := kKR_10.1 16 _ _ rfl; have := kKR_10.1 19 _ _ rfl; first | omega | decide | exact fun h9 => absurd (by decide) h9) (by have := kKR_10.1 15 _ _ rfl; have := kKR_10.1 16 _ _ rfl; have := kKR_10.1 19 _ _ rfl; first | omega | decide | exact fun h9 => absurd (by decide) h9) (by have := kKR_10.1 15 _ _ rfl; have := kKR_10.1 16 _ _ rfl; have := kKR_10.1 19 _ _ rfl; first | omega | decide | exact fun h9 => absurd (by decide) h9) kKR_10 (by have := kKR_10.1 15 _ _ rfl; have := kKR_10.1 16 _ _ rfl; have := kKR_10.1 19 _ _ rfl; omega))
            · refine mv_iconst (v := 0) d_TrustDeskModel_isWord_55 (by decide) ?_
              exact mv_iret d_TrustDeskModel_isWord_56 rfl (by decide) ⟨_, I_10, _, rfl, by decide, by decide, kKR_10, (fun h => absurd h (by decide))⟩
      exact mv_less (Nat.zero_le _) (Nat.zero_le _) (L28_10 4294967296 0 T0 M0 n0 I0 h_o0 (by have := yR.1 15 _ _ rfl; have := yR.1 16 _ _ rfl; have := yR.1 19 _ _ rfl; first | omega | decide | exact fun h9 => absurd (by decide) h9) (by have := yR.1 15 _ _ rfl; have := yR.1 16 _ _ rfl; have := yR.1 19 _ _ rfl; first | omega | decide | exact fun h9 => absurd (by decide) h9) (by have := yR.1 15 _ _ rfl; have := yR.1 16 _ _ rfl; have := yR.1 19 _ _ rfl; first | omega | decide | exact fun h9 => absurd (by decide) h9) (by have := yR.1 15 _ _ rfl; have := yR.1 16 _ _ rfl; have := yR.1 19 _ _ rfl; first | omega | decide | exact fun h9 => absurd (by decide) h9) yR (by show (2147483647 - (0 : Int) : Int) < _; decide))
    · refine mv_iconst (v := 0) d_TrustDeskModel_isWord_24 (by decide) ?_
      exact mv_iret d_TrustDeskModel_isWord_25 rfl (by decide) ⟨_, I0, _, rfl, by decide, by decide, yR, (fun h => absurd h (by decide))⟩
theorem d_TrustDeskModel_wantWord_13 : decode kY_TrustDeskModel_wantWord.2.1 13 = .ok (.ifCond .eq 10, 3) := by decide +kernel
theorem d_TrustDeskModel_wantWord_23 : decode kY_TrustDeskModel_wantWord.2.1 23 = .ok (.aload_n 0, 1) := by decide +kernel
theorem d_TrustDeskModel_wantWord_24 : decode kY_TrustDeskModel_wantWord.2.1 24 = .ok (.iconst 1, 1) := by decide +kernel
theorem d_TrustDeskModel_wantWord_25 : decode kY_TrustDeskModel_wantWord.2.1 25 = .ok (.invokevirtual 240, 3) := by decide +kernel
theorem d_TrustDeskModel_wantWord_28 : decode kY_TrustDeskModel_wantWord.2.1 28 = .ok (.return_, 1) := by decide +kernel
theorem d_TrustDeskModel_wantWord_16 : decode kY_TrustDeskModel_wantWord.2.1 16 = .ok (.aload_n 0, 1) := by decide +kernel
theorem d_TrustDeskModel_wantWord_17 : decode kY_TrustDeskModel_wantWord.2.1 17 = .ok (.invokevirtual 237, 3) := by decide +kernel
theorem d_TrustDeskModel_wantWord_20 : decode kY_TrustDeskModel_wantWord.2.1 20 = .ok (.goto 8, 3) := by decide +kernel
def w_TrustDeskModel_wantWord_s1_45_x : List Nat := [1315, 1316, 1317, 1318, 1319, 1320]
theorem tc_TrustDeskModel_wantWord_s1_45_x {g : mj_G} {l : Launch} {d : Nat} {T0 : tm_H} {M0 : mj_M} {n0 x9 : Nat} {o0 : Nat} (h_o0 : T0 o0 = some (0, 13, 0)) (yR : rI M0 o0) (yT : rT M0 o0) (yS : rv M0 o0 19 = 0 → ra M0 o0 5 44 ≤ rv M0 o0 16) (I0 : tm_I tm_FT (tm_in w_TrustDeskModel_wantWord_s1_45_x) x9 T0 M0 n0 T0 M0 n0) : mj_Met g l kY_TrustDeskModel_wantWord (d + 5) [.ref o0, .ref 45] M0 n0 0 0 (tm_Q tm_FT (tm_in w_TrustDeskModel_wantWord_s1_45_x) x9 T0 M0 n0 (fun r _ M => r = none ∧ rI M o0 ∧ (rE M0 M o0 0 1))) := by
  refine mj_enter (by decide) (Nat.le_of_ble_eq_true rfl) ?_
  have yE0 := rE.rf yT
  refine mv_aload_n d_TrustDeskModel_wantWord_0 rfl rfl ?_
  obtain ⟨_, b1, -⟩ := I0.1 _ _ h_o0
  refine mv_callV (kc1 := 0) (ks1 := 0) (kc' := 0) (ks' := 0) (As := []) (st9 := [.ref o0]) d_TrustDeskModel_wantWord_1 lV_TrustDeskModel_230 b1 rfl (mj_enter (by decide) (Nat.le_of_ble_eq_true rfl) ?_) rfl (Nat.le_of_ble_eq_true rfl) (Nat.le_of_ble_eq_true rfl) (Nat.le_of_ble_eq_true rfl) (hst := rfl) (fun _ _ _ h => h)
  refine mv_aload_n d_TrustDeskModel_isWell_0 rfl rfl ?_
  obtain ⟨v3, q2⟩ := tm_atI I0 h_o0 (k := 19) rfl
  refine tr_getK q2 d_TrustDeskModel_isWell_1 f_TrustDeskModel_224_13 ?_
  have := yR.f (k := 19) q2 rfl
  have := tm_rv q2
  have := mz_hi v3
  refine mv_if_neZ (tgt := 11) (a := v3.toInt) d_TrustDeskModel_isWell_4 (by decide) rfl (fun b4 => ?_) (fun b4 => ?_)
  · refine mv_iconst (v := 0) d_TrustDeskModel_isWell_11 (by decide) ?_
    refine mv_iret d_TrustDeskModel_isWell_12 rfl (by decide) ?_
    refine mv_if_ne_f (tgt := 8) d_TrustDeskModel_wantWord_4 (by decide) (by decide) ?_
    exact mv_vret d_TrustDeskModel_wantWord_7 rfl ⟨_, I0, rfl, yR, yE0.vac (by have := yR.1 15 _ _ rfl; have := yR.1 16 _ _ rfl; have := yR.1 19 _ _ rfl; have := yE0.f yS; omega) 0 1⟩
  · refine mv_iconst (v := 1) d_TrustDeskModel_isWell_7 (by decide) ?_
    refine mv_goto (tgt := 12) d_TrustDeskModel_isWell_8 (by decide) ?_
    refine mv_iret d_TrustDeskModel_isWell_12 rfl (by decide) ?_
    refine mv_if_ne_t (tgt := 8) d_TrustDeskModel_wantWord_4 (by decide) (by decide) ?_
    refine mv_aload_n d_TrustDeskModel_wantWord_8 rfl rfl ?_
    refine mv_aload_n d_TrustDeskModel_wantWord_9 rfl rfl ?_
    obtain ⟨_, b11, -⟩ := I0.1 _ _ h_o0
    refine mv_callV (kc' := 0) (ks' := 0) (As := [.ref 45]) (st9 := [.ref 45, .ref o0]) d_TrustDeskModel_wantWord_10 lV_TrustDeskModel_244 b11 rfl (tc_TrustDeskModel_isWord_s1_45_x (d := d) (x9 := x9) (o0 := o0) h_o0 yR I0.start) rfl (Nat.le_of_ble_eq_true rfl) (Nat.le_of_ble_eq_true rfl) (Nat.le_of_ble_eq_true rfl) (hst := rfl) (fun b5r M6 n7 b5 => ?_)
    obtain ⟨T8, J9, v12, rfl, b13, b14, R15, f16⟩ := b5
    have I10 := I0.call J9 (tm_sub (by decide)) (Or.inl rfl)
    have t17 := J9.up h_o0
    have z18 := (rv_c I0 J9 (I0.up h_o0) (k := 16) rfl)
    have z19 := (rv_c I0 J9 (I0.up h_o0) (k := 17) rfl)
    have z20 := (rv_c I0 J9 (I0.up h_o0) (k := 19) rfl)
    have z21 := (rv_c I0 J9 (I0.up h_o0) (k := 22) rfl)
    have E22 : rE M0 M6 o0 0 0 := yE0.same (rE_hv I0 J9 (I0.up h_o0) 15 19 (by decide)) (rE_ha I0 J9 (I0.up h_o0) (by decide))
    have q23 := J9.keep h_o0 (by decide) q2
    have := mz_hi v12
    refine mv_if_eqZ (tgt := 23) (a := v12.toInt) d_TrustDeskModel_wantWord_13 (by decide) rfl (fun b24 => ?_) (fun b24 => ?_)
    · refine mv_aload_n d_TrustDeskModel_wantWord_23 rfl rfl ?_
      refine mv_iconst (v := 1) d_TrustDeskModel_wantWord_24 (by decide) ?_
      obtain ⟨_, b31, -⟩ := I10.1 _ _ t17
      have : (1 : Int32).toInt = 1 := by decide
      refine mv_callV (kc' := 0) (ks' := 0) (As := [.int 1]) (st9 := [.int 1, .ref o0]) d_TrustDeskModel_wantWord_25 lV_TrustDeskModel_240 b31 rfl (tc_TrustDeskModel_fails_x (d := (d + 4)) (x9 := x9) (o0 := o0) (x1 := 1) t17 R15 (by decide) I10.start) rfl (Nat.le_of_ble_eq_true rfl) (Nat.le_of_ble_eq_true rfl) (Nat.le_of_ble_eq_true rfl) (hst := rfl) (fun b25r M26 n27 b25 => ?_)
      obtain ⟨T28, J29, rfl, R32, f33⟩ := b25
      have I30 := I10.call J29 (tm_sub (by decide)) (Or.inl rfl)
      have t34 := J29.up t17
      have z35 := (rv_c I10 J29 (I10.up h_o0) (k := 16) rfl).trans z18
      have z36 := (rv_c I10 J29 (I10.up h_o0) (k := 17) rfl).trans z19
      have z37 := (rv_c I10 J29 (I10.up h_o0) (k := 22) rfl).trans z21
      have E38 : rE M0 M26 o0 0 0 := E22.fails (rE_hv I10 J29 (I10.up h_o0) 15 18 (by decide)) (rE_ha I10 J29 (I10.up h_o0) (by decide)) f33 0 0
      clear z18 z19 z21
      exact mv_vret d_TrustDeskModel_wantWord_28 rfl ⟨_, I30, rfl, R32, E38.vac (by have := R32.1 15 _ _ rfl; have := R32.1 16 _ _ rfl; have := R32.1 19 _ _ rfl; have := E38.f yS; omega) 0 1⟩
    · refine mv_aload_n d_TrustDeskModel_wantWord_16 rfl rfl ?_
      obtain ⟨_, b45, -⟩ := I10.1 _ _ t17
      refine mv_callV (kc' := 0) (ks' := 0) (As := []) (st9 := [.ref o0]) d_TrustDeskModel_wantWord_17 lV_TrustDeskModel_237 b45 rfl (tc_TrustDeskModel_next_x (d := (d + 3)) (x9 := x9) (o0 := o0) t17 R15 I10.start) rfl (Nat.le_of_ble_eq_true rfl) (Nat.le_of_ble_eq_true rfl) (Nat.le_of_ble_eq_true rfl) (hst := rfl) (fun b39r M40 n41 b39 => ?_)
      obtain ⟨T42, J43, rfl, R46, f47, f48⟩ := b39
      have I44 := I10.call J43 (tm_sub (by decide)) (Or.inl rfl)
      have t49 := J43.up t17
      have z50 := (rv_c I10 J43 (I10.up h_o0) (k := 19) rfl).trans z20
      have z51 := (rv_c I10 J43 (I10.up h_o0) (k := 22) rfl).trans z21
      have h53 : rv M6 o0 16 + 1 ≤ rv M6 o0 15 := (by have := R15.1 15 _ _ rfl; have := R15.1 16 _ _ rfl; have := R15.1 19 _ _ rfl; have := E22.f yS; omega)
      have E52 : rE M0 M40 o0 0 1 := E22.next f47 f48 (rv_c I10 J43 (I10.up h_o0) (k := 19) rfl) (rE_ha I10 J43 (I10.up h_o0) (by decide)) (e := 1) h53 (by decide)
      clear z20 z21
      have q54 := J43.keep t17 (by decide) q23
      refine mv_goto (tgt := 28) d_TrustDeskModel_wantWord_20 (by decide) ?_
      exact mv_vret d_TrustDeskModel_wantWord_28 rfl ⟨_, I44, rfl, R46, E52⟩
theorem lV_TrustDeskModel_329 : mj_lV "TrustDeskModel" 329 kY_TrustDeskModel_wantWord 1 := ⟨⟨(mj_in1 (List.mem_of_getElem? (i := 1700) (by decide +kernel)) rfl), (mj_in1 (List.mem_of_getElem? (i := 10) (by decide +kernel)) rfl), (mj_in1 (List.mem_of_getElem? (i := 1703) (by decide +kernel)) rfl), by decide, rfl, by decide⟩, (mj_in1 (List.mem_of_getElem? (i := 1702) (by decide +kernel)) rfl), (mj_in (List.mem_append_left _ (List.mem_of_getElem? (i := 89) (by decide +kernel))) rfl)⟩
theorem d_TrustDeskModel_readEnd_117 : decode kY_TrustDeskModel_readEnd.2.1 117 = .ok (.aload_n 0, 1) := by decide +kernel
theorem d_TrustDeskModel_readEnd_118 : decode kY_TrustDeskModel_readEnd.2.1 118 = .ok (.invokevirtual 288, 3) := by decide +kernel
theorem d_TrustDeskModel_readEnd_121 : decode kY_TrustDeskModel_readEnd.2.1 121 = .ok (.aload_n 0, 1) := by decide +kernel
theorem d_TrustDeskModel_readEnd_122 : decode kY_TrustDeskModel_readEnd.2.1 122 = .ok (.getfield 38, 3) := by decide +kernel
theorem f_TrustDeskModel_38_13 : mj_fl "TrustDeskModel" 38 13 11 := ⟨kR_TrustDeskModel, kF_TrustDeskModel, 72, "TrustDeskModel", rfl, kg_13, by decide, (mj_in1 (List.mem_of_getElem? (i := 1397) (by decide +kernel)) rfl), Or.inl rfl⟩
theorem d_TrustDeskModel_readEnd_125 : decode kY_TrustDeskModel_readEnd.2.1 125 = .ok (.iload_n 1, 1) := by decide +kernel
theorem d_TrustDeskModel_readEnd_126 : decode kY_TrustDeskModel_readEnd.2.1 126 = .ok (.aload_n 0, 1) := by decide +kernel
theorem d_TrustDeskModel_readEnd_127 : decode kY_TrustDeskModel_readEnd.2.1 127 = .ok (.getfield 20, 3) := by decide +kernel
theorem d_TrustDeskModel_readEnd_130 : decode kY_TrustDeskModel_readEnd.2.1 130 = .ok (.bipush 44, 2) := by decide +kernel
theorem d_TrustDeskModel_readEnd_132 : decode kY_TrustDeskModel_readEnd.2.1 132 = .ok (.iaload, 1) := by decide +kernel
theorem d_TrustDeskModel_readEnd_133 : decode kY_TrustDeskModel_readEnd.2.1 133 = .ok (.iastore, 1) := by decide +kernel
theorem d_TrustDeskModel_readEnd_134 : decode kY_TrustDeskModel_readEnd.2.1 134 = .ok (.aload_n 0, 1) := by decide +kernel
theorem d_TrustDeskModel_readEnd_135 : decode kY_TrustDeskModel_readEnd.2.1 135 = .ok (.ldc_w 333, 3) := by decide +kernel
theorem d_TrustDeskModel_readEnd_138 : decode kY_TrustDeskModel_readEnd.2.1 138 = .ok (.invokevirtual 329, 3) := by decide +kernel
def w_TrustDeskModel_isWord_s1_25_x : List Nat := []
theorem tc_TrustDeskModel_isWord_s1_25_x {g : mj_G} {l : Launch} {d : Nat} {T0 : tm_H} {M0 : mj_M} {n0 x9 : Nat} {o0 : Nat} (h_o0 : T0 o0 = some (0, 13, 0)) (yR : rI M0 o0) (I0 : tm_I tm_FT (tm_in w_TrustDeskModel_isWord_s1_25_x) x9 T0 M0 n0 T0 M0 n0) : mj_Met g l kY_TrustDeskModel_isWord (d + 4) [.ref o0, .ref 25] M0 n0 0 0 (tm_Q tm_FT (tm_in w_TrustDeskModel_isWord_s1_25_x) x9 T0 M0 n0 (fun r _ M => ∃ v : Int32, r = some (.int v) ∧ 0 ≤ v.toInt ∧ v.toInt ≤ 1 ∧ rI M o0 ∧ (v.toInt = 1 → rv M0 o0 17 = 3))) := by
  refine mj_enter (by decide) (Nat.le_of_ble_eq_true rfl) ?_
  refine mv_aload_n d_TrustDeskModel_isWord_0 rfl rfl ?_
  obtain ⟨v2, q1⟩ := tm_atI I0 h_o0 (k := 17) rfl
  refine tr_getK q1 d_TrustDeskModel_isWord_1 f_TrustDeskModel_198_13 ?_
  have := tm_rv q1
  refine mv_iconst (v := 3) d_TrustDeskModel_isWord_4 (by decide) ?_
  have := mz_hi v2
  refine mv_icmp_neZ (tgt := 24) (a := v2.toInt) (b := 3) d_TrustDeskModel_isWord_5 (by decide) rfl (by decide) (fun b3 => ?_) (fun b3 => ?_)
  · refine mv_iconst (v := 0) d_TrustDeskModel_isWord_24 (by decide) ?_
    exact mv_iret d_TrustDeskModel_isWord_25 rfl (by decide) ⟨_, I0, _, rfl, by decide, by decide, yR, (fun h => absurd h (by decide))⟩
  · refine mv_aload_n d_TrustDeskModel_isWord_8 rfl rfl ?_
    obtain ⟨v5, q4⟩ := tm_atI I0 h_o0 (k := 15) rfl
    refine tr_getK q4 d_TrustDeskModel_isWord_9 f_TrustDeskModel_192_13 ?_
    have := yR.f (k := 15) q4 rfl
    have := tm_rv q4
    refine mv_aload_n d_TrustDeskModel_isWord_12 rfl rfl ?_
    obtain ⟨v7, q6⟩ := tm_atI I0 h_o0 (k := 16) rfl
    refine tr_getK q6 d_TrustDeskModel_isWord_13 f_TrustDeskModel_195_13 ?_
    have := yR.f (k := 16) q6 rfl
    have := tm_rv q6
    refine mv_isub d_TrustDeskModel_isWord_16 ?_
    refine mv_aload_n d_TrustDeskModel_isWord_17 rfl rfl ?_
    refine mv_slenK (i := 15) (v := 2) d_TrustDeskModel_isWord_18 lV_TrustDeskModel_214 (by decide) rfl (by decide) (Nat.le_of_ble_eq_true rfl) ?_
    have b8 : (v5 - v7 : Int32).toInt = (v5.toInt - v7.toInt) := mz_sub2 rfl rfl (by have := yR.1 15 _ _ rfl; have := yR.1 16 _ _ rfl; have := yR.1 19 _ _ rfl; omega) (by have := yR.1 15 _ _ rfl; have := yR.1 16 _ _ rfl; have := yR.1 19 _ _ rfl; omega)
    have := mz_hi (v5 - v7)
    refine mv_icmp_eqZ (tgt := 26) (a := (v5 - v7).toInt) (b := 2) d_TrustDeskModel_isWord_21 (by decide) rfl (by decide) (fun b9 => ?_) (fun b9 => ?_)
    · refine mv_iconst (v := 0) d_TrustDeskModel_isWord_26 (by decide) ?_
      refine mv_istore_n (lv' := [(2, .int 0), (0, .ref o0), (1, .ref 25)]) d_TrustDeskModel_isWord_27 rfl (by decide) rfl ?_
      have L28_10 : ∀ (k : Nat) (i2_10 : Int32) (T_10 : tm_H) (M_10 : mj_M) (n_10 : Nat), tm_I tm_FT (tm_in w_TrustDeskModel_isWord_s1_25_x) x9 T0 M0 n0 T_10 M_10 n_10 → T_10 o0 = some (0, 13, 0) → 0 ≤ i2_10.toInt → rv M_10 o0 15 = rv M0 o0 15 → rv M_10 o0 16 = rv M0 o0 16 → i2_10.toInt ≤ 2147483646 → (rI M_10 o0) → 2147483647 - i2_10.toInt < (k : Int) → mj_V g l kY_TrustDeskModel_isWord (d + 4) 28 [(2, .int i2_10), (0, .ref o0), (1, .ref 25)] [] M_10 n_10 0 0 (tm_Q tm_FT (tm_in w_TrustDeskModel_isWord_s1_25_x) x9 T0 M0 n0 (fun r _ M => ∃ v : Int32, r = some (.int v) ∧ 0 ≤ v.toInt ∧ v.toInt ≤ 1 ∧ rI M o0 ∧ (v.toInt = 1 → rv M0 o0 17 = 3))) := by
        intro k10
        induction k10 with
        | zero =>
          intro i2_10 T_10 M_10 n_10 I_10 h_q0_10 iv0_10 iv1_10 iv2_10 iv3_10 kKR_10 hk10
          have := mz_hi i2_10
          have := kKR_10.1 15 _ _ rfl
          have := kKR_10.1 16 _ _ rfl
          have := kKR_10.1 19 _ _ rfl
          omega
        | succ k10 ih10 =>
          intro i2_10 T_10 M_10 n_10 I_10 h_q0_10 iv0_10 iv1_10 iv2_10 iv3_10 kKR_10 hk10
          refine mv_iload_n d_TrustDeskModel_isWord_28 rfl rfl ?_
          refine mv_aload_n d_TrustDeskModel_isWord_29 rfl rfl ?_
          refine mv_slenK (i := 15) (v := 2) d_TrustDeskModel_isWord_30 lV_TrustDeskModel_214 (by decide) rfl (by decide) (Nat.le_of_ble_eq_true rfl) ?_
          have := mz_hi i2_10
          refine mv_icmp_geZ (tgt := 63) (a := i2_10.toInt) (b := 2) d_TrustDeskModel_isWord_33 (by decide) rfl (by decide) (fun b11 => ?_) (fun b11 => ?_)
          · refine mv_iconst (v := 1) d_TrustDeskModel_isWord_63 (by decide) ?_
            exact mv_iret d_TrustDeskModel_isWord_64 rfl (by decide) ⟨_, I_10, _, rfl, by decide, by decide, kKR_10, (fun _ => by omega)⟩
          · refine mv_aload_n d_TrustDeskModel_isWord_36 rfl rfl ?_
            obtain ⟨a13, q12, t_a13⟩ := tm_atR I_10 h_q0_10 (k := 13) rfl
            refine tr_getK q12 d_TrustDeskModel_isWord_37 f_TrustDeskModel_44_13 ?_
            refine mv_aload_n d_TrustDeskModel_isWord_40 rfl rfl ?_
            obtain ⟨v15, q14⟩ := tm_atI I_10 h_q0_10 (k := 16) rfl
            refine tr_getK q14 d_TrustDeskModel_isWord_41 f_TrustDeskModel_195_13 ?_
            have := kKR_10.f (k := 16) q14 rfl
            have := tm_rv q14
            refine mv_iload_n d_TrustDeskModel_isWord_44 rfl rfl ?_
            refine mv_iadd d_TrustDeskModel_isWord_45 ?_
            have b16 : (v15 + i2_10 : Int32).toInt = (v15.toInt + i2_10.toInt) := mz_add2 rfl rfl (by have := kKR_10.1 15 _ _ rfl; have := kKR_10.1 16 _ _ rfl; have := kKR_10.1 19 _ _ rfl; omega) (by have := kKR_10.1 15 _ _ rfl; have := kKR_10.1 16 _ _ rfl; have := kKR_10.1 19 _ _ rfl; omega)
            refine tr_baldR (o := o0) (k := 13) I_10 q12 t_a13 (by decide) d_TrustDeskModel_isWord_46 (vp_in_iff.mpr (by have := kKR_10.1 15 _ _ rfl; have := kKR_10.1 16 _ _ rfl; have := kKR_10.1 19 _ _ rfl; omega)) (fun v17 e18 => ?_)
            have := kKR_10.a (k := 13) rfl ((v15 + i2_10) : Int32).toNatClampNeg
            refine mv_aload_n d_TrustDeskModel_isWord_47 rfl rfl ?_
            refine mv_iload_n d_TrustDeskModel_isWord_48 rfl rfl ?_
            refine mv_schN (i := 15) (N := 2) d_TrustDeskModel_isWord_49 lV_TrustDeskModel_220 (by decide) rfl rfl (by omega) (by omega) (Nat.le_of_ble_eq_true rfl) (fun v19 => ?_)
            have := mz_hi v17
            have := mz_hi v19
            refine mv_icmp_eqZ (tgt := 57) (a := v17.toInt) (b := v19.toInt) d_TrustDeskModel_isWord_52 (by decide) rfl rfl (fun b20 => ?_) (fun b20 => ?_)
            · refine mv_iinc (v := (i2_10 + 1)) (lv' := [(2, .int (i2_10 + 1)), (0, .ref o0), (1, .ref 25)]) d_TrustDeskModel_isWord_57 rfl rfl (by decide) rfl ?_
              refine mv_goto (tgt := 28) d_TrustDeskModel_isWord_60 (by decide) ?_
              have b21 : (i2_10 + 1).toInt = i2_10.toInt + 1 := mz_addn 1 1 (by decide) (by have := mz_lo i2_10; omega) (by have := mz_hi i2_10; omega)
              exact (ih10 (i2_10 + 1) T_10 M_10 n_10 I_10 h_q0_10 (by have := kKR_10.1 15 _ _ rfl; have := kKR_10.1 16 _ _ rfl; have := kKR_10.1 19 _ _ rfl; first | omega | decide | exact fun h9 => absurd (by decide) h9) (by have := kKR_10.1 15 _ _ rfl; have := kKR_10.1 16 _ _ rfl; have := kKR_10.1 19 _ _ rfl; first | omega | decide | exact fun h9 => absurd (by decide) h9) (by have := kKR_10.1 15 _ _ rfl; have := kKR_10.1 16 _ _ rfl; have := kKR_10.1 19 _ _ rfl; first | omega | decide | exact fun h9 => absurd (by decide) h9) (by have := kKR_10.1 15 _ _ rfl; have := kKR_10.1 16 _ _ rfl; have := kKR_10.1 19 _ _ rfl; first | omega | decide | exact fun h9 => absurd (by decide) h9) kKR_10 (by have := kKR_10.1 15 _ _ rfl; have := kKR_10.1 16 _ _ rfl; have := kKR_10.1 19 _ _ rfl; omega))
            · refine mv_iconst (v := 0) d_TrustDeskModel_isWord_55 (by decide) ?_
              exact mv_iret d_TrustDeskModel_isWord_56 rfl (by decide) ⟨_, I_10, _, rfl, by decide, by decide, kKR_10, (fun h => absurd h (by decide))⟩
      exact mv_less (Nat.zero_le _) (Nat.zero_le _) (L28_10 4294967296 0 T0 M0 n0 I0 h_o0 (by have := yR.1 15 _ _ rfl; have := yR.1 16 _ _ rfl; have := yR.1 19 _ _ rfl; first | omega | decide | exact fun h9 => absurd (by decide) h9) (by have := yR.1 15 _ _ rfl; have := yR.1 16 _ _ rfl; have := yR.1 19 _ _ rfl; first | omega | decide | exact fun h9 => absurd (by decide) h9) (by have := yR.1 15 _ _ rfl; have := yR.1 16 _ _ rfl; have := yR.1 19 _ _ rfl; first | omega | decide | exact fun h9 => absurd (by decide) h9) (by have := yR.1 15 _ _ rfl; have := yR.1 16 _ _ rfl; have := yR.1 19 _ _ rfl; first | omega | decide | exact fun h9 => absurd (by decide) h9) yR (by show (2147483647 - (0 : Int) : Int) < _; decide))
    · refine mv_iconst (v := 0) d_TrustDeskModel_isWord_24 (by decide) ?_
      exact mv_iret d_TrustDeskModel_isWord_25 rfl (by decide) ⟨_, I0, _, rfl, by decide, by decide, yR, (fun h => absurd h (by decide))⟩
def w_TrustDeskModel_wantWord_s1_25_x : List Nat := [1315, 1316, 1317, 1318, 1319, 1320]
theorem tc_TrustDeskModel_wantWord_s1_25_x {g : mj_G} {l : Launch} {d : Nat} {T0 : tm_H} {M0 : mj_M} {n0 x9 : Nat} {o0 : Nat} (h_o0 : T0 o0 = some (0, 13, 0)) (yR : rI M0 o0) (yT : rT M0 o0) (yS : rv M0 o0 19 = 0 → ra M0 o0 5 44 ≤ rv M0 o0 16) (I0 : tm_I tm_FT (tm_in w_TrustDeskModel_wantWord_s1_25_x) x9 T0 M0 n0 T0 M0 n0) : mj_Met g l kY_TrustDeskModel_wantWord (d + 5) [.ref o0, .ref 25] M0 n0 0 0 (tm_Q tm_FT (tm_in w_TrustDeskModel_wantWord_s1_25_x) x9 T0 M0 n0 (fun r _ M => r = none ∧ rI M o0 ∧ (rE M0 M o0 0 1))) := by
  refine mj_enter (by decide) (Nat.le_of_ble_eq_true rfl) ?_
  have yE0 := rE.rf yT
  refine mv_aload_n d_TrustDeskModel_wantWord_0 rfl rfl ?_
  obtain ⟨_, b1, -⟩ := I0.1 _ _ h_o0
  refine mv_callV (kc1 := 0) (ks1 := 0) (kc' := 0) (ks' := 0) (As := []) (st9 := [.ref o0]) d_TrustDeskModel_wantWord_1 lV_TrustDeskModel_230 b1 rfl (mj_enter (by decide) (Nat.le_of_ble_eq_true rfl) ?_) rfl (Nat.le_of_ble_eq_true rfl) (Nat.le_of_ble_eq_true rfl) (Nat.le_of_ble_eq_true rfl) (hst := rfl) (fun _ _ _ h => h)
  refine mv_aload_n d_TrustDeskModel_isWell_0 rfl rfl ?_
  obtain ⟨v3, q2⟩ := tm_atI I0 h_o0 (k := 19) rfl
  refine tr_getK q2 d_TrustDeskModel_isWell_1 f_TrustDeskModel_224_13 ?_
  have := yR.f (k := 19) q2 rfl
  have := tm_rv q2
  have := mz_hi v3
  refine mv_if_neZ (tgt := 11) (a := v3.toInt) d_TrustDeskModel_isWell_4 (by decide) rfl (fun b4 => ?_) (fun b4 => ?_)
  · refine mv_iconst (v := 0) d_TrustDeskModel_isWell_11 (by decide) ?_
    refine mv_iret d_TrustDeskModel_isWell_12 rfl (by decide) ?_
    refine mv_if_ne_f (tgt := 8) d_TrustDeskModel_wantWord_4 (by decide) (by decide) ?_
    exact mv_vret d_TrustDeskModel_wantWord_7 rfl ⟨_, I0, rfl, yR, yE0.vac (by have := yR.1 15 _ _ rfl; have := yR.1 16 _ _ rfl; have := yR.1 19 _ _ rfl; have := yE0.f yS; omega) 0 1⟩
  · refine mv_iconst (v := 1) d_TrustDeskModel_isWell_7 (by decide) ?_
    refine mv_goto (tgt := 12) d_TrustDeskModel_isWell_8 (by decide) ?_
    refine mv_iret d_TrustDeskModel_isWell_12 rfl (by decide) ?_
    refine mv_if_ne_t (tgt := 8) d_TrustDeskModel_wantWord_4 (by decide) (by decide) ?_
    refine mv_aload_n d_TrustDeskModel_wantWord_8 rfl rfl ?_
    refine mv_aload_n d_TrustDeskModel_wantWord_9 rfl rfl ?_
    obtain ⟨_, b11, -⟩ := I0.1 _ _ h_o0
    refine mv_callV (kc' := 0) (ks' := 0) (As := [.ref 25]) (st9 := [.ref 25, .ref o0]) d_TrustDeskModel_wantWord_10 lV_TrustDeskModel_244 b11 rfl (tc_TrustDeskModel_isWord_s1_25_x (d := d) (x9 := x9) (o0 := o0) h_o0 yR I0.start) rfl (Nat.le_of_ble_eq_true rfl) (Nat.le_of_ble_eq_true rfl) (Nat.le_of_ble_eq_true rfl) (hst := rfl) (fun b5r M6 n7 b5 => ?_)
    obtain ⟨T8, J9, v12, rfl, b13, b14, R15, f16⟩ := b5
    have I10 := I0.call J9 (tm_sub (by decide)) (Or.inl rfl)
    have t17 := J9.up h_o0
    have z18 := (rv_c I0 J9 (I0.up h_o0) (k := 16) rfl)
    have z19 := (rv_c I0 J9 (I0.up h_o0) (k := 17) rfl)
    have z20 := (rv_c I0 J9 (I0.up h_o0) (k := 19) rfl)
    have z21 := (rv_c I0 J9 (I0.up h_o0) (k := 22) rfl)
    have E22 : rE M0 M6 o0 0 0 := yE0.same (rE_hv I0 J9 (I0.up h_o0) 15 19 (by decide)) (rE_ha I0 J9 (I0.up h_o0) (by decide))
    have q23 := J9.keep h_o0 (by decide) q2
    have := mz_hi v12
    refine mv_if_eqZ (tgt := 23) (a := v12.toInt) d_TrustDeskModel_wantWord_13 (by decide) rfl (fun b24 => ?_) (fun b24 => ?_)
    · refine mv_aload_n d_TrustDeskModel_wantWord_23 rfl rfl ?_
      refine mv_iconst (v := 1) d_TrustDeskModel_wantWord_24 (by decide) ?_
      obtain ⟨_, b31, -⟩ := I10.1 _ _ t17
      have : (1 : Int32).toInt = 1 := by decide
      refine mv_callV (kc' := 0) (ks' := 0) (As := [.int 1]) (st9 := [.int 1, .ref o0]) d_TrustDeskModel_wantWord_25 lV_TrustDeskModel_240 b31 rfl (tc_TrustDeskModel_fails_x (d := (d + 4)) (x9 := x9) (o0 := o0) (x1 := 1) t17 R15 (by decide) I10.start) rfl (Nat.le_of_ble_eq_true rfl) (Nat.le_of_ble_eq_true rfl) (Nat.le_of_ble_eq_true rfl) (hst := rfl) (fun b25r M26 n27 b25 => ?_)
      obtain ⟨T28, J29, rfl, R32, f33⟩ := b25
      have I30 := I10.call J29 (tm_sub (by decide)) (Or.inl rfl)
      have t34 := J29.up t17
      have z35 := (rv_c I10 J29 (I10.up h_o0) (k := 16) rfl).trans z18
      have z36 := (rv_c I10 J29 (I10.up h_o0) (k := 17) rfl).trans z19
      have z37 := (rv_c I10 J29 (I10.up h_o0) (k := 22) rfl).trans z21
      have E38 : rE M0 M26 o0 0 0 := E22.fails (rE_hv I10 J29 (I10.up h_o0) 15 18 (by decide)) (rE_ha I10 J29 (I10.up h_o0) (by decide)) f33 0 0
      clear z18 z19 z21
      exact mv_vret d_TrustDeskModel_wantWord_28 rfl ⟨_, I30, rfl, R32, E38.vac (by have := R32.1 15 _ _ rfl; have := R32.1 16 _ _ rfl; have := R32.1 19 _ _ rfl; have := E38.f yS; omega) 0 1⟩
    · refine mv_aload_n d_TrustDeskModel_wantWord_16 rfl rfl ?_
      obtain ⟨_, b45, -⟩ := I10.1 _ _ t17
      refine mv_callV (kc' := 0) (ks' := 0) (As := []) (st9 := [.ref o0]) d_TrustDeskModel_wantWord_17 lV_TrustDeskModel_237 b45 rfl (tc_TrustDeskModel_next_x (d := (d + 3)) (x9 := x9) (o0 := o0) t17 R15 I10.start) rfl (Nat.le_of_ble_eq_true rfl) (Nat.le_of_ble_eq_true rfl) (Nat.le_of_ble_eq_true rfl) (hst := rfl) (fun b39r M40 n41 b39 => ?_)
      obtain ⟨T42, J43, rfl, R46, f47, f48⟩ := b39
      have I44 := I10.call J43 (tm_sub (by decide)) (Or.inl rfl)
      have t49 := J43.up t17
      have z50 := (rv_c I10 J43 (I10.up h_o0) (k := 19) rfl).trans z20
      have z51 := (rv_c I10 J43 (I10.up h_o0) (k := 22) rfl).trans z21
      have h53 : rv M6 o0 16 + 1 ≤ rv M6 o0 15 := (by have := R15.1 15 _ _ rfl; have := R15.1 16 _ _ rfl; have := R15.1 19 _ _ rfl; have := E22.f yS; omega)
      have E52 : rE M0 M40 o0 0 1 := E22.next f47 f48 (rv_c I10 J43 (I10.up h_o0) (k := 19) rfl) (rE_ha I10 J43 (I10.up h_o0) (by decide)) (e := 1) h53 (by decide)
      clear z20 z21
      have q54 := J43.keep t17 (by decide) q23
      refine mv_goto (tgt := 28) d_TrustDeskModel_wantWord_20 (by decide) ?_
      exact mv_vret d_TrustDeskModel_wantWord_28 rfl ⟨_, I44, rfl, R46, E52⟩
theorem d_TrustDeskModel_readEnd_141 : decode kY_TrustDeskModel_readEnd.2.1 141 = .ok (.aload_n 0, 1) := by decide +kernel
theorem d_TrustDeskModel_readEnd_142 : decode kY_TrustDeskModel_readEnd.2.1 142 = .ok (.invokevirtual 302, 3) := by decide +kernel
theorem d_TrustDeskModel_readEnd_145 : decode kY_TrustDeskModel_readEnd.2.1 145 = .ok (.aload_n 0, 1) := by decide +kernel
theorem d_TrustDeskModel_readEnd_146 : decode kY_TrustDeskModel_readEnd.2.1 146 = .ok (.getfield 32, 3) := by decide +kernel
theorem f_TrustDeskModel_32_13 : mj_fl "TrustDeskModel" 32 13 9 := ⟨kR_TrustDeskModel, kF_TrustDeskModel, 72, "TrustDeskModel", rfl, kg_13, by decide, (mj_in1 (List.mem_of_getElem? (i := 1395) (by decide +kernel)) rfl), Or.inl rfl⟩
theorem d_TrustDeskModel_readEnd_149 : decode kY_TrustDeskModel_readEnd.2.1 149 = .ok (.iload_n 1, 1) := by decide +kernel
theorem d_TrustDeskModel_readEnd_150 : decode kY_TrustDeskModel_readEnd.2.1 150 = .ok (.iconst 0, 1) := by decide +kernel
theorem d_TrustDeskModel_readEnd_151 : decode kY_TrustDeskModel_readEnd.2.1 151 = .ok (.iastore, 1) := by decide +kernel
theorem d_TrustDeskModel_readEnd_152 : decode kY_TrustDeskModel_readEnd.2.1 152 = .ok (.aload_n 0, 1) := by decide +kernel
theorem d_TrustDeskModel_readEnd_153 : decode kY_TrustDeskModel_readEnd.2.1 153 = .ok (.invokevirtual 230, 3) := by decide +kernel
theorem d_TrustDeskModel_readEnd_156 : decode kY_TrustDeskModel_readEnd.2.1 156 = .ok (.ifCond .eq 24, 3) := by decide +kernel
theorem d_TrustDeskModel_readEnd_180 : decode kY_TrustDeskModel_readEnd.2.1 180 = .ok (.return_, 1) := by decide +kernel
theorem d_TrustDeskModel_readEnd_159 : decode kY_TrustDeskModel_readEnd.2.1 159 = .ok (.aload_n 0, 1) := by decide +kernel
theorem d_TrustDeskModel_readEnd_160 : decode kY_TrustDeskModel_readEnd.2.1 160 = .ok (.ldc_w 335, 3) := by decide +kernel
theorem d_TrustDeskModel_readEnd_163 : decode kY_TrustDeskModel_readEnd.2.1 163 = .ok (.invokevirtual 244, 3) := by decide +kernel
def w_TrustDeskModel_isWord_s1_46_x : List Nat := []
theorem tc_TrustDeskModel_isWord_s1_46_x {g : mj_G} {l : Launch} {d : Nat} {T0 : tm_H} {M0 : mj_M} {n0 x9 : Nat} {o0 : Nat} (h_o0 : T0 o0 = some (0, 13, 0)) (yR : rI M0 o0) (I0 : tm_I tm_FT (tm_in w_TrustDeskModel_isWord_s1_46_x) x9 T0 M0 n0 T0 M0 n0) : mj_Met g l kY_TrustDeskModel_isWord (d + 4) [.ref o0, .ref 46] M0 n0 0 0 (tm_Q tm_FT (tm_in w_TrustDeskModel_isWord_s1_46_x) x9 T0 M0 n0 (fun r _ M => ∃ v : Int32, r = some (.int v) ∧ 0 ≤ v.toInt ∧ v.toInt ≤ 1 ∧ rI M o0 ∧ (v.toInt = 1 → rv M0 o0 17 = 3))) := by
  refine mj_enter (by decide) (Nat.le_of_ble_eq_true rfl) ?_
  refine mv_aload_n d_TrustDeskModel_isWord_0 rfl rfl ?_
  obtain ⟨v2, q1⟩ := tm_atI I0 h_o0 (k := 17) rfl
  refine tr_getK q1 d_TrustDeskModel_isWord_1 f_TrustDeskModel_198_13 ?_
  have := tm_rv q1
  refine mv_iconst (v := 3) d_TrustDeskModel_isWord_4 (by decide) ?_
  have := mz_hi v2
  refine mv_icmp_neZ (tgt := 24) (a := v2.toInt) (b := 3) d_TrustDeskModel_isWord_5 (by decide) rfl (by decide) (fun b3 => ?_) (fun b3 => ?_)
  · refine mv_iconst (v := 0) d_TrustDeskModel_isWord_24 (by decide) ?_
    exact mv_iret d_TrustDeskModel_isWord_25 rfl (by decide) ⟨_, I0, _, rfl, by decide, by decide, yR, (fun h => absurd h (by decide))⟩
  · refine mv_aload_n d_TrustDeskModel_isWord_8 rfl rfl ?_
    obtain ⟨v5, q4⟩ := tm_atI I0 h_o0 (k := 15) rfl
    refine tr_getK q4 d_TrustDeskModel_isWord_9 f_TrustDeskModel_192_13 ?_
    have := yR.f (k := 15) q4 rfl
    have := tm_rv q4
    refine mv_aload_n d_TrustDeskModel_isWord_12 rfl rfl ?_
    obtain ⟨v7, q6⟩ := tm_atI I0 h_o0 (k := 16) rfl
    refine tr_getK q6 d_TrustDeskModel_isWord_13 f_TrustDeskModel_195_13 ?_
    have := yR.f (k := 16) q6 rfl
    have := tm_rv q6
    refine mv_isub d_TrustDeskModel_isWord_16 ?_
    refine mv_aload_n d_TrustDeskModel_isWord_17 rfl rfl ?_
    refine mv_slenK (i := 36) (v := 4) d_TrustDeskModel_isWord_18 lV_TrustDeskModel_214 (by decide) rfl (by decide) (Nat.le_of_ble_eq_true rfl) ?_
    have b8 : (v5 - v7 : Int32).toInt = (v5.toInt - v7.toInt) := mz_sub2 rfl rfl (by have := yR.1 15 _ _ rfl; have := yR.1 16 _ _ rfl; have := yR.1 19 _ _ rfl; omega) (by have := yR.1 15 _ _ rfl; have := yR.1 16 _ _ rfl; have := yR.1 19 _ _ rfl; omega)
    have := mz_hi (v5 - v7)
    refine mv_icmp_eqZ (tgt := 26) (a := (v5 - v7).toInt) (b := 4) d_TrustDeskModel_isWord_21 (by decide) rfl (by decide) (fun b9 => ?_) (fun b9 => ?_)
    · refine mv_iconst (v := 0) d_TrustDeskModel_isWord_26 (by decide) ?_
      refine mv_istore_n (lv' := [(2, .int 0), (0, .ref o0), (1, .ref 46)]) d_TrustDeskModel_isWord_27 rfl (by decide) rfl ?_
      have L28_10 : ∀ (k : Nat) (i2_10 : Int32) (T_10 : tm_H) (M_10 : mj_M) (n_10 : Nat), tm_I tm_FT (tm_in w_TrustDeskModel_isWord_s1_46_x) x9 T0 M0 n0 T_10 M_10 n_10 → T_10 o0 = some (0, 13, 0) → 0 ≤ i2_10.toInt → rv M_10 o0 15 = rv M0 o0 15 → rv M_10 o0 16 = rv M0 o0 16 → i2_10.toInt ≤ 2147483646 → (rI M_10 o0) → 2147483647 - i2_10.toInt < (k : Int) → mj_V g l kY_TrustDeskModel_isWord (d + 4) 28 [(2, .int i2_10), (0, .ref o0), (1, .ref 46)] [] M_10 n_10 0 0 (tm_Q tm_FT (tm_in w_TrustDeskModel_isWord_s1_46_x) x9 T0 M0 n0 (fun r _ M => ∃ v : Int32, r = some (.int v) ∧ 0 ≤ v.toInt ∧ v.toInt ≤ 1 ∧ rI M o0 ∧ (v.toInt = 1 → rv M0 o0 17 = 3))) := by
        intro k10
        induction k10 with
        | zero =>
          intro i2_10 T_10 M_10 n_10 I_10 h_q0_10 iv0_10 iv1_10 iv2_10 iv3_10 kKR_10 hk10
          have := mz_hi i2_10
          have := kKR_10.1 15 _ _ rfl
          have := kKR_10.1 16 _ _ rfl
          have := kKR_10.1 19 _ _ rfl
          omega
        | succ k10 ih10 =>
          intro i2_10 T_10 M_10 n_10 I_10 h_q0_10 iv0_10 iv1_10 iv2_10 iv3_10 kKR_10 hk10
          refine mv_iload_n d_TrustDeskModel_isWord_28 rfl rfl ?_
          refine mv_aload_n d_TrustDeskModel_isWord_29 rfl rfl ?_
          refine mv_slenK (i := 36) (v := 4) d_TrustDeskModel_isWord_30 lV_TrustDeskModel_214 (by decide) rfl (by decide) (Nat.le_of_ble_eq_true rfl) ?_
          have := mz_hi i2_10
          refine mv_icmp_geZ (tgt := 63) (a := i2_10.toInt) (b := 4) d_TrustDeskModel_isWord_33 (by decide) rfl (by decide) (fun b11 => ?_) (fun b11 => ?_)
          · refine mv_iconst (v := 1) d_TrustDeskModel_isWord_63 (by decide) ?_
            exact mv_iret d_TrustDeskModel_isWord_64 rfl (by decide) ⟨_, I_10, _, rfl, by decide, by decide, kKR_10, (fun _ => by omega)⟩
          · refine mv_aload_n d_TrustDeskModel_isWord_36 rfl rfl ?_
            obtain ⟨a13, q12, t_a13⟩ := tm_atR I_10 h_q0_10 (k := 13) rfl
            refine tr_getK q12 d_TrustDeskModel_isWord_37 f_TrustDeskModel_44_13 ?_
            refine mv_aload_n d_TrustDeskModel_isWord_40 rfl rfl ?_
            obtain ⟨v15, q14⟩ := tm_atI I_10 h_q0_10 (k := 16) rfl
            refine tr_getK q14 d_TrustDeskModel_isWord_41 f_TrustDeskModel_195_13 ?_
            have := kKR_10.f (k := 16) q14 rfl
            have := tm_rv q14
            refine mv_iload_n d_TrustDeskModel_isWord_44 rfl rfl ?_
            refine mv_iadd d_TrustDeskModel_isWord_45 ?_
            have b16 : (v15 + i2_10 : Int32).toInt = (v15.toInt + i2_10.toInt) := mz_add2 rfl rfl (by have := kKR_10.1 15 _ _ rfl; have := kKR_10.1 16 _ _ rfl; have := kKR_10.1 19 _ _ rfl; omega) (by have := kKR_10.1 15 _ _ rfl; have := kKR_10.1 16 _ _ rfl; have := kKR_10.1 19 _ _ rfl; omega)
            refine tr_baldR (o := o0) (k := 13) I_10 q12 t_a13 (by decide) d_TrustDeskModel_isWord_46 (vp_in_iff.mpr (by have := kKR_10.1 15 _ _ rfl; have := kKR_10.1 16 _ _ rfl; have := kKR_10.1 19 _ _ rfl; omega)) (fun v17 e18 => ?_)
            have := kKR_10.a (k := 13) rfl ((v15 + i2_10) : Int32).toNatClampNeg
            refine mv_aload_n d_TrustDeskModel_isWord_47 rfl rfl ?_
            refine mv_iload_n d_TrustDeskModel_isWord_48 rfl rfl ?_
            refine mv_schN (i := 36) (N := 4) d_TrustDeskModel_isWord_49 lV_TrustDeskModel_220 (by decide) rfl rfl (by omega) (by omega) (Nat.le_of_ble_eq_true rfl) (fun v19 => ?_)
            have := mz_hi v17
            have := mz_hi v19
            refine mv_icmp_eqZ (tgt := 57) (a := v17.toInt) (b := v19.toInt) d_TrustDeskModel_isWord_52 (by decide) rfl rfl (fun b20 => ?_) (fun b20 => ?_)
            · refine mv_iinc (v := (i2_10 + 1)) (lv' := [(2, .int (i2_10 + 1)), (0, .ref o0), (1, .ref 46)]) d_TrustDeskModel_isWord_57 rfl rfl (by decide) rfl ?_
              refine mv_goto (tgt := 28) d_TrustDeskModel_isWord_60 (by decide) ?_
              have b21 : (i2_10 + 1).toInt = i2_10.toInt + 1 := mz_addn 1 1 (by decide) (by have := mz_lo i2_10; omega) (by have := mz_hi i2_10; omega)
              exact (ih10 (i2_10 + 1) T_10 M_10 n_10 I_10 h_q0_10 (by have := kKR_10.1 15 _ _ rfl; have := kKR_10.1 16 _ _ rfl; have := kKR_10.1 19 _ _ rfl; first | omega | decide | exact fun h9 => absurd (by decide) h9) (by have := kKR_10.1 15 _ _ rfl; have := kKR_10.1 16 _ _ rfl; have := kKR_10.1 19 _ _ rfl; first | omega | decide | exact fun h9 => absurd (by decide) h9) (by have := kKR_10.1 15 _ _ rfl; have := kKR_10.1 16 _ _ rfl; have := kKR_10.1 19 _ _ rfl; first | omega | decide | exact fun h9 => absurd (by decide) h9) (by have := kKR_10.1 15 _ _ rfl; have := kKR_10.1 16 _ _ rfl; have := kKR_10.1 19 _ _ rfl; first | omega | decide | exact fun h9 => absurd (by decide) h9) kKR_10 (by have := kKR_10.1 15 _ _ rfl; have := kKR_10.1 16 _ _ rfl; have := kKR_10.1 19 _ _ rfl; omega))
            · refine mv_iconst (v := 0) d_TrustDeskModel_isWord_55 (by decide) ?_
              exact mv_iret d_TrustDeskModel_isWord_56 rfl (by decide) ⟨_, I_10, _, rfl, by decide, by decide, kKR_10, (fun h => absurd h (by decide))⟩
      exact mv_less (Nat.zero_le _) (Nat.zero_le _) (L28_10 4294967296 0 T0 M0 n0 I0 h_o0 (by have := yR.1 15 _ _ rfl; have := yR.1 16 _ _ rfl; have := yR.1 19 _ _ rfl; first | omega | decide | exact fun h9 => absurd (by decide) h9) (by have := yR.1 15 _ _ rfl; have := yR.1 16 _ _ rfl; have := yR.1 19 _ _ rfl; first | omega | decide | exact fun h9 => absurd (by decide) h9) (by have := yR.1 15 _ _ rfl; have := yR.1 16 _ _ rfl; have := yR.1 19 _ _ rfl; first | omega | decide | exact fun h9 => absurd (by decide) h9) (by have := yR.1 15 _ _ rfl; have := yR.1 16 _ _ rfl; have := yR.1 19 _ _ rfl; first | omega | decide | exact fun h9 => absurd (by decide) h9) yR (by show (2147483647 - (0 : Int) : Int) < _; decide))
    · refine mv_iconst (v := 0) d_TrustDeskModel_isWord_24 (by decide) ?_
      exact mv_iret d_TrustDeskModel_isWord_25 rfl (by decide) ⟨_, I0, _, rfl, by decide, by decide, yR, (fun h => absurd h (by decide))⟩
theorem d_TrustDeskModel_readEnd_166 : decode kY_TrustDeskModel_readEnd.2.1 166 = .ok (.ifCond .eq 14, 3) := by decide +kernel
theorem d_TrustDeskModel_readEnd_169 : decode kY_TrustDeskModel_readEnd.2.1 169 = .ok (.aload_n 0, 1) := by decide +kernel
theorem d_TrustDeskModel_readEnd_170 : decode kY_TrustDeskModel_readEnd.2.1 170 = .ok (.getfield 32, 3) := by decide +kernel
theorem d_TrustDeskModel_readEnd_173 : decode kY_TrustDeskModel_readEnd.2.1 173 = .ok (.iload_n 1, 1) := by decide +kernel
theorem d_TrustDeskModel_readEnd_174 : decode kY_TrustDeskModel_readEnd.2.1 174 = .ok (.iconst 1, 1) := by decide +kernel
theorem d_TrustDeskModel_readEnd_175 : decode kY_TrustDeskModel_readEnd.2.1 175 = .ok (.iastore, 1) := by decide +kernel
theorem d_TrustDeskModel_readEnd_176 : decode kY_TrustDeskModel_readEnd.2.1 176 = .ok (.aload_n 0, 1) := by decide +kernel
theorem d_TrustDeskModel_readEnd_177 : decode kY_TrustDeskModel_readEnd.2.1 177 = .ok (.invokevirtual 237, 3) := by decide +kernel
theorem d_TrustDeskModel_readEnd_37 : decode kY_TrustDeskModel_readEnd.2.1 37 = .ok (.aload_n 0, 1) := by decide +kernel
theorem d_TrustDeskModel_readEnd_38 : decode kY_TrustDeskModel_readEnd.2.1 38 = .ok (.iconst 3, 1) := by decide +kernel
theorem d_TrustDeskModel_readEnd_39 : decode kY_TrustDeskModel_readEnd.2.1 39 = .ok (.invokevirtual 240, 3) := by decide +kernel
def w_TrustDeskModel_readEnd_x : List Nat := [1315, 1316, 1317, 1318, 1319, 1320, 1322, 1324, 20004, 20005, 20008, 20009, 20011, 20025, 20026]
set_option maxHeartbeats 100000000 in theorem tc_TrustDeskModel_readEnd_x {g : mj_G} {l : Launch} {d : Nat} {T0 : tm_H} {M0 : mj_M} {n0 x9 : Nat} {o0 : Nat} {x1 : Int32} (h_o0 : T0 o0 = some (0, 13, 0)) (yR : rI M0 o0) (yT : rT M0 o0) (yS : rv M0 o0 19 = 0 → ra M0 o0 5 44 ≤ rv M0 o0 16) (yw : rv M0 o0 19 = 0) (yr : 880 ≤ x1.toInt ∧ x1.toInt ≤ 899) (yne : rv M0 o0 24 ≤ 5) (yn : nN M0 o0) (yq : rv M0 o0 22 = 0) (I0 : tm_I tm_FT (tm_in w_TrustDeskModel_readEnd_x) x9 T0 M0 n0 T0 M0 n0) : mj_Met g l kY_TrustDeskModel_readEnd (d + 25) [.ref o0, .int x1] M0 n0 0 0 (tm_Q tm_FT (tm_in w_TrustDeskModel_readEnd_x) x9 T0 M0 n0 (fun r _ M => r = none ∧ rI M o0 ∧ (rE M0 M o0 2 0) ∧ (rK M0 M o0 x1.toNatClampNeg) ∧ (nN M o0) ∧ (rv M o0 19 = 0 → rv M o0 24 = rv M0 o0 24 + 1 ∧ 0 ≤ ra M o0 8 x1.toNatClampNeg ∧ rv M o0 22 = 0) ∧ (rv M0 o0 24 ≤ rv M o0 24) ∧ (rv M o0 19 = 0 → rD M0 M o0 x1.toNatClampNeg))) := by
  refine mj_enter (by decide) (Nat.le_of_ble_eq_true rfl) ?_
  have yE0 := rE.rf yT
  have K1 : rK M0 M0 o0 x1.toNatClampNeg := rK.rf
  have K2 : nN M0 o0 := yn
  refine mv_aload_n d_TrustDeskModel_readEnd_0 rfl rfl ?_
  obtain ⟨v4, q3⟩ := tm_atI I0 h_o0 (k := 17) rfl
  refine tr_getK q3 d_TrustDeskModel_readEnd_1 f_TrustDeskModel_198_13 ?_
  have := tm_rv q3
  refine mv_iconst (v := 3) d_TrustDeskModel_readEnd_4 (by decide) ?_
  have := mz_hi v4
  refine mv_icmp_neZ (tgt := 22) (a := v4.toInt) (b := 3) d_TrustDeskModel_readEnd_5 (by decide) rfl (by decide) (fun b5 => ?_) (fun b5 => ?_)
  · refine mv_aload_n d_TrustDeskModel_readEnd_22 rfl rfl ?_
    refine mv_iconst (v := 1) d_TrustDeskModel_readEnd_23 (by decide) ?_
    obtain ⟨_, b12, -⟩ := I0.1 _ _ h_o0
    have : (1 : Int32).toInt = 1 := by decide
    refine mv_callV (kc' := 0) (ks' := 0) (As := [.int 1]) (st9 := [.int 1, .ref o0]) d_TrustDeskModel_readEnd_24 lV_TrustDeskModel_240 b12 rfl (tc_TrustDeskModel_fails_x (d := (d + 24)) (x9 := x9) (o0 := o0) (x1 := 1) h_o0 yR (by decide) I0.start) rfl (Nat.le_of_ble_eq_true rfl) (Nat.le_of_ble_eq_true rfl) (Nat.le_of_ble_eq_true rfl) (hst := rfl) (fun b6r M7 n8 b6 => ?_)
    obtain ⟨T9, J10, rfl, R13, f14⟩ := b6
    have I11 := I0.call J10 (tm_sub (by decide)) (Or.inl rfl)
    have t15 := J10.up h_o0
    have z16 := (rv_c I0 J10 (I0.up h_o0) (k := 15) rfl)
    have z17 := (rv_c I0 J10 (I0.up h_o0) (k := 16) rfl)
    have z18 := (rv_c I0 J10 (I0.up h_o0) (k := 17) rfl)
    have z19 := (rv_c I0 J10 (I0.up h_o0) (k := 22) rfl)
    have z20 := (rv_c I0 J10 (I0.up h_o0) (k := 24) rfl)
    have z21 := (ra_call I0 J10 (I0.up h_o0) (k := 5) rfl rfl rfl 44)
    have E22 : rE M0 M7 o0 0 0 := yE0.fails (rE_hv I0 J10 (I0.up h_o0) 15 18 (by decide)) (rE_ha I0 J10 (I0.up h_o0) (by decide)) f14 0 0
    have K23 : rK M0 M7 o0 x1.toNatClampNeg := K1.same (sA_c I0 J10 (I0.up h_o0) (by decide))
    have K24 : nN M7 o0 := K2.same (sA_c I0 J10 (I0.up h_o0) (by decide)) (sF_c I0 J10 (I0.up h_o0) (by decide))
    have q25 := J10.keep h_o0 (by decide) q3
    refine mv_goto (tgt := 42) d_TrustDeskModel_readEnd_27 (by decide) ?_
    refine mv_aload_n d_TrustDeskModel_readEnd_42 rfl rfl ?_
    obtain ⟨_, b26, -⟩ := I11.1 _ _ t15
    refine mv_callV (kc1 := 0) (ks1 := 0) (kc' := 0) (ks' := 0) (As := []) (st9 := [.ref o0]) d_TrustDeskModel_readEnd_43 lV_TrustDeskModel_230 b26 rfl (mj_enter (by decide) (Nat.le_of_ble_eq_true rfl) ?_) rfl (Nat.le_of_ble_eq_true rfl) (Nat.le_of_ble_eq_true rfl) (Nat.le_of_ble_eq_true rfl) (hst := rfl) (fun _ _ _ h => h)
    refine mv_aload_n d_TrustDeskModel_isWell_0 rfl rfl ?_
    obtain ⟨v28, q27⟩ := tm_atI I11 t15 (k := 19) rfl
    refine tr_getK q27 d_TrustDeskModel_isWell_1 f_TrustDeskModel_224_13 ?_
    have := R13.f (k := 19) q27 rfl
    have := tm_rv q27
    refine mv_if_neZ (tgt := 11) (a := v28.toInt) d_TrustDeskModel_isWell_4 (by decide) rfl (fun b29 => ?_) (fun b29 => ?_)
    · refine mv_iconst (v := 0) d_TrustDeskModel_isWell_11 (by decide) ?_
      refine mv_iret d_TrustDeskModel_isWell_12 rfl (by decide) ?_
      refine mv_if_ne_f (tgt := 50) d_TrustDeskModel_readEnd_46 (by decide) (by decide) ?_
      exact mv_vret d_TrustDeskModel_readEnd_49 rfl ⟨_, I11, rfl, R13, E22.vac (by have := R13.1 15 _ _ rfl; have := R13.1 16 _ _ rfl; have := R13.1 19 _ _ rfl; have := E22.f yS; omega) 2 0, K23, K24, (fun h9 => absurd h9 (by have := R13.1 15 _ _ rfl; have := R13.1 16 _ _ rfl; have := R13.1 19 _ _ rfl; have := E22.f yS; omega)), (by have := R13.1 15 _ _ rfl; have := R13.1 16 _ _ rfl; have := R13.1 19 _ _ rfl; have := E22.f yS; omega), (fun h9 => absurd h9 (by have := R13.1 15 _ _ rfl; have := R13.1 16 _ _ rfl; have := R13.1 19 _ _ rfl; have := E22.f yS; omega))⟩
    · exfalso
      have := R13.1 15 _ _ rfl; have := R13.1 16 _ _ rfl; have := R13.1 19 _ _ rfl; have := E22.f yS; omega
  · refine mv_aload_n d_TrustDeskModel_readEnd_8 rfl rfl ?_
    obtain ⟨v31, q30⟩ := tm_atI I0 h_o0 (k := 15) rfl
    refine tr_getK q30 d_TrustDeskModel_readEnd_9 f_TrustDeskModel_192_13 ?_
    have := yR.f (k := 15) q30 rfl
    have := tm_rv q30
    refine mv_aload_n d_TrustDeskModel_readEnd_12 rfl rfl ?_
    obtain ⟨v33, q32⟩ := tm_atI I0 h_o0 (k := 16) rfl
    refine tr_getK q32 d_TrustDeskModel_readEnd_13 f_TrustDeskModel_195_13 ?_
    have := yR.f (k := 16) q32 rfl
    have := tm_rv q32
    refine mv_isub d_TrustDeskModel_readEnd_16 ?_
    refine mv_bipush (v := 8) d_TrustDeskModel_readEnd_17 (by decide) ?_
    have b34 : (v31 - v33 : Int32).toInt = (v31.toInt - v33.toInt) := mz_sub2 rfl rfl (by have := yR.1 15 _ _ rfl; have := yR.1 16 _ _ rfl; have := yR.1 19 _ _ rfl; have := yE0.f yS; omega) (by have := yR.1 15 _ _ rfl; have := yR.1 16 _ _ rfl; have := yR.1 19 _ _ rfl; have := yE0.f yS; omega)
    have := mz_hi (v31 - v33)
    refine mv_icmp_leZ (tgt := 30) (a := (v31 - v33).toInt) (b := 8) d_TrustDeskModel_readEnd_19 (by decide) rfl (by decide) (fun b35 => ?_) (fun b35 => ?_)
    · refine mv_aload_n d_TrustDeskModel_readEnd_30 rfl rfl ?_
      obtain ⟨_, b42, -⟩ := I0.1 _ _ h_o0
      refine mv_callV (kc' := 0) (ks' := 0) (As := []) (st9 := [.ref o0]) d_TrustDeskModel_readEnd_31 lV_TrustDeskModel_324 b42 rfl (tc_TrustDeskModel_isThere_x (d := (d + 24)) (x9 := x9) (o0 := o0) h_o0 yR yE0.1 K2 I0.start) rfl (Nat.le_of_ble_eq_true rfl) (Nat.le_of_ble_eq_true rfl) (Nat.le_of_ble_eq_true rfl) (hst := rfl) (fun b36r M37 n38 b36 => ?_)
      obtain ⟨T39, J40, v43, rfl, b44, b45, R46⟩ := b36
      have I41 := I0.call J40 (tm_sub (by decide)) (Or.inl rfl)
      have t47 := J40.up h_o0
      have z48 := (rv_c I0 J40 (I0.up h_o0) (k := 15) rfl)
      have z49 := (rv_c I0 J40 (I0.up h_o0) (k := 16) rfl)
      have z50 := (rv_c I0 J40 (I0.up h_o0) (k := 17) rfl)
      have z51 := (rv_c I0 J40 (I0.up h_o0) (k := 19) rfl)
      have z52 := (rv_c I0 J40 (I0.up h_o0) (k := 22) rfl)
      have z53 := (rv_c I0 J40 (I0.up h_o0) (k := 24) rfl)
      have z54 := (ra_call I0 J40 (I0.up h_o0) (k := 5) rfl rfl rfl 44)
      have E55 : rE M0 M37 o0 0 0 := yE0.same (rE_hv I0 J40 (I0.up h_o0) 15 19 (by decide)) (rE_ha I0 J40 (I0.up h_o0) (by decide))
      have K56 : rK M0 M37 o0 x1.toNatClampNeg := K1.same (sA_c I0 J40 (I0.up h_o0) (by decide))
      have K57 : nN M37 o0 := K2.same (sA_c I0 J40 (I0.up h_o0) (by decide)) (sF_c I0 J40 (I0.up h_o0) (by decide))
      have q58 := J40.keep h_o0 (by decide) q3
      have q59 := J40.keep h_o0 (by decide) q30
      have q60 := J40.keep h_o0 (by decide) q32
      have := mz_hi v43
      refine mv_if_eqZ (tgt := 42) (a := v43.toInt) d_TrustDeskModel_readEnd_34 (by decide) rfl (fun b61 => ?_) (fun b61 => ?_)
      · refine mv_aload_n d_TrustDeskModel_readEnd_42 rfl rfl ?_
        obtain ⟨_, b62, -⟩ := I41.1 _ _ t47
        refine mv_callV (kc1 := 0) (ks1 := 0) (kc' := 0) (ks' := 0) (As := []) (st9 := [.ref o0]) d_TrustDeskModel_readEnd_43 lV_TrustDeskModel_230 b62 rfl (mj_enter (by decide) (Nat.le_of_ble_eq_true rfl) ?_) rfl (Nat.le_of_ble_eq_true rfl) (Nat.le_of_ble_eq_true rfl) (Nat.le_of_ble_eq_true rfl) (hst := rfl) (fun _ _ _ h => h)
        refine mv_aload_n d_TrustDeskModel_isWell_0 rfl rfl ?_
        obtain ⟨v64, q63⟩ := tm_atI I41 t47 (k := 19) rfl
        refine tr_getK q63 d_TrustDeskModel_isWell_1 f_TrustDeskModel_224_13 ?_
        have := R46.f (k := 19) q63 rfl
        have := (tm_rv q63).symm.trans z51
        have := tm_rv q63
        have := mz_hi v64
        refine mv_if_neZ (tgt := 11) (a := v64.toInt) d_TrustDeskModel_isWell_4 (by decide) rfl (fun b65 => ?_) (fun b65 => ?_)
        · refine mv_iconst (v := 0) d_TrustDeskModel_isWell_11 (by decide) ?_
          refine mv_iret d_TrustDeskModel_isWell_12 rfl (by decide) ?_
          refine mv_if_ne_f (tgt := 50) d_TrustDeskModel_readEnd_46 (by decide) (by decide) ?_
          exact mv_vret d_TrustDeskModel_readEnd_49 rfl ⟨_, I41, rfl, R46, E55.vac (by have := R46.1 15 _ _ rfl; have := R46.1 16 _ _ rfl; have := R46.1 19 _ _ rfl; have := E55.f yS; omega) 2 0, K56, K57, (fun h9 => absurd h9 (by have := R46.1 15 _ _ rfl; have := R46.1 16 _ _ rfl; have := R46.1 19 _ _ rfl; have := E55.f yS; omega)), (by have := R46.1 15 _ _ rfl; have := R46.1 16 _ _ rfl; have := R46.1 19 _ _ rfl; have := E55.f yS; omega), (fun h9 => absurd h9 (by have := R46.1 15 _ _ rfl; have := R46.1 16 _ _ rfl; have := R46.1 19 _ _ rfl; have := E55.f yS; omega))⟩
        · refine mv_iconst (v := 1) d_TrustDeskModel_isWell_7 (by decide) ?_
          refine mv_goto (tgt := 12) d_TrustDeskModel_isWell_8 (by decide) ?_
          refine mv_iret d_TrustDeskModel_isWell_12 rfl (by decide) ?_
          refine mv_if_ne_t (tgt := 50) d_TrustDeskModel_readEnd_46 (by decide) (by decide) ?_
          refine mv_aload_n d_TrustDeskModel_readEnd_50 rfl rfl ?_
          obtain ⟨a67, q66, t_a67⟩ := tm_atR I41 t47 (k := 25) rfl
          refine tr_getK q66 d_TrustDeskModel_readEnd_51 f_TrustDeskModel_51_13 ?_
          refine mv_aload_n d_TrustDeskModel_readEnd_54 rfl rfl ?_
          obtain ⟨v69, q68⟩ := tm_atI I41 t47 (k := 24) rfl
          refine tr_getK q68 d_TrustDeskModel_readEnd_55 f_TrustDeskModel_321_13 ?_
          have := R46.f (k := 24) q68 rfl
          have := (tm_rv q68).symm.trans z53
          have := tm_rv q68
          refine mv_aload_n d_TrustDeskModel_readEnd_58 rfl rfl ?_
          refine tr_getK (k := 16) q60 d_TrustDeskModel_readEnd_59 f_TrustDeskModel_195_13 ?_
          refine tr_iastR (k := 25) I41 R46 (I41.up h_o0) q66 t_a67 (by decide) (by decide) (fun lo hi h => by cases h; have := R46.1 15 _ _ rfl; have := R46.1 16 _ _ rfl; have := R46.1 19 _ _ rfl; have := E55.f yS; exact ⟨by show (0 : Int) ≤ v33.toInt; omega, by show v33.toInt ≤ (400 : Int); omega⟩) (Or.inl (by decide)) d_TrustDeskModel_readEnd_62 (vp_in_iff.mpr (by have := R46.1 15 _ _ rfl; have := R46.1 16 _ _ rfl; have := R46.1 19 _ _ rfl; have := E55.f yS; omega)) (fun M70 I71 K72 R73 E74 A75 V76 => ?_)
          have z77 := (V76 15).trans z48
          have z78 := (V76 16).trans z49
          have z79 := (V76 17).trans z50
          have z80 := (V76 19).trans z51
          have z81 := (V76 22).trans z52
          have z82 := (V76 24).trans z53
          have z83 := (A75 5 (by decide) rfl 44).trans z54
          have E84 : rE M0 M70 o0 0 0 := E55.same (fun k _ _ => V76 k) (fun k h1 h2 => A75 k (by omega) (by rcases (show k = 4 ∨ k = 5 by omega) with rfl | rfl <;> rfl))
          have h85 : (rv M0 o0 24).toNat = v69.toNatClampNeg := by have := mz_nat9 (i := v69) (by have := R46.1 15 _ _ rfl; have := R46.1 16 _ _ rfl; have := R46.1 19 _ _ rfl; have := E55.f yS; omega); have := R46.1 15 _ _ rfl; have := R46.1 16 _ _ rfl; have := R46.1 19 _ _ rfl; have := E55.f yS; omega
          have z86 : ra M70 o0 25 ((rv M0 o0 24).toNat) = v33.toInt := (E74 _).trans (if_pos h85)
          have K87 : rK M0 M70 o0 x1.toNatClampNeg := K56.same (sA_a A75 (by decide))
          have K88 : nN M70 o0 := K57.st A75 E74 V76 (Or.inl rfl) (by have := mz_nat9 (i := v69) (by have := R46.1 15 _ _ rfl; have := R46.1 16 _ _ rfl; have := R46.1 19 _ _ rfl; have := E55.f yS; omega); have := R46.1 15 _ _ rfl; have := R46.1 16 _ _ rfl; have := R46.1 19 _ _ rfl; have := E55.f yS; omega)
          clear z48 z49 z50 z51 z52 z53 z54
          refine mv_aload_n d_TrustDeskModel_readEnd_63 rfl rfl ?_
          obtain ⟨a90, q89, t_a90⟩ := tm_atR I71 t47 (k := 26) rfl
          refine tr_getK q89 d_TrustDeskModel_readEnd_64 f_TrustDeskModel_54_13 ?_
          refine mv_aload_n d_TrustDeskModel_readEnd_67 rfl rfl ?_
          refine tr_getK (k := 24) (K72 _ 13 24 _ q68) d_TrustDeskModel_readEnd_68 f_TrustDeskModel_321_13 ?_
          refine mv_aload_n d_TrustDeskModel_readEnd_71 rfl rfl ?_
          refine tr_getK (k := 15) (K72 _ 13 15 _ q59) d_TrustDeskModel_readEnd_72 f_TrustDeskModel_192_13 ?_
          refine mv_aload_n d_TrustDeskModel_readEnd_75 rfl rfl ?_
          refine tr_getK (k := 16) (K72 _ 13 16 _ q60) d_TrustDeskModel_readEnd_76 f_TrustDeskModel_195_13 ?_
          refine mv_isub d_TrustDeskModel_readEnd_79 ?_
          have b91 : (v31 - v33 : Int32).toInt = (v31.toInt - v33.toInt) := mz_sub2 rfl rfl (by have := R73.1 15 _ _ rfl; have := R73.1 16 _ _ rfl; have := R73.1 19 _ _ rfl; have := E84.f yS; omega) (by have := R73.1 15 _ _ rfl; have := R73.1 16 _ _ rfl; have := R73.1 19 _ _ rfl; have := E84.f yS; omega)
          refine tr_iastR (k := 26) I71 R73 (I71.up h_o0) q89 t_a90 (by decide) (by decide) (fun lo hi h => by cases h; have := R73.1 15 _ _ rfl; have := R73.1 16 _ _ rfl; have := R73.1 19 _ _ rfl; have := E84.f yS; exact ⟨by show (0 : Int) ≤ (v31 - v33).toInt; omega, by show (v31 - v33).toInt ≤ (8 : Int); omega⟩) (Or.inl (by decide)) d_TrustDeskModel_readEnd_80 (vp_in_iff.mpr (by have := R73.1 15 _ _ rfl; have := R73.1 16 _ _ rfl; have := R73.1 19 _ _ rfl; have := E84.f yS; omega)) (fun M92 I93 K94 R95 E96 A97 V98 => ?_)
          have z99 := (V98 15).trans z77
          have z100 := (V98 16).trans z78
          have z101 := (V98 17).trans z79
          have z102 := (V98 19).trans z80
          have z103 := (V98 22).trans z81
          have z104 := (V98 24).trans z82
          have z105 := (A97 5 (by decide) rfl 44).trans z83
          have z106 := (A97 25 (by decide) rfl ((rv M0 o0 24).toNat)).trans z86
          have E107 : rE M0 M92 o0 0 0 := E84.same (fun k _ _ => V98 k) (fun k h1 h2 => A97 k (by omega) (by rcases (show k = 4 ∨ k = 5 by omega) with rfl | rfl <;> rfl))
          have h108 : (rv M0 o0 24).toNat = v69.toNatClampNeg := by have := mz_nat9 (i := v69) (by have := R73.1 15 _ _ rfl; have := R73.1 16 _ _ rfl; have := R73.1 19 _ _ rfl; have := E84.f yS; omega); have := R73.1 15 _ _ rfl; have := R73.1 16 _ _ rfl; have := R73.1 19 _ _ rfl; have := E84.f yS; omega
          have z109 : ra M92 o0 26 ((rv M0 o0 24).toNat) = (v31 - v33).toInt := (E96 _).trans (if_pos h108)
          have K110 : rK M0 M92 o0 x1.toNatClampNeg := K87.same (sA_a A97 (by decide))
          have K111 : nN M92 o0 := K88.st A97 E96 V98 (Or.inr rfl) (by have := mz_nat9 (i := v69) (by have := R73.1 15 _ _ rfl; have := R73.1 16 _ _ rfl; have := R73.1 19 _ _ rfl; have := E84.f yS; omega); have := R73.1 15 _ _ rfl; have := R73.1 16 _ _ rfl; have := R73.1 19 _ _ rfl; have := E84.f yS; omega)
          clear z77 z78 z79 z80 z81 z82 z83 z86
          refine mv_aload_n d_TrustDeskModel_readEnd_81 rfl rfl ?_
          obtain ⟨a113, q112, t_a113⟩ := tm_atR I93 t47 (k := 8) rfl
          refine tr_getK q112 d_TrustDeskModel_readEnd_82 f_TrustDeskModel_29_13 ?_
          refine mv_iload_n d_TrustDeskModel_readEnd_85 rfl rfl ?_
          refine mv_aload_n d_TrustDeskModel_readEnd_86 rfl rfl ?_
          refine tr_getK (k := 15) (K94 _ 13 15 _ (K72 _ 13 15 _ q59)) d_TrustDeskModel_readEnd_87 f_TrustDeskModel_192_13 ?_
          refine mv_aload_n d_TrustDeskModel_readEnd_90 rfl rfl ?_
          refine tr_getK (k := 16) (K94 _ 13 16 _ (K72 _ 13 16 _ q60)) d_TrustDeskModel_readEnd_91 f_TrustDeskModel_195_13 ?_
          refine mv_isub d_TrustDeskModel_readEnd_94 ?_
          have b114 : (v31 - v33 : Int32).toInt = (v31.toInt - v33.toInt) := mz_sub2 rfl rfl (by have := R95.1 15 _ _ rfl; have := R95.1 16 _ _ rfl; have := R95.1 19 _ _ rfl; have := E107.f yS; omega) (by have := R95.1 15 _ _ rfl; have := R95.1 16 _ _ rfl; have := R95.1 19 _ _ rfl; have := E107.f yS; omega)
          refine tr_iastR (k := 8) I93 R95 (I93.up h_o0) q112 t_a113 (by decide) (by decide) (fun lo hi h => by cases h; have := R95.1 15 _ _ rfl; have := R95.1 16 _ _ rfl; have := R95.1 19 _ _ rfl; have := E107.f yS; exact ⟨by show ((-1) : Int) ≤ (v31 - v33).toInt; omega, by show (v31 - v33).toInt ≤ (720 : Int); omega⟩) (Or.inl (by decide)) d_TrustDeskModel_readEnd_95 (vp_in_iff.mpr (by have := R95.1 15 _ _ rfl; have := R95.1 16 _ _ rfl; have := R95.1 19 _ _ rfl; have := E107.f yS; omega)) (fun M115 I116 K117 R118 E119 A120 V121 => ?_)
          have z122 := (V121 15).trans z99
          have z123 := (V121 16).trans z100
          have z124 := (V121 17).trans z101
          have z125 := (V121 19).trans z102
          have z126 := (V121 22).trans z103
          have z127 := (V121 24).trans z104
          have z128 := (A120 5 (by decide) rfl 44).trans z105
          have z129 := (A120 25 (by decide) rfl ((rv M0 o0 24).toNat)).trans z106
          have z130 := (A120 26 (by decide) rfl ((rv M0 o0 24).toNat)).trans z109
          have E131 : rE M0 M115 o0 0 0 := E107.same (fun k _ _ => V121 k) (fun k h1 h2 => A120 k (by omega) (by rcases (show k = 4 ∨ k = 5 by omega) with rfl | rfl <;> rfl))
          have h132 : x1.toNatClampNeg = x1.toNatClampNeg := by have := mz_nat9 (i := x1) (by have := R95.1 15 _ _ rfl; have := R95.1 16 _ _ rfl; have := R95.1 19 _ _ rfl; have := E107.f yS; omega); have := R95.1 15 _ _ rfl; have := R95.1 16 _ _ rfl; have := R95.1 19 _ _ rfl; have := E107.f yS; omega
          have z133 : ra M115 o0 8 x1.toNatClampNeg = (v31 - v33).toInt := (E119 _).trans (if_pos h132)
          have K134 : rK M0 M115 o0 x1.toNatClampNeg := K110.st A120 E119 (by have := mz_nat9 (i := x1) (by have := R95.1 15 _ _ rfl; have := R95.1 16 _ _ rfl; have := R95.1 19 _ _ rfl; have := E107.f yS; omega); have := R95.1 15 _ _ rfl; have := R95.1 16 _ _ rfl; have := R95.1 19 _ _ rfl; have := E107.f yS; omega)
          have K135 : nN M115 o0 := K111.same (sA_a A120 (by decide)) (sF_a V121)
          clear z99 z100 z101 z102 z103 z104 z105 z106 z109
          refine mv_aload_n d_TrustDeskModel_readEnd_96 rfl rfl ?_
          refine mv_dup d_TrustDeskModel_readEnd_97 rfl ?_
          refine tr_getK (k := 24) (K117 _ 13 24 _ (K94 _ 13 24 _ (K72 _ 13 24 _ q68))) d_TrustDeskModel_readEnd_98 f_TrustDeskModel_321_13 ?_
          refine mv_iconst (v := 1) d_TrustDeskModel_readEnd_101 (by decide) ?_
          refine mv_iadd d_TrustDeskModel_readEnd_102 ?_
          have b136 : (v69 + 1 : Int32).toInt = (v69.toInt + 1) := mz_add2 rfl (by decide) (by have := R118.1 15 _ _ rfl; have := R118.1 16 _ _ rfl; have := R118.1 19 _ _ rfl; have := E131.f yS; omega) (by have := R118.1 15 _ _ rfl; have := R118.1 16 _ _ rfl; have := R118.1 19 _ _ rfl; have := E131.f yS; omega)
          refine tr_putR (k := 24) I116 R118 t47 rfl ⟨_, rfl⟩ (fun _ h => by cases h) rfl (fun lo hi h => by cases h; have := R118.1 15 _ _ rfl; have := R118.1 16 _ _ rfl; have := R118.1 19 _ _ rfl; have := E131.f yS; exact ⟨by show (0 : Int) ≤ (v69 + 1).toInt; omega, by show (v69 + 1).toInt ≤ (6 : Int); omega⟩) (Or.inl (by decide)) d_TrustDeskModel_readEnd_103 p_TrustDeskModel_321_13 rfl rfl (fun M137 I138 q139 K140 R141 A142 V143 => ?_)
          have z144 := (V143 15 (by decide)).trans z122
          have z145 := (V143 16 (by decide)).trans z123
          have z146 := (V143 17 (by decide)).trans z124
          have z147 := (V143 19 (by decide)).trans z125
          have z148 := (V143 22 (by decide)).trans z126
          have z149 := (A142 5 (by decide) 44).trans z128
          have z150 := (A142 25 (by decide) ((rv M0 o0 24).toNat)).trans z129
          have z151 := (A142 26 (by decide) ((rv M0 o0 24).toNat)).trans z130
          have z152 := (A142 8 (by decide) x1.toNatClampNeg).trans z133
          have z153 : rv M137 o0 24 = (v69 + 1).toInt := tm_rv q139
          have E154 : rE M0 M137 o0 0 0 := E131.same (fun k h1 h2 => V143 k (by omega)) (fun k h1 h2 => A142 k (by omega))
          have K155 : rK M0 M137 o0 x1.toNatClampNeg := K134.same (sA_f A142 (by decide))
          have K156 : nN M137 o0 := K135.inc (n := (rv M0 o0 24).toNat) A142 (by have := R118.1 15 _ _ rfl; have := R118.1 16 _ _ rfl; have := R118.1 19 _ _ rfl; have := E131.f yS; omega) (by have := R118.1 15 _ _ rfl; have := R118.1 16 _ _ rfl; have := R118.1 19 _ _ rfl; have := E131.f yS; omega) (by have := R118.1 15 _ _ rfl; have := R118.1 16 _ _ rfl; have := R118.1 19 _ _ rfl; have := E131.f yS; omega)
          clear z122 z123 z124 z125 z126 z128 z129 z130 z133
          refine mv_aload_n d_TrustDeskModel_readEnd_106 rfl rfl ?_
          obtain ⟨_, b163, -⟩ := I138.1 _ _ t47
          refine mv_callV (kc' := 0) (ks' := 0) (As := []) (st9 := [.ref o0]) d_TrustDeskModel_readEnd_107 lV_TrustDeskModel_237 b163 rfl (tc_TrustDeskModel_next_x (d := (d + 23)) (x9 := x9) (o0 := o0) t47 R141 I138.start) rfl (Nat.le_of_ble_eq_true rfl) (Nat.le_of_ble_eq_true rfl) (Nat.le_of_ble_eq_true rfl) (hst := rfl) (fun b157r M158 n159 b157 => ?_)
          obtain ⟨T160, J161, rfl, R164, f165, f166⟩ := b157
          have I162 := I138.call J161 (tm_sub (by decide)) (Or.inl rfl)
          have t167 := J161.up t47
          have z168 := (rv_c I138 J161 (I138.up h_o0) (k := 19) rfl).trans z147
          have z169 := (rv_c I138 J161 (I138.up h_o0) (k := 22) rfl).trans z148
          have z170 := (rv_c I138 J161 (I138.up h_o0) (k := 24) rfl).trans z153
          have z171 := (ra_call I138 J161 (I138.up h_o0) (k := 5) rfl rfl rfl 44).trans z149
          have z172 := (ra_call I138 J161 (I138.up h_o0) (k := 25) rfl rfl rfl ((rv M0 o0 24).toNat)).trans z150
          have z173 := (ra_call I138 J161 (I138.up h_o0) (k := 26) rfl rfl rfl ((rv M0 o0 24).toNat)).trans z151
          have z174 := (ra_call I138 J161 (I138.up h_o0) (k := 8) rfl rfl rfl x1.toNatClampNeg).trans z152
          have h176 : rv M137 o0 16 + 1 ≤ rv M137 o0 15 := (by have := R141.1 15 _ _ rfl; have := R141.1 16 _ _ rfl; have := R141.1 19 _ _ rfl; have := E154.f yS; omega)
          have E175 : rE M0 M158 o0 0 1 := E154.next f165 f166 (rv_c I138 J161 (I138.up h_o0) (k := 19) rfl) (rE_ha I138 J161 (I138.up h_o0) (by decide)) (e := 1) h176 (by decide)
          have K177 : rK M0 M158 o0 x1.toNatClampNeg := K155.same (sA_c I138 J161 (I138.up h_o0) (by decide))
          have K178 : nN M158 o0 := K156.same (sA_c I138 J161 (I138.up h_o0) (by decide)) (sF_c I138 J161 (I138.up h_o0) (by decide))
          clear z147 z148 z153 z149 z150 z151 z152
          have q179 := J161.keep t47 (by decide) (K140 _ 13 19 _ rfl (K117 _ 13 19 _ (K94 _ 13 19 _ (K72 _ 13 19 _ q63))))
          have q180 := J161.keep t47 (by decide) (K140 _ 13 25 _ rfl (K117 _ 13 25 _ (K94 _ 13 25 _ (K72 _ 13 25 _ q66))))
          have t181 := J161.up t_a67
          have q182 := J161.keep t47 (by decide) (K140 _ 13 26 _ rfl (K117 _ 13 26 _ (K94 _ 13 26 _ q89)))
          have t183 := J161.up t_a90
          have q184 := J161.keep t47 (by decide) (K140 _ 13 8 _ rfl (K117 _ 13 8 _ q112))
          have t185 := J161.up t_a113
          have q186 := J161.keep t47 (by decide) q139
          refine mv_aload_n d_TrustDeskModel_readEnd_110 rfl rfl ?_
          refine mv_ldcSw (id := 45) (tx := "pays") d_TrustDeskModel_readEnd_111 (List.mem_of_getElem? (i := 35) rfl) ?_
          obtain ⟨_, b193, -⟩ := I162.1 _ _ t167
          refine mv_callV (kc' := 0) (ks' := 0) (As := [.ref 45]) (st9 := [.ref 45, .ref o0]) d_TrustDeskModel_readEnd_114 lV_TrustDeskModel_329 b193 rfl (tc_TrustDeskModel_wantWord_s1_45_x (d := (d + 19)) (x9 := x9) (o0 := o0) t167 R164 E175.1 (by have := R164.1 15 _ _ rfl; have := R164.1 16 _ _ rfl; have := R164.1 19 _ _ rfl; have := E175.f yS; omega) I162.start) rfl (Nat.le_of_ble_eq_true rfl) (Nat.le_of_ble_eq_true rfl) (Nat.le_of_ble_eq_true rfl) (hst := rfl) (fun b187r M188 n189 b187 => ?_)
          obtain ⟨T190, J191, rfl, R194, f195⟩ := b187
          have I192 := I162.call J191 (tm_sub (by decide)) (Or.inl rfl)
          have t196 := J191.up t167
          have z197 := (rv_c I162 J191 (I162.up h_o0) (k := 22) rfl).trans z169
          have z198 := (rv_c I162 J191 (I162.up h_o0) (k := 24) rfl).trans z170
          have z199 := (ra_call I162 J191 (I162.up h_o0) (k := 5) rfl rfl rfl 44).trans z171
          have z200 := (ra_call I162 J191 (I162.up h_o0) (k := 25) rfl rfl rfl ((rv M0 o0 24).toNat)).trans z172
          have z201 := (ra_call I162 J191 (I162.up h_o0) (k := 26) rfl rfl rfl ((rv M0 o0 24).toNat)).trans z173
          have z202 := (ra_call I162 J191 (I162.up h_o0) (k := 8) rfl rfl rfl x1.toNatClampNeg).trans z174
          have E203 : rE M0 M188 o0 0 2 := E175.trans f195 (by decide) (yR.2 5 _ _ rfl 44).1 (by decide) (by decide)
          have := f195.w
          have := f195.w2
          have K204 : rK M0 M188 o0 x1.toNatClampNeg := K177.same (sA_c I162 J191 (I162.up h_o0) (by decide))
          have K205 : nN M188 o0 := K178.same (sA_c I162 J191 (I162.up h_o0) (by decide)) (sF_c I162 J191 (I162.up h_o0) (by decide))
          clear z169 z170 z171 z172 z173 z174
          have q206 := J191.keep t167 (by decide) q180
          have t207 := J191.up t181
          have q208 := J191.keep t167 (by decide) q182
          have t209 := J191.up t183
          have q210 := J191.keep t167 (by decide) q184
          have t211 := J191.up t185
          have q212 := J191.keep t167 (by decide) q186
          refine mv_aload_n d_TrustDeskModel_readEnd_117 rfl rfl ?_
          obtain ⟨_, b219, -⟩ := I192.1 _ _ t196
          refine mv_callV (kc' := 0) (ks' := 0) (As := []) (st9 := [.ref o0]) d_TrustDeskModel_readEnd_118 lV_TrustDeskModel_288 b219 rfl (tc_TrustDeskModel_sum_q5_x (d := (d + 4)) (x9 := x9) (o0 := o0) t196 R194 E203.1 (by have := R194.1 15 _ _ rfl; have := R194.1 16 _ _ rfl; have := R194.1 19 _ _ rfl; have := E203.f yS; omega) (by have := R194.1 15 _ _ rfl; have := R194.1 16 _ _ rfl; have := R194.1 19 _ _ rfl; have := E203.f yS; omega) I192.start) rfl (Nat.le_of_ble_eq_true rfl) (Nat.le_of_ble_eq_true rfl) (Nat.le_of_ble_eq_true rfl) (hst := rfl) (fun b213r M214 n215 b213 => ?_)
          obtain ⟨T216, J217, rfl, R220, f221, f222⟩ := b213
          have I218 := I192.call J217 (tm_sub (by decide)) (Or.inl rfl)
          have t223 := J217.up t196
          have z224 := (rv_c I192 J217 (I192.up h_o0) (k := 24) rfl).trans z198
          have z225 := (ra_call I192 J217 (I192.up h_o0) (k := 25) rfl rfl rfl ((rv M0 o0 24).toNat)).trans z200
          have z226 := (ra_call I192 J217 (I192.up h_o0) (k := 26) rfl rfl rfl ((rv M0 o0 24).toNat)).trans z201
          have z227 := (ra_call I192 J217 (I192.up h_o0) (k := 8) rfl rfl rfl x1.toNatClampNeg).trans z202
          have E228 : rE M0 M214 o0 1 2 := E203.trans f221 (by decide) (yR.2 5 _ _ rfl 44).1 (by decide) (by decide)
          have := f221.w
          have := f221.w2
          have K229 : rK M0 M214 o0 x1.toNatClampNeg := K204.same (sA_c I192 J217 (I192.up h_o0) (by decide))
          have K230 : nN M214 o0 := K205.same (sA_c I192 J217 (I192.up h_o0) (by decide)) (sF_c I192 J217 (I192.up h_o0) (by decide))
          clear z198 z200 z201 z202
          have q231 := J217.keep t196 (by decide) q206
          have t232 := J217.up t207
          have q233 := J217.keep t196 (by decide) q208
          have t234 := J217.up t209
          have q235 := J217.keep t196 (by decide) q210
          have t236 := J217.up t211
          have q237 := J217.keep t196 (by decide) q212
          refine mv_aload_n d_TrustDeskModel_readEnd_121 rfl rfl ?_
          obtain ⟨a239, q238, t_a239⟩ := tm_atR I218 t223 (k := 11) rfl
          refine tr_getK q238 d_TrustDeskModel_readEnd_122 f_TrustDeskModel_38_13 ?_
          refine mv_iload_n d_TrustDeskModel_readEnd_125 rfl rfl ?_
          refine mv_aload_n d_TrustDeskModel_readEnd_126 rfl rfl ?_
          obtain ⟨a241, q240, t_a241⟩ := tm_atR I218 t223 (k := 5) rfl
          refine tr_getK q240 d_TrustDeskModel_readEnd_127 f_TrustDeskModel_20_13 ?_
          refine mv_bipush (v := 44) d_TrustDeskModel_readEnd_130 (by decide) ?_
          refine tr_ialdR (o := o0) (k := 5) I218 q240 t_a241 (by decide) d_TrustDeskModel_readEnd_132 (by unfold vp_in; decide) (fun v242 e243 => ?_)
          have := R220.a (k := 5) rfl (44 : Int32).toNatClampNeg
          have : v242.toInt = ra M214 o0 5 44 := e243
          refine tr_iastR (k := 11) I218 R220 (I218.up h_o0) q238 t_a239 (by decide) (by decide) (fun lo hi h => by cases h; have := R220.1 15 _ _ rfl; have := R220.1 16 _ _ rfl; have := R220.1 19 _ _ rfl; have := E228.f yS; exact ⟨by show (0 : Int) ≤ v242.toInt; omega, by show v242.toInt ≤ (400 : Int); omega⟩) (Or.inl (by decide)) d_TrustDeskModel_readEnd_133 (vp_in_iff.mpr (by have := R220.1 15 _ _ rfl; have := R220.1 16 _ _ rfl; have := R220.1 19 _ _ rfl; have := E228.f yS; omega)) (fun M244 I245 K246 R247 E248 A249 V250 => ?_)
          have z251 := (V250 15)
          have z252 := (V250 16)
          have z253 := (V250 17)
          have z254 := (V250 19)
          have z255 := (V250 22)
          have z256 := (V250 24).trans z224
          have z257 := (A249 5 (by decide) rfl 44)
          have z258 := (A249 25 (by decide) rfl ((rv M0 o0 24).toNat)).trans z225
          have z259 := (A249 26 (by decide) rfl ((rv M0 o0 24).toNat)).trans z226
          have z260 := (A249 8 (by decide) rfl x1.toNatClampNeg).trans z227
          have E261 : rE M0 M244 o0 1 2 := E228.same (fun k _ _ => V250 k) (fun k h1 h2 => A249 k (by omega) (by rcases (show k = 4 ∨ k = 5 by omega) with rfl | rfl <;> rfl))
          have h262 : x1.toNatClampNeg = x1.toNatClampNeg := by have := mz_nat9 (i := x1) (by have := R220.1 15 _ _ rfl; have := R220.1 16 _ _ rfl; have := R220.1 19 _ _ rfl; have := E228.f yS; omega); have := R220.1 15 _ _ rfl; have := R220.1 16 _ _ rfl; have := R220.1 19 _ _ rfl; have := E228.f yS; omega
          have z263 : ra M244 o0 11 x1.toNatClampNeg = v242.toInt := (E248 _).trans (if_pos h262)
          have K264 : rK M0 M244 o0 x1.toNatClampNeg := K229.st A249 E248 (by have := mz_nat9 (i := x1) (by have := R220.1 15 _ _ rfl; have := R220.1 16 _ _ rfl; have := R220.1 19 _ _ rfl; have := E228.f yS; omega); have := R220.1 15 _ _ rfl; have := R220.1 16 _ _ rfl; have := R220.1 19 _ _ rfl; have := E228.f yS; omega)
          have K265 : nN M244 o0 := K230.same (sA_a A249 (by decide)) (sF_a V250)
          have F266 : rE M244 M244 o0 0 0 := rE.rf E261.1
          have : ra M244 o0 5 44 = v242.toInt := by omega
          clear z224 z225 z226 z227
          refine mv_aload_n d_TrustDeskModel_readEnd_134 rfl rfl ?_
          refine mv_ldcSw (id := 25) (tx := "if") d_TrustDeskModel_readEnd_135 (List.mem_of_getElem? (i := 15) rfl) ?_
          obtain ⟨_, b273, -⟩ := I245.1 _ _ t223
          refine mv_callV (kc' := 0) (ks' := 0) (As := [.ref 25]) (st9 := [.ref 25, .ref o0]) d_TrustDeskModel_readEnd_138 lV_TrustDeskModel_329 b273 rfl (tc_TrustDeskModel_wantWord_s1_25_x (d := (d + 19)) (x9 := x9) (o0 := o0) t223 R247 E261.1 (by have := R247.1 15 _ _ rfl; have := R247.1 16 _ _ rfl; have := R247.1 19 _ _ rfl; have := E261.f yS; omega) I245.start) rfl (Nat.le_of_ble_eq_true rfl) (Nat.le_of_ble_eq_true rfl) (Nat.le_of_ble_eq_true rfl) (hst := rfl) (fun b267r M268 n269 b267 => ?_)
          obtain ⟨T270, J271, rfl, R274, f275⟩ := b267
          have I272 := I245.call J271 (tm_sub (by decide)) (Or.inl rfl)
          have t276 := J271.up t223
          have z277 := (rv_c I245 J271 (I245.up h_o0) (k := 22) rfl).trans z255
          have z278 := (rv_c I245 J271 (I245.up h_o0) (k := 24) rfl).trans z256
          have z279 := (ra_call I245 J271 (I245.up h_o0) (k := 5) rfl rfl rfl 44).trans z257
          have z280 := (ra_call I245 J271 (I245.up h_o0) (k := 25) rfl rfl rfl ((rv M0 o0 24).toNat)).trans z258
          have z281 := (ra_call I245 J271 (I245.up h_o0) (k := 26) rfl rfl rfl ((rv M0 o0 24).toNat)).trans z259
          have z282 := (ra_call I245 J271 (I245.up h_o0) (k := 8) rfl rfl rfl x1.toNatClampNeg).trans z260
          have z283 := (ra_call I245 J271 (I245.up h_o0) (k := 11) rfl rfl rfl x1.toNatClampNeg).trans z263
          have E284 : rE M0 M268 o0 1 3 := E261.trans f275 (by decide) (yR.2 5 _ _ rfl 44).1 (by decide) (by decide)
          have := f275.w
          have := f275.w2
          have K285 : rK M0 M268 o0 x1.toNatClampNeg := K264.same (sA_c I245 J271 (I245.up h_o0) (by decide))
          have K286 : nN M268 o0 := K265.same (sA_c I245 J271 (I245.up h_o0) (by decide)) (sF_c I245 J271 (I245.up h_o0) (by decide))
          have F287 : rE M244 M268 o0 0 1 := F266.trans f275 (by decide) (R247.2 5 _ _ rfl 44).1 (by decide) (by decide)
          clear z255 z256 z257 z258 z259 z260 z263
          have q288 := J271.keep t223 (by decide) (K246 _ 13 25 _ q231)
          have t289 := J271.up t232
          have q290 := J271.keep t223 (by decide) (K246 _ 13 26 _ q233)
          have t291 := J271.up t234
          have q292 := J271.keep t223 (by decide) (K246 _ 13 8 _ q235)
          have t293 := J271.up t236
          have q294 := J271.keep t223 (by decide) (K246 _ 13 24 _ q237)
          have q295 := J271.keep t223 (by decide) (K246 _ 13 11 _ q238)
          have t296 := J271.up t_a239
          have q297 := J271.keep t223 (by decide) (K246 _ 13 5 _ q240)
          have t298 := J271.up t_a241
          refine mv_aload_n d_TrustDeskModel_readEnd_141 rfl rfl ?_
          obtain ⟨_, b305, -⟩ := I272.1 _ _ t276
          refine mv_callV (kc' := 0) (ks' := 0) (As := []) (st9 := [.ref o0]) d_TrustDeskModel_readEnd_142 lV_TrustDeskModel_302 b305 rfl (tc_TrustDeskModel_cond_q5_x (d := d) (x9 := x9) (o0 := o0) t276 R274 E284.1 (by have := R274.1 15 _ _ rfl; have := R274.1 16 _ _ rfl; have := R274.1 19 _ _ rfl; have := E284.f yS; omega) (by have := R274.1 15 _ _ rfl; have := R274.1 16 _ _ rfl; have := R274.1 19 _ _ rfl; have := E284.f yS; omega) I272.start) rfl (Nat.le_of_ble_eq_true rfl) (Nat.le_of_ble_eq_true rfl) (Nat.le_of_ble_eq_true rfl) (hst := rfl) (fun b299r M300 n301 b299 => ?_)
          obtain ⟨T302, J303, rfl, R306, f307, f308⟩ := b299
          have I304 := I272.call J303 (tm_sub (by decide)) (Or.inl rfl)
          have t309 := J303.up t276
          have z310 := (rv_c I272 J303 (I272.up h_o0) (k := 24) rfl).trans z278
          have z311 := (ra_call I272 J303 (I272.up h_o0) (k := 25) rfl rfl rfl ((rv M0 o0 24).toNat)).trans z280
          have z312 := (ra_call I272 J303 (I272.up h_o0) (k := 26) rfl rfl rfl ((rv M0 o0 24).toNat)).trans z281
          have z313 := (ra_call I272 J303 (I272.up h_o0) (k := 8) rfl rfl rfl x1.toNatClampNeg).trans z282
          have z314 := (ra_call I272 J303 (I272.up h_o0) (k := 11) rfl rfl rfl x1.toNatClampNeg).trans z283
          have E315 : rE M0 M300 o0 2 3 := E284.trans f307 (by decide) (yR.2 5 _ _ rfl 44).1 (by decide) (by decide)
          have := f307.w
          have := f307.w2
          have K316 : rK M0 M300 o0 x1.toNatClampNeg := K285.same (sA_c I272 J303 (I272.up h_o0) (by decide))
          have K317 : nN M300 o0 := K286.same (sA_c I272 J303 (I272.up h_o0) (by decide)) (sF_c I272 J303 (I272.up h_o0) (by decide))
          have F318 : rE M244 M300 o0 1 1 := F287.trans f307 (by decide) (R247.2 5 _ _ rfl 44).1 (by decide) (by decide)
          clear z278 z280 z281 z282 z283
          have q319 := J303.keep t276 (by decide) q288
          have t320 := J303.up t289
          have q321 := J303.keep t276 (by decide) q290
          have t322 := J303.up t291
          have q323 := J303.keep t276 (by decide) q292
          have t324 := J303.up t293
          have q325 := J303.keep t276 (by decide) q294
          have q326 := J303.keep t276 (by decide) q295
          have t327 := J303.up t296
          have q328 := J303.keep t276 (by decide) q297
          have t329 := J303.up t298
          refine mv_aload_n d_TrustDeskModel_readEnd_145 rfl rfl ?_
          obtain ⟨a331, q330, t_a331⟩ := tm_atR I304 t309 (k := 9) rfl
          refine tr_getK q330 d_TrustDeskModel_readEnd_146 f_TrustDeskModel_32_13 ?_
          refine mv_iload_n d_TrustDeskModel_readEnd_149 rfl rfl ?_
          refine mv_iconst (v := 0) d_TrustDeskModel_readEnd_150 (by decide) ?_
          refine tr_iastR (k := 9) I304 R306 (I304.up h_o0) q330 t_a331 (by decide) (by decide) (fun lo hi h => by cases h) (Or.inl (by decide)) d_TrustDeskModel_readEnd_151 (vp_in_iff.mpr (by have := R306.1 15 _ _ rfl; have := R306.1 16 _ _ rfl; have := R306.1 19 _ _ rfl; have := E315.f yS; omega)) (fun M332 I333 K334 R335 E336 A337 V338 => ?_)
          have z339 := (V338 15)
          have z340 := (V338 16)
          have z341 := (V338 17)
          have z342 := (V338 19)
          have z343 := (V338 22)
          have z344 := (V338 24).trans z310
          have z345 := (A337 5 (by decide) rfl 44)
          have z346 := (A337 25 (by decide) rfl ((rv M0 o0 24).toNat)).trans z311
          have z347 := (A337 26 (by decide) rfl ((rv M0 o0 24).toNat)).trans z312
          have z348 := (A337 8 (by decide) rfl x1.toNatClampNeg).trans z313
          have z349 := (A337 11 (by decide) rfl x1.toNatClampNeg).trans z314
          have E350 : rE M0 M332 o0 2 3 := E315.same (fun k _ _ => V338 k) (fun k h1 h2 => A337 k (by omega) (by rcases (show k = 4 ∨ k = 5 by omega) with rfl | rfl <;> rfl))
          have K351 : rK M0 M332 o0 x1.toNatClampNeg := K316.same (sA_a A337 (by decide))
          have K352 : nN M332 o0 := K317.same (sA_a A337 (by decide)) (sF_a V338)
          have F353 : rE M244 M332 o0 1 1 := F318.same (fun k _ _ => V338 k) (fun k h1 h2 => A337 k (by omega) (by rcases (show k = 4 ∨ k = 5 by omega) with rfl | rfl <;> rfl))
          clear z310 z311 z312 z313 z314
          refine mv_aload_n d_TrustDeskModel_readEnd_152 rfl rfl ?_
          obtain ⟨_, b354, -⟩ := I333.1 _ _ t309
          refine mv_callV (kc1 := 0) (ks1 := 0) (kc' := 0) (ks' := 0) (As := []) (st9 := [.ref o0]) d_TrustDeskModel_readEnd_153 lV_TrustDeskModel_230 b354 rfl (mj_enter (by decide) (Nat.le_of_ble_eq_true rfl) ?_) rfl (Nat.le_of_ble_eq_true rfl) (Nat.le_of_ble_eq_true rfl) (Nat.le_of_ble_eq_true rfl) (hst := rfl) (fun _ _ _ h => h)
          refine mv_aload_n d_TrustDeskModel_isWell_0 rfl rfl ?_
          obtain ⟨v356, q355⟩ := tm_atI I333 t309 (k := 19) rfl
          refine tr_getK q355 d_TrustDeskModel_isWell_1 f_TrustDeskModel_224_13 ?_
          have := R335.f (k := 19) q355 rfl
          have := (tm_rv q355).symm.trans z342
          have := tm_rv q355
          have := mz_hi v356
          refine mv_if_neZ (tgt := 11) (a := v356.toInt) d_TrustDeskModel_isWell_4 (by decide) rfl (fun b357 => ?_) (fun b357 => ?_)
          · refine mv_iconst (v := 0) d_TrustDeskModel_isWell_11 (by decide) ?_
            refine mv_iret d_TrustDeskModel_isWell_12 rfl (by decide) ?_
            refine mv_if_eq_t (tgt := 180) d_TrustDeskModel_readEnd_156 (by decide) (by decide) ?_
            exact mv_vret d_TrustDeskModel_readEnd_180 rfl ⟨_, I333, rfl, R335, E350.less (by decide), K351, K352, (fun h9 => ⟨(by have := R335.1 15 _ _ rfl; have := R335.1 16 _ _ rfl; have := R335.1 19 _ _ rfl; have := E350.f yS; omega), (by have := R335.1 15 _ _ rfl; have := R335.1 16 _ _ rfl; have := R335.1 19 _ _ rfl; have := E350.f yS; omega), (by have := R335.1 15 _ _ rfl; have := R335.1 16 _ _ rfl; have := R335.1 19 _ _ rfl; have := E350.f yS; omega)⟩), (by have := R335.1 15 _ _ rfl; have := R335.1 16 _ _ rfl; have := R335.1 19 _ _ rfl; have := E350.f yS; omega), (fun w9 => rD.of E261 F353 w9 (by decide) (by decide) (yR.2 5 _ _ rfl 44).1 (by have := R335.1 15 _ _ rfl; have := R335.1 16 _ _ rfl; have := R335.1 19 _ _ rfl; have := E350.f yS; omega))⟩
          · refine mv_iconst (v := 1) d_TrustDeskModel_isWell_7 (by decide) ?_
            refine mv_goto (tgt := 12) d_TrustDeskModel_isWell_8 (by decide) ?_
            refine mv_iret d_TrustDeskModel_isWell_12 rfl (by decide) ?_
            refine mv_if_eq_f (tgt := 180) d_TrustDeskModel_readEnd_156 (by decide) (by decide) ?_
            refine mv_aload_n d_TrustDeskModel_readEnd_159 rfl rfl ?_
            refine mv_ldcSw (id := 46) (tx := "part") d_TrustDeskModel_readEnd_160 (List.mem_of_getElem? (i := 36) rfl) ?_
            obtain ⟨_, b364, -⟩ := I333.1 _ _ t309
            refine mv_callV (kc' := 0) (ks' := 0) (As := [.ref 46]) (st9 := [.ref 46, .ref o0]) d_TrustDeskModel_readEnd_163 lV_TrustDeskModel_244 b364 rfl (tc_TrustDeskModel_isWord_s1_46_x (d := (d + 20)) (x9 := x9) (o0 := o0) t309 R335 I333.start) rfl (Nat.le_of_ble_eq_true rfl) (Nat.le_of_ble_eq_true rfl) (Nat.le_of_ble_eq_true rfl) (hst := rfl) (fun b358r M359 n360 b358 => ?_)
            obtain ⟨T361, J362, v365, rfl, b366, b367, R368, f369⟩ := b358
            have I363 := I333.call J362 (tm_sub (by decide)) (Or.inl rfl)
            have t370 := J362.up t309
            have z371 := (rv_c I333 J362 (I333.up h_o0) (k := 15) rfl).trans z339
            have z372 := (rv_c I333 J362 (I333.up h_o0) (k := 16) rfl).trans z340
            have z373 := (rv_c I333 J362 (I333.up h_o0) (k := 17) rfl).trans z341
            have z374 := (rv_c I333 J362 (I333.up h_o0) (k := 19) rfl).trans z342
            have z375 := (rv_c I333 J362 (I333.up h_o0) (k := 22) rfl).trans z343
            have z376 := (rv_c I333 J362 (I333.up h_o0) (k := 24) rfl).trans z344
            have z377 := (ra_call I333 J362 (I333.up h_o0) (k := 5) rfl rfl rfl 44).trans z345
            have z378 := (ra_call I333 J362 (I333.up h_o0) (k := 25) rfl rfl rfl ((rv M0 o0 24).toNat)).trans z346
            have z379 := (ra_call I333 J362 (I333.up h_o0) (k := 26) rfl rfl rfl ((rv M0 o0 24).toNat)).trans z347
            have z380 := (ra_call I333 J362 (I333.up h_o0) (k := 8) rfl rfl rfl x1.toNatClampNeg).trans z348
            have z381 := (ra_call I333 J362 (I333.up h_o0) (k := 11) rfl rfl rfl x1.toNatClampNeg).trans z349
            have E382 : rE M0 M359 o0 2 3 := E350.same (rE_hv I333 J362 (I333.up h_o0) 15 19 (by decide)) (rE_ha I333 J362 (I333.up h_o0) (by decide))
            have K383 : rK M0 M359 o0 x1.toNatClampNeg := K351.same (sA_c I333 J362 (I333.up h_o0) (by decide))
            have K384 : nN M359 o0 := K352.same (sA_c I333 J362 (I333.up h_o0) (by decide)) (sF_c I333 J362 (I333.up h_o0) (by decide))
            have F385 : rE M244 M359 o0 1 1 := F353.same (rE_hv I333 J362 (I333.up h_o0) 15 19 (by decide)) (rE_ha I333 J362 (I333.up h_o0) (by decide))
            clear z339 z340 z342 z343 z344 z345 z346 z347 z348 z349
            have q386 := J362.keep t309 (by decide) (K334 _ 13 25 _ q319)
            have t387 := J362.up t320
            have q388 := J362.keep t309 (by decide) (K334 _ 13 26 _ q321)
            have t389 := J362.up t322
            have q390 := J362.keep t309 (by decide) (K334 _ 13 8 _ q323)
            have t391 := J362.up t324
            have q392 := J362.keep t309 (by decide) (K334 _ 13 24 _ q325)
            have q393 := J362.keep t309 (by decide) (K334 _ 13 11 _ q326)
            have t394 := J362.up t327
            have q395 := J362.keep t309 (by decide) (K334 _ 13 5 _ q328)
            have t396 := J362.up t329
            have q397 := J362.keep t309 (by decide) (K334 _ 13 9 _ q330)
            have t398 := J362.up t_a331
            have q399 := J362.keep t309 (by decide) q355
            have := mz_hi v365
            refine mv_if_eqZ (tgt := 180) (a := v365.toInt) d_TrustDeskModel_readEnd_166 (by decide) rfl (fun b400 => ?_) (fun b400 => ?_)
            · exact mv_vret d_TrustDeskModel_readEnd_180 rfl ⟨_, I363, rfl, R368, E382.less (by decide), K383, K384, (fun h9 => ⟨(by have := R368.1 15 _ _ rfl; have := R368.1 16 _ _ rfl; have := R368.1 19 _ _ rfl; have := E382.f yS; omega), (by have := R368.1 15 _ _ rfl; have := R368.1 16 _ _ rfl; have := R368.1 19 _ _ rfl; have := E382.f yS; omega), (by have := R368.1 15 _ _ rfl; have := R368.1 16 _ _ rfl; have := R368.1 19 _ _ rfl; have := E382.f yS; omega)⟩), (by have := R368.1 15 _ _ rfl; have := R368.1 16 _ _ rfl; have := R368.1 19 _ _ rfl; have := E382.f yS; omega), (fun w9 => rD.of E261 F385 w9 (by decide) (by decide) (yR.2 5 _ _ rfl 44).1 (by have := R368.1 15 _ _ rfl; have := R368.1 16 _ _ rfl; have := R368.1 19 _ _ rfl; have := E382.f yS; omega))⟩
            · refine mv_aload_n d_TrustDeskModel_readEnd_169 rfl rfl ?_
              refine tr_getK (k := 9) q397 d_TrustDeskModel_readEnd_170 f_TrustDeskModel_32_13 ?_
              refine mv_iload_n d_TrustDeskModel_readEnd_173 rfl rfl ?_
              refine mv_iconst (v := 1) d_TrustDeskModel_readEnd_174 (by decide) ?_
              refine tr_iastR (k := 9) I363 R368 (I363.up h_o0) q397 t398 (by decide) (by decide) (fun lo hi h => by cases h) (Or.inl (by decide)) d_TrustDeskModel_readEnd_175 (vp_in_iff.mpr (by have := R368.1 15 _ _ rfl; have := R368.1 16 _ _ rfl; have := R368.1 19 _ _ rfl; have := E382.f yS; omega)) (fun M401 I402 K403 R404 E405 A406 V407 => ?_)
              have z408 := (V407 15).trans z371
              have z409 := (V407 16).trans z372
              have z410 := (V407 17).trans z373
              have z411 := (V407 19).trans z374
              have z412 := (V407 22).trans z375
              have z413 := (V407 24).trans z376
              have z414 := (A406 5 (by decide) rfl 44).trans z377
              have z415 := (A406 25 (by decide) rfl ((rv M0 o0 24).toNat)).trans z378
              have z416 := (A406 26 (by decide) rfl ((rv M0 o0 24).toNat)).trans z379
              have z417 := (A406 8 (by decide) rfl x1.toNatClampNeg).trans z380
              have z418 := (A406 11 (by decide) rfl x1.toNatClampNeg).trans z381
              have E419 : rE M0 M401 o0 2 3 := E382.same (fun k _ _ => V407 k) (fun k h1 h2 => A406 k (by omega) (by rcases (show k = 4 ∨ k = 5 by omega) with rfl | rfl <;> rfl))
              have K420 : rK M0 M401 o0 x1.toNatClampNeg := K383.same (sA_a A406 (by decide))
              have K421 : nN M401 o0 := K384.same (sA_a A406 (by decide)) (sF_a V407)
              have F422 : rE M244 M401 o0 1 1 := F385.same (fun k _ _ => V407 k) (fun k h1 h2 => A406 k (by omega) (by rcases (show k = 4 ∨ k = 5 by omega) with rfl | rfl <;> rfl))
              clear z371 z372 z373 z374 z375 z376 z377 z378 z379 z380 z381
              refine mv_aload_n d_TrustDeskModel_readEnd_176 rfl rfl ?_
              obtain ⟨_, b429, -⟩ := I402.1 _ _ t370
              refine mv_callV (kc' := 0) (ks' := 0) (As := []) (st9 := [.ref o0]) d_TrustDeskModel_readEnd_177 lV_TrustDeskModel_237 b429 rfl (tc_TrustDeskModel_next_x (d := (d + 23)) (x9 := x9) (o0 := o0) t370 R404 I402.start) rfl (Nat.le_of_ble_eq_true rfl) (Nat.le_of_ble_eq_true rfl) (Nat.le_of_ble_eq_true rfl) (hst := rfl) (fun b423r M424 n425 b423 => ?_)
              obtain ⟨T426, J427, rfl, R430, f431, f432⟩ := b423
              have I428 := I402.call J427 (tm_sub (by decide)) (Or.inl rfl)
              have t433 := J427.up t370
              have z434 := (rv_c I402 J427 (I402.up h_o0) (k := 19) rfl).trans z411
              have z435 := (rv_c I402 J427 (I402.up h_o0) (k := 22) rfl).trans z412
              have z436 := (rv_c I402 J427 (I402.up h_o0) (k := 24) rfl).trans z413
              have z437 := (ra_call I402 J427 (I402.up h_o0) (k := 5) rfl rfl rfl 44).trans z414
              have z438 := (ra_call I402 J427 (I402.up h_o0) (k := 25) rfl rfl rfl ((rv M0 o0 24).toNat)).trans z415
              have z439 := (ra_call I402 J427 (I402.up h_o0) (k := 26) rfl rfl rfl ((rv M0 o0 24).toNat)).trans z416
              have z440 := (ra_call I402 J427 (I402.up h_o0) (k := 8) rfl rfl rfl x1.toNatClampNeg).trans z417
              have z441 := (ra_call I402 J427 (I402.up h_o0) (k := 11) rfl rfl rfl x1.toNatClampNeg).trans z418
              have h443 : rv M401 o0 16 + 1 ≤ rv M401 o0 15 := (by have := R404.1 15 _ _ rfl; have := R404.1 16 _ _ rfl; have := R404.1 19 _ _ rfl; have := E419.f yS; omega)
              have E442 : rE M0 M424 o0 2 4 := E419.next f431 f432 (rv_c I402 J427 (I402.up h_o0) (k := 19) rfl) (rE_ha I402 J427 (I402.up h_o0) (by decide)) (e := 1) h443 (by decide)
              have K444 : rK M0 M424 o0 x1.toNatClampNeg := K420.same (sA_c I402 J427 (I402.up h_o0) (by decide))
              have K445 : nN M424 o0 := K421.same (sA_c I402 J427 (I402.up h_o0) (by decide)) (sF_c I402 J427 (I402.up h_o0) (by decide))
              have F446 : rE M244 M424 o0 1 2 := F422.next f431 f432 (rv_c I402 J427 (I402.up h_o0) (k := 19) rfl) (rE_ha I402 J427 (I402.up h_o0) (by decide)) (e := 1) (by have := R404.1 15 _ _ rfl; have := R404.1 16 _ _ rfl; have := R404.1 19 _ _ rfl; have := E419.f yS; omega) (by decide)
              clear z411 z412 z413 z414 z415 z416 z417 z418
              have q447 := J427.keep t370 (by decide) (K403 _ 13 25 _ q386)
              have t448 := J427.up t387
              have q449 := J427.keep t370 (by decide) (K403 _ 13 26 _ q388)
              have t450 := J427.up t389
              have q451 := J427.keep t370 (by decide) (K403 _ 13 8 _ q390)
              have t452 := J427.up t391
              have q453 := J427.keep t370 (by decide) (K403 _ 13 24 _ q392)
              have q454 := J427.keep t370 (by decide) (K403 _ 13 11 _ q393)
              have t455 := J427.up t394
              have q456 := J427.keep t370 (by decide) (K403 _ 13 5 _ q395)
              have t457 := J427.up t396
              have q458 := J427.keep t370 (by decide) (K403 _ 13 9 _ q397)
              have t459 := J427.up t398
              have q460 := J427.keep t370 (by decide) (K403 _ 13 19 _ q399)
              exact mv_vret d_TrustDeskModel_readEnd_180 rfl ⟨_, I428, rfl, R430, E442.less (by decide), K444, K445, (fun h9 => ⟨(by have := R430.1 15 _ _ rfl; have := R430.1 16 _ _ rfl; have := R430.1 19 _ _ rfl; have := E442.f yS; omega), (by have := R430.1 15 _ _ rfl; have := R430.1 16 _ _ rfl; have := R430.1 19 _ _ rfl; have := E442.f yS; omega), (by have := R430.1 15 _ _ rfl; have := R430.1 16 _ _ rfl; have := R430.1 19 _ _ rfl; have := E442.f yS; omega)⟩), (by have := R430.1 15 _ _ rfl; have := R430.1 16 _ _ rfl; have := R430.1 19 _ _ rfl; have := E442.f yS; omega), (fun w9 => rD.of E261 F446 w9 (by decide) (by decide) (yR.2 5 _ _ rfl 44).1 (by have := R430.1 15 _ _ rfl; have := R430.1 16 _ _ rfl; have := R430.1 19 _ _ rfl; have := E442.f yS; omega))⟩
      · refine mv_aload_n d_TrustDeskModel_readEnd_37 rfl rfl ?_
        refine mv_iconst (v := 3) d_TrustDeskModel_readEnd_38 (by decide) ?_
        obtain ⟨_, b467, -⟩ := I41.1 _ _ t47
        have : (3 : Int32).toInt = 3 := by decide
        refine mv_callV (kc' := 0) (ks' := 0) (As := [.int 3]) (st9 := [.int 3, .ref o0]) d_TrustDeskModel_readEnd_39 lV_TrustDeskModel_240 b467 rfl (tc_TrustDeskModel_fails_x (d := (d + 24)) (x9 := x9) (o0 := o0) (x1 := 3) t47 R46 (by decide) I41.start) rfl (Nat.le_of_ble_eq_true rfl) (Nat.le_of_ble_eq_true rfl) (Nat.le_of_ble_eq_true rfl) (hst := rfl) (fun b461r M462 n463 b461 => ?_)
        obtain ⟨T464, J465, rfl, R468, f469⟩ := b461
        have I466 := I41.call J465 (tm_sub (by decide)) (Or.inl rfl)
        have t470 := J465.up t47
        have z471 := (rv_c I41 J465 (I41.up h_o0) (k := 15) rfl).trans z48
        have z472 := (rv_c I41 J465 (I41.up h_o0) (k := 16) rfl).trans z49
        have z473 := (rv_c I41 J465 (I41.up h_o0) (k := 17) rfl).trans z50
        have z474 := (rv_c I41 J465 (I41.up h_o0) (k := 22) rfl).trans z52
        have z475 := (rv_c I41 J465 (I41.up h_o0) (k := 24) rfl).trans z53
        have z476 := (ra_call I41 J465 (I41.up h_o0) (k := 5) rfl rfl rfl 44).trans z54
        have E477 : rE M0 M462 o0 0 0 := E55.fails (rE_hv I41 J465 (I41.up h_o0) 15 18 (by decide)) (rE_ha I41 J465 (I41.up h_o0) (by decide)) f469 0 0
        have K478 : rK M0 M462 o0 x1.toNatClampNeg := K56.same (sA_c I41 J465 (I41.up h_o0) (by decide))
        have K479 : nN M462 o0 := K57.same (sA_c I41 J465 (I41.up h_o0) (by decide)) (sF_c I41 J465 (I41.up h_o0) (by decide))
        clear z48 z49 z50 z52 z53 z54
        have q480 := J465.keep t47 (by decide) q58
        have q481 := J465.keep t47 (by decide) q59
        have q482 := J465.keep t47 (by decide) q60
        refine mv_aload_n d_TrustDeskModel_readEnd_42 rfl rfl ?_
        obtain ⟨_, b483, -⟩ := I466.1 _ _ t470
        refine mv_callV (kc1 := 0) (ks1 := 0) (kc' := 0) (ks' := 0) (As := []) (st9 := [.ref o0]) d_TrustDeskModel_readEnd_43 lV_TrustDeskModel_230 b483 rfl (mj_enter (by decide) (Nat.le_of_ble_eq_true rfl) ?_) rfl (Nat.le_of_ble_eq_true rfl) (Nat.le_of_ble_eq_true rfl) (Nat.le_of_ble_eq_true rfl) (hst := rfl) (fun _ _ _ h => h)
        refine mv_aload_n d_TrustDeskModel_isWell_0 rfl rfl ?_
        obtain ⟨v485, q484⟩ := tm_atI I466 t470 (k := 19) rfl
        refine tr_getK q484 d_TrustDeskModel_isWell_1 f_TrustDeskModel_224_13 ?_
        have := R468.f (k := 19) q484 rfl
        have := tm_rv q484
        refine mv_if_neZ (tgt := 11) (a := v485.toInt) d_TrustDeskModel_isWell_4 (by decide) rfl (fun b486 => ?_) (fun b486 => ?_)
        · refine mv_iconst (v := 0) d_TrustDeskModel_isWell_11 (by decide) ?_
          refine mv_iret d_TrustDeskModel_isWell_12 rfl (by decide) ?_
          refine mv_if_ne_f (tgt := 50) d_TrustDeskModel_readEnd_46 (by decide) (by decide) ?_
          exact mv_vret d_TrustDeskModel_readEnd_49 rfl ⟨_, I466, rfl, R468, E477.vac (by have := R468.1 15 _ _ rfl; have := R468.1 16 _ _ rfl; have := R468.1 19 _ _ rfl; have := E477.f yS; omega) 2 0, K478, K479, (fun h9 => absurd h9 (by have := R468.1 15 _ _ rfl; have := R468.1 16 _ _ rfl; have := R468.1 19 _ _ rfl; have := E477.f yS; omega)), (by have := R468.1 15 _ _ rfl; have := R468.1 16 _ _ rfl; have := R468.1 19 _ _ rfl; have := E477.f yS; omega), (fun h9 => absurd h9 (by have := R468.1 15 _ _ rfl; have := R468.1 16 _ _ rfl; have := R468.1 19 _ _ rfl; have := E477.f yS; omega))⟩
        · exfalso
          have := R468.1 15 _ _ rfl; have := R468.1 16 _ _ rfl; have := R468.1 19 _ _ rfl; have := E477.f yS; omega
    · refine mv_aload_n d_TrustDeskModel_readEnd_22 rfl rfl ?_
      refine mv_iconst (v := 1) d_TrustDeskModel_readEnd_23 (by decide) ?_
      obtain ⟨_, b493, -⟩ := I0.1 _ _ h_o0
      have : (1 : Int32).toInt = 1 := by decide
      refine mv_callV (kc' := 0) (ks' := 0) (As := [.int 1]) (st9 := [.int 1, .ref o0]) d_TrustDeskModel_readEnd_24 lV_TrustDeskModel_240 b493 rfl (tc_TrustDeskModel_fails_x (d := (d + 24)) (x9 := x9) (o0 := o0) (x1 := 1) h_o0 yR (by decide) I0.start) rfl (Nat.le_of_ble_eq_true rfl) (Nat.le_of_ble_eq_true rfl) (Nat.le_of_ble_eq_true rfl) (hst := rfl) (fun b487r M488 n489 b487 => ?_)
      obtain ⟨T490, J491, rfl, R494, f495⟩ := b487
      have I492 := I0.call J491 (tm_sub (by decide)) (Or.inl rfl)
      have t496 := J491.up h_o0
      have z497 := (rv_c I0 J491 (I0.up h_o0) (k := 15) rfl)
      have z498 := (rv_c I0 J491 (I0.up h_o0) (k := 16) rfl)
      have z499 := (rv_c I0 J491 (I0.up h_o0) (k := 17) rfl)
      have z500 := (rv_c I0 J491 (I0.up h_o0) (k := 22) rfl)
      have z501 := (rv_c I0 J491 (I0.up h_o0) (k := 24) rfl)
      have z502 := (ra_call I0 J491 (I0.up h_o0) (k := 5) rfl rfl rfl 44)
      have E503 : rE M0 M488 o0 0 0 := yE0.fails (rE_hv I0 J491 (I0.up h_o0) 15 18 (by decide)) (rE_ha I0 J491 (I0.up h_o0) (by decide)) f495 0 0
      have K504 : rK M0 M488 o0 x1.toNatClampNeg := K1.same (sA_c I0 J491 (I0.up h_o0) (by decide))
      have K505 : nN M488 o0 := K2.same (sA_c I0 J491 (I0.up h_o0) (by decide)) (sF_c I0 J491 (I0.up h_o0) (by decide))
      have q506 := J491.keep h_o0 (by decide) q3
      have q507 := J491.keep h_o0 (by decide) q30
      have q508 := J491.keep h_o0 (by decide) q32
      refine mv_goto (tgt := 42) d_TrustDeskModel_readEnd_27 (by decide) ?_
      refine mv_aload_n d_TrustDeskModel_readEnd_42 rfl rfl ?_
      obtain ⟨_, b509, -⟩ := I492.1 _ _ t496
      refine mv_callV (kc1 := 0) (ks1 := 0) (kc' := 0) (ks' := 0) (As := []) (st9 := [.ref o0]) d_TrustDeskModel_readEnd_43 lV_TrustDeskModel_230 b509 rfl (mj_enter (by decide) (Nat.le_of_ble_eq_true rfl) ?_) rfl (Nat.le_of_ble_eq_true rfl) (Nat.le_of_ble_eq_true rfl) (Nat.le_of_ble_eq_true rfl) (hst := rfl) (fun _ _ _ h => h)
      refine mv_aload_n d_TrustDeskModel_isWell_0 rfl rfl ?_
      obtain ⟨v511, q510⟩ := tm_atI I492 t496 (k := 19) rfl
      refine tr_getK q510 d_TrustDeskModel_isWell_1 f_TrustDeskModel_224_13 ?_
      have := R494.f (k := 19) q510 rfl
      have := tm_rv q510
      refine mv_if_neZ (tgt := 11) (a := v511.toInt) d_TrustDeskModel_isWell_4 (by decide) rfl (fun b512 => ?_) (fun b512 => ?_)
      · refine mv_iconst (v := 0) d_TrustDeskModel_isWell_11 (by decide) ?_
        refine mv_iret d_TrustDeskModel_isWell_12 rfl (by decide) ?_
        refine mv_if_ne_f (tgt := 50) d_TrustDeskModel_readEnd_46 (by decide) (by decide) ?_
        exact mv_vret d_TrustDeskModel_readEnd_49 rfl ⟨_, I492, rfl, R494, E503.vac (by have := R494.1 15 _ _ rfl; have := R494.1 16 _ _ rfl; have := R494.1 19 _ _ rfl; have := E503.f yS; omega) 2 0, K504, K505, (fun h9 => absurd h9 (by have := R494.1 15 _ _ rfl; have := R494.1 16 _ _ rfl; have := R494.1 19 _ _ rfl; have := E503.f yS; omega)), (by have := R494.1 15 _ _ rfl; have := R494.1 16 _ _ rfl; have := R494.1 19 _ _ rfl; have := E503.f yS; omega), (fun h9 => absurd h9 (by have := R494.1 15 _ _ rfl; have := R494.1 16 _ _ rfl; have := R494.1 19 _ _ rfl; have := E503.f yS; omega))⟩
      · exfalso
        have := R494.1 15 _ _ rfl; have := R494.1 16 _ _ rfl; have := R494.1 19 _ _ rfl; have := E503.f yS; omega
