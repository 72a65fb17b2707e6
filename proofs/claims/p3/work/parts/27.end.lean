abbrev kY_TrustDeskModel_readEnd : mj_Y := (⟨"TrustDeskModel", "readEnd", "(I)V"⟩, prog_14_method_37_code, 2, (Option.none : Option Jvm.ClassFile.FieldType))
theorem d_TrustDeskModel_readEnd_0 : decode kY_TrustDeskModel_readEnd.2.1 0 = .ok (.aload_n 0, 1) := by decide +kernel
theorem d_TrustDeskModel_readEnd_1 : decode kY_TrustDeskModel_readEnd.2.1 1 = .ok (.getfield 198, 3) := by decide +kernel
theorem d_TrustDeskModel_readEnd_4 : decode kY_TrustDeskModel_readEnd.2.1 4 = .ok (.iconst 3, 1) := by decide +kernel
theorem d_TrustDeskModel_readEnd_5 : decode kY_TrustDeskModel_readEnd.2.1 5 = .ok (.if_icmp .ne 17, 3) := by decide +kernel
theorem d_TrustDeskModel_readEnd_22 : decode kY_TrustDeskModel_readEnd.2.1 22 = .ok (.aload_n 0, 1) := by decide +kernel
theorem d_TrustDeskModel_readEnd_23 : decode kY_TrustDeskModel_readEnd.2.1 23 = .ok (.iconst 1, 1) := by decide +kernel
theorem d_TrustDeskModel_readEnd_24 : decode kY_TrustDeskModel_readEnd.2.1 24 = .ok (.invokevirtual 240, 3) := by decide +kernel
theorem d_TrustDeskModel_readEnd_27 : decode kY_TrustDeskModel_readEnd.2.1 27 = .ok (.goto 15, 3) := by decide +kernel
theorem d_TrustDeskModel_readEnd_42 : decode kY_TrustDeskModel_readEnd.2.1 42 = .ok (.aload_n 0, 1) := by decide +kernel
theorem d_TrustDeskModel_readEnd_43 : decode kY_TrustDeskModel_readEnd.2.1 43 = .ok (.invokevirtual 230, 3) := by decide +kernel
theorem d_TrustDeskModel_readEnd_46 : decode kY_TrustDeskModel_readEnd.2.1 46 = .ok (.ifCond .ne 4, 3) := by decide +kernel
theorem d_TrustDeskModel_readEnd_49 : decode kY_TrustDeskModel_readEnd.2.1 49 = .ok (.return_, 1) := by decide +kernel
theorem d_TrustDeskModel_readEnd_8 : decode kY_TrustDeskModel_readEnd.2.1 8 = .ok (.aload_n 0, 1) := by decide +kernel
theorem d_TrustDeskModel_readEnd_9 : decode kY_TrustDeskModel_readEnd.2.1 9 = .ok (.getfield 192, 3) := by decide +kernel
theorem d_TrustDeskModel_readEnd_12 : decode kY_TrustDeskModel_readEnd.2.1 12 = .ok (.aload_n 0, 1) := by decide +kernel
theorem d_TrustDeskModel_readEnd_13 : decode kY_TrustDeskModel_readEnd.2.1 13 = .ok (.getfield 195, 3) := by decide +kernel
theorem d_TrustDeskModel_readEnd_16 : decode kY_TrustDeskModel_readEnd.2.1 16 = .ok (.isub, 1) := by decide +kernel
theorem d_TrustDeskModel_readEnd_17 : decode kY_TrustDeskModel_readEnd.2.1 17 = .ok (.bipush 8, 2) := by decide +kernel
theorem d_TrustDeskModel_readEnd_19 : decode kY_TrustDeskModel_readEnd.2.1 19 = .ok (.if_icmp .le 11, 3) := by decide +kernel
theorem d_TrustDeskModel_readEnd_30 : decode kY_TrustDeskModel_readEnd.2.1 30 = .ok (.aload_n 0, 1) := by decide +kernel
theorem d_TrustDeskModel_readEnd_31 : decode kY_TrustDeskModel_readEnd.2.1 31 = .ok (.invokevirtual 324, 3) := by decide +kernel
theorem lV_TrustDeskModel_324 : mj_lV "TrustDeskModel" 324 kY_TrustDeskModel_isThere 0 := ⟨⟨(mj_in1 (List.mem_of_getElem? (i := 1806) (by decide +kernel)) rfl), (mj_in1 (List.mem_of_getElem? (i := 10) (by decide +kernel)) rfl), (mj_in1 (List.mem_of_getElem? (i := 1809) (by decide +kernel)) rfl), by decide, rfl, by decide⟩, (mj_in1 (List.mem_of_getElem? (i := 1808) (by decide +kernel)) rfl), (mj_in (List.mem_append_left _ (List.mem_of_getElem? (i := 108) (by decide +kernel))) rfl)⟩
theorem d_TrustDeskModel_readEnd_34 : decode kY_TrustDeskModel_readEnd.2.1 34 = .ok (.ifCond .eq 8, 3) := by decide +kernel
theorem d_TrustDeskModel_readEnd_50 : decode kY_TrustDeskModel_readEnd.2.1 50 = .ok (.aload_n 0, 1) := by decide +kernel
theorem d_TrustDeskModel_readEnd_51 : decode kY_TrustDeskModel_readEnd.2.1 51 = .ok (.getfield 51, 3) := by decide +kernel
theorem d_TrustDeskModel_readEnd_54 : decode kY_TrustDeskModel_readEnd.2.1 54 = .ok (.aload_n 0, 1) := by decide +kernel
theorem d_TrustDeskModel_readEnd_55 : decode kY_TrustDeskModel_readEnd.2.1 55 = .ok (.getfield 321, 3) := by decide +kernel
theorem d_TrustDeskModel_readEnd_58 : decode kY_TrustDeskModel_readEnd.2.1 58 = .ok (.aload_n 0, 1) := by decide +kernel
theorem d_TrustDeskModel_readEnd_59 : decode kY_TrustDeskModel_readEnd.2.1 59 = .ok (.getfield 195, 3) := by decide +kernel
theorem d_TrustDeskModel_readEnd_62 : decode kY_TrustDeskModel_readEnd.2.1 62 = .ok (.iastore, 1) := by decide +kernel
theorem d_TrustDeskModel_readEnd_63 : decode kY_TrustDeskModel_readEnd.2.1 63 = .ok (.aload_n 0, 1) := by decide +kernel
theorem d_TrustDeskModel_readEnd_64 : decode kY_TrustDeskModel_readEnd.2.1 64 = .ok (.getfield 54, 3) := by decide +kernel
theorem d_TrustDeskModel_readEnd_67 : decode kY_TrustDeskModel_readEnd.2.1 67 = .ok (.aload_n 0, 1) := by decide +kernel
theorem d_TrustDeskModel_readEnd_68 : decode kY_TrustDeskModel_readEnd.2.1 68 = .ok (.getfield 321, 3) := by decide +kernel
theorem d_TrustDeskModel_readEnd_71 : decode kY_TrustDeskModel_readEnd.2.1 71 = .ok (.aload_n 0, 1) := by decide +kernel
theorem d_TrustDeskModel_readEnd_72 : decode kY_TrustDeskModel_readEnd.2.1 72 = .ok (.getfield 192, 3) := by decide +kernel
theorem d_TrustDeskModel_readEnd_75 : decode kY_TrustDeskModel_readEnd.2.1 75 = .ok (.aload_n 0, 1) := by decide +kernel
theorem d_TrustDeskModel_readEnd_76 : decode kY_TrustDeskModel_readEnd.2.1 76 = .ok (.getfield 195, 3) := by decide +kernel
theorem d_TrustDeskModel_readEnd_79 : decode kY_TrustDeskModel_readEnd.2.1 79 = .ok (.isub, 1) := by decide +kernel
theorem d_TrustDeskModel_readEnd_80 : decode kY_TrustDeskModel_readEnd.2.1 80 = .ok (.iastore, 1) := by decide +kernel
theorem d_TrustDeskModel_readEnd_81 : decode kY_TrustDeskModel_readEnd.2.1 81 = .ok (.aload_n 0, 1) := by decide +kernel
theorem d_TrustDeskModel_readEnd_82 : decode kY_TrustDeskModel_readEnd.2.1 82 = .ok (.getfield 29, 3) := by decide +kernel
theorem d_TrustDeskModel_readEnd_85 : decode kY_TrustDeskModel_readEnd.2.1 85 = .ok (.iload_n 1, 1) := by decide +kernel
theorem d_TrustDeskModel_readEnd_86 : decode kY_TrustDeskModel_readEnd.2.1 86 = .ok (.aload_n 0, 1) := by decide +kernel
theorem d_TrustDeskModel_readEnd_87 : decode kY_TrustDeskModel_readEnd.2.1 87 = .ok (.getfield 192, 3) := by decide +kernel
theorem d_TrustDeskModel_readEnd_90 : decode kY_TrustDeskModel_readEnd.2.1 90 = .ok (.aload_n 0, 1) := by decide +kernel
theorem d_TrustDeskModel_readEnd_91 : decode kY_TrustDeskModel_readEnd.2.1 91 = .ok (.getfield 195, 3) := by decide +kernel
theorem d_TrustDeskModel_readEnd_94 : decode kY_TrustDeskModel_readEnd.2.1 94 = .ok (.isub, 1) := by decide +kernel
theorem d_TrustDeskModel_readEnd_95 : decode kY_TrustDeskModel_readEnd.2.1 95 = .ok (.iastore, 1) := by decide +kernel
theorem d_TrustDeskModel_readEnd_96 : decode kY_TrustDeskModel_readEnd.2.1 96 = .ok (.aload_n 0, 1) := by decide +kernel
theorem d_TrustDeskModel_readEnd_97 : decode kY_TrustDeskModel_readEnd.2.1 97 = .ok (.dup, 1) := by decide +kernel
theorem d_TrustDeskModel_readEnd_98 : decode kY_TrustDeskModel_readEnd.2.1 98 = .ok (.getfield 321, 3) := by decide +kernel
theorem d_TrustDeskModel_readEnd_101 : decode kY_TrustDeskModel_readEnd.2.1 101 = .ok (.iconst 1, 1) := by decide +kernel
theorem d_TrustDeskModel_readEnd_102 : decode kY_TrustDeskModel_readEnd.2.1 102 = .ok (.iadd, 1) := by decide +kernel
theorem d_TrustDeskModel_readEnd_103 : decode kY_TrustDeskModel_readEnd.2.1 103 = .ok (.putfield 321, 3) := by decide +kernel
theorem d_TrustDeskModel_readEnd_106 : decode kY_TrustDeskModel_readEnd.2.1 106 = .ok (.aload_n 0, 1) := by decide +kernel
theorem d_TrustDeskModel_readEnd_107 : decode kY_TrustDeskModel_readEnd.2.1 107 = .ok (.invokevirtual 237, 3) := by decide +kernel
theorem d_TrustDeskModel_readEnd_110 : decode kY_TrustDeskModel_readEnd.2.1 110 = .ok (.aload_n 0, 1) := by decide +kernel
theorem d_TrustDeskModel_readEnd_111 : decode kY_TrustDeskModel_readEnd.2.1 111 = .ok (.ldc_w 327, 3) := by decide +kernel
theorem d_TrustDeskModel_readEnd_114 : decode kY_TrustDeskModel_readEnd.2.1 114 = .ok (.invokevirtual 329, 3) := by decide +kernel
abbrev kY_TrustDeskModel_wantWord : mj_Y := (⟨"TrustDeskModel", "wantWord", "(Ljava/lang/String;)V"⟩, prog_14_method_22_code, 2, (Option.none : Option Jvm.ClassFile.FieldType))
theorem d_TrustDeskModel_wantWord_0 : decode kY_TrustDeskModel_wantWord.2.1 0 = .ok (.aload_n 0, 1) := by decide +kernel
theorem d_TrustDeskModel_wantWord_1 : decode kY_TrustDeskModel_wantWord.2.1 1 = .ok (.invokevirtual 230, 3) := by decide +kernel
theorem d_TrustDeskModel_wantWord_4 : decode kY_TrustDeskModel_wantWord.2.1 4 = .ok (.ifCond .ne 4, 3) := by decide +kernel
theorem d_TrustDeskModel_wantWord_7 : decode kY_TrustDeskModel_wantWord.2.1 7 = .ok (.return_, 1) := by decide +kernel
theorem d_TrustDeskModel_wantWord_8 : decode kY_TrustDeskModel_wantWord.2.1 8 = .ok (.aload_n 0, 1) := by decide +kernel
theorem d_TrustDeskModel_wantWord_9 : decode kY_TrustDeskModel_wantWord.2.1 9 = .ok (.aload_n 1, 1) := by decide +kernel
theorem d_TrustDeskModel_wantWord_10 : decode kY_TrustDeskModel_wantWord.2.1 10 = .ok (.invokevirtual 244, 3) := by decide +kernel
def w_TrustDeskModel_isWord_s1_45_x : List Nat := []
theorem tc_TrustDeskModel_isWord_s1_45_x {g : mj_G} {l : Launch} {d : Nat} {T0 : tm_H} {M0 : mj_M} {n0 x9 : Nat} {o0 : Nat} (h_o0 : T0 o0 = some (0, 13, 0)) (yR : rI M0 o0) (I0 : tm_I tm_FT (tm_in w_TrustDeskModel_isWord_s1_45_x) x9 T0 M0 n0 T0 M0 n0) : mj_Met g l kY_TrustDeskModel_isWord (d + 4) [.ref o0, .ref 45] M0 n0 0 0 (tm_Q tm_FT (tm_in w_TrustDeskModel_isWord_s1_45_x) x9 T0 M0 n0 (fun r _ M => ∃ v : Int32, r = some (.int v) ∧ 0 ≤ v.toInt ∧ v.toInt ≤ 1 ∧ rI M o0 ∧ (v.toInt = 1 → rv M0 o0 17 = 3))) := by
  refine mj_enter (by decide) (Nat.le_of_ble_eq_true rfl) ?_
  refine mv_aload_n d_TrustDeskModel_isWord_0 rfl rfl ?_
  obtain ⟨v2, q1⟩ := tm_atI I0 h_o0 (k := 17) rfl
  refine tr_getK q1 d_TrustDeskModel_isWord_1 f_TrustDeskModel_198_13 ?_
  have := tm_rv q1
  refine mv_iconst (v := 3) d_TrustDeskModel_isWord_4 (by decide) ?_
  have := mz_hi v2
  refine mv_icmp_neZ (tgt := 24) (a := v2.toInt) (b := 3) d_TrustDeskModel_isWord_5 (by decide) rfl (by decide) (fun b3 => ?_) (fun b3 => ?_)
  · refine mv_iconst (v := 0) d_TrustDeskModel_isWord_24 (by decide) ?_
    exact mv_iret d_TrustDeskModel_isWord_25 rfl (by decide) ⟨_, I0, _, rfl, by decide, by decide, yR, (fun h => absurd h (by decide))⟩
  · refine mv_aload_n d_TrustDeskModel_isWord_8 rfl rfl ?_
    obtain ⟨v5, q4⟩ := tm_atI I0 h_o0 (k := 15) rfl
    refine tr_getK q4 d_TrustDeskModel_isWord_9 f_TrustDeskModel_192_13 ?_
    have := yR.f (k := 15) q4 rfl
    have := tm_rv q4
    refine mv_aload_n d_TrustDeskModel_isWord_12 rfl rfl ?_
    obtain ⟨v7, q6⟩ := tm_atI I0 h_o0 (k := 16) rfl
    refine tr_getK q6 d_TrustDeskModel_isWord_13 f_TrustDeskModel_195_13 ?_
    have := yR.f (k := 16) q6 rfl
    have := tm_rv q6
    refine mv_isub d_TrustDeskModel_isWord_16 ?_
    refine mv_aload_n d_TrustDeskModel_isWord_17 rfl rfl ?_
    refine mv_slenK (i := 35) (v := 4) d_TrustDeskModel_isWord_18 lV_TrustDeskModel_214 (by decide) rfl (by decide) (Nat.le_of_ble_eq_true rfl) ?_
    have b8 : (v5 - v7 : Int32).toInt = (v5.toInt - v7.toInt) := mz_sub2 rfl rfl (by have := yR.1 15 _ _ rfl; have := yR.1 16 _ _ rfl; have := yR.1 19 _ _ rfl; omega) (by have := yR.1 15 _ _ rfl; have := yR.1 16 _ _ rfl; have := yR.1 19 _ _ rfl; omega)
    have := mz_hi (v5 - v7)
    refine mv_icmp_eqZ (tgt := 26) (a := (v5 - v7).toInt) (b := 4) d_TrustDeskModel_isWord_21 (by decide) rfl (by decide) (fun b9 => ?_) (fun b9 => ?_)
    · refine mv_iconst (v := 0) d_TrustDeskModel_isWord_26 (by decide) ?_
      refine mv_istore_n (lv' := [(2, .int 0), (0, .ref o0), (1, .ref 45)]) d_TrustDeskModel_isWord_27 rfl (by decide) rfl ?_
      have L28_10 : ∀ (k : Nat) (i2_10 : Int32) (T_10 : tm_H) (M_10 : mj_M) (n_10 : Nat), tm_I tm_FT (tm_in w_TrustDeskModel_isWord_s1_45_x) x9 T0 M0 n0 T_10 M_10 n_10 → T_10 o0 = some (0, 13, 0) → 0 ≤ i2_10.toInt → rv M_10 o0 15 = rv M0 o0 15 → rv M_10 o0 16 = rv M0 o0 16 → i2_10.toInt ≤ 2147483646 → (rI M_10 o0) → 2147483647 - i2_10.toInt < (k : Int) → mj_V g l kY_TrustDeskModel_isWord (d + 4) 28 [(2, .int i2_10), (0, .ref o0), (1, .ref 45)] [] M_10 n_10 0 0 (tm_Q tm_FT (tm_in w_TrustDeskModel_isWord_s1_45_x) x9 T0 M0 n0 (fun r _ M => ∃ v : Int32, r = some (.int v) ∧ 0 ≤ v.toInt ∧ v.toInt ≤ 1 ∧ rI M o0 ∧ (v.toInt = 1 → rv M0 o0 17 = 3))) := by
        intro k10
        induction k10 with
        | zero =>
          intro i2_10 T_10 M_10 n_10 I_10 h_q0_10 iv0_10 iv1_10 iv2_10 iv3_10 kKR_10 hk10
          have := mz_hi i2_10
          have := kKR_10.1 15 _ _ rfl
          have := kKR_10.1 16 _ _ rfl
          have := kKR_10.1 19 _ _ rfl
          omega
        | succ k10 ih10 =>
          intro i2_10 T_10 M_10 n_10 I_10 h_q0_10 iv0_10 iv1_10 iv2_10 iv3_10 kKR_10 hk10
          refine mv_iload_n d_TrustDeskModel_isWord_28 rfl rfl ?_
          refine mv_aload_n d_TrustDeskModel_isWord_29 rfl rfl ?_
          refine mv_slenK (i := 35) (v := 4) d_TrustDeskModel_isWord_30 lV_TrustDeskModel_214 (by decide) rfl (by decide) (Nat.le_of_ble_eq_true rfl) ?_
          have := mz_hi i2_10
          refine mv_icmp_geZ (tgt := 63) (a := i2_10.toInt) (b := 4) d_TrustDeskModel_isWord_33 (by decide) rfl (by decide) (fun b11 => ?_) (fun b11 => ?_)
          · refine mv_iconst (v := 1) d_TrustDeskModel_isWord_63 (by decide) ?_
            exact mv_iret d_TrustDeskModel_isWord_64 rfl (by decide) ⟨_, I_10, _, rfl, by decide, by decide, kKR_10, (fun _ => by omega)⟩
          · refine mv_aload_n d_TrustDeskModel_isWord_36 rfl rfl ?_
            obtain ⟨a13, q12, t_a13⟩ := tm_atR I_10 h_q0_10 (k := 13) rfl
            refine tr_getK q12 d_TrustDeskModel_isWord_37 f_TrustDeskModel_44_13 ?_
            refine mv_aload_n d_TrustDeskModel_isWord_40 rfl rfl ?_
            obtain ⟨v15, q14⟩ := tm_atI I_10 h_q0_10 (k := 16) rfl
            refine tr_getK q14 d_TrustDeskModel_isWord_41 f_TrustDeskModel_195_13 ?_
            have := kKR_10.f (k := 16) q14 rfl
            have := tm_rv q14
            refine mv_iload_n d_TrustDeskModel_isWord_44 rfl rfl ?_
            refine mv_iadd d_TrustDeskModel_isWord_45 ?_
            have b16 : (v15 + i2_10 : Int32).toInt = (v15.toInt + i2_10.toInt) := mz_add2 rfl rfl (by have := kKR_10.1 15 _ _ rfl; have := kKR_10.1 16 _ _ rfl; have := kKR_10.1 19 _ _ rfl; omega) (by have := kKR_10.1 15 _ _ rfl; have := kKR_10.1 16 _ _ rfl; have := kKR_10.1 19 _ _ rfl; omega)
            refine tr_baldR (o := o0) (k := 13) I_10 q12 t_a13 (by decide) d_TrustDeskModel_isWord_46 (vp_in_iff.mpr (by have := kKR_10.1 15 _ _ rfl; have := kKR_10.1 16 _ _ rfl; have := kKR_10.1 19 _ _ rfl; omega)) (fun v17 e18 => ?_)
            have := kKR_10.a (k := 13) rfl ((v15 + i2_10) : Int32).toNatClampNeg
            refine mv_aload_n d_TrustDeskModel_isWord_47 rfl rfl ?_
            refine mv_iload_n d_TrustDeskModel_isWord_48 rfl rfl ?_
            refine mv_schN (i := 35) (N := 4) d_TrustDeskModel_isWord_49 lV_TrustDeskModel_220 (by decide) rfl rfl (by omega) (by omega) (Nat.le_of_ble_eq_true rfl) (fun v19 => ?_)
            have := mz_hi v17
            have := mz_hi v19
            refine mv_icmp_eqZ (tgt := 57) (a := v17.toInt) (b := v19.toInt) d_TrustDeskModel_isWord_52 (by decide) rfl rfl (fun b20 => ?_) (fun b20 => ?_)
            · refine mv_iinc (v := (i2_10 + 1)) (lv' := [(2, .int (i2_10 + 1)), (0, .ref o0), (1, .ref 45)]) d_TrustDeskModel_isWord_57 rfl rfl (by decide) rfl ?_
              refine mv_goto (tgt := 28) d_TrustDeskModel_isWord_60 (by decide) ?_
              have b21 : (i2_10 + 1).toInt = i2_10.toInt + 1 := mz_addn 1 1 (by decide) (by have := mz_lo i2_10; omega) (by have := mz_hi i2_10; omega)
              exact (ih10 (i2_10 + 1) T_10 M_10 n_10 I_10 h_q0_10 (by have := kKR_10.1 15 _ _ rfl; have := kKR_10.1 16 _ _ rfl; have := kKR_10.1 19 _ _ rfl; first | omega | decide | exact fun h9 => absurd (by decide) h9) (by have := kKR_10.1 15 _ _ rfl; have := kKR_10.1 16 _ _ rfl; have := kKR_10.1 19 _ _ rfl; first | omega | decide | exact fun h9 => absurd (by decide) h9) (by have := kKR_10.1 15 _ _ rfl; have := kKR_10.1 16 _ _ rfl; have := kKR_10.1 19 _ _ rfl; first | omega | decide | exact fun h9 => absurd (by decide) h9) (by have := kKR_10.1 15 _ _ rfl; have := kKR_10.1 16 _ _ rfl; have := kKR_10.1 19 _ _ rfl; first | omega | decide | exact fun h9 => absurd (by decide) h9) kKR_10 (by have := kKR_10.1 15 _ _ rfl; have := kKR_10.1 16 _ _ rfl; have := kKR_10.1 19 _ _ rfl; omega))
            · refine mv_iconst (v := 0) d_TrustDeskModel_isWord_55 (by decide) ?_
              exact mv_iret d_TrustDeskModel_isWord_56 rfl (by decide) ⟨_, I_10, _, rfl, by decide, by decide, kKR_10, (fun h => absurd h (by decide))⟩
      exact mv_less (Nat.zero_le _) (Nat.zero_le _) (L28_10 4294967296 0 T0 M0 n0 I0 h_o0 (by have := yR.1 15 _ _ rfl; have := yR.1 16 _ _ rfl; have := yR.1 19 _ _ rfl; first | omega | decide | exact fun h9 => absurd (by decide) h9) (by have := yR.1 15 _ _ rfl; have := yR.1 16 _ _ rfl; have := yR.1 19 _ _ rfl; first | omega | decide | exact fun h9 => absurd (by decide) h9) (by have := yR.1 15 _ _ rfl; have := yR.1 16 _ _ rfl; have := yR.1 19 _ _ rfl; first | omega | decide | exact fun h9 => absurd (by decide) h9) (by have := yR.1 15 _ _ rfl; have := yR.1 16 _ _ rfl; have := yR.1 19 _ _ rfl; first | omega | decide | exact fun h9 => absurd (by decide) h9) yR (by show (2147483647 - (0 : Int) : Int) < _; decide))
    · refine mv_iconst (v := 0) d_TrustDeskModel_isWord_24 (by decide) ?_
      exact mv_iret d_TrustDeskModel_isWord_25 rfl (by decide) ⟨_, I0, _, rfl, by decide, by decide, yR, (fun h => absurd h (by decide))⟩
theorem d_TrustDeskModel_wantWord_13 : decode kY_TrustDeskModel_wantWord.2.1 13 = .ok (.ifCond .eq 10, 3) := by decide +kernel
theorem d_TrustDeskModel_wantWord_23 : decode kY_TrustDeskModel_wantWord.2.1 23 = .ok (.aload_n 0, 1) := by decide +kernel
theorem d_TrustDeskModel_wantWord_24 : decode kY_TrustDeskModel_wantWord.2.1 24 = .ok (.iconst 1, 1) := by decide +kernel
theorem d_TrustDeskModel_wantWord_25 : decode kY_TrustDeskModel_wantWord.2.1 25 = .ok (.invokevirtual 240, 3) := by decide +kernel
theorem d_TrustDeskModel_wantWord_28 : decode kY_TrustDeskModel_wantWord.2.1 28 = .ok (.return_, 1) := by decide +kernel
theorem d_TrustDeskModel_wantWord_16 : decode kY_TrustDeskModel_wantWord.2.1 16 = .ok (.aload_n 0, 1) := by decide +kernel
theorem d_TrustDeskModel_wantWord_17 : decode kY_TrustDeskModel_wantWord.2.1 17 = .ok (.invokevirtual 237, 3) := by decide +kernel
theorem d_TrustDeskModel_wantWord_20 : decode kY_TrustDeskModel_wantWord.2.1 20 = .ok (.goto 8, 3) := by decide +kernel
def w_TrustDeskModel_wantWord_s1_45_x : List Nat := [1315, 1316, 1317, 1318, 1319, 1320]
theorem tc_TrustDeskModel_wantWord_s1_45_x {g : mj_G} {l : Launch} {d : Nat} {T0 : tm_H} {M0 : mj_M} {n0 x9 : Nat} {o0 : Nat} (h_o0 : T0 o0 = some (0, 13, 0)) (yR : rI M0 o0) (yT : rT M0 o0) (yS : rv M0 o0 19 = 0 → ra M0 o0 5 44 ≤ rv M0 o0 16) (I0 : tm_I tm_FT (tm_in w_TrustDeskModel_wantWord_s1_45_x) x9 T0 M0 n0 T0 M0 n0) : mj_Met g l kY_TrustDeskModel_wantWord (d + 5) [.ref o0, .ref 45] M0 n0 0 0 (tm_Q tm_FT (tm_in w_TrustDeskModel_wantWord_s1_45_x) x9 T0 M0 n0 (fun r _ M => r = none ∧ rI M o0 ∧ (rE M0 M o0 0 1))) := by
  refine mj_enter (by decide) (Nat.le_of_ble_eq_true rfl) ?_
  have yE0 := rE.rf yT
  refine mv_aload_n d_TrustDeskModel_wantWord_0 rfl rfl ?_
  obtain ⟨_, b1, -⟩ := I0.1 _ _ h_o0
  refine mv_callV (kc1 := 0) (ks1 := 0) (kc' := 0) (ks' := 0) (As := []) (st9 := [.ref o0]) d_TrustDeskModel_wantWord_1 lV_TrustDeskModel_230 b1 rfl (mj_enter (by decide) (Nat.le_of_ble_eq_true rfl) ?_) rfl (Nat.le_of_ble_eq_true rfl) (Nat.le_of_ble_eq_true rfl) (Nat.le_of_ble_eq_true rfl) (hst := rfl) (fun _ _ _ h => h)
  refine mv_aload_n d_TrustDeskModel_isWell_0 rfl rfl ?_
  obtain ⟨v3, q2⟩ := tm_atI I0 h_o0 (k := 19) rfl
  refine tr_getK q2 d_TrustDeskModel_isWell_1 f_TrustDeskModel_224_13 ?_
  have := yR.f (k := 19) q2 rfl
  have := tm_rv q2
  have := mz_hi v3
  refine mv_if_neZ (tgt := 11) (a := v3.toInt) d_TrustDeskModel_isWell_4 (by decide) rfl (fun b4 => ?_) (fun b4 => ?_)
  · refine mv_iconst (v := 0) d_TrustDeskModel_isWell_11 (by decide) ?_
    refine mv_iret d_TrustDeskModel_isWell_12 rfl (by decide) ?_
    refine mv_if_ne_f (tgt := 8) d_TrustDeskModel_wantWord_4 (by decide) (by decide) ?_
    exact mv_vret d_TrustDeskModel_wantWord_7 rfl ⟨_, I0, rfl, yR, yE0.vac (by have := yR.1 15 _ _ rfl; have := yR.1 16 _ _ rfl; have := yR.1 19 _ _ rfl; have := yE0.f yS; omega) 0 1⟩
  · refine mv_iconst (v := 1) d_TrustDeskModel_isWell_7 (by decide) ?_
    refine mv_goto (tgt := 12) d_TrustDeskModel_isWell_8 (by decide) ?_
    refine mv_iret d_TrustDeskModel_isWell_12 rfl (by decide) ?_
    refine mv_if_ne_t (tgt := 8) d_TrustDeskModel_wantWord_4 (by decide) (by decide) ?_
    refine mv_aload_n d_TrustDeskModel_wantWord_8 rfl rfl ?_
    refine mv_aload_n d_TrustDeskModel_wantWord_9 rfl rfl ?_
    obtain ⟨_, b11, -⟩ := I0.1 _ _ h_o0
    refine mv_callV (kc' := 0) (ks' := 0) (As := [.ref 45]) (st9 := [.ref 45, .ref o0]) d_TrustDeskModel_wantWord_10 lV_TrustDeskModel_244 b11 rfl (tc_TrustDeskModel_isWord_s1_45_x (d := d) (x9 := x9) (o0 := o0) h_o0 yR I0.start) rfl (Nat.le_of_ble_eq_true rfl) (Nat.le_of_ble_eq_true rfl) (Nat.le_of_ble_eq_true rfl) (hst := rfl) (fun b5r M6 n7 b5 => ?_)
    obtain ⟨T8, J9, v12, rfl, b13, b14, R15, f16⟩ := b5
    have I10 := I0.call J9 (tm_sub (by decide)) (Or.inl rfl)
    have t17 := J9.up h_o0
    have z18 := (rv_c I0 J9 (I0.up h_o0) (k := 16) rfl)
    have z19 := (rv_c I0 J9 (I0.up h_o0) (k := 17) rfl)
    have z20 := (rv_c I0 J9 (I0.up h_o0) (k := 19) rfl)
    have z21 := (rv_c I0 J9 (I0.up h_o0) (k := 22) rfl)
    have E22 : rE M0 M6 o0 0 0 := yE0.same (rE_hv I0 J9 (I0.up h_o0) 15 19 (by decide)) (rE_ha I0 J9 (I0.up h_o0) (by decide))
    have q23 := J9.keep h_o0 (by decide) q2
    have := mz_hi v12
    refine mv_if_eqZ (tgt := 23) (a := v12.toInt) d_TrustDeskModel_wantWord_13 (by decide) rfl (fun b24 => ?_) (fun b24 => ?_)
    · refine mv_aload_n d_TrustDeskModel_wantWord_23 rfl rfl ?_
      refine mv_iconst (v := 1) d_TrustDeskModel_wantWord_24 (by decide) ?_
      obtain ⟨_, b31, -⟩ := I10.1 _ _ t17
      have : (1 : Int32).toInt = 1 := by decide
      refine mv_callV (kc' := 0) (ks' := 0) (As := [.int 1]) (st9 := [.int 1, .ref o0]) d_TrustDeskModel_wantWord_25 lV_TrustDeskModel_240 b31 rfl (tc_TrustDeskModel_fails_x (d := (d + 4)) (x9 := x9) (o0 := o0) (x1 := 1) t17 R15 (by decide) I10.start) rfl (Nat.le_of_ble_eq_true rfl) (Nat.le_of_ble_eq_true rfl) (Nat.le_of_ble_eq_true rfl) (hst := rfl) (fun b25r M26 n27 b25 => ?_)
      obtain ⟨T28, J29, rfl, R32, f33⟩ := b25
      have I30 := I10.call J29 (tm_sub (by decide)) (Or.inl rfl)
      have t34 := J29.up t17
      have z35 := (rv_c I10 J29 (I10.up h_o0) (k := 16) rfl).trans z18
      have z36 := (rv_c I10 J29 (I10.up h_o0) (k := 17) rfl).trans z19
      have z37 := (rv_c I10 J29 (I10.up h_o0) (k := 22) rfl).trans z21
      have E38 : rE M0 M26 o0 0 0 := E22.fails (rE_hv I10 J29 (I10.up h_o0) 15 18 (by decide)) (rE_ha I10 J29 (I10.up h_o0) (by decide)) f33 0 0
      clear z18 z19 z21
      exact mv_vret d_TrustDeskModel_wantWord_28 rfl ⟨_, I30, rfl, R32, E38.vac (by have := R32.1 15 _ _ rfl; have := R32.1 16 _ _ rfl; have := R32.1 19 _ _ rfl; have := E38.f yS; omega) 0 1⟩
    · refine mv_aload_n d_TrustDeskModel_wantWord_16 rfl rfl ?_
      obtain ⟨_, b45, -⟩ := I10.1 _ _ t17
      refine mv_callV (kc' := 0) (ks' := 0) (As := []) (st9 := [.ref o0]) d_TrustDeskModel_wantWord_17 lV_TrustDeskModel_237 b45 rfl (tc_TrustDeskModel_next_x (d := (d + 3)) (x9 := x9) (o0 := o0) t17 R15 I10.start) rfl (Nat.le_of_ble_eq_true rfl) (Nat.le_of_ble_eq_true rfl) (Nat.le_of_ble_eq_true rfl) (hst := rfl) (fun b39r M40 n41 b39 => ?_)
      obtain ⟨T42, J43, rfl, R46, f47, f48⟩ := b39
      have I44 := I10.call J43 (tm_sub (by decide)) (Or.inl rfl)
      have t49 := J43.up t17
      have z50 := (rv_c I10 J43 (I10.up h_o0) (k := 19) rfl).trans z20
      have z51 := (rv_c I10 J43 (I10.up h_o0) (k := 22) rfl).trans z21
      have h53 : rv M6 o0 16 + 1 ≤ rv M6 o0 15 := (by have := R15.1 15 _ _ rfl; have := R15.1 16 _ _ rfl; have := R15.1 19 _ _ rfl; have := E22.f yS; omega)
      have E52 : rE M0 M40 o0 0 1 := E22.next f47 f48 (rv_c I10 J43 (I10.up h_o0) (k := 19) rfl) (rE_ha I10 J43 (I10.up h_o0) (by decide)) (e := 1) h53 (by decide)
      clear z20 z21
      have q54 := J43.keep t17 (by decide) q23
      refine mv_goto (tgt := 28) d_TrustDeskModel_wantWord_20 (by decide) ?_
      exact mv_vret d_TrustDeskModel_wantWord_28 rfl ⟨_, I44, rfl, R46, E52⟩
theorem lV_TrustDeskModel_329 : mj_lV "TrustDeskModel" 329 kY_TrustDeskModel_wantWord 1 := ⟨⟨(mj_in1 (List.mem_of_getElem? (i := 1700) (by decide +kernel)) rfl), (mj_in1 (List.mem_of_getElem? (i := 10) (by decide +kernel)) rfl), (mj_in1 (List.mem_of_getElem? (i := 1703) (by decide +kernel)) rfl), by decide, rfl, by decide⟩, (mj_in1 (List.mem_of_getElem? (i := 1702) (by decide +kernel)) rfl), (mj_in (List.mem_append_left _ (List.mem_of_getElem? (i := 89) (by decide +kernel))) rfl)⟩
theorem d_TrustDeskModel_readEnd_117 : decode kY_TrustDeskModel_readEnd.2.1 117 = .ok (.aload_n 0, 1) := by decide +kernel
theorem d_TrustDeskModel_readEnd_118 : decode kY_TrustDeskModel_readEnd.2.1 118 = .ok (.invokevirtual 288, 3) := by decide +kernel
theorem d_TrustDeskModel_readEnd_121 : decode kY_TrustDeskModel_readEnd.2.1 121 = .ok (.aload_n 0, 1) := by decide +kernel
theorem d_TrustDeskModel_readEnd_122 : decode kY_TrustDeskModel_readEnd.2.1 122 = .ok (.getfield 38, 3) := by decide +kernel
theorem f_TrustDeskModel_38_13 : mj_fl "TrustDeskModel" 38 13 11 := ⟨kR_TrustDeskModel, kF_TrustDeskModel, 72, "TrustDeskModel", rfl, kg_13, by decide, (mj_in1 (List.mem_of_getElem? (i := 1397) (by decide +kernel)) rfl), Or.inl rfl⟩
theorem d_TrustDeskModel_readEnd_125 : decode kY_TrustDeskModel_readEnd.2.1 125 = .ok (.iload_n 1, 1) := by decide +kernel
theorem d_TrustDeskModel_readEnd_126 : decode kY_TrustDeskModel_readEnd.2.1 126 = .ok (.aload_n 0, 1) := by decide +kernel
theorem d_TrustDeskModel_readEnd_127 : decode kY_TrustDeskModel_readEnd.2.1 127 = .ok (.getfield 20, 3) := by decide +kernel
theorem d_TrustDeskModel_readEnd_130 : decode kY_TrustDeskModel_readEnd.2.1 130 = .ok (.bipush 44, 2) := by decide +kernel
theorem d_TrustDeskModel_readEnd_132 : decode kY_TrustDeskModel_readEnd.2.1 132 = .ok (.iaload, 1) := by decide +kernel
theorem d_TrustDeskModel_readEnd_133 : decode kY_TrustDeskModel_readEnd.2.1 133 = .ok (.iastore, 1) := by decide +kernel
theorem d_TrustDeskModel_readEnd_134 : decode kY_TrustDeskModel_readEnd.2.1 134 = .ok (.aload_n 0, 1) := by decide +kernel
theorem d_TrustDeskModel_readEnd_135 : decode kY_TrustDeskModel_readEnd.2.1 135 = .ok (.ldc_w 333, 3) := by decide +kernel
theorem d_TrustDeskModel_readEnd_138 : decode kY_TrustDeskModel_readEnd.2.1 138 = .ok (.invokevirtual 329, 3) := by decide +kernel
def w_TrustDeskModel_isWord_s1_25_x : List Nat := []
theorem tc_TrustDeskModel_isWord_s1_25_x {g : mj_G} {l : Launch} {d : Nat} {T0 : tm_H} {M0 : mj_M} {n0 x9 : Nat} {o0 : Nat} (h_o0 : T0 o0 = some (0, 13, 0)) (yR : rI M0 o0) (I0 : tm_I tm_FT (tm_in w_TrustDeskModel_isWord_s1_25_x) x9 T0 M0 n0 T0 M0 n0) : mj_Met g l kY_TrustDeskModel_isWord (d + 4) [.ref o0, .ref 25] M0 n0 0 0 (tm_Q tm_FT (tm_in w_TrustDeskModel_isWord_s1_25_x) x9 T0 M0 n0 (fun r _ M => ∃ v : Int32, r = some (.int v) ∧ 0 ≤ v.toInt ∧ v.toInt ≤ 1 ∧ rI M o0 ∧ (v.toInt = 1 → rv M0 o0 17 = 3))) := by
  refine mj_enter (by decide) (Nat.le_of_ble_eq_true rfl) ?_
  refine mv_aload_n d_TrustDeskModel_isWord_0 rfl rfl ?_
  obtain ⟨v2, q1⟩ := tm_atI I0 h_o0 (k := 17) rfl
  refine tr_getK q1 d_TrustDeskModel_isWord_1 f_TrustDeskModel_198_13 ?_
  have := tm_rv q1
  refine mv_iconst (v := 3) d_TrustDeskModel_isWord_4 (by decide) ?_
  have := mz_hi v2
  refine mv_icmp_neZ (tgt := 24) (a := v2.toInt) (b := 3) d_TrustDeskModel_isWord_5 (by decide) rfl (by decide) (fun b3 => ?_) (fun b3 => ?_)
  · refine mv_iconst (v := 0) d_TrustDeskModel_isWord_24 (by decide) ?_
    exact mv_iret d_TrustDeskModel_isWord_25 rfl (by decide) ⟨_, I0, _, rfl, by decide, by decide, yR, (fun h => absurd h (by decide))⟩
  · refine mv_aload_n d_TrustDeskModel_isWord_8 rfl rfl ?_
    obtain ⟨v5, q4⟩ := tm_atI I0 h_o0 (k := 15) rfl
    refine tr_getK q4 d_TrustDeskModel_isWord_9 f_TrustDeskModel_192_13 ?_
    have := yR.f (k := 15) q4 rfl
    have := tm_rv q4
    refine mv_aload_n d_TrustDeskModel_isWord_12 rfl rfl ?_
    obtain ⟨v7, q6⟩ := tm_atI I0 h_o0 (k := 16) rfl
    refine tr_getK q6 d_TrustDeskModel_isWord_13 f_TrustDeskModel_195_13 ?_
    have := yR.f (k := 16) q6 rfl
    have := tm_rv q6
    refine mv_isub d_TrustDeskModel_isWord_16 ?_
    refine mv_aload_n d_TrustDeskModel_isWord_17 rfl rfl ?_
    refine mv_slenK (i := 15) (v := 2) d_TrustDeskModel_isWord_18 lV_TrustDeskModel_214 (by decide) rfl (by decide) (Nat.le_of_ble_eq_true rfl) ?_
    have b8 : (v5 - v7 : Int32).toInt = (v5.toInt - v7.toInt) := mz_sub2 rfl rfl (by have := yR.1 15 _ _ rfl; have := yR.1 16 _ _ rfl; have := yR.1 19 _ _ rfl; omega) (by have := yR.1 15 _ _ rfl; have := yR.1 16 _ _ rfl; have := yR.1 19 _ _ rfl; omega)
    have := mz_hi (v5 - v7)
    refine mv_icmp_eqZ (tgt := 26) (a := (v5 - v7).toInt) (b := 2) d_TrustDeskModel_isWord_21 (by decide) rfl (by decide) (fun b9 => ?_) (fun b9 => ?_)
    · refine mv_iconst (v := 0) d_TrustDeskModel_isWord_26 (by decide) ?_
      refine mv_istore_n (lv' := [(2, .int 0), (0, .ref o0), (1, .ref 25)]) d_TrustDeskModel_isWord_27 rfl (by decide) rfl ?_
      have L28_10 : ∀ (k : Nat) (i2_10 : Int32) (T_10 : tm_H) (M_10 : mj_M) (n_10 : Nat), tm_I tm_FT (tm_in w_TrustDeskModel_isWord_s1_25_x) x9 T0 M0 n0 T_10 M_10 n_10 → T_10 o0 = some (0, 13, 0) → 0 ≤ i2_10.toInt → rv M_10 o0 15 = rv M0 o0 15 → rv M_10 o0 16 = rv M0 o0 16 → i2_10.toInt ≤ 2147483646 → (rI M_10 o0) → 2147483647 - i2_10.toInt < (k : Int) → mj_V g l kY_TrustDeskModel_isWord (d + 4) 28 [(2, .int i2_10), (0, .ref o0), (1, .ref 25)] [] M_10 n_10 0 0 (tm_Q tm_FT (tm_in w_TrustDeskModel_isWord_s1_25_x) x9 T0 M0 n0 (fun r _ M => ∃ v : Int32, r = some (.int v) ∧ 0 ≤ v.toInt ∧ v.toInt ≤ 1 ∧ rI M o0 ∧ (v.toInt = 1 → rv M0 o0 17 = 3))) := by
        intro k10
        induction k10 with
        | zero =>
          intro i2_10 T_10 M_10 n_10 I_10 h_q0_10 iv0_10 iv1_10 iv2_10 iv3_10 kKR_10 hk10
          have := mz_hi i2_10
          have := kKR_10.1 15 _ _ rfl
          have := kKR_10.1 16 _ _ rfl
          have := kKR_10.1 19 _ _ rfl
          omega
        | succ k10 ih10 =>
          intro i2_10 T_10 M_10 n_10 I_10 h_q0_10 iv0_10 iv1_10 iv2_10 iv3_10 kKR_10 hk10
          refine mv_iload_n d_TrustDeskModel_isWord_28 rfl rfl ?_
          refine mv_aload_n d_TrustDeskModel_isWord_29 rfl rfl ?_
          refine mv_slenK (i := 15) (v := 2) d_TrustDeskModel_isWord_30 lV_TrustDeskModel_214 (by decide) rfl (by decide) (Nat.le_of_ble_eq_true rfl) ?_
          have := mz_hi i2_10
          refine mv_icmp_geZ (tgt := 63) (a := i2_10.toInt) (b := 2) d_TrustDeskModel_isWord_33 (by decide) rfl (by decide) (fun b11 => ?_) (fun b11 => ?_)
          · refine mv_iconst (v := 1) d_TrustDeskModel_isWord_63 (by decide) ?_
            exact mv_iret d_TrustDeskModel_isWord_64 rfl (by decide) ⟨_, I_10, _, rfl, by decide, by decide, kKR_10, (fun _ => by omega)⟩
          · refine mv_aload_n d_TrustDeskModel_isWord_36 rfl rfl ?_
            obtain ⟨a13, q12, t_a13⟩ := tm_atR I_10 h_q0_10 (k := 13) rfl
            refine tr_getK q12 d_TrustDeskModel_isWord_37 f_TrustDeskModel_44_13 ?_
            refine mv_aload_n d_TrustDeskModel_isWord_40 rfl rfl ?_
            obtain ⟨v15, q14⟩ := tm_atI I_10 h_q0_10 (k := 16) rfl
            refine tr_getK q14 d_TrustDeskModel_isWord_41 f_TrustDeskModel_195_13 ?_
            have := kKR_10.f (k := 16) q14 rfl
            have := tm_rv q14
            refine mv_iload_n d_TrustDeskModel_isWord_44 rfl rfl ?_
            refine mv_iadd d_TrustDeskModel_isWord_45 ?_
            have b16 : (v15 + i2_10 : Int32).toInt = (v15.toInt + i2_10.toInt) := mz_add2 rfl rfl (by have := kKR_10.1 15 _ _ rfl; have := kKR_10.1 16 _ _ rfl; have := kKR_10.1 19 _ _ rfl; omega) (by have := kKR_10.1 15 _ _ rfl; have := kKR_10.1 16 _ _ rfl; have := kKR_10.1 19 _ _ rfl; omega)
            refine tr_baldR (o := o0) (k := 13) I_10 q12 t_a13 (by decide) d_TrustDeskModel_isWord_46 (vp_in_iff.mpr (by have := kKR_10.1 15 _ _ rfl; have := kKR_10.1 16 _ _ rfl; have := kKR_10.1 19 _ _ rfl; omega)) (fun v17 e18 => ?_)
            have := kKR_10.a (k := 13) rfl ((v15 + i2_10) : Int32).toNatClampNeg
            refine mv_aload_n d_TrustDeskModel_isWord_47 rfl rfl ?_
            refine mv_iload_n d_TrustDeskModel_isWord_48 rfl rfl ?_
            refine mv_schN (i := 15) (N := 2) d_TrustDeskModel_isWord_49 lV_TrustDeskModel_220 (by decide) rfl rfl (by omega) (by omega) (Nat.le_of_ble_eq_true rfl) (fun v19 => ?_)
            have := mz_hi v17
            have := mz_hi v19
            refine mv_icmp_eqZ (tgt := 57) (a := v17.toInt) (b := v19.toInt) d_TrustDeskModel_isWord_52 (by decide) rfl rfl (fun b20 => ?_) (fun b20 => ?_)
            · refine mv_iinc (v := (i2_10 + 1)) (lv' := [(2, .int (i2_10 + 1)), (0, .ref o0), (1, .ref 25)]) d_TrustDeskModel_isWord_57 rfl rfl (by decide) rfl ?_
              refine mv_goto (tgt := 28) d_TrustDeskModel_isWord_60 (by decide) ?_
              have b21 : (i2_10 + 1).toInt = i2_10.toInt + 1 := mz_addn 1 1 (by decide) (by have := mz_lo i2_10; omega) (by have := mz_hi i2_10; omega)
              exact (ih10 (i2_10 + 1) T_10 M_10 n_10 I_10 h_q0_10 (by have := kKR_10.1 15 _ _ rfl; have := kKR_10.1 16 _ _ rfl; have := kKR_10.1 19 _ _ rfl; first | omega | decide | exact fun h9 => absurd (by decide) h9) (by have := kKR_10.1 15 _ _ rfl; have := kKR_10.1 16 _ _ rfl; have := kKR_10.1 19 _ _ rfl; first | omega | decide | exact fun h9 => absurd (by decide) h9) (by have := kKR_10.1 15 _ _ rfl; have := kKR_10.1 16 _ _ rfl; have := kKR_10.1 19 _ _ rfl; first | omega | decide | exact fun h9 => absurd (by decide) h9) (by have := kKR_10.1 15 _ _ rfl; have := kKR_10.1 16 _ _ rfl; have := kKR_10.1 19 _ _ rfl; first | omega | decide | exact fun h9 => absurd (by decide) h9) kKR_10 (by have := kKR_10.1 15 _ _ rfl; have := kKR_10.1 16 _ _ rfl; have := kKR_10.1 19 _ _ rfl; omega))
            · refine mv_iconst (v := 0) d_TrustDeskModel_isWord_55 (by decide) ?_
              exact mv_iret d_TrustDeskModel_isWord_56 rfl (by decide) ⟨_, I_10, _, rfl, by decide, by decide, kKR_10, (fun h => absurd h (by decide))⟩
      exact mv_less (Nat.zero_le _) (Nat.zero_le _) (L28_10 4294967296 0 T0 M0 n0 I0 h_o0 (by have := yR.1 15 _ _ rfl; have := yR.1 16 _ _ rfl; have := yR.1 19 _ _ rfl; first | omega | decide | exact fun h9 => absurd (by decide) h9) (by have := yR.1 15 _ _ rfl; have := yR.1 16 _ _ rfl; have := yR.1 19 _ _ rfl; first | omega | decide | exact fun h9 => absurd (by decide) h9) (by have := yR.1 15 _ _ rfl; have := yR.1 16 _ _ rfl; have := yR.1 19 _ _ rfl; first | omega | decide | exact fun h9 => absurd (by decide) h9) (by have := yR.1 15 _ _ rfl; have := yR.1 16 _ _ rfl; have := yR.1 19 _ _ rfl; first | omega | decide | exact fun h9 => absurd (by decide) h9) yR (by show (2147483647 - (0 : Int) : Int) < _; decide))
    · refine mv_iconst (v := 0) d_TrustDeskModel_isWord_24 (by decide) ?_
      exact mv_iret d_TrustDeskModel_isWord_25 rfl (by decide) ⟨_, I0, _, rfl, by decide, by decide, yR, (fun h => absurd h (by decide))⟩
def w_TrustDeskModel_wantWord_s1_25_x : List Nat := [1315, 1316, 1317, 1318, 1319, 1320]
theorem tc_TrustDeskModel_wantWord_s1_25_x {g : mj_G} {l : Launch} {d : Nat} {T0 : tm_H} {M0 : mj_M} {n0 x9 : Nat} {o0 : Nat} (h_o0 : T0 o0 = some (0, 13, 0)) (yR : rI M0 o0) (yT : rT M0 o0) (yS : rv M0 o0 19 = 0 → ra M0 o0 5 44 ≤ rv M0 o0 16) (I0 : tm_I tm_FT (tm_in w_TrustDeskModel_wantWord_s1_25_x) x9 T0 M0 n0 T0 M0 n0) : mj_Met g l kY_TrustDeskModel_wantWord (d + 5) [.ref o0, .ref 25] M0 n0 0 0 (tm_Q tm_FT (tm_in w_TrustDeskModel_wantWord_s1_25_x) x9 T0 M0 n0 (fun r _ M => r = none ∧ rI M o0 ∧ (rE M0 M o0 0 1))) := by
  refine mj_enter (by decide) (Nat.le_of_ble_eq_true rfl) ?_
  have yE0 := rE.rf yT
  refine mv_aload_n d_TrustDeskModel_wantWord_0 rfl rfl ?_
  obtain ⟨_, b1, -⟩ := I0.1 _ _ h_o0
  refine mv_callV (kc1 := 0) (ks1 := 0) (kc' := 0) (ks' := 0) (As := []) (st9 := [.ref o0]) d_TrustDeskModel_wantWord_1 lV_TrustDeskModel_230 b1 rfl (mj_enter (by decide) (Nat.le_of_ble_eq_true rfl) ?_) rfl (Nat.le_of_ble_eq_true rfl) (Nat.le_of_ble_eq_true rfl) (Nat.le_of_ble_eq_true rfl) (hst := rfl) (fun _ _ _ h => h)
  refine mv_aload_n d_TrustDeskModel_isWell_0 rfl rfl ?_
  obtain ⟨v3, q2⟩ := tm_atI I0 h_o0 (k := 19) rfl
  refine tr_getK q2 d_TrustDeskModel_isWell_1 f_TrustDeskModel_224_13 ?_
  have := yR.f (k := 19) q2 rfl
  have := tm_rv q2
  have := mz_hi v3
  refine mv_if_neZ (tgt := 11) (a := v3.toInt) d_TrustDeskModel_isWell_4 (by decide) rfl (fun b4 => ?_) (fun b4 => ?_)
  · refine mv_iconst (v := 0) d_TrustDeskModel_isWell_11 (by decide) ?_
    refine mv_iret d_TrustDeskModel_isWell_12 rfl (by decide) ?_
    refine mv_if_ne_f (tgt := 8) d_TrustDeskModel_wantWord_4 (by decide) (by decide) ?_
    exact mv_vret d_TrustDeskModel_wantWord_7 rfl ⟨_, I0, rfl, yR, yE0.vac (by have := yR.1 15 _ _ rfl; have := yR.1 16 _ _ rfl; have := yR.1 19 _ _ rfl; have := yE0.f yS; omega) 0 1⟩
  · refine mv_iconst (v := 1) d_TrustDeskModel_isWell_7 (by decide) ?_
    refine mv_goto (tgt := 12) d_TrustDeskModel_isWell_8 (by decide) ?_
    refine mv_iret d_TrustDeskModel_isWell_12 rfl (by decide) ?_
    refine mv_if_ne_t (tgt := 8) d_TrustDeskModel_wantWord_4 (by decide) (by decide) ?_
    refine mv_aload_n d_TrustDeskModel_wantWord_8 rfl rfl ?_
    refine mv_aload_n d_TrustDeskModel_wantWord_9 rfl rfl ?_
    obtain ⟨_, b11, -⟩ := I0.1 _ _ h_o0
    refine mv_callV (kc' := 0) (ks' := 0) (As := [.ref 25]) (st9 := [.ref 25, .ref o0]) d_TrustDeskModel_wantWord_10 lV_TrustDeskModel_244 b11 rfl (tc_TrustDeskModel_isWord_s1_25_x (d := d) (x9 := x9) (o0 := o0) h_o0 yR I0.start) rfl (Nat.le_of_ble_eq_true rfl) (Nat.le_of_ble_eq_true rfl) (Nat.le_of_ble_eq_true rfl) (hst := rfl) (fun b5r M6 n7 b5 => ?_)
    obtain ⟨T8, J9, v12, rfl, b13, b14, R15, f16⟩ := b5
    have I10 := I0.call J9 (tm_sub (by decide)) (Or.inl rfl)
    have t17 := J9.up h_o0
    have z18 := (rv_c I0 J9 (I0.up h_o0) (k := 16) rfl)
    have z19 := (rv_c I0 J9 (I0.up h_o0) (k := 17) rfl)
    have z20 := (rv_c I0 J9 (I0.up h_o0) (k := 19) rfl)
    have z21 := (rv_c I0 J9 (I0.up h_o0) (k := 22) rfl)
    have E22 : rE M0 M6 o0 0 0 := yE0.same (rE_hv I0 J9 (I0.up h_o0) 15 19 (by decide)) (rE_ha I0 J9 (I0.up h_o0) (by decide))
    have q23 := J9.keep h_o0 (by decide) q2
    have := mz_hi v12
    refine mv_if_eqZ (tgt := 23) (a := v12.toInt) d_TrustDeskModel_wantWord_13 (by decide) rfl (fun b24 => ?_) (fun b24 => ?_)
    · refine mv_aload_n d_TrustDeskModel_wantWord_23 rfl rfl ?_
      refine mv_iconst (v := 1) d_TrustDeskModel_wantWord_24 (by decide) ?_
      obtain ⟨_, b31, -⟩ := I10.1 _ _ t17
      have : (1 : Int32).toInt = 1 := by decide
      refine mv_callV (kc' := 0) (ks' := 0) (As := [.int 1]) (st9 := [.int 1, .ref o0]) d_TrustDeskModel_wantWord_25 lV_TrustDeskModel_240 b31 rfl (tc_TrustDeskModel_fails_x (d := (d + 4)) (x9 := x9) (o0 := o0) (x1 := 1) t17 R15 (by decide) I10.start) rfl (Nat.le_of_ble_eq_true rfl) (Nat.le_of_ble_eq_true rfl) (Nat.le_of_ble_eq_true rfl) (hst := rfl) (fun b25r M26 n27 b25 => ?_)
      obtain ⟨T28, J29, rfl, R32, f33⟩ := b25
      have I30 := I10.call J29 (tm_sub (by decide)) (Or.inl rfl)
      have t34 := J29.up t17
      have z35 := (rv_c I10 J29 (I10.up h_o0) (k := 16) rfl).trans z18
      have z36 := (rv_c I10 J29 (I10.up h_o0) (k := 17) rfl).trans z19
      have z37 := (rv_c I10 J29 (I10.up h_o0) (k := 22) rfl).trans z21
      have E38 : rE M0 M26 o0 0 0 := E22.fails (rE_hv I10 J29 (I10.up h_o0) 15 18 (by decide)) (rE_ha I10 J29 (I10.up h_o0) (by decide)) f33 0 0
      clear z18 z19 z21
      exact mv_vret d_TrustDeskModel_wantWord_28 rfl ⟨_, I30, rfl, R32, E38.vac (by have := R32.1 15 _ _ rfl; have := R32.1 16 _ _ rfl; have := R32.1 19 _ _ rfl; have := E38.f yS; omega) 0 1⟩
    · refine mv_aload_n d_TrustDeskModel_wantWord_16 rfl rfl ?_
      obtain ⟨_, b45, -⟩ := I10.1 _ _ t17
      refine mv_callV (kc' := 0) (ks' := 0) (As := []) (st9 := [.ref o0]) d_TrustDeskModel_wantWord_17 lV_TrustDeskModel_237 b45 rfl (tc_TrustDeskModel_next_x (d := (d + 3)) (x9 := x9) (o0 := o0) t17 R15 I10.start) rfl (Nat.le_of_ble_eq_true rfl) (Nat.le_of_ble_eq_true rfl) (Nat.le_of_ble_eq_true rfl) (hst := rfl) (fun b39r M40 n41 b39 => ?_)
      obtain ⟨T42, J43, rfl, R46, f47, f48⟩ := b39
      have I44 := I10.call J43 (tm_sub (by decide)) (Or.inl rfl)
      have t49 := J43.up t17
      have z50 := (rv_c I10 J43 (I10.up h_o0) (k := 19) rfl).trans z20
      have z51 := (rv_c I10 J43 (I10.up h_o0) (k := 22) rfl).trans z21
      have h53 : rv M6 o0 16 + 1 ≤ rv M6 o0 15 := (by have := R15.1 15 _ _ rfl; have := R15.1 16 _ _ rfl; have := R15.1 19 _ _ rfl; have := E22.f yS; omega)
      have E52 : rE M0 M40 o0 0 1 := E22.next f47 f48 (rv_c I10 J43 (I10.up h_o0) (k := 19) rfl) (rE_ha I10 J43 (I10.up h_o0) (by decide)) (e := 1) h53 (by decide)
      clear z20 z21
      have q54 := J43.keep t17 (by decide) q23
      refine mv_goto (tgt := 28) d_TrustDeskModel_wantWord_20 (by decide) ?_
      exact mv_vret d_TrustDeskModel_wantWord_28 rfl ⟨_, I44, rfl, R46, E52⟩
theorem d_TrustDeskModel_readEnd_141 : decode kY_TrustDeskModel_readEnd.2.1 141 = .ok (.aload_n 0, 1) := by decide +kernel
theorem d_TrustDeskModel_readEnd_142 : decode kY_TrustDeskModel_readEnd.2.1 142 = .ok (.invokevirtual 302, 3) := by decide +kernel
theorem d_TrustDeskModel_readEnd_145 : decode kY_TrustDeskModel_readEnd.2.1 145 = .ok (.aload_n 0, 1) := by decide +kernel
theorem d_TrustDeskModel_readEnd_146 : decode kY_TrustDeskModel_readEnd.2.1 146 = .ok (.getfield 32, 3) := by decide +kernel
theorem f_TrustDeskModel_32_13 : mj_fl "TrustDeskModel" 32 13 9 := ⟨kR_TrustDeskModel, kF_TrustDeskModel, 72, "TrustDeskModel", rfl, kg_13, by decide, (mj_in1 (List.mem_of_getElem? (i := 1395) (by decide +kernel)) rfl), Or.inl rfl⟩
theorem d_TrustDeskModel_readEnd_149 : decode kY_TrustDeskModel_readEnd.2.1 149 = .ok (.iload_n 1, 1) := by decide +kernel
theorem d_TrustDeskModel_readEnd_150 : decode kY_TrustDeskModel_readEnd.2.1 150 = .ok (.iconst 0, 1) := by decide +kernel
theorem d_TrustDeskModel_readEnd_151 : decode kY_TrustDeskModel_readEnd.2.1 151 = .ok (.iastore, 1) := by decide +kernel
theorem d_TrustDeskModel_readEnd_152 : decode kY_TrustDeskModel_readEnd.2.1 152 = .ok (.aload_n 0, 1) := by decide +kernel
theorem d_TrustDeskModel_readEnd_153 : decode kY_TrustDeskModel_readEnd.2.1 153 = .ok (.invokevirtual 230, 3) := by decide +kernel
theorem d_TrustDeskModel_readEnd_156 : decode kY_TrustDeskModel_readEnd.2.1 156 = .ok (.ifCond .eq 24, 3) := by decide +kernel
theorem d_TrustDeskModel_readEnd_180 : decode kY_TrustDeskModel_readEnd.2.1 180 = .ok (.return_, 1) := by decide +kernel
theorem d_TrustDeskModel_readEnd_159 : decode kY_TrustDeskModel_readEnd.2.1 159 = .ok (.aload_n 0, 1) := by decide +kernel
theorem d_TrustDeskModel_readEnd_160 : decode kY_TrustDeskModel_readEnd.2.1 160 = .ok (.ldc_w 335, 3) := by decide +kernel
theorem d_TrustDeskModel_readEnd_163 : decode kY_TrustDeskModel_readEnd.2.1 163 = .ok (.invokevirtual 244, 3) := by decide +kernel
def w_TrustDeskModel_isWord_s1_46_x : List Nat := []
theorem tc_TrustDeskModel_isWord_s1_46_x {g : mj_G} {l : Launch} {d : Nat} {T0 : tm_H} {M0 : mj_M} {n0 x9 : Nat} {o0 : Nat} (h_o0 : T0 o0 = some (0, 13, 0)) (yR : rI M0 o0) (I0 : tm_I tm_FT (tm_in w_TrustDeskModel_isWord_s1_46_x) x9 T0 M0 n0 T0 M0 n0) : mj_Met g l kY_TrustDeskModel_isWord (d + 4) [.ref o0, .ref 46] M0 n0 0 0 (tm_Q tm_FT (tm_in w_TrustDeskModel_isWord_s1_46_x) x9 T0 M0 n0 (fun r _ M => ∃ v : Int32, r = some (.int v) ∧ 0 ≤ v.toInt ∧ v.toInt ≤ 1 ∧ rI M o0 ∧ (v.toInt = 1 → rv M0 o0 17 = 3))) := by
  refine mj_enter (by decide) (Nat.le_of_ble_eq_true rfl) ?_
  refine mv_aload_n d_TrustDeskModel_isWord_0 rfl rfl ?_
  obtain ⟨v2, q1⟩ := tm_atI I0 h_o0 (k := 17) rfl
  refine tr_getK q1 d_TrustDeskModel_isWord_1 f_TrustDeskModel_198_13 ?_
  have := tm_rv q1
  refine mv_iconst (v := 3) d_TrustDeskModel_isWord_4 (by decide) ?_
  have := mz_hi v2
  refine mv_icmp_neZ (tgt := 24) (a := v2.toInt) (b := 3) d_TrustDeskModel_isWord_5 (by decide) rfl (by decide) (fun b3 => ?_) (fun b3 => ?_)
  · refine mv_iconst (v := 0) d_TrustDeskModel_isWord_24 (by decide) ?_
    exact mv_iret d_TrustDeskModel_isWord_25 rfl (by decide) ⟨_, I0, _, rfl, by decide, by decide, yR, (fun h => absurd h (by decide))⟩
  · refine mv_aload_n d_TrustDeskModel_isWord_8 rfl rfl ?_
    obtain ⟨v5, q4⟩ := tm_atI I0 h_o0 (k := 15) rfl
    refine tr_getK q4 d_TrustDeskModel_isWord_9 f_TrustDeskModel_192_13 ?_
    have := yR.f (k := 15) q4 rfl
    have := tm_rv q4
    refine mv_aload_n d_TrustDeskModel_isWord_12 rfl rfl ?_
    obtain ⟨v7, q6⟩ := tm_atI I0 h_o0 (k := 16) rfl
    refine tr_getK q6 d_TrustDeskModel_isWord_13 f_TrustDeskModel_195_13 ?_
    have := yR.f (k := 16) q6 rfl
    have := tm_rv q6
    refine mv_isub d_TrustDeskModel_isWord_16 ?_
    refine mv_aload_n d_TrustDeskModel_isWord_17 rfl rfl ?_
    refine mv_slenK (i := 36) (v := 4) d_TrustDeskModel_isWord_18 lV_TrustDeskModel_214 (by decide) rfl (by decide) (Nat.le_of_ble_eq_true rfl) ?_
    have b8 : (v5 - v7 : Int32).toInt = (v5.toInt - v7.toInt) := mz_sub2 rfl rfl (by have := yR.1 15 _ _ rfl; have := yR.1 16 _ _ rfl; have := yR.1 19 _ _ rfl; omega) (by have := yR.1 15 _ _ rfl; have := yR.1 16 _ _ rfl; have := yR.1 19 _ _ rfl; omega)
    have := mz_hi (v5 - v7)
    refine mv_icmp_eqZ (tgt := 26) (a := (v5 - v7).toInt) (b := 4) d_TrustDeskModel_isWord_21 (by decide) rfl (by decide) (fun b9 => ?_) (fun b9 => ?_)
    · refine mv_iconst (v := 0) d_TrustDeskModel_isWord_26 (by decide) ?_
      refine mv_istore_n (lv' := [(2, .int 0), (0, .ref o0), (1, .ref 46)]) d_TrustDeskModel_isWord_27 rfl (by decide) rfl ?_
      have L28_10 : ∀ (k : Nat) (i2_10 : Int32) (T_10 : tm_H) (M_10 : mj_M) (n_10 : Nat), tm_I tm_FT (tm_in w_TrustDeskModel_isWord_s1_46_x) x9 T0 M0 n0 T_10 M_10 n_10 → T_10 o0 = some (0, 13, 0) → 0 ≤ i2_10.toInt → rv M_10 o0 15 = rv M0 o0 15 → rv M_10 o0 16 = rv M0 o0 16 → i2_10.toInt ≤ 2147483646 → (rI M_10 o0) → 2147483647 - i2_10.toInt < (k : Int) → mj_V g l kY_TrustDeskModel_isWord (d + 4) 28 [(2, .int i2_10), (0, .ref o0), (1, .ref 46)] [] M_10 n_10 0 0 (tm_Q tm_FT (tm_in w_TrustDeskModel_isWord_s1_46_x) x9 T0 M0 n0 (fun r _ M => ∃ v : Int32, r = some (.int v) ∧ 0 ≤ v.toInt ∧ v.toInt ≤ 1 ∧ rI M o0 ∧ (v.toInt = 1 → rv M0 o0 17 = 3))) := by
        intro k10
        induction k10 with
        | zero =>
          intro i2_10 T_10 M_10 n_10 I_10 h_q0_10 iv0_10 iv1_10 iv2_10 iv3_10 kKR_10 hk10
          have := mz_hi i2_10
          have := kKR_10.1 15 _ _ rfl
          have := kKR_10.1 16 _ _ rfl
          have := kKR_10.1 19 _ _ rfl
          omega
        | succ k10 ih10 =>
          intro i2_10 T_10 M_10 n_10 I_10 h_q0_10 iv0_10 iv1_10 iv2_10 iv3_10 kKR_10 hk10
          refine mv_iload_n d_TrustDeskModel_isWord_28 rfl rfl ?_
          refine mv_aload_n d_TrustDeskModel_isWord_29 rfl rfl ?_
          refine mv_slenK (i := 36) (v := 4) d_TrustDeskModel_isWord_30 lV_TrustDeskModel_214 (by decide) rfl (by decide) (Nat.le_of_ble_eq_true rfl) ?_
          have := mz_hi i2_10
          refine mv_icmp_geZ (tgt := 63) (a := i2_10.toInt) (b := 4) d_TrustDeskModel_isWord_33 (by decide) rfl (by decide) (fun b11 => ?_) (fun b11 => ?_)
          · refine mv_iconst (v := 1) d_TrustDeskModel_isWord_63 (by decide) ?_
            exact mv_iret d_TrustDeskModel_isWord_64 rfl (by decide) ⟨_, I_10, _, rfl, by decide, by decide, kKR_10, (fun _ => by omega)⟩
          · refine mv_aload_n d_TrustDeskModel_isWord_36 rfl rfl ?_
            obtain ⟨a13, q12, t_a13⟩ := tm_atR I_10 h_q0_10 (k := 13) rfl
            refine tr_getK q12 d_TrustDeskModel_isWord_37 f_TrustDeskModel_44_13 ?_
            refine mv_aload_n d_TrustDeskModel_isWord_40 rfl rfl ?_
            obtain ⟨v15, q14⟩ := tm_atI I_10 h_q0_10 (k := 16) rfl
            refine tr_getK q14 d_TrustDeskModel_isWord_41 f_TrustDeskModel_195_13 ?_
            have := kKR_10.f (k := 16) q14 rfl
            have := tm_rv q14
            refine mv_iload_n d_TrustDeskModel_isWord_44 rfl rfl ?_
            refine mv_iadd d_TrustDeskModel_isWord_45 ?_
            have b16 : (v15 + i2_10 : Int32).toInt = (v15.toInt + i2_10.toInt) := mz_add2 rfl rfl (by have := kKR_10.1 15 _ _ rfl; have := kKR_10.1 16 _ _ rfl; have := kKR_10.1 19 _ _ rfl; omega) (by have := kKR_10.1 15 _ _ rfl; have := kKR_10.1 16 _ _ rfl; have := kKR_10.1 19 _ _ rfl; omega)
            refine tr_baldR (o := o0) (k := 13) I_10 q12 t_a13 (by decide) d_TrustDeskModel_isWord_46 (vp_in_iff.mpr (by have := kKR_10.1 15 _ _ rfl; have := kKR_10.1 16 _ _ rfl; have := kKR_10.1 19 _ _ rfl; omega)) (fun v17 e18 => ?_)
            have := kKR_10.a (k := 13) rfl ((v15 + i2_10) : Int32).toNatClampNeg
            refine mv_aload_n d_TrustDeskModel_isWord_47 rfl rfl ?_
            refine mv_iload_n d_TrustDeskModel_isWord_48 rfl rfl ?_
            refine mv_schN (i := 36) (N := 4) d_TrustDeskModel_isWord_49 lV_TrustDeskModel_220 (by decide) rfl rfl (by omega) (by omega) (Nat.le_of_ble_eq_true rfl) (fun v19 => ?_)
            have := mz_hi v17
            have := mz_hi v19
            refine mv_icmp_eqZ (tgt := 57) (a := v17.toInt) (b := v19.toInt) d_TrustDeskModel_isWord_52 (by decide) rfl rfl (fun b20 => ?_) (fun b20 => ?_)
            · refine mv_iinc (v := (i2_10 + 1)) (lv' := [(2, .int (i2_10 + 1)), (0, .ref o0), (1, .ref 46)]) d_TrustDeskModel_isWord_57 rfl rfl (by decide) rfl ?_
              refine mv_goto (tgt := 28) d_TrustDeskModel_isWord_60 (by decide) ?_
              have b21 : (i2_10 + 1).toInt = i2_10.toInt + 1 := mz_addn 1 1 (by decide) (by have := mz_lo i2_10; omega) (by have := mz_hi i2_10; omega)
              exact (ih10 (i2_10 + 1) T_10 M_10 n_10 I_10 h_q0_10 (by have := kKR_10.1 15 _ _ rfl; have := kKR_10.1 16 _ _ rfl; have := kKR_10.1 19 _ _ rfl; first | omega | decide | exact fun h9 => absurd (by decide) h9) (by have := kKR_10.1 15 _ _ rfl; have := kKR_10.1 16 _ _ rfl; have := kKR_10.1 19 _ _ rfl; first | omega | decide | exact fun h9 => absurd (by decide) h9) (by have := kKR_10.1 15 _ _ rfl; have := kKR_10.1 16 _ _ rfl; have := kKR_10.1 19 _ _ rfl; first | omega | decide | exact fun h9 => absurd (by decide) h9) (by have := kKR_10.1 15 _ _ rfl; have := kKR_10.1 16 _ _ rfl; have := kKR_10.1 19 _ _ rfl; first | omega | decide | exact fun h9 => absurd (by decide) h9) kKR_10 (by have := kKR_10.1 15 _ _ rfl; have := kKR_10.1 16 _ _ rfl; have := kKR_10.1 19 _ _ rfl; omega))
            · refine mv_iconst (v := 0) d_TrustDeskModel_isWord_55 (by decide) ?_
              exact mv_iret d_TrustDeskModel_isWord_56 rfl (by decide) ⟨_, I_10, _, rfl, by decide, by decide, kKR_10, (fun h => absurd h (by decide))⟩
      exact mv_less (Nat.zero_le _) (Nat.zero_le _) (L28_10 4294967296 0 T0 M0 n0 I0 h_o0 (by have := yR.1 15 _ _ rfl; have := yR.1 16 _ _ rfl; have := yR.1 19 _ _ rfl; first | omega | decide | exact fun h9 => absurd (by decide) h9) (by have := yR.1 15 _ _ rfl; have := yR.1 16 _ _ rfl; have := yR.1 19 _ _ rfl; first | omega | decide | exact fun h9 => absurd (by decide) h9) (by have := yR.1 15 _ _ rfl; have := yR.1 16 _ _ rfl; have := yR.1 19 _ _ rfl; first | omega | decide | exact fun h9 => absurd (by decide) h9) (by have := yR.1 15 _ _ rfl; have := yR.1 16 _ _ rfl; have := yR.1 19 _ _ rfl; first | omega | decide | exact fun h9 => absurd (by decide) h9) yR (by show (2147483647 - (0 : Int) : Int) < _; decide))
    · refine mv_iconst (v := 0) d_TrustDeskModel_isWord_24 (by decide) ?_
      exact mv_iret d_TrustDeskModel_isWord_25 rfl (by decide) ⟨_, I0, _, rfl, by decide, by decide, yR, (fun h => absurd h (by decide))⟩
theorem d_TrustDeskModel_readEnd_166 : decode kY_TrustDeskModel_readEnd.2.1 166 = .ok (.ifCond .eq 14, 3) := by decide +kernel
theorem d_TrustDeskModel_readEnd_169 : decode kY_TrustDeskModel_readEnd.2.1 169 = .ok (.aload_n 0, 1) := by decide +kernel
theorem d_TrustDeskModel_readEnd_170 : decode kY_TrustDeskModel_readEnd.2.1 170 = .ok (.getfield 32, 3) := by decide +kernel
theorem d_TrustDeskModel_readEnd_173 : decode kY_TrustDeskModel_readEnd.2.1 173 = .ok (.iload_n 1, 1) := by decide +kernel
theorem d_TrustDeskModel_readEnd_174 : decode kY_TrustDeskModel_readEnd.2.1 174 = .ok (.iconst 1, 1) := by decide +kernel
theorem d_TrustDeskModel_readEnd_175 : decode kY_TrustDeskModel_readEnd.2.1 175 = .ok (.iastore, 1) := by decide +kernel
theorem d_TrustDeskModel_readEnd_176 : decode kY_TrustDeskModel_readEnd.2.1 176 = .ok (.aload_n 0, 1) := by decide +kernel
theorem d_TrustDeskModel_readEnd_177 : decode kY_TrustDeskModel_readEnd.2.1 177 = .ok (.invokevirtual 237, 3) := by decide +kernel
theorem d_TrustDeskModel_readEnd_37 : decode kY_TrustDeskModel_readEnd.2.1 37 = .ok (.aload_n 0, 1) := by decide +kernel
theorem d_TrustDeskModel_readEnd_38 : decode kY_TrustDeskModel_readEnd.2.1 38 = .ok (.iconst 3, 1) := by decide +kernel
theorem d_TrustDeskModel_readEnd_39 : decode kY_TrustDeskModel_readEnd.2.1 39 = .ok (.invokevirtual 240, 3) := by decide +kernel
def w_TrustDeskModel_readEnd_x : List Nat := [1315, 1316, 1317, 1318, 1319, 1320, 1322, 1324, 20004, 20005, 20008, 20009, 20011, 20025, 20026]
set_option maxHeartbeats 100000000 in theorem tc_TrustDeskModel_readEnd_x {g : mj_G} {l : Launch} {d : Nat} {T0 : tm_H} {M0 : mj_M} {n0 x9 : Nat} {o0 : Nat} {x1 : Int32} (h_o0 : T0 o0 = some (0, 13, 0)) (yR : rI M0 o0) (yT : rT M0 o0) (yS : rv M0 o0 19 = 0 → ra M0 o0 5 44 ≤ rv M0 o0 16) (yw : rv M0 o0 19 = 0) (yr : 880 ≤ x1.toInt ∧ x1.toInt ≤ 899) (yne : rv M0 o0 24 ≤ 5) (yn : nN M0 o0) (yq : rv M0 o0 22 = 0) (I0 : tm_I tm_FT (tm_in w_TrustDeskModel_readEnd_x) x9 T0 M0 n0 T0 M0 n0) : mj_Met g l kY_TrustDeskModel_readEnd (d + 25) [.ref o0, .int x1] M0 n0 0 0 (tm_Q tm_FT (tm_in w_TrustDeskModel_readEnd_x) x9 T0 M0 n0 (fun r _ M => r = none ∧ rI M o0 ∧ (rE M0 M o0 2 0) ∧ (rK M0 M o0 x1.toNatClampNeg) ∧ (nN M o0) ∧ (rv M o0 19 = 0 → rv M o0 24 = rv M0 o0 24 + 1 ∧ 0 ≤ ra M o0 8 x1.toNatClampNeg ∧ rv M o0 22 = 0) ∧ (rv M0 o0 24 ≤ rv M o0 24) ∧ (rv M o0 19 = 0 → rD M0 M o0 x1.toNatClampNeg))) := by
  refine mj_enter (by decide) (Nat.le_of_ble_eq_true rfl) ?_
  have yE0 := rE.rf yT
  have K1 : rK M0 M0 o0 x1.toNatClampNeg := rK.rf
  have K2 : nN M0 o0 := yn
  refine mv_aload_n d_TrustDeskModel_readEnd_0 rfl rfl ?_
  obtain ⟨v4, q3⟩ := tm_atI I0 h_o0 (k := 17) rfl
  refine tr_getK q3 d_TrustDeskModel_readEnd_1 f_TrustDeskModel_198_13 ?_
  have := tm_rv q3
  refine mv_iconst (v := 3) d_TrustDeskModel_readEnd_4 (by decide) ?_
  have := mz_hi v4
  refine mv_icmp_neZ (tgt := 22) (a := v4.toInt) (b := 3) d_TrustDeskModel_readEnd_5 (by decide) rfl (by decide) (fun b5 => ?_) (fun b5 => ?_)
  · refine mv_aload_n d_TrustDeskModel_readEnd_22 rfl rfl ?_
    refine mv_iconst (v := 1) d_TrustDeskModel_readEnd_23 (by decide) ?_
    obtain ⟨_, b12, -⟩ := I0.1 _ _ h_o0
    have : (1 : Int32).toInt = 1 := by decide
    refine mv_callV (kc' := 0) (ks' := 0) (As := [.int 1]) (st9 := [.int 1, .ref o0]) d_TrustDeskModel_readEnd_24 lV_TrustDeskModel_240 b12 rfl (tc_TrustDeskModel_fails_x (d := (d + 24)) (x9 := x9) (o0 := o0) (x1 := 1) h_o0 yR (by decide) I0.start) rfl (Nat.le_of_ble_eq_true rfl) (Nat.le_of_ble_eq_true rfl) (Nat.le_of_ble_eq_true rfl) (hst := rfl) (fun b6r M7 n8 b6 => ?_)
    obtain ⟨T9, J10, rfl, R13, f14⟩ := b6
    have I11 := I0.call J10 (tm_sub (by decide)) (Or.inl rfl)
    have t15 := J10.up h_o0
    have z16 := (rv_c I0 J10 (I0.up h_o0) (k := 15) rfl)
    have z17 := (rv_c I0 J10 (I0.up h_o0) (k := 16) rfl)
    have z18 := (rv_c I0 J10 (I0.up h_o0) (k := 17) rfl)
    have z19 := (rv_c I0 J10 (I0.up h_o0) (k := 22) rfl)
    have z20 := (rv_c I0 J10 (I0.up h_o0) (k := 24) rfl)
    have z21 := (ra_call I0 J10 (I0.up h_o0) (k := 5) rfl rfl rfl 44)
    have E22 : rE M0 M7 o0 0 0 := yE0.fails (rE_hv I0 J10 (I0.up h_o0) 15 18 (by decide)) (rE_ha I0 J10 (I0.up h_o0) (by decide)) f14 0 0
    have K23 : rK M0 M7 o0 x1.toNatClampNeg := K1.same (sA_c I0 J10 (I0.up h_o0) (by decide))
    have K24 : nN M7 o0 := K2.same (sA_c I0 J10 (I0.up h_o0) (by decide)) (sF_c I0 J10 (I0.up h_o0) (by decide))
    have q25 := J10.keep h_o0 (by decide) q3
    refine mv_goto (tgt := 42) d_TrustDeskModel_readEnd_27 (by decide) ?_
    refine mv_aload_n d_TrustDeskModel_readEnd_42 rfl rfl ?_
    obtain ⟨_, b26, -⟩ := I11.1 _ _ t15
    refine mv_callV (kc1 := 0) (ks1 := 0) (kc' := 0) (ks' := 0) (As := []) (st9 := [.ref o0]) d_TrustDeskModel_readEnd_43 lV_TrustDeskModel_230 b26 rfl (mj_enter (by decide) (Nat.le_of_ble_eq_true rfl) ?_) rfl (Nat.le_of_ble_eq_true rfl) (Nat.le_of_ble_eq_true rfl) (Nat.le_of_ble_eq_true rfl) (hst := rfl) (fun _ _ _ h => h)
    refine mv_aload_n d_TrustDeskModel_isWell_0 rfl rfl ?_
    obtain ⟨v28, q27⟩ := tm_atI I11 t15 (k := 19) rfl
    refine tr_getK q27 d_TrustDeskModel_isWell_1 f_TrustDeskModel_224_13 ?_
    have := R13.f (k := 19) q27 rfl
    have := tm_rv q27
    refine mv_if_neZ (tgt := 11) (a := v28.toInt) d_TrustDeskModel_isWell_4 (by decide) rfl (fun b29 => ?_) (fun b29 => ?_)
    · refine mv_iconst (v := 0) d_TrustDeskModel_isWell_11 (by decide) ?_
      refine mv_iret d_TrustDeskModel_isWell_12 rfl (by decide) ?_
      refine mv_if_ne_f (tgt := 50) d_TrustDeskModel_readEnd_46 (by decide) (by decide) ?_
      exact mv_vret d_TrustDeskModel_readEnd_49 rfl ⟨_, I11, rfl, R13, E22.vac (by have := R13.1 15 _ _ rfl; have := R13.1 16 _ _ rfl; have := R13.1 19 _ _ rfl; omega) 2 0, K23, K24, (fun h9 => absurd h9 (by have := R13.1 15 _ _ rfl; have := R13.1 16 _ _ rfl; have := R13.1 19 _ _ rfl; omega)), (by have := R13.1 15 _ _ rfl; have := R13.1 16 _ _ rfl; have := R13.1 19 _ _ rfl; omega), (fun h9 => absurd h9 (by have := R13.1 15 _ _ rfl; have := R13.1 16 _ _ rfl; have := R13.1 19 _ _ rfl; omega))⟩
    · exfalso
      have := R13.1 15 _ _ rfl; have := R13.1 16 _ _ rfl; have := R13.1 19 _ _ rfl; omega
  · refine mv_aload_n d_TrustDeskModel_readEnd_8 rfl rfl ?_
    obtain ⟨v31, q30⟩ := tm_atI I0 h_o0 (k := 15) rfl
    refine tr_getK q30 d_TrustDeskModel_readEnd_9 f_TrustDeskModel_192_13 ?_
    have := yR.f (k := 15) q30 rfl
    have := tm_rv q30
    refine mv_aload_n d_TrustDeskModel_readEnd_12 rfl rfl ?_
    obtain ⟨v33, q32⟩ := tm_atI I0 h_o0 (k := 16) rfl
    refine tr_getK q32 d_TrustDeskModel_readEnd_13 f_TrustDeskModel_195_13 ?_
    have := yR.f (k := 16) q32 rfl
    have := tm_rv q32
    refine mv_isub d_TrustDeskModel_readEnd_16 ?_
    refine mv_bipush (v := 8) d_TrustDeskModel_readEnd_17 (by decide) ?_
    have b34 : (v31 - v33 : Int32).toInt = (v31.toInt - v33.toInt) := mz_sub2 rfl rfl (by have := yR.1 15 _ _ rfl; have := yR.1 16 _ _ rfl; have := yR.1 19 _ _ rfl; omega) (by have := yR.1 15 _ _ rfl; have := yR.1 16 _ _ rfl; have := yR.1 19 _ _ rfl; omega)
    have := mz_hi (v31 - v33)
    refine mv_icmp_leZ (tgt := 30) (a := (v31 - v33).toInt) (b := 8) d_TrustDeskModel_readEnd_19 (by decide) rfl (by decide) (fun b35 => ?_) (fun b35 => ?_)
    · refine mv_aload_n d_TrustDeskModel_readEnd_30 rfl rfl ?_
      obtain ⟨_, b42, -⟩ := I0.1 _ _ h_o0
      refine mv_callV (kc' := 0) (ks' := 0) (As := []) (st9 := [.ref o0]) d_TrustDeskModel_readEnd_31 lV_TrustDeskModel_324 b42 rfl (tc_TrustDeskModel_isThere_x (d := (d + 24)) (x9 := x9) (o0 := o0) h_o0 yR yE0.1 K2 I0.start) rfl (Nat.le_of_ble_eq_true rfl) (Nat.le_of_ble_eq_true rfl) (Nat.le_of_ble_eq_true rfl) (hst := rfl) (fun b36r M37 n38 b36 => ?_)
      obtain ⟨T39, J40, v43, rfl, b44, b45, R46⟩ := b36
      have I41 := I0.call J40 (tm_sub (by decide)) (Or.inl rfl)
      have t47 := J40.up h_o0
      have z48 := (rv_c I0 J40 (I0.up h_o0) (k := 15) rfl)
      have z49 := (rv_c I0 J40 (I0.up h_o0) (k := 16) rfl)
      have z50 := (rv_c I0 J40 (I0.up h_o0) (k := 17) rfl)
      have z51 := (rv_c I0 J40 (I0.up h_o0) (k := 19) rfl)
      have z52 := (rv_c I0 J40 (I0.up h_o0) (k := 22) rfl)
      have z53 := (rv_c I0 J40 (I0.up h_o0) (k := 24) rfl)
      have z54 := (ra_call I0 J40 (I0.up h_o0) (k := 5) rfl rfl rfl 44)
      have E55 : rE M0 M37 o0 0 0 := yE0.same (rE_hv I0 J40 (I0.up h_o0) 15 19 (by decide)) (rE_ha I0 J40 (I0.up h_o0) (by decide))
      have K56 : rK M0 M37 o0 x1.toNatClampNeg := K1.same (sA_c I0 J40 (I0.up h_o0) (by decide))
      have K57 : nN M37 o0 := K2.same (sA_c I0 J40 (I0.up h_o0) (by decide)) (sF_c I0 J40 (I0.up h_o0) (by decide))
      have q58 := J40.keep h_o0 (by decide) q3
      have q59 := J40.keep h_o0 (by decide) q30
      have q60 := J40.keep h_o0 (by decide) q32
      have := mz_hi v43
      refine mv_if_eqZ (tgt := 42) (a := v43.toInt) d_TrustDeskModel_readEnd_34 (by decide) rfl (fun b61 => ?_) (fun b61 => ?_)
      · refine mv_aload_n d_TrustDeskModel_readEnd_42 rfl rfl ?_
        obtain ⟨_, b62, -⟩ := I41.1 _ _ t47
        refine mv_callV (kc1 := 0) (ks1 := 0) (kc' := 0) (ks' := 0) (As := []) (st9 := [.ref o0]) d_TrustDeskModel_readEnd_43 lV_TrustDeskModel_230 b62 rfl (mj_enter (by decide) (Nat.le_of_ble_eq_true rfl) ?_) rfl (Nat.le_of_ble_eq_true rfl) (Nat.le_of_ble_eq_true rfl) (Nat.le_of_ble_eq_true rfl) (hst := rfl) (fun _ _ _ h => h)
        refine mv_aload_n d_TrustDeskModel_isWell_0 rfl rfl ?_
        obtain ⟨v64, q63⟩ := tm_atI I41 t47 (k := 19) rfl
        refine tr_getK q63 d_TrustDeskModel_isWell_1 f_TrustDeskModel_224_13 ?_
        have := R46.f (k := 19) q63 rfl
        have := (tm_rv q63).symm.trans z51
        have := tm_rv q63
        have := mz_hi v64
        refine mv_if_neZ (tgt := 11) (a := v64.toInt) d_TrustDeskModel_isWell_4 (by decide) rfl (fun b65 => ?_) (fun b65 => ?_)
        · refine mv_iconst (v := 0) d_TrustDeskModel_isWell_11 (by decide) ?_
          refine mv_iret d_TrustDeskModel_isWell_12 rfl (by decide) ?_
          refine mv_if_ne_f (tgt := 50) d_TrustDeskModel_readEnd_46 (by decide) (by decide) ?_
          exact mv_vret d_TrustDeskModel_readEnd_49 rfl ⟨_, I41, rfl, R46, E55.vac (by have := R46.1 15 _ _ rfl; have := R46.1 16 _ _ rfl; have := R46.1 19 _ _ rfl; omega) 2 0, K56, K57, (fun h9 => absurd h9 (by have := R46.1 15 _ _ rfl; have := R46.1 16 _ _ rfl; have := R46.1 19 _ _ rfl; omega)), (by have := R46.1 15 _ _ rfl; have := R46.1 16 _ _ rfl; have := R46.1 19 _ _ rfl; omega), (fun h9 => absurd h9 (by have := R46.1 15 _ _ rfl; have := R46.1 16 _ _ rfl; have := R46.1 19 _ _ rfl; omega))⟩
        · refine mv_iconst (v := 1) d_TrustDeskModel_isWell_7 (by decide) ?_
          refine mv_goto (tgt := 12) d_TrustDeskModel_isWell_8 (by decide) ?_
          refine mv_iret d_TrustDeskModel_isWell_12 rfl (by decide) ?_
          refine mv_if_ne_t (tgt := 50) d_TrustDeskModel_readEnd_46 (by decide) (by decide) ?_
          refine mv_aload_n d_TrustDeskModel_readEnd_50 rfl rfl ?_
          obtain ⟨a67, q66, t_a67⟩ := tm_atR I41 t47 (k := 25) rfl
          refine tr_getK q66 d_TrustDeskModel_readEnd_51 f_TrustDeskModel_51_13 ?_
          refine mv_aload_n d_TrustDeskModel_readEnd_54 rfl rfl ?_
          obtain ⟨v69, q68⟩ := tm_atI I41 t47 (k := 24) rfl
          refine tr_getK q68 d_TrustDeskModel_readEnd_55 f_TrustDeskModel_321_13 ?_
          have := R46.f (k := 24) q68 rfl
          have := (tm_rv q68).symm.trans z53
          have := tm_rv q68
          refine mv_aload_n d_TrustDeskModel_readEnd_58 rfl rfl ?_
          refine tr_getK (k := 16) q60 d_TrustDeskModel_readEnd_59 f_TrustDeskModel_195_13 ?_
          have := E55.1.1
          refine tr_iastR (k := 25) I41 R46 (I41.up h_o0) q66 t_a67 (by decide) (by decide) (fun lo hi h => by cases h; have := R46.1 15 _ _ rfl; have := R46.1 16 _ _ rfl; have := R46.1 19 _ _ rfl; exact ⟨by show (0 : Int) ≤ v33.toInt; omega, by show v33.toInt ≤ (400 : Int); omega⟩) (Or.inl (by decide)) d_TrustDeskModel_readEnd_62 (vp_in_iff.mpr (by have := R46.1 15 _ _ rfl; have := R46.1 16 _ _ rfl; have := R46.1 19 _ _ rfl; omega)) (fun M70 I71 K72 R73 E74 A75 V76 => ?_)
          have z77 := (V76 15).trans z48
          have z78 := (V76 16).trans z49
          have z79 := (V76 17).trans z50
          have z80 := (V76 19).trans z51
          have z81 := (V76 22).trans z52
          have z82 := (V76 24).trans z53
          have z83 := (A75 5 (by decide) rfl 44).trans z54
          have E84 : rE M0 M70 o0 0 0 := E55.same (fun k _ _ => V76 k) (fun k h1 h2 => A75 k (by omega) (by rcases (show k = 4 ∨ k = 5 by omega) with rfl | rfl <;> rfl))
          have h85 : (rv M0 o0 24).toNat = v69.toNatClampNeg := by have := mz_nat9 (i := v69) (by have := R46.1 15 _ _ rfl; have := R46.1 16 _ _ rfl; have := R46.1 19 _ _ rfl; omega); have := R46.1 15 _ _ rfl; have := R46.1 16 _ _ rfl; have := R46.1 19 _ _ rfl; omega
          have z86 : ra M70 o0 25 ((rv M0 o0 24).toNat) = v33.toInt := (E74 _).trans (if_pos h85)
          have K87 : rK M0 M70 o0 x1.toNatClampNeg := K56.same (sA_a A75 (by decide))
          have K88 : nN M70 o0 := K57.st A75 E74 V76 (Or.inl rfl) (by have := mz_nat9 (i := v69) (by have := R46.1 15 _ _ rfl; have := R46.1 16 _ _ rfl; have := R46.1 19 _ _ rfl; omega); have := R46.1 15 _ _ rfl; have := R46.1 16 _ _ rfl; have := R46.1 19 _ _ rfl; omega)
          clear z48 z49 z50 z51 z52 z53 z54
          refine mv_aload_n d_TrustDeskModel_readEnd_63 rfl rfl ?_
          obtain ⟨a90, q89, t_a90⟩ := tm_atR I71 t47 (k := 26) rfl
          refine tr_getK q89 d_TrustDeskModel_readEnd_64 f_TrustDeskModel_54_13 ?_
          refine mv_aload_n d_TrustDeskModel_readEnd_67 rfl rfl ?_
          refine tr_getK (k := 24) (K72 _ 13 24 _ q68) d_TrustDeskModel_readEnd_68 f_TrustDeskModel_321_13 ?_
          refine mv_aload_n d_TrustDeskModel_readEnd_71 rfl rfl ?_
          refine tr_getK (k := 15) (K72 _ 13 15 _ q59) d_TrustDeskModel_readEnd_72 f_TrustDeskModel_192_13 ?_
          refine mv_aload_n d_TrustDeskModel_readEnd_75 rfl rfl ?_
          refine tr_getK (k := 16) (K72 _ 13 16 _ q60) d_TrustDeskModel_readEnd_76 f_TrustDeskModel_195_13 ?_
          refine mv_isub d_TrustDeskModel_readEnd_79 ?_
          have := E84.1.1
          have b91 : (v31 - v33 : Int32).toInt = (v31.toInt - v33.toInt) := mz_sub2 rfl rfl (by have := R73.1 15 _ _ rfl; have := R73.1 16 _ _ rfl; have := R73.1 19 _ _ rfl; omega) (by have := R73.1 15 _ _ rfl; have := R73.1 16 _ _ rfl; have := R73.1 19 _ _ rfl; omega)
          refine tr_iastR (k := 26) I71 R73 (I71.up h_o0) q89 t_a90 (by decide) (by decide) (fun lo hi h => by cases h; have := R73.1 15 _ _ rfl; have := R73.1 16 _ _ rfl; have := R73.1 19 _ _ rfl; exact ⟨by show (0 : Int) ≤ (v31 - v33).toInt; omega, by show (v31 - v33).toInt ≤ (8 : Int); omega⟩) (Or.inl (by decide)) d_TrustDeskModel_readEnd_80 (vp_in_iff.mpr (by have := R73.1 15 _ _ rfl; have := R73.1 16 _ _ rfl; have := R73.1 19 _ _ rfl; omega)) (fun M92 I93 K94 R95 E96 A97 V98 => ?_)
          have z99 := (V98 15).trans z77
          have z100 := (V98 16).trans z78
          have z101 := (V98 17).trans z79
          have z102 := (V98 19).trans z80
          have z103 := (V98 22).trans z81
          have z104 := (V98 24).trans z82
          have z105 := (A97 5 (by decide) rfl 44).trans z83
          have z106 := (A97 25 (by decide) rfl ((rv M0 o0 24).toNat)).trans z86
          have E107 : rE M0 M92 o0 0 0 := E84.same (fun k _ _ => V98 k) (fun k h1 h2 => A97 k (by omega) (by rcases (show k = 4 ∨ k = 5 by omega) with rfl | rfl <;> rfl))
          have h108 : (rv M0 o0 24).toNat = v69.toNatClampNeg := by have := mz_nat9 (i := v69) (by have := R73.1 15 _ _ rfl; have := R73.1 16 _ _ rfl; have := R73.1 19 _ _ rfl; omega); have := R73.1 15 _ _ rfl; have := R73.1 16 _ _ rfl; have := R73.1 19 _ _ rfl; omega
          have z109 : ra M92 o0 26 ((rv M0 o0 24).toNat) = (v31 - v33).toInt := (E96 _).trans (if_pos h108)
          have K110 : rK M0 M92 o0 x1.toNatClampNeg := K87.same (sA_a A97 (by decide))
          have K111 : nN M92 o0 := K88.st A97 E96 V98 (Or.inr rfl) (by have := mz_nat9 (i := v69) (by have := R73.1 15 _ _ rfl; have := R73.1 16 _ _ rfl; have := R73.1 19 _ _ rfl; omega); have := R73.1 15 _ _ rfl; have := R73.1 16 _ _ rfl; have := R73.1 19 _ _ rfl; omega)
          clear z77 z78 z79 z80 z81 z82 z83 z86
          refine mv_aload_n d_TrustDeskModel_readEnd_81 rfl rfl ?_
          obtain ⟨a113, q112, t_a113⟩ := tm_atR I93 t47 (k := 8) rfl
          refine tr_getK q112 d_TrustDeskModel_readEnd_82 f_TrustDeskModel_29_13 ?_
          refine mv_iload_n d_TrustDeskModel_readEnd_85 rfl rfl ?_
          refine mv_aload_n d_TrustDeskModel_readEnd_86 rfl rfl ?_
          refine tr_getK (k := 15) (K94 _ 13 15 _ (K72 _ 13 15 _ q59)) d_TrustDeskModel_readEnd_87 f_TrustDeskModel_192_13 ?_
          refine mv_aload_n d_TrustDeskModel_readEnd_90 rfl rfl ?_
          refine tr_getK (k := 16) (K94 _ 13 16 _ (K72 _ 13 16 _ q60)) d_TrustDeskModel_readEnd_91 f_TrustDeskModel_195_13 ?_
          refine mv_isub d_TrustDeskModel_readEnd_94 ?_
          have := E107.1.1
          have b114 : (v31 - v33 : Int32).toInt = (v31.toInt - v33.toInt) := mz_sub2 rfl rfl (by have := R95.1 15 _ _ rfl; have := R95.1 16 _ _ rfl; have := R95.1 19 _ _ rfl; omega) (by have := R95.1 15 _ _ rfl; have := R95.1 16 _ _ rfl; have := R95.1 19 _ _ rfl; omega)
          refine tr_iastR (k := 8) I93 R95 (I93.up h_o0) q112 t_a113 (by decide) (by decide) (fun lo hi h => by cases h; have := R95.1 15 _ _ rfl; have := R95.1 16 _ _ rfl; have := R95.1 19 _ _ rfl; exact ⟨by show ((-1) : Int) ≤ (v31 - v33).toInt; omega, by show (v31 - v33).toInt ≤ (720 : Int); omega⟩) (Or.inl (by decide)) d_TrustDeskModel_readEnd_95 (vp_in_iff.mpr (by have := R95.1 15 _ _ rfl; have := R95.1 16 _ _ rfl; have := R95.1 19 _ _ rfl; omega)) (fun M115 I116 K117 R118 E119 A120 V121 => ?_)
          have z122 := (V121 15).trans z99
          have z123 := (V121 16).trans z100
          have z124 := (V121 17).trans z101
          have z125 := (V121 19).trans z102
          have z126 := (V121 22).trans z103
          have z127 := (V121 24).trans z104
          have z128 := (A120 5 (by decide) rfl 44).trans z105
          have z129 := (A120 25 (by decide) rfl ((rv M0 o0 24).toNat)).trans z106
          have z130 := (A120 26 (by decide) rfl ((rv M0 o0 24).toNat)).trans z109
          have E131 : rE M0 M115 o0 0 0 := E107.same (fun k _ _ => V121 k) (fun k h1 h2 => A120 k (by omega) (by rcases (show k = 4 ∨ k = 5 by omega) with rfl | rfl <;> rfl))
          have h132 : x1.toNatClampNeg = x1.toNatClampNeg := by have := mz_nat9 (i := x1) (by have := R95.1 15 _ _ rfl; have := R95.1 16 _ _ rfl; have := R95.1 19 _ _ rfl; omega); have := R95.1 15 _ _ rfl; have := R95.1 16 _ _ rfl; have := R95.1 19 _ _ rfl; omega
          have z133 : ra M115 o0 8 x1.toNatClampNeg = (v31 - v33).toInt := (E119 _).trans (if_pos h132)
          have K134 : rK M0 M115 o0 x1.toNatClampNeg := K110.st A120 E119 (by have := mz_nat9 (i := x1) (by have := R95.1 15 _ _ rfl; have := R95.1 16 _ _ rfl; have := R95.1 19 _ _ rfl; omega); have := R95.1 15 _ _ rfl; have := R95.1 16 _ _ rfl; have := R95.1 19 _ _ rfl; omega)
          have K135 : nN M115 o0 := K111.same (sA_a A120 (by decide)) (sF_a V121)
          clear z99 z100 z101 z102 z103 z104 z105 z106 z109
          refine mv_aload_n d_TrustDeskModel_readEnd_96 rfl rfl ?_
          refine mv_dup d_TrustDeskModel_readEnd_97 rfl ?_
          refine tr_getK (k := 24) (K117 _ 13 24 _ (K94 _ 13 24 _ (K72 _ 13 24 _ q68))) d_TrustDeskModel_readEnd_98 f_TrustDeskModel_321_13 ?_
          refine mv_iconst (v := 1) d_TrustDeskModel_readEnd_101 (by decide) ?_
          refine mv_iadd d_TrustDeskModel_readEnd_102 ?_
          have b136 : (v69 + 1 : Int32).toInt = (v69.toInt + 1) := mz_add2 rfl (by decide) (by have := R118.1 15 _ _ rfl; have := R118.1 16 _ _ rfl; have := R118.1 19 _ _ rfl; omega) (by have := R118.1 15 _ _ rfl; have := R118.1 16 _ _ rfl; have := R118.1 19 _ _ rfl; omega)
          refine tr_putR (k := 24) I116 R118 t47 rfl ⟨_, rfl⟩ (fun _ h => by cases h) rfl (fun lo hi h => by cases h; have := R118.1 15 _ _ rfl; have := R118.1 16 _ _ rfl; have := R118.1 19 _ _ rfl; exact ⟨by show (0 : Int) ≤ (v69 + 1).toInt; omega, by show (v69 + 1).toInt ≤ (6 : Int); omega⟩) (Or.inl (by decide)) d_TrustDeskModel_readEnd_103 p_TrustDeskModel_321_13 rfl rfl (fun M137 I138 q139 K140 R141 A142 V143 => ?_)
          have z144 := (V143 15 (by decide)).trans z122
          have z145 := (V143 16 (by decide)).trans z123
          have z146 := (V143 17 (by decide)).trans z124
          have z147 := (V143 19 (by decide)).trans z125
          have z148 := (V143 22 (by decide)).trans z126
          have z149 := (A142 5 (by decide) 44).trans z128
          have z150 := (A142 25 (by decide) ((rv M0 o0 24).toNat)).trans z129
          have z151 := (A142 26 (by decide) ((rv M0 o0 24).toNat)).trans z130
          have z152 := (A142 8 (by decide) x1.toNatClampNeg).trans z133
          have z153 : rv M137 o0 24 = (v69 + 1).toInt := tm_rv q139
          have E154 : rE M0 M137 o0 0 0 := E131.same (fun k h1 h2 => V143 k (by omega)) (fun k h1 h2 => A142 k (by omega))
          have K155 : rK M0 M137 o0 x1.toNatClampNeg := K134.same (sA_f A142 (by decide))
          have K156 : nN M137 o0 := K135.inc (n := (rv M0 o0 24).toNat) A142 (by have := R118.1 15 _ _ rfl; have := R118.1 16 _ _ rfl; have := R118.1 19 _ _ rfl; omega) (by have := R118.1 15 _ _ rfl; have := R118.1 16 _ _ rfl; have := R118.1 19 _ _ rfl; omega) (by have := R118.1 15 _ _ rfl; have := R118.1 16 _ _ rfl; have := R118.1 19 _ _ rfl; omega)
          clear z122 z123 z124 z125 z126 z128 z129 z130 z133
          refine mv_aload_n d_TrustDeskModel_readEnd_106 rfl rfl ?_
          obtain ⟨_, b163, -⟩ := I138.1 _ _ t47
          refine mv_callV (kc' := 0) (ks' := 0) (As := []) (st9 := [.ref o0]) d_TrustDeskModel_readEnd_107 lV_TrustDeskModel_237 b163 rfl (tc_TrustDeskModel_next_x (d := (d + 23)) (x9 := x9) (o0 := o0) t47 R141 I138.start) rfl (Nat.le_of_ble_eq_true rfl) (Nat.le_of_ble_eq_true rfl) (Nat.le_of_ble_eq_true rfl) (hst := rfl) (fun b157r M158 n159 b157 => ?_)
          obtain ⟨T160, J161, rfl, R164, f165, f166⟩ := b157
          have I162 := I138.call J161 (tm_sub (by decide)) (Or.inl rfl)
          have t167 := J161.up t47
          have z168 := (rv_c I138 J161 (I138.up h_o0) (k := 19) rfl).trans z147
          have z169 := (rv_c I138 J161 (I138.up h_o0) (k := 22) rfl).trans z148
          have z170 := (rv_c I138 J161 (I138.up h_o0) (k := 24) rfl).trans z153
          have z171 := (ra_call I138 J161 (I138.up h_o0) (k := 5) rfl rfl rfl 44).trans z149
          have z172 := (ra_call I138 J161 (I138.up h_o0) (k := 25) rfl rfl rfl ((rv M0 o0 24).toNat)).trans z150
          have z173 := (ra_call I138 J161 (I138.up h_o0) (k := 26) rfl rfl rfl ((rv M0 o0 24).toNat)).trans z151
          have z174 := (ra_call I138 J161 (I138.up h_o0) (k := 8) rfl rfl rfl x1.toNatClampNeg).trans z152
          have h176 : rv M137 o0 16 + 1 ≤ rv M137 o0 15 := (by have := E154.1.2.1 (by omega); omega)
          have E175 : rE M0 M158 o0 0 1 := E154.next f165 f166 (rv_c I138 J161 (I138.up h_o0) (k := 19) rfl) (rE_ha I138 J161 (I138.up h_o0) (by decide)) (e := 1) h176 (by decide)
          have K177 : rK M0 M158 o0 x1.toNatClampNeg := K155.same (sA_c I138 J161 (I138.up h_o0) (by decide))
          have K178 : nN M158 o0 := K156.same (sA_c I138 J161 (I138.up h_o0) (by decide)) (sF_c I138 J161 (I138.up h_o0) (by decide))
          clear z147 z148 z153 z149 z150 z151 z152
          have q179 := J161.keep t47 (by decide) (K140 _ 13 19 _ rfl (K117 _ 13 19 _ (K94 _ 13 19 _ (K72 _ 13 19 _ q63))))
          have q180 := J161.keep t47 (by decide) (K140 _ 13 25 _ rfl (K117 _ 13 25 _ (K94 _ 13 25 _ (K72 _ 13 25 _ q66))))
          have t181 := J161.up t_a67
          have q182 := J161.keep t47 (by decide) (K140 _ 13 26 _ rfl (K117 _ 13 26 _ (K94 _ 13 26 _ q89)))
          have t183 := J161.up t_a90
          have q184 := J161.keep t47 (by decide) (K140 _ 13 8 _ rfl (K117 _ 13 8 _ q112))
          have t185 := J161.up t_a113
          have q186 := J161.keep t47 (by decide) q139
          refine mv_aload_n d_TrustDeskModel_readEnd_110 rfl rfl ?_
          refine mv_ldcSw (id := 45) (tx := "pays") d_TrustDeskModel_readEnd_111 (List.mem_of_getElem? (i := 35) rfl) ?_
          obtain ⟨_, b193, -⟩ := I162.1 _ _ t167
          refine mv_callV (kc' := 0) (ks' := 0) (As := [.ref 45]) (st9 := [.ref 45, .ref o0]) d_TrustDeskModel_readEnd_114 lV_TrustDeskModel_329 b193 rfl (tc_TrustDeskModel_wantWord_s1_45_x (d := (d + 19)) (x9 := x9) (o0 := o0) t167 R164 E175.1 (E175.s yS (by decide)) I162.start) rfl (Nat.le_of_ble_eq_true rfl) (Nat.le_of_ble_eq_true rfl) (Nat.le_of_ble_eq_true rfl) (hst := rfl) (fun b187r M188 n189 b187 => ?_)
          obtain ⟨T190, J191, rfl, R194, f195⟩ := b187
          have I192 := I162.call J191 (tm_sub (by decide)) (Or.inl rfl)
          have t196 := J191.up t167
          have := f195.2.1
          have f197 := Im.i f195.w.2
          have f198 := Im.i f195.w2
          have z199 := (rv_c I162 J191 (I162.up h_o0) (k := 22) rfl).trans z169
          have z200 := (rv_c I162 J191 (I162.up h_o0) (k := 24) rfl).trans z170
          have z201 := (ra_call I162 J191 (I162.up h_o0) (k := 5) rfl rfl rfl 44).trans z171
          have z202 := (ra_call I162 J191 (I162.up h_o0) (k := 25) rfl rfl rfl ((rv M0 o0 24).toNat)).trans z172
          have z203 := (ra_call I162 J191 (I162.up h_o0) (k := 26) rfl rfl rfl ((rv M0 o0 24).toNat)).trans z173
          have z204 := (ra_call I162 J191 (I162.up h_o0) (k := 8) rfl rfl rfl x1.toNatClampNeg).trans z174
          have E205 : rE M0 M188 o0 0 2 := E175.trans f195 (by decide) (yR.2 5 _ _ rfl 44).1 (by decide) (by decide)
          have K206 : rK M0 M188 o0 x1.toNatClampNeg := K177.same (sA_c I162 J191 (I162.up h_o0) (by decide))
          have K207 : nN M188 o0 := K178.same (sA_c I162 J191 (I162.up h_o0) (by decide)) (sF_c I162 J191 (I162.up h_o0) (by decide))
          clear z169 z170 z171 z172 z173 z174
          have q208 := J191.keep t167 (by decide) q180
          have t209 := J191.up t181
          have q210 := J191.keep t167 (by decide) q182
          have t211 := J191.up t183
          have q212 := J191.keep t167 (by decide) q184
          have t213 := J191.up t185
          have q214 := J191.keep t167 (by decide) q186
          refine mv_aload_n d_TrustDeskModel_readEnd_117 rfl rfl ?_
          obtain ⟨_, b221, -⟩ := I192.1 _ _ t196
          refine mv_callV (kc' := 0) (ks' := 0) (As := []) (st9 := [.ref o0]) d_TrustDeskModel_readEnd_118 lV_TrustDeskModel_288 b221 rfl (tc_TrustDeskModel_sum_q5_x (d := (d + 4)) (x9 := x9) (o0 := o0) t196 R194 E205.1 (E205.s yS (by decide)) (Classical.byCases (fun w9 : rv M188 o0 19 = 0 => by have u91 : rv M188 o0 19 = 0 := (by omega); have := f197.o u91; have := f198.o u91; omega) (fun w9 : ¬ rv M188 o0 19 = 0 => by omega)) I192.start) rfl (Nat.le_of_ble_eq_true rfl) (Nat.le_of_ble_eq_true rfl) (Nat.le_of_ble_eq_true rfl) (hst := rfl) (fun b215r M216 n217 b215 => ?_)
          obtain ⟨T218, J219, rfl, R222, f223, f224⟩ := b215
          have I220 := I192.call J219 (tm_sub (by decide)) (Or.inl rfl)
          have t225 := J219.up t196
          have := f223.2.1
          have f226 := Im.i f223.w.2
          have f227 := Im.i f223.w2
          replace f224 := Im.i f224
          have z228 := (rv_c I192 J219 (I192.up h_o0) (k := 24) rfl).trans z200
          have z229 := (ra_call I192 J219 (I192.up h_o0) (k := 25) rfl rfl rfl ((rv M0 o0 24).toNat)).trans z202
          have z230 := (ra_call I192 J219 (I192.up h_o0) (k := 26) rfl rfl rfl ((rv M0 o0 24).toNat)).trans z203
          have z231 := (ra_call I192 J219 (I192.up h_o0) (k := 8) rfl rfl rfl x1.toNatClampNeg).trans z204
          have E232 : rE M0 M216 o0 1 2 := E205.trans f223 (by decide) (yR.2 5 _ _ rfl 44).1 (by decide) (by decide)
          have K233 : rK M0 M216 o0 x1.toNatClampNeg := K206.same (sA_c I192 J219 (I192.up h_o0) (by decide))
          have K234 : nN M216 o0 := K207.same (sA_c I192 J219 (I192.up h_o0) (by decide)) (sF_c I192 J219 (I192.up h_o0) (by decide))
          clear z200 z202 z203 z204
          have q235 := J219.keep t196 (by decide) q208
          have t236 := J219.up t209
          have q237 := J219.keep t196 (by decide) q210
          have t238 := J219.up t211
          have q239 := J219.keep t196 (by decide) q212
          have t240 := J219.up t213
          have q241 := J219.keep t196 (by decide) q214
          refine mv_aload_n d_TrustDeskModel_readEnd_121 rfl rfl ?_
          obtain ⟨a243, q242, t_a243⟩ := tm_atR I220 t225 (k := 11) rfl
          refine tr_getK q242 d_TrustDeskModel_readEnd_122 f_TrustDeskModel_38_13 ?_
          refine mv_iload_n d_TrustDeskModel_readEnd_125 rfl rfl ?_
          refine mv_aload_n d_TrustDeskModel_readEnd_126 rfl rfl ?_
          obtain ⟨a245, q244, t_a245⟩ := tm_atR I220 t225 (k := 5) rfl
          refine tr_getK q244 d_TrustDeskModel_readEnd_127 f_TrustDeskModel_20_13 ?_
          refine mv_bipush (v := 44) d_TrustDeskModel_readEnd_130 (by decide) ?_
          refine tr_ialdR (o := o0) (k := 5) I220 q244 t_a245 (by decide) d_TrustDeskModel_readEnd_132 (by unfold vp_in; decide) (fun v246 e247 => ?_)
          have := R222.a (k := 5) rfl (44 : Int32).toNatClampNeg
          have : v246.toInt = ra M216 o0 5 44 := e247
          have := E232.1.1
          refine tr_iastR (k := 11) I220 R222 (I220.up h_o0) q242 t_a243 (by decide) (by decide) (fun lo hi h => by cases h; have := R222.1 15 _ _ rfl; have := R222.1 16 _ _ rfl; have := R222.1 19 _ _ rfl; exact ⟨by show (0 : Int) ≤ v246.toInt; omega, by show v246.toInt ≤ (400 : Int); omega⟩) (Or.inl (by decide)) d_TrustDeskModel_readEnd_133 (vp_in_iff.mpr (by have := R222.1 15 _ _ rfl; have := R222.1 16 _ _ rfl; have := R222.1 19 _ _ rfl; omega)) (fun M248 I249 K250 R251 E252 A253 V254 => ?_)
          have z255 := (V254 15)
          have z256 := (V254 16)
          have z257 := (V254 17)
          have z258 := (V254 19)
          have z259 := (V254 22)
          have z260 := (V254 24).trans z228
          have z261 := (A253 5 (by decide) rfl 44)
          have z262 := (A253 25 (by decide) rfl ((rv M0 o0 24).toNat)).trans z229
          have z263 := (A253 26 (by decide) rfl ((rv M0 o0 24).toNat)).trans z230
          have z264 := (A253 8 (by decide) rfl x1.toNatClampNeg).trans z231
          have E265 : rE M0 M248 o0 1 2 := E232.same (fun k _ _ => V254 k) (fun k h1 h2 => A253 k (by omega) (by rcases (show k = 4 ∨ k = 5 by omega) with rfl | rfl <;> rfl))
          have h266 : x1.toNatClampNeg = x1.toNatClampNeg := by have := mz_nat9 (i := x1) (by have := R222.1 15 _ _ rfl; have := R222.1 16 _ _ rfl; have := R222.1 19 _ _ rfl; omega); have := R222.1 15 _ _ rfl; have := R222.1 16 _ _ rfl; have := R222.1 19 _ _ rfl; omega
          have z267 : ra M248 o0 11 x1.toNatClampNeg = v246.toInt := (E252 _).trans (if_pos h266)
          have K268 : rK M0 M248 o0 x1.toNatClampNeg := K233.st A253 E252 (by have := mz_nat9 (i := x1) (by have := R222.1 15 _ _ rfl; have := R222.1 16 _ _ rfl; have := R222.1 19 _ _ rfl; omega); have := R222.1 15 _ _ rfl; have := R222.1 16 _ _ rfl; have := R222.1 19 _ _ rfl; omega)
          have K269 : nN M248 o0 := K234.same (sA_a A253 (by decide)) (sF_a V254)
          have F270 : rE M248 M248 o0 0 0 := rE.rf E265.1
          have : ra M248 o0 5 44 = v246.toInt := by omega
          clear z228 z229 z230 z231
          refine mv_aload_n d_TrustDeskModel_readEnd_134 rfl rfl ?_
          refine mv_ldcSw (id := 25) (tx := "if") d_TrustDeskModel_readEnd_135 (List.mem_of_getElem? (i := 15) rfl) ?_
          obtain ⟨_, b277, -⟩ := I249.1 _ _ t225
          refine mv_callV (kc' := 0) (ks' := 0) (As := [.ref 25]) (st9 := [.ref 25, .ref o0]) d_TrustDeskModel_readEnd_138 lV_TrustDeskModel_329 b277 rfl (tc_TrustDeskModel_wantWord_s1_25_x (d := (d + 19)) (x9 := x9) (o0 := o0) t225 R251 E265.1 (E265.s yS (by decide)) I249.start) rfl (Nat.le_of_ble_eq_true rfl) (Nat.le_of_ble_eq_true rfl) (Nat.le_of_ble_eq_true rfl) (hst := rfl) (fun b271r M272 n273 b271 => ?_)
          obtain ⟨T274, J275, rfl, R278, f279⟩ := b271
          have I276 := I249.call J275 (tm_sub (by decide)) (Or.inl rfl)
          have t280 := J275.up t225
          have := f279.2.1
          have f281 := Im.i f279.w.2
          have f282 := Im.i f279.w2
          have z283 := (rv_c I249 J275 (I249.up h_o0) (k := 22) rfl).trans z259
          have z284 := (rv_c I249 J275 (I249.up h_o0) (k := 24) rfl).trans z260
          have z285 := (ra_call I249 J275 (I249.up h_o0) (k := 5) rfl rfl rfl 44).trans z261
          have z286 := (ra_call I249 J275 (I249.up h_o0) (k := 25) rfl rfl rfl ((rv M0 o0 24).toNat)).trans z262
          have z287 := (ra_call I249 J275 (I249.up h_o0) (k := 26) rfl rfl rfl ((rv M0 o0 24).toNat)).trans z263
          have z288 := (ra_call I249 J275 (I249.up h_o0) (k := 8) rfl rfl rfl x1.toNatClampNeg).trans z264
          have z289 := (ra_call I249 J275 (I249.up h_o0) (k := 11) rfl rfl rfl x1.toNatClampNeg).trans z267
          have E290 : rE M0 M272 o0 1 3 := E265.trans f279 (by decide) (yR.2 5 _ _ rfl 44).1 (by decide) (by decide)
          have K291 : rK M0 M272 o0 x1.toNatClampNeg := K268.same (sA_c I249 J275 (I249.up h_o0) (by decide))
          have K292 : nN M272 o0 := K269.same (sA_c I249 J275 (I249.up h_o0) (by decide)) (sF_c I249 J275 (I249.up h_o0) (by decide))
          have F293 : rE M248 M272 o0 0 1 := F270.trans f279 (by decide) (R251.2 5 _ _ rfl 44).1 (by decide) (by decide)
          clear z259 z260 z261 z262 z263 z264 z267
          have q294 := J275.keep t225 (by decide) (K250 _ 13 25 _ q235)
          have t295 := J275.up t236
          have q296 := J275.keep t225 (by decide) (K250 _ 13 26 _ q237)
          have t297 := J275.up t238
          have q298 := J275.keep t225 (by decide) (K250 _ 13 8 _ q239)
          have t299 := J275.up t240
          have q300 := J275.keep t225 (by decide) (K250 _ 13 24 _ q241)
          have q301 := J275.keep t225 (by decide) (K250 _ 13 11 _ q242)
          have t302 := J275.up t_a243
          have q303 := J275.keep t225 (by decide) (K250 _ 13 5 _ q244)
          have t304 := J275.up t_a245
          refine mv_aload_n d_TrustDeskModel_readEnd_141 rfl rfl ?_
          obtain ⟨_, b311, -⟩ := I276.1 _ _ t280
          refine mv_callV (kc' := 0) (ks' := 0) (As := []) (st9 := [.ref o0]) d_TrustDeskModel_readEnd_142 lV_TrustDeskModel_302 b311 rfl (tc_TrustDeskModel_cond_q5_x (d := d) (x9 := x9) (o0 := o0) t280 R278 E290.1 (E290.s yS (by decide)) (Classical.byCases (fun w9 : rv M272 o0 19 = 0 => by have u91 : rv M272 o0 19 = 0 := (by omega); have := f281.o u91; have := f282.o u91; have u92 : rv M216 o0 19 = 0 := (by omega); have := f226.o u92; have := f227.o u92; have := f224.o u92; have u93 : rv M188 o0 19 = 0 := (by omega); have := f197.o u93; have := f198.o u93; omega) (fun w9 : ¬ rv M272 o0 19 = 0 => by omega)) I276.start) rfl (Nat.le_of_ble_eq_true rfl) (Nat.le_of_ble_eq_true rfl) (Nat.le_of_ble_eq_true rfl) (hst := rfl) (fun b305r M306 n307 b305 => ?_)
          obtain ⟨T308, J309, rfl, R312, f313, f314⟩ := b305
          have I310 := I276.call J309 (tm_sub (by decide)) (Or.inl rfl)
          have t315 := J309.up t280
          have := f313.2.1
          have f316 := Im.i f313.w.2
          have f317 := Im.i f313.w2
          replace f314 := Im.i f314
          have z318 := (rv_c I276 J309 (I276.up h_o0) (k := 24) rfl).trans z284
          have z319 := (ra_call I276 J309 (I276.up h_o0) (k := 25) rfl rfl rfl ((rv M0 o0 24).toNat)).trans z286
          have z320 := (ra_call I276 J309 (I276.up h_o0) (k := 26) rfl rfl rfl ((rv M0 o0 24).toNat)).trans z287
          have z321 := (ra_call I276 J309 (I276.up h_o0) (k := 8) rfl rfl rfl x1.toNatClampNeg).trans z288
          have z322 := (ra_call I276 J309 (I276.up h_o0) (k := 11) rfl rfl rfl x1.toNatClampNeg).trans z289
          have E323 : rE M0 M306 o0 2 3 := E290.trans f313 (by decide) (yR.2 5 _ _ rfl 44).1 (by decide) (by decide)
          have K324 : rK M0 M306 o0 x1.toNatClampNeg := K291.same (sA_c I276 J309 (I276.up h_o0) (by decide))
          have K325 : nN M306 o0 := K292.same (sA_c I276 J309 (I276.up h_o0) (by decide)) (sF_c I276 J309 (I276.up h_o0) (by decide))
          have F326 : rE M248 M306 o0 1 1 := F293.trans f313 (by decide) (R251.2 5 _ _ rfl 44).1 (by decide) (by decide)
          clear z284 z286 z287 z288 z289
          have q327 := J309.keep t280 (by decide) q294
          have t328 := J309.up t295
          have q329 := J309.keep t280 (by decide) q296
          have t330 := J309.up t297
          have q331 := J309.keep t280 (by decide) q298
          have t332 := J309.up t299
          have q333 := J309.keep t280 (by decide) q300
          have q334 := J309.keep t280 (by decide) q301
          have t335 := J309.up t302
          have q336 := J309.keep t280 (by decide) q303
          have t337 := J309.up t304
          refine mv_aload_n d_TrustDeskModel_readEnd_145 rfl rfl ?_
          obtain ⟨a339, q338, t_a339⟩ := tm_atR I310 t315 (k := 9) rfl
          refine tr_getK q338 d_TrustDeskModel_readEnd_146 f_TrustDeskModel_32_13 ?_
          refine mv_iload_n d_TrustDeskModel_readEnd_149 rfl rfl ?_
          refine mv_iconst (v := 0) d_TrustDeskModel_readEnd_150 (by decide) ?_
          have := E323.1.1
          refine tr_iastR (k := 9) I310 R312 (I310.up h_o0) q338 t_a339 (by decide) (by decide) (fun lo hi h => by cases h) (Or.inl (by decide)) d_TrustDeskModel_readEnd_151 (vp_in_iff.mpr (by have := R312.1 15 _ _ rfl; have := R312.1 16 _ _ rfl; have := R312.1 19 _ _ rfl; omega)) (fun M340 I341 K342 R343 E344 A345 V346 => ?_)
          have z347 := (V346 15)
          have z348 := (V346 16)
          have z349 := (V346 17)
          have z350 := (V346 19)
          have z351 := (V346 22)
          have z352 := (V346 24).trans z318
          have z353 := (A345 5 (by decide) rfl 44)
          have z354 := (A345 25 (by decide) rfl ((rv M0 o0 24).toNat)).trans z319
          have z355 := (A345 26 (by decide) rfl ((rv M0 o0 24).toNat)).trans z320
          have z356 := (A345 8 (by decide) rfl x1.toNatClampNeg).trans z321
          have z357 := (A345 11 (by decide) rfl x1.toNatClampNeg).trans z322
          have E358 : rE M0 M340 o0 2 3 := E323.same (fun k _ _ => V346 k) (fun k h1 h2 => A345 k (by omega) (by rcases (show k = 4 ∨ k = 5 by omega) with rfl | rfl <;> rfl))
          have K359 : rK M0 M340 o0 x1.toNatClampNeg := K324.same (sA_a A345 (by decide))
          have K360 : nN M340 o0 := K325.same (sA_a A345 (by decide)) (sF_a V346)
          have F361 : rE M248 M340 o0 1 1 := F326.same (fun k _ _ => V346 k) (fun k h1 h2 => A345 k (by omega) (by rcases (show k = 4 ∨ k = 5 by omega) with rfl | rfl <;> rfl))
          clear z318 z319 z320 z321 z322
          refine mv_aload_n d_TrustDeskModel_readEnd_152 rfl rfl ?_
          obtain ⟨_, b362, -⟩ := I341.1 _ _ t315
          refine mv_callV (kc1 := 0) (ks1 := 0) (kc' := 0) (ks' := 0) (As := []) (st9 := [.ref o0]) d_TrustDeskModel_readEnd_153 lV_TrustDeskModel_230 b362 rfl (mj_enter (by decide) (Nat.le_of_ble_eq_true rfl) ?_) rfl (Nat.le_of_ble_eq_true rfl) (Nat.le_of_ble_eq_true rfl) (Nat.le_of_ble_eq_true rfl) (hst := rfl) (fun _ _ _ h => h)
          refine mv_aload_n d_TrustDeskModel_isWell_0 rfl rfl ?_
          obtain ⟨v364, q363⟩ := tm_atI I341 t315 (k := 19) rfl
          refine tr_getK q363 d_TrustDeskModel_isWell_1 f_TrustDeskModel_224_13 ?_
          have := R343.f (k := 19) q363 rfl
          have := (tm_rv q363).symm.trans z350
          have := tm_rv q363
          have := mz_hi v364
          refine mv_if_neZ (tgt := 11) (a := v364.toInt) d_TrustDeskModel_isWell_4 (by decide) rfl (fun b365 => ?_) (fun b365 => ?_)
          · refine mv_iconst (v := 0) d_TrustDeskModel_isWell_11 (by decide) ?_
            refine mv_iret d_TrustDeskModel_isWell_12 rfl (by decide) ?_
            refine mv_if_eq_t (tgt := 180) d_TrustDeskModel_readEnd_156 (by decide) (by decide) ?_
            exact mv_vret d_TrustDeskModel_readEnd_180 rfl ⟨_, I341, rfl, R343, E358.less (by decide), K359, K360, (fun h9 => by have u91 : rv M306 o0 19 = 0 := (by omega); have := f316.o u91; have := f317.o u91; have := f314.o u91; have u92 : rv M272 o0 19 = 0 := (by omega); have := f281.o u92; have := f282.o u92; have u93 : rv M216 o0 19 = 0 := (by omega); have := f226.o u93; have := f227.o u93; have := f224.o u93; have u94 : rv M188 o0 19 = 0 := (by omega); have := f197.o u94; have := f198.o u94; exact ⟨(by have := R343.1 15 _ _ rfl; have := R343.1 16 _ _ rfl; have := R343.1 19 _ _ rfl; omega), (by have := R343.1 15 _ _ rfl; have := R343.1 16 _ _ rfl; have := R343.1 19 _ _ rfl; omega), (by have := R343.1 15 _ _ rfl; have := R343.1 16 _ _ rfl; have := R343.1 19 _ _ rfl; omega)⟩), (by have := R343.1 15 _ _ rfl; have := R343.1 16 _ _ rfl; have := R343.1 19 _ _ rfl; omega), (fun w9 => rD.of E265 F361 w9 (by decide) (by decide) (yR.2 5 _ _ rfl 44).1 (by have := R343.1 15 _ _ rfl; have := R343.1 16 _ _ rfl; have := R343.1 19 _ _ rfl; omega))⟩
          · refine mv_iconst (v := 1) d_TrustDeskModel_isWell_7 (by decide) ?_
            refine mv_goto (tgt := 12) d_TrustDeskModel_isWell_8 (by decide) ?_
            refine mv_iret d_TrustDeskModel_isWell_12 rfl (by decide) ?_
            refine mv_if_eq_f (tgt := 180) d_TrustDeskModel_readEnd_156 (by decide) (by decide) ?_
            refine mv_aload_n d_TrustDeskModel_readEnd_159 rfl rfl ?_
            refine mv_ldcSw (id := 46) (tx := "part") d_TrustDeskModel_readEnd_160 (List.mem_of_getElem? (i := 36) rfl) ?_
            obtain ⟨_, b372, -⟩ := I341.1 _ _ t315
            refine mv_callV (kc' := 0) (ks' := 0) (As := [.ref 46]) (st9 := [.ref 46, .ref o0]) d_TrustDeskModel_readEnd_163 lV_TrustDeskModel_244 b372 rfl (tc_TrustDeskModel_isWord_s1_46_x (d := (d + 20)) (x9 := x9) (o0 := o0) t315 R343 I341.start) rfl (Nat.le_of_ble_eq_true rfl) (Nat.le_of_ble_eq_true rfl) (Nat.le_of_ble_eq_true rfl) (hst := rfl) (fun b366r M367 n368 b366 => ?_)
            obtain ⟨T369, J370, v373, rfl, b374, b375, R376, f377⟩ := b366
            have I371 := I341.call J370 (tm_sub (by decide)) (Or.inl rfl)
            have t378 := J370.up t315
            replace f377 := Im.i f377
            have z379 := (rv_c I341 J370 (I341.up h_o0) (k := 15) rfl).trans z347
            have z380 := (rv_c I341 J370 (I341.up h_o0) (k := 16) rfl).trans z348
            have z381 := (rv_c I341 J370 (I341.up h_o0) (k := 17) rfl).trans z349
            have z382 := (rv_c I341 J370 (I341.up h_o0) (k := 19) rfl).trans z350
            have z383 := (rv_c I341 J370 (I341.up h_o0) (k := 22) rfl).trans z351
            have z384 := (rv_c I341 J370 (I341.up h_o0) (k := 24) rfl).trans z352
            have z385 := (ra_call I341 J370 (I341.up h_o0) (k := 5) rfl rfl rfl 44).trans z353
            have z386 := (ra_call I341 J370 (I341.up h_o0) (k := 25) rfl rfl rfl ((rv M0 o0 24).toNat)).trans z354
            have z387 := (ra_call I341 J370 (I341.up h_o0) (k := 26) rfl rfl rfl ((rv M0 o0 24).toNat)).trans z355
            have z388 := (ra_call I341 J370 (I341.up h_o0) (k := 8) rfl rfl rfl x1.toNatClampNeg).trans z356
            have z389 := (ra_call I341 J370 (I341.up h_o0) (k := 11) rfl rfl rfl x1.toNatClampNeg).trans z357
            have E390 : rE M0 M367 o0 2 3 := E358.same (rE_hv I341 J370 (I341.up h_o0) 15 19 (by decide)) (rE_ha I341 J370 (I341.up h_o0) (by decide))
            have K391 : rK M0 M367 o0 x1.toNatClampNeg := K359.same (sA_c I341 J370 (I341.up h_o0) (by decide))
            have K392 : nN M367 o0 := K360.same (sA_c I341 J370 (I341.up h_o0) (by decide)) (sF_c I341 J370 (I341.up h_o0) (by decide))
            have F393 : rE M248 M367 o0 1 1 := F361.same (rE_hv I341 J370 (I341.up h_o0) 15 19 (by decide)) (rE_ha I341 J370 (I341.up h_o0) (by decide))
            clear z347 z348 z350 z351 z352 z353 z354 z355 z356 z357
            have q394 := J370.keep t315 (by decide) (K342 _ 13 25 _ q327)
            have t395 := J370.up t328
            have q396 := J370.keep t315 (by decide) (K342 _ 13 26 _ q329)
            have t397 := J370.up t330
            have q398 := J370.keep t315 (by decide) (K342 _ 13 8 _ q331)
            have t399 := J370.up t332
            have q400 := J370.keep t315 (by decide) (K342 _ 13 24 _ q333)
            have q401 := J370.keep t315 (by decide) (K342 _ 13 11 _ q334)
            have t402 := J370.up t335
            have q403 := J370.keep t315 (by decide) (K342 _ 13 5 _ q336)
            have t404 := J370.up t337
            have q405 := J370.keep t315 (by decide) (K342 _ 13 9 _ q338)
            have t406 := J370.up t_a339
            have q407 := J370.keep t315 (by decide) q363
            have := mz_hi v373
            refine mv_if_eqZ (tgt := 180) (a := v373.toInt) d_TrustDeskModel_readEnd_166 (by decide) rfl (fun b408 => ?_) (fun b408 => ?_)
            · exact mv_vret d_TrustDeskModel_readEnd_180 rfl ⟨_, I371, rfl, R376, E390.less (by decide), K391, K392, (fun h9 => by have u91 : rv M306 o0 19 = 0 := (by omega); have := f316.o u91; have := f317.o u91; have := f314.o u91; have u92 : rv M272 o0 19 = 0 := (by omega); have := f281.o u92; have := f282.o u92; have u93 : rv M216 o0 19 = 0 := (by omega); have := f226.o u93; have := f227.o u93; have := f224.o u93; have u94 : rv M188 o0 19 = 0 := (by omega); have := f197.o u94; have := f198.o u94; exact ⟨(by have := R376.1 15 _ _ rfl; have := R376.1 16 _ _ rfl; have := R376.1 19 _ _ rfl; omega), (by have := R376.1 15 _ _ rfl; have := R376.1 16 _ _ rfl; have := R376.1 19 _ _ rfl; omega), (by have := R376.1 15 _ _ rfl; have := R376.1 16 _ _ rfl; have := R376.1 19 _ _ rfl; omega)⟩), (by have := R376.1 15 _ _ rfl; have := R376.1 16 _ _ rfl; have := R376.1 19 _ _ rfl; omega), (fun w9 => rD.of E265 F393 w9 (by decide) (by decide) (yR.2 5 _ _ rfl 44).1 (by have := R376.1 15 _ _ rfl; have := R376.1 16 _ _ rfl; have := R376.1 19 _ _ rfl; omega))⟩
            · refine mv_aload_n d_TrustDeskModel_readEnd_169 rfl rfl ?_
              refine tr_getK (k := 9) q405 d_TrustDeskModel_readEnd_170 f_TrustDeskModel_32_13 ?_
              refine mv_iload_n d_TrustDeskModel_readEnd_173 rfl rfl ?_
              refine mv_iconst (v := 1) d_TrustDeskModel_readEnd_174 (by decide) ?_
              have := E390.1.1
              refine tr_iastR (k := 9) I371 R376 (I371.up h_o0) q405 t406 (by decide) (by decide) (fun lo hi h => by cases h) (Or.inl (by decide)) d_TrustDeskModel_readEnd_175 (vp_in_iff.mpr (by have := R376.1 15 _ _ rfl; have := R376.1 16 _ _ rfl; have := R376.1 19 _ _ rfl; omega)) (fun M409 I410 K411 R412 E413 A414 V415 => ?_)
              have z416 := (V415 15).trans z379
              have z417 := (V415 16).trans z380
              have z418 := (V415 17).trans z381
              have z419 := (V415 19).trans z382
              have z420 := (V415 22).trans z383
              have z421 := (V415 24).trans z384
              have z422 := (A414 5 (by decide) rfl 44).trans z385
              have z423 := (A414 25 (by decide) rfl ((rv M0 o0 24).toNat)).trans z386
              have z424 := (A414 26 (by decide) rfl ((rv M0 o0 24).toNat)).trans z387
              have z425 := (A414 8 (by decide) rfl x1.toNatClampNeg).trans z388
              have z426 := (A414 11 (by decide) rfl x1.toNatClampNeg).trans z389
              have E427 : rE M0 M409 o0 2 3 := E390.same (fun k _ _ => V415 k) (fun k h1 h2 => A414 k (by omega) (by rcases (show k = 4 ∨ k = 5 by omega) with rfl | rfl <;> rfl))
              have K428 : rK M0 M409 o0 x1.toNatClampNeg := K391.same (sA_a A414 (by decide))
              have K429 : nN M409 o0 := K392.same (sA_a A414 (by decide)) (sF_a V415)
              have F430 : rE M248 M409 o0 1 1 := F393.same (fun k _ _ => V415 k) (fun k h1 h2 => A414 k (by omega) (by rcases (show k = 4 ∨ k = 5 by omega) with rfl | rfl <;> rfl))
              clear z379 z380 z381 z382 z383 z384 z385 z386 z387 z388 z389
              refine mv_aload_n d_TrustDeskModel_readEnd_176 rfl rfl ?_
              obtain ⟨_, b437, -⟩ := I410.1 _ _ t378
              refine mv_callV (kc' := 0) (ks' := 0) (As := []) (st9 := [.ref o0]) d_TrustDeskModel_readEnd_177 lV_TrustDeskModel_237 b437 rfl (tc_TrustDeskModel_next_x (d := (d + 23)) (x9 := x9) (o0 := o0) t378 R412 I410.start) rfl (Nat.le_of_ble_eq_true rfl) (Nat.le_of_ble_eq_true rfl) (Nat.le_of_ble_eq_true rfl) (hst := rfl) (fun b431r M432 n433 b431 => ?_)
              obtain ⟨T434, J435, rfl, R438, f439, f440⟩ := b431
              have I436 := I410.call J435 (tm_sub (by decide)) (Or.inl rfl)
              have t441 := J435.up t378
              have z442 := (rv_c I410 J435 (I410.up h_o0) (k := 19) rfl).trans z419
              have z443 := (rv_c I410 J435 (I410.up h_o0) (k := 22) rfl).trans z420
              have z444 := (rv_c I410 J435 (I410.up h_o0) (k := 24) rfl).trans z421
              have z445 := (ra_call I410 J435 (I410.up h_o0) (k := 5) rfl rfl rfl 44).trans z422
              have z446 := (ra_call I410 J435 (I410.up h_o0) (k := 25) rfl rfl rfl ((rv M0 o0 24).toNat)).trans z423
              have z447 := (ra_call I410 J435 (I410.up h_o0) (k := 26) rfl rfl rfl ((rv M0 o0 24).toNat)).trans z424
              have z448 := (ra_call I410 J435 (I410.up h_o0) (k := 8) rfl rfl rfl x1.toNatClampNeg).trans z425
              have z449 := (ra_call I410 J435 (I410.up h_o0) (k := 11) rfl rfl rfl x1.toNatClampNeg).trans z426
              have h451 : rv M409 o0 16 + 1 ≤ rv M409 o0 15 := (by have := f377.o (by omega); have := E427.1.2.1 (by omega); omega)
              have E450 : rE M0 M432 o0 2 4 := E427.next f439 f440 (rv_c I410 J435 (I410.up h_o0) (k := 19) rfl) (rE_ha I410 J435 (I410.up h_o0) (by decide)) (e := 1) h451 (by decide)
              have K452 : rK M0 M432 o0 x1.toNatClampNeg := K428.same (sA_c I410 J435 (I410.up h_o0) (by decide))
              have K453 : nN M432 o0 := K429.same (sA_c I410 J435 (I410.up h_o0) (by decide)) (sF_c I410 J435 (I410.up h_o0) (by decide))
              have F454 : rE M248 M432 o0 1 2 := F430.next f439 f440 (rv_c I410 J435 (I410.up h_o0) (k := 19) rfl) (rE_ha I410 J435 (I410.up h_o0) (by decide)) (e := 1) (by have := R412.1 15 _ _ rfl; have := R412.1 16 _ _ rfl; have := R412.1 19 _ _ rfl; omega) (by decide)
              clear z419 z420 z421 z422 z423 z424 z425 z426
              have q455 := J435.keep t378 (by decide) (K411 _ 13 25 _ q394)
              have t456 := J435.up t395
              have q457 := J435.keep t378 (by decide) (K411 _ 13 26 _ q396)
              have t458 := J435.up t397
              have q459 := J435.keep t378 (by decide) (K411 _ 13 8 _ q398)
              have t460 := J435.up t399
              have q461 := J435.keep t378 (by decide) (K411 _ 13 24 _ q400)
              have q462 := J435.keep t378 (by decide) (K411 _ 13 11 _ q401)
              have t463 := J435.up t402
              have q464 := J435.keep t378 (by decide) (K411 _ 13 5 _ q403)
              have t465 := J435.up t404
              have q466 := J435.keep t378 (by decide) (K411 _ 13 9 _ q405)
              have t467 := J435.up t406
              have q468 := J435.keep t378 (by decide) (K411 _ 13 19 _ q407)
              exact mv_vret d_TrustDeskModel_readEnd_180 rfl ⟨_, I436, rfl, R438, E450.less (by decide), K452, K453, (fun h9 => by have u91 : rv M306 o0 19 = 0 := (by omega); have := f316.o u91; have := f317.o u91; have := f314.o u91; have u92 : rv M272 o0 19 = 0 := (by omega); have := f281.o u92; have := f282.o u92; have u93 : rv M216 o0 19 = 0 := (by omega); have := f226.o u93; have := f227.o u93; have := f224.o u93; have u94 : rv M188 o0 19 = 0 := (by omega); have := f197.o u94; have := f198.o u94; exact ⟨(by have := R438.1 15 _ _ rfl; have := R438.1 16 _ _ rfl; have := R438.1 19 _ _ rfl; omega), (by have := R438.1 15 _ _ rfl; have := R438.1 16 _ _ rfl; have := R438.1 19 _ _ rfl; omega), (by have := R438.1 15 _ _ rfl; have := R438.1 16 _ _ rfl; have := R438.1 19 _ _ rfl; omega)⟩), (by have := R438.1 15 _ _ rfl; have := R438.1 16 _ _ rfl; have := R438.1 19 _ _ rfl; omega), (fun w9 => rD.of E265 F454 w9 (by decide) (by decide) (yR.2 5 _ _ rfl 44).1 (by have := R438.1 15 _ _ rfl; have := R438.1 16 _ _ rfl; have := R438.1 19 _ _ rfl; omega))⟩
      · refine mv_aload_n d_TrustDeskModel_readEnd_37 rfl rfl ?_
        refine mv_iconst (v := 3) d_TrustDeskModel_readEnd_38 (by decide) ?_
        obtain ⟨_, b475, -⟩ := I41.1 _ _ t47
        have : (3 : Int32).toInt = 3 := by decide
        refine mv_callV (kc' := 0) (ks' := 0) (As := [.int 3]) (st9 := [.int 3, .ref o0]) d_TrustDeskModel_readEnd_39 lV_TrustDeskModel_240 b475 rfl (tc_TrustDeskModel_fails_x (d := (d + 24)) (x9 := x9) (o0 := o0) (x1 := 3) t47 R46 (by decide) I41.start) rfl (Nat.le_of_ble_eq_true rfl) (Nat.le_of_ble_eq_true rfl) (Nat.le_of_ble_eq_true rfl) (hst := rfl) (fun b469r M470 n471 b469 => ?_)
        obtain ⟨T472, J473, rfl, R476, f477⟩ := b469
        have I474 := I41.call J473 (tm_sub (by decide)) (Or.inl rfl)
        have t478 := J473.up t47
        have z479 := (rv_c I41 J473 (I41.up h_o0) (k := 15) rfl).trans z48
        have z480 := (rv_c I41 J473 (I41.up h_o0) (k := 16) rfl).trans z49
        have z481 := (rv_c I41 J473 (I41.up h_o0) (k := 17) rfl).trans z50
        have z482 := (rv_c I41 J473 (I41.up h_o0) (k := 22) rfl).trans z52
        have z483 := (rv_c I41 J473 (I41.up h_o0) (k := 24) rfl).trans z53
        have z484 := (ra_call I41 J473 (I41.up h_o0) (k := 5) rfl rfl rfl 44).trans z54
        have E485 : rE M0 M470 o0 0 0 := E55.fails (rE_hv I41 J473 (I41.up h_o0) 15 18 (by decide)) (rE_ha I41 J473 (I41.up h_o0) (by decide)) f477 0 0
        have K486 : rK M0 M470 o0 x1.toNatClampNeg := K56.same (sA_c I41 J473 (I41.up h_o0) (by decide))
        have K487 : nN M470 o0 := K57.same (sA_c I41 J473 (I41.up h_o0) (by decide)) (sF_c I41 J473 (I41.up h_o0) (by decide))
        clear z48 z49 z50 z52 z53 z54
        have q488 := J473.keep t47 (by decide) q58
        have q489 := J473.keep t47 (by decide) q59
        have q490 := J473.keep t47 (by decide) q60
        refine mv_aload_n d_TrustDeskModel_readEnd_42 rfl rfl ?_
        obtain ⟨_, b491, -⟩ := I474.1 _ _ t478
        refine mv_callV (kc1 := 0) (ks1 := 0) (kc' := 0) (ks' := 0) (As := []) (st9 := [.ref o0]) d_TrustDeskModel_readEnd_43 lV_TrustDeskModel_230 b491 rfl (mj_enter (by decide) (Nat.le_of_ble_eq_true rfl) ?_) rfl (Nat.le_of_ble_eq_true rfl) (Nat.le_of_ble_eq_true rfl) (Nat.le_of_ble_eq_true rfl) (hst := rfl) (fun _ _ _ h => h)
        refine mv_aload_n d_TrustDeskModel_isWell_0 rfl rfl ?_
        obtain ⟨v493, q492⟩ := tm_atI I474 t478 (k := 19) rfl
        refine tr_getK q492 d_TrustDeskModel_isWell_1 f_TrustDeskModel_224_13 ?_
        have := R476.f (k := 19) q492 rfl
        have := tm_rv q492
        refine mv_if_neZ (tgt := 11) (a := v493.toInt) d_TrustDeskModel_isWell_4 (by decide) rfl (fun b494 => ?_) (fun b494 => ?_)
        · refine mv_iconst (v := 0) d_TrustDeskModel_isWell_11 (by decide) ?_
          refine mv_iret d_TrustDeskModel_isWell_12 rfl (by decide) ?_
          refine mv_if_ne_f (tgt := 50) d_TrustDeskModel_readEnd_46 (by decide) (by decide) ?_
          exact mv_vret d_TrustDeskModel_readEnd_49 rfl ⟨_, I474, rfl, R476, E485.vac (by have := R476.1 15 _ _ rfl; have := R476.1 16 _ _ rfl; have := R476.1 19 _ _ rfl; omega) 2 0, K486, K487, (fun h9 => absurd h9 (by have := R476.1 15 _ _ rfl; have := R476.1 16 _ _ rfl; have := R476.1 19 _ _ rfl; omega)), (by have := R476.1 15 _ _ rfl; have := R476.1 16 _ _ rfl; have := R476.1 19 _ _ rfl; omega), (fun h9 => absurd h9 (by have := R476.1 15 _ _ rfl; have := R476.1 16 _ _ rfl; have := R476.1 19 _ _ rfl; omega))⟩
        · exfalso
          have := R476.1 15 _ _ rfl; have := R476.1 16 _ _ rfl; have := R476.1 19 _ _ rfl; omega
    · refine mv_aload_n d_TrustDeskModel_readEnd_22 rfl rfl ?_
      refine mv_iconst (v := 1) d_TrustDeskModel_readEnd_23 (by decide) ?_
      obtain ⟨_, b501, -⟩ := I0.1 _ _ h_o0
      have : (1 : Int32).toInt = 1 := by decide
      refine mv_callV (kc' := 0) (ks' := 0) (As := [.int 1]) (st9 := [.int 1, .ref o0]) d_TrustDeskModel_readEnd_24 lV_TrustDeskModel_240 b501 rfl (tc_TrustDeskModel_fails_x (d := (d + 24)) (x9 := x9) (o0 := o0) (x1 := 1) h_o0 yR (by decide) I0.start) rfl (Nat.le_of_ble_eq_true rfl) (Nat.le_of_ble_eq_true rfl) (Nat.le_of_ble_eq_true rfl) (hst := rfl) (fun b495r M496 n497 b495 => ?_)
      obtain ⟨T498, J499, rfl, R502, f503⟩ := b495
      have I500 := I0.call J499 (tm_sub (by decide)) (Or.inl rfl)
      have t504 := J499.up h_o0
      have z505 := (rv_c I0 J499 (I0.up h_o0) (k := 15) rfl)
      have z506 := (rv_c I0 J499 (I0.up h_o0) (k := 16) rfl)
      have z507 := (rv_c I0 J499 (I0.up h_o0) (k := 17) rfl)
      have z508 := (rv_c I0 J499 (I0.up h_o0) (k := 22) rfl)
      have z509 := (rv_c I0 J499 (I0.up h_o0) (k := 24) rfl)
      have z510 := (ra_call I0 J499 (I0.up h_o0) (k := 5) rfl rfl rfl 44)
      have E511 : rE M0 M496 o0 0 0 := yE0.fails (rE_hv I0 J499 (I0.up h_o0) 15 18 (by decide)) (rE_ha I0 J499 (I0.up h_o0) (by decide)) f503 0 0
      have K512 : rK M0 M496 o0 x1.toNatClampNeg := K1.same (sA_c I0 J499 (I0.up h_o0) (by decide))
      have K513 : nN M496 o0 := K2.same (sA_c I0 J499 (I0.up h_o0) (by decide)) (sF_c I0 J499 (I0.up h_o0) (by decide))
      have q514 := J499.keep h_o0 (by decide) q3
      have q515 := J499.keep h_o0 (by decide) q30
      have q516 := J499.keep h_o0 (by decide) q32
      refine mv_goto (tgt := 42) d_TrustDeskModel_readEnd_27 (by decide) ?_
      refine mv_aload_n d_TrustDeskModel_readEnd_42 rfl rfl ?_
      obtain ⟨_, b517, -⟩ := I500.1 _ _ t504
      refine mv_callV (kc1 := 0) (ks1 := 0) (kc' := 0) (ks' := 0) (As := []) (st9 := [.ref o0]) d_TrustDeskModel_readEnd_43 lV_TrustDeskModel_230 b517 rfl (mj_enter (by decide) (Nat.le_of_ble_eq_true rfl) ?_) rfl (Nat.le_of_ble_eq_true rfl) (Nat.le_of_ble_eq_true rfl) (Nat.le_of_ble_eq_true rfl) (hst := rfl) (fun _ _ _ h => h)
      refine mv_aload_n d_TrustDeskModel_isWell_0 rfl rfl ?_
      obtain ⟨v519, q518⟩ := tm_atI I500 t504 (k := 19) rfl
      refine tr_getK q518 d_TrustDeskModel_isWell_1 f_TrustDeskModel_224_13 ?_
      have := R502.f (k := 19) q518 rfl
      have := tm_rv q518
      refine mv_if_neZ (tgt := 11) (a := v519.toInt) d_TrustDeskModel_isWell_4 (by decide) rfl (fun b520 => ?_) (fun b520 => ?_)
      · refine mv_iconst (v := 0) d_TrustDeskModel_isWell_11 (by decide) ?_
        refine mv_iret d_TrustDeskModel_isWell_12 rfl (by decide) ?_
        refine mv_if_ne_f (tgt := 50) d_TrustDeskModel_readEnd_46 (by decide) (by decide) ?_
        exact mv_vret d_TrustDeskModel_readEnd_49 rfl ⟨_, I500, rfl, R502, E511.vac (by have := R502.1 15 _ _ rfl; have := R502.1 16 _ _ rfl; have := R502.1 19 _ _ rfl; omega) 2 0, K512, K513, (fun h9 => absurd h9 (by have := R502.1 15 _ _ rfl; have := R502.1 16 _ _ rfl; have := R502.1 19 _ _ rfl; omega)), (by have := R502.1 15 _ _ rfl; have := R502.1 16 _ _ rfl; have := R502.1 19 _ _ rfl; omega), (fun h9 => absurd h9 (by have := R502.1 15 _ _ rfl; have := R502.1 16 _ _ rfl; have := R502.1 19 _ _ rfl; omega))⟩
      · exfalso
        have := R502.1 15 _ _ rfl; have := R502.1 16 _ _ rfl; have := R502.1 19 _ _ rfl; omega
