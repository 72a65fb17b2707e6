abbrev kY_TrustDeskModel_firstDead : mj_Y := (⟨"TrustDeskModel", "firstDead", "(I)I"⟩, prog_14_method_78_code, 3, (Option.some Jvm.ClassFile.FieldType.int))
theorem d_TrustDeskModel_firstDead_0 : decode kY_TrustDeskModel_firstDead.2.1 0 = .ok (.iconst 0, 1) := by decide +kernel
theorem d_TrustDeskModel_firstDead_1 : decode kY_TrustDeskModel_firstDead.2.1 1 = .ok (.istore_n 2, 1) := by decide +kernel
theorem d_TrustDeskModel_firstDead_2 : decode kY_TrustDeskModel_firstDead.2.1 2 = .ok (.iload_n 2, 1) := by decide +kernel
theorem d_TrustDeskModel_firstDead_3 : decode kY_TrustDeskModel_firstDead.2.1 3 = .ok (.aload_n 0, 1) := by decide +kernel
theorem d_TrustDeskModel_firstDead_4 : decode kY_TrustDeskModel_firstDead.2.1 4 = .ok (.getfield 98, 3) := by decide +kernel
theorem d_TrustDeskModel_firstDead_7 : decode kY_TrustDeskModel_firstDead.2.1 7 = .ok (.iload_n 1, 1) := by decide +kernel
theorem d_TrustDeskModel_firstDead_8 : decode kY_TrustDeskModel_firstDead.2.1 8 = .ok (.iaload, 1) := by decide +kernel
theorem d_TrustDeskModel_firstDead_9 : decode kY_TrustDeskModel_firstDead.2.1 9 = .ok (.if_icmp .ge 26, 3) := by decide +kernel
theorem d_TrustDeskModel_firstDead_35 : decode kY_TrustDeskModel_firstDead.2.1 35 = .ok (.iconst (-1), 1) := by decide +kernel
theorem d_TrustDeskModel_firstDead_36 : decode kY_TrustDeskModel_firstDead.2.1 36 = .ok (.ireturn, 1) := by decide +kernel
theorem d_TrustDeskModel_firstDead_12 : decode kY_TrustDeskModel_firstDead.2.1 12 = .ok (.aload_n 0, 1) := by decide +kernel
theorem d_TrustDeskModel_firstDead_13 : decode kY_TrustDeskModel_firstDead.2.1 13 = .ok (.getfield 107, 3) := by decide +kernel
theorem d_TrustDeskModel_firstDead_16 : decode kY_TrustDeskModel_firstDead.2.1 16 = .ok (.bipush 80, 2) := by decide +kernel
theorem d_TrustDeskModel_firstDead_18 : decode kY_TrustDeskModel_firstDead.2.1 18 = .ok (.iload_n 1, 1) := by decide +kernel
theorem d_TrustDeskModel_firstDead_19 : decode kY_TrustDeskModel_firstDead.2.1 19 = .ok (.imul, 1) := by decide +kernel
theorem d_TrustDeskModel_firstDead_20 : decode kY_TrustDeskModel_firstDead.2.1 20 = .ok (.iload_n 2, 1) := by decide +kernel
theorem d_TrustDeskModel_firstDead_21 : decode kY_TrustDeskModel_firstDead.2.1 21 = .ok (.iadd, 1) := by decide +kernel
theorem d_TrustDeskModel_firstDead_22 : decode kY_TrustDeskModel_firstDead.2.1 22 = .ok (.iaload, 1) := by decide +kernel
theorem d_TrustDeskModel_firstDead_23 : decode kY_TrustDeskModel_firstDead.2.1 23 = .ok (.iconst 1, 1) := by decide +kernel
theorem d_TrustDeskModel_firstDead_24 : decode kY_TrustDeskModel_firstDead.2.1 24 = .ok (.if_icmp .ne 5, 3) := by decide +kernel
theorem d_TrustDeskModel_firstDead_29 : decode kY_TrustDeskModel_firstDead.2.1 29 = .ok (.iinc 2 1, 3) := by decide +kernel
theorem d_TrustDeskModel_firstDead_32 : decode kY_TrustDeskModel_firstDead.2.1 32 = .ok (.goto (-30), 3) := by decide +kernel
theorem d_TrustDeskModel_firstDead_27 : decode kY_TrustDeskModel_firstDead.2.1 27 = .ok (.iload_n 2, 1) := by decide +kernel
theorem d_TrustDeskModel_firstDead_28 : decode kY_TrustDeskModel_firstDead.2.1 28 = .ok (.ireturn, 1) := by decide +kernel
def w_TrustDeskModel_firstDead_x : List Nat := []
set_option maxHeartbeats 100000000 in theorem tc_TrustDeskModel_firstDead_x {g : mj_G} {l : Launch} {d : Nat} {T0 : tm_H} {M0 : mj_M} {n0 x9 : Nat} {o0 : Nat} {x1 : Int32} (h_o0 : T0 o0 = some (0, 13, 0)) (hn0 : 0 ≤ x1.toInt ∧ x1.toInt ≤ 11) (yR : rI M0 o0) (I0 : tm_I tm_FT (tm_in w_TrustDeskModel_firstDead_x) x9 T0 M0 n0 T0 M0 n0) : mj_Met g l kY_TrustDeskModel_firstDead d [.ref o0, .int x1] M0 n0 0 0 (tm_Q tm_FT (tm_in w_TrustDeskModel_firstDead_x) x9 T0 M0 n0 (fun r _ M => ∃ v : Int32, r = some (.int v) ∧ rI M o0 ∧ (v.toInt = -1 → ¬ rD1 M0 o0 x1.toNatClampNeg) ∧ (v.toInt ≠ -1 → 0 ≤ v.toInt ∧ v.toInt < ra M0 o0 43 x1.toNatClampNeg ∧ ra M0 o0 46 (80 * x1.toNatClampNeg + v.toInt.toNat) = 1))) := by
  refine mj_enter (by decide) (Nat.le_of_ble_eq_true rfl) ?_
  have K1 : sA [43, 46] M0 M0 o0 := sA.rf
  have K2 : ∀ e : Nat, (e : Int) < 0 → ra M0 o0 46 (80 * x1.toNatClampNeg + e) ≠ 1 := (fun e9 h9 => by omega)
  refine mv_iconst (v := 0) d_TrustDeskModel_firstDead_0 (by decide) ?_
  refine mv_istore_n (lv' := [(2, .int 0), (0, .ref o0), (1, .int x1)]) d_TrustDeskModel_firstDead_1 rfl (by decide) rfl ?_
  have L2_3 : ∀ (k : Nat) (i2_3 : Int32) (T_3 : tm_H) (M_3 : mj_M) (n_3 : Nat), tm_I tm_FT (tm_in w_TrustDeskModel_firstDead_x) x9 T0 M0 n0 T_3 M_3 n_3 → T_3 o0 = some (0, 13, 0) → 0 ≤ i2_3.toInt → rv M_3 o0 32 = rv M_3 o0 32 → (rI M_3 o0) → (sA [43, 46] M0 M_3 o0) → (∀ e : Nat, (e : Int) < i2_3.toInt → ra M0 o0 46 (80 * x1.toNatClampNeg + e) ≠ 1) → 2147483647 - i2_3.toInt < (k : Int) → mj_V g l kY_TrustDeskModel_firstDead d 2 [(2, .int i2_3), (0, .ref o0), (1, .int x1)] [] M_3 n_3 0 0 (tm_Q tm_FT (tm_in w_TrustDeskModel_firstDead_x) x9 T0 M0 n0 (fun r _ M => ∃ v : Int32, r = some (.int v) ∧ rI M o0 ∧ (v.toInt = -1 → ¬ rD1 M0 o0 x1.toNatClampNeg) ∧ (v.toInt ≠ -1 → 0 ≤ v.toInt ∧ v.toInt < ra M0 o0 43 x1.toNatClampNeg ∧ ra M0 o0 46 (80 * x1.toNatClampNeg + v.toInt.toNat) = 1))) := by
    intro k3
    induction k3 with
    | zero =>
      intro i2_3 T_3 M_3 n_3 I_3 h_q0_3 iv0_3 iv1_3 kKR_3 kKSD_3 kKD1_3 hk3
      have := mz_hi i2_3
      have := kKR_3.1 15 _ _ rfl
      have := kKR_3.1 16 _ _ rfl
      have := kKR_3.1 19 _ _ rfl
      omega
    | succ k3 ih3 =>
      intro i2_3 T_3 M_3 n_3 I_3 h_q0_3 iv0_3 iv1_3 kKR_3 kKSD_3 kKD1_3 hk3
      refine mv_iload_n d_TrustDeskModel_firstDead_2 rfl rfl ?_
      refine mv_aload_n d_TrustDeskModel_firstDead_3 rfl rfl ?_
      obtain ⟨a5, q4, t_a5⟩ := tm_atR I_3 h_q0_3 (k := 43) rfl
      refine tr_getK q4 d_TrustDeskModel_firstDead_4 f_TrustDeskModel_98_13 ?_
      refine mv_iload_n d_TrustDeskModel_firstDead_7 rfl rfl ?_
      refine tr_ialdR (o := o0) (k := 43) I_3 q4 t_a5 (by decide) d_TrustDeskModel_firstDead_8 (vp_in_iff.mpr (by omega)) (fun v6 e7 => ?_)
      have := kKR_3.a (k := 43) rfl (x1 : Int32).toNatClampNeg
      have : v6.toInt = ra M0 o0 43 x1.toNatClampNeg := e7.trans (congrFun (kKSD_3 43 rfl) _)
      have := mz_hi i2_3
      have := mz_hi v6
      refine mv_icmp_geZ (tgt := 35) (a := i2_3.toInt) (b := v6.toInt) d_TrustDeskModel_firstDead_9 (by decide) rfl rfl (fun b8 => ?_) (fun b8 => ?_)
      · refine mv_iconst (v := (-1)) d_TrustDeskModel_firstDead_35 (by decide) ?_
        exact mv_iret d_TrustDeskModel_firstDead_36 rfl (by first | rfl | decide) ⟨_, I_3, _, rfl, kKR_3, (fun _ h7 => by obtain ⟨e9, h8, h9⟩ := h7; exact kKD1_3 e9 (by omega) h9), (fun h9 => absurd (by decide) h9)⟩
      · refine mv_aload_n d_TrustDeskModel_firstDead_12 rfl rfl ?_
        obtain ⟨a10, q9, t_a10⟩ := tm_atR I_3 h_q0_3 (k := 46) rfl
        refine tr_getK q9 d_TrustDeskModel_firstDead_13 f_TrustDeskModel_107_13 ?_
        refine mv_bipush (v := 80) d_TrustDeskModel_firstDead_16 (by decide) ?_
        refine mv_iload_n d_TrustDeskModel_firstDead_18 rfl rfl ?_
        refine mv_imul d_TrustDeskModel_firstDead_19 ?_
        refine mv_iload_n d_TrustDeskModel_firstDead_20 rfl rfl ?_
        refine mv_iadd d_TrustDeskModel_firstDead_21 ?_
        have b11 : (80 * x1 : Int32).toInt = (80 * x1.toInt) := mz_mul2 (by decide) rfl (by omega) (by omega)
        have b12 : ((80 * x1) + i2_3 : Int32).toInt = ((80 * x1.toInt) + i2_3.toInt) := mz_add2 b11 rfl (by omega) (by omega)
        refine tr_ialdR (o := o0) (k := 46) I_3 q9 t_a10 (by decide) d_TrustDeskModel_firstDead_22 (vp_in_iff.mpr (by omega)) (fun v13 e14 => ?_)
        have h15 : ((80 * x1) + i2_3).toNatClampNeg = 80 * x1.toNatClampNeg + i2_3.toInt.toNat := by have := mz_nat9 (i := ((80 * x1) + i2_3)) (by omega); have := mz_nat9 (i := x1) (by omega); omega
        have q16 : v13.toInt = ra M0 o0 46 (80 * x1.toNatClampNeg + i2_3.toInt.toNat) := by rw [e14, h15]; exact congrFun (kKSD_3 46 rfl) _
        refine mv_iconst (v := 1) d_TrustDeskModel_firstDead_23 (by decide) ?_
        have := mz_hi v13
        refine mv_icmp_neZ (tgt := 29) (a := v13.toInt) (b := 1) d_TrustDeskModel_firstDead_24 (by decide) rfl (by decide) (fun b17 => ?_) (fun b17 => ?_)
        · refine mv_iinc (v := (i2_3 + 1)) (lv' := [(2, .int (i2_3 + 1)), (0, .ref o0), (1, .int x1)]) d_TrustDeskModel_firstDead_29 rfl rfl (by decide) rfl ?_
          refine mv_goto (tgt := 2) d_TrustDeskModel_firstDead_32 (by decide) ?_
          have b18 : (i2_3 + 1 : Int32).toInt = (i2_3.toInt + 1) := mz_add2 rfl (by decide) (by omega) (by omega)
          have K19 : ∀ e : Nat, (e : Int) < (i2_3 + 1).toInt → ra M0 o0 46 (80 * x1.toNatClampNeg + e) ≠ 1 := d1_step kKD1_3 (by omega) (fun e9 h9 => by rw [show e9 = i2_3.toInt.toNat from by omega, ← q16]; omega)
          have b20 : (i2_3 + 1).toInt = i2_3.toInt + 1 := mz_addn 1 1 (by decide) (by have := mz_lo i2_3; omega) (by have := mz_hi i2_3; omega)
          exact (ih3 (i2_3 + 1) T_3 M_3 n_3 I_3 h_q0_3 (by first | omega | decide | exact fun h9 => absurd (by decide) h9) (by first | omega | decide | exact fun h9 => absurd (by decide) h9) kKR_3 kKSD_3 K19 (by omega))
        · refine mv_iload_n d_TrustDeskModel_firstDead_27 rfl rfl ?_
          exact mv_iret d_TrustDeskModel_firstDead_28 rfl (by first | rfl | decide) ⟨_, I_3, _, rfl, kKR_3, (fun h9 => by exfalso; omega), (fun _ => ⟨by omega, by omega, by rw [← q16]; omega⟩)⟩
  have : (0 : Int32).toInt = 0 := by decide
  exact mv_less (Nat.zero_le _) (Nat.zero_le _) (L2_3 4294967296 0 T0 M0 n0 I0 h_o0 (by first | omega | decide | exact fun h9 => absurd (by decide) h9) (by first | omega | decide | exact fun h9 => absurd (by decide) h9) yR K1 K2 (by show (2147483647 - (0 : Int) : Int) < _; decide))
abbrev kY_TrustDeskModel_canBe : mj_Y := (⟨"TrustDeskModel", "canBe", "(I)Z"⟩, prog_14_method_79_code, 4, (Option.some Jvm.ClassFile.FieldType.boolean))
theorem d_TrustDeskModel_canBe_0 : decode kY_TrustDeskModel_canBe.2.1 0 = .ok (.aload_n 0, 1) := by decide +kernel
theorem d_TrustDeskModel_canBe_1 : decode kY_TrustDeskModel_canBe.2.1 1 = .ok (.getfield 125, 3) := by decide +kernel
theorem d_TrustDeskModel_canBe_4 : decode kY_TrustDeskModel_canBe.2.1 4 = .ok (.iload_n 1, 1) := by decide +kernel
theorem d_TrustDeskModel_canBe_5 : decode kY_TrustDeskModel_canBe.2.1 5 = .ok (.iaload, 1) := by decide +kernel
theorem d_TrustDeskModel_canBe_6 : decode kY_TrustDeskModel_canBe.2.1 6 = .ok (.istore_n 2, 1) := by decide +kernel
theorem d_TrustDeskModel_canBe_7 : decode kY_TrustDeskModel_canBe.2.1 7 = .ok (.aload_n 0, 1) := by decide +kernel
theorem d_TrustDeskModel_canBe_8 : decode kY_TrustDeskModel_canBe.2.1 8 = .ok (.getfield 128, 3) := by decide +kernel
theorem d_TrustDeskModel_canBe_11 : decode kY_TrustDeskModel_canBe.2.1 11 = .ok (.iload_n 1, 1) := by decide +kernel
theorem d_TrustDeskModel_canBe_12 : decode kY_TrustDeskModel_canBe.2.1 12 = .ok (.iaload, 1) := by decide +kernel
theorem d_TrustDeskModel_canBe_13 : decode kY_TrustDeskModel_canBe.2.1 13 = .ok (.istore_n 3, 1) := by decide +kernel
theorem d_TrustDeskModel_canBe_14 : decode kY_TrustDeskModel_canBe.2.1 14 = .ok (.aload_n 0, 1) := by decide +kernel
theorem d_TrustDeskModel_canBe_15 : decode kY_TrustDeskModel_canBe.2.1 15 = .ok (.iload_n 2, 1) := by decide +kernel
theorem d_TrustDeskModel_canBe_16 : decode kY_TrustDeskModel_canBe.2.1 16 = .ok (.invokevirtual 492, 3) := by decide +kernel
theorem d_TrustDeskModel_canBe_19 : decode kY_TrustDeskModel_canBe.2.1 19 = .ok (.ifCond .ne 5, 3) := by decide +kernel
theorem d_TrustDeskModel_canBe_22 : decode kY_TrustDeskModel_canBe.2.1 22 = .ok (.iconst 0, 1) := by decide +kernel
theorem d_TrustDeskModel_canBe_23 : decode kY_TrustDeskModel_canBe.2.1 23 = .ok (.ireturn, 1) := by decide +kernel
theorem d_TrustDeskModel_canBe_24 : decode kY_TrustDeskModel_canBe.2.1 24 = .ok (.aload_n 0, 1) := by decide +kernel
theorem d_TrustDeskModel_canBe_25 : decode kY_TrustDeskModel_canBe.2.1 25 = .ok (.getfield 122, 3) := by decide +kernel
theorem d_TrustDeskModel_canBe_28 : decode kY_TrustDeskModel_canBe.2.1 28 = .ok (.iload_n 1, 1) := by decide +kernel
theorem d_TrustDeskModel_canBe_29 : decode kY_TrustDeskModel_canBe.2.1 29 = .ok (.iaload, 1) := by decide +kernel
theorem d_TrustDeskModel_canBe_30 : decode kY_TrustDeskModel_canBe.2.1 30 = .ok (.tableswitch 108 0 2 #[26, 41, 92], 26) := by decide +kernel
theorem d_TrustDeskModel_canBe_138 : decode kY_TrustDeskModel_canBe.2.1 138 = .ok (.iload_n 3, 1) := by decide +kernel
theorem d_TrustDeskModel_canBe_139 : decode kY_TrustDeskModel_canBe.2.1 139 = .ok (.aload_n 0, 1) := by decide +kernel
theorem d_TrustDeskModel_canBe_140 : decode kY_TrustDeskModel_canBe.2.1 140 = .ok (.getfield 98, 3) := by decide +kernel
theorem d_TrustDeskModel_canBe_143 : decode kY_TrustDeskModel_canBe.2.1 143 = .ok (.iload_n 2, 1) := by decide +kernel
theorem d_TrustDeskModel_canBe_144 : decode kY_TrustDeskModel_canBe.2.1 144 = .ok (.iaload, 1) := by decide +kernel
theorem d_TrustDeskModel_canBe_145 : decode kY_TrustDeskModel_canBe.2.1 145 = .ok (.if_icmp .ge 22, 3) := by decide +kernel
theorem d_TrustDeskModel_canBe_167 : decode kY_TrustDeskModel_canBe.2.1 167 = .ok (.iconst 0, 1) := by decide +kernel
theorem d_TrustDeskModel_canBe_168 : decode kY_TrustDeskModel_canBe.2.1 168 = .ok (.ireturn, 1) := by decide +kernel
theorem d_TrustDeskModel_canBe_148 : decode kY_TrustDeskModel_canBe.2.1 148 = .ok (.aload_n 0, 1) := by decide +kernel
theorem d_TrustDeskModel_canBe_149 : decode kY_TrustDeskModel_canBe.2.1 149 = .ok (.getfield 107, 3) := by decide +kernel
theorem d_TrustDeskModel_canBe_152 : decode kY_TrustDeskModel_canBe.2.1 152 = .ok (.bipush 80, 2) := by decide +kernel
theorem d_TrustDeskModel_canBe_154 : decode kY_TrustDeskModel_canBe.2.1 154 = .ok (.iload_n 2, 1) := by decide +kernel
theorem d_TrustDeskModel_canBe_155 : decode kY_TrustDeskModel_canBe.2.1 155 = .ok (.imul, 1) := by decide +kernel
theorem d_TrustDeskModel_canBe_156 : decode kY_TrustDeskModel_canBe.2.1 156 = .ok (.iload_n 3, 1) := by decide +kernel
theorem d_TrustDeskModel_canBe_157 : decode kY_TrustDeskModel_canBe.2.1 157 = .ok (.iadd, 1) := by decide +kernel
theorem d_TrustDeskModel_canBe_158 : decode kY_TrustDeskModel_canBe.2.1 158 = .ok (.iaload, 1) := by decide +kernel
theorem d_TrustDeskModel_canBe_159 : decode kY_TrustDeskModel_canBe.2.1 159 = .ok (.iconst 2, 1) := by decide +kernel
theorem d_TrustDeskModel_canBe_160 : decode kY_TrustDeskModel_canBe.2.1 160 = .ok (.if_icmp .eq 7, 3) := by decide +kernel
theorem d_TrustDeskModel_canBe_163 : decode kY_TrustDeskModel_canBe.2.1 163 = .ok (.iconst 1, 1) := by decide +kernel
theorem d_TrustDeskModel_canBe_164 : decode kY_TrustDeskModel_canBe.2.1 164 = .ok (.goto 4, 3) := by decide +kernel
theorem d_TrustDeskModel_canBe_56 : decode kY_TrustDeskModel_canBe.2.1 56 = .ok (.aload_n 0, 1) := by decide +kernel
theorem d_TrustDeskModel_canBe_57 : decode kY_TrustDeskModel_canBe.2.1 57 = .ok (.iload_n 2, 1) := by decide +kernel
theorem d_TrustDeskModel_canBe_58 : decode kY_TrustDeskModel_canBe.2.1 58 = .ok (.invokevirtual 515, 3) := by decide +kernel
theorem lV_TrustDeskModel_515 : mj_lV "TrustDeskModel" 515 kY_TrustDeskModel_firstDead 1 := ⟨⟨(mj_in1 (List.mem_of_getElem? (i := 1957) (by decide +kernel)) rfl), (mj_in1 (List.mem_of_getElem? (i := 10) (by decide +kernel)) rfl), (mj_in1 (List.mem_of_getElem? (i := 1960) (by decide +kernel)) rfl), by decide, rfl, by decide⟩, (mj_in1 (List.mem_of_getElem? (i := 1959) (by decide +kernel)) rfl), (mj_in (List.mem_append_left _ (List.mem_of_getElem? (i := 129) (by decide +kernel))) rfl)⟩
theorem d_TrustDeskModel_canBe_61 : decode kY_TrustDeskModel_canBe.2.1 61 = .ok (.iconst (-1), 1) := by decide +kernel
theorem d_TrustDeskModel_canBe_62 : decode kY_TrustDeskModel_canBe.2.1 62 = .ok (.if_icmp .eq 7, 3) := by decide +kernel
theorem d_TrustDeskModel_canBe_69 : decode kY_TrustDeskModel_canBe.2.1 69 = .ok (.iconst 0, 1) := by decide +kernel
theorem d_TrustDeskModel_canBe_70 : decode kY_TrustDeskModel_canBe.2.1 70 = .ok (.ireturn, 1) := by decide +kernel
theorem d_TrustDeskModel_canBe_65 : decode kY_TrustDeskModel_canBe.2.1 65 = .ok (.iconst 1, 1) := by decide +kernel
theorem d_TrustDeskModel_canBe_66 : decode kY_TrustDeskModel_canBe.2.1 66 = .ok (.goto 4, 3) := by decide +kernel
theorem d_TrustDeskModel_canBe_71 : decode kY_TrustDeskModel_canBe.2.1 71 = .ok (.aload_n 0, 1) := by decide +kernel
theorem d_TrustDeskModel_canBe_72 : decode kY_TrustDeskModel_canBe.2.1 72 = .ok (.iload_n 3, 1) := by decide +kernel
theorem d_TrustDeskModel_canBe_73 : decode kY_TrustDeskModel_canBe.2.1 73 = .ok (.invokevirtual 492, 3) := by decide +kernel
theorem d_TrustDeskModel_canBe_76 : decode kY_TrustDeskModel_canBe.2.1 76 = .ok (.ifCond .eq 44, 3) := by decide +kernel
theorem d_TrustDeskModel_canBe_120 : decode kY_TrustDeskModel_canBe.2.1 120 = .ok (.iconst 0, 1) := by decide +kernel
theorem d_TrustDeskModel_canBe_121 : decode kY_TrustDeskModel_canBe.2.1 121 = .ok (.ireturn, 1) := by decide +kernel
theorem d_TrustDeskModel_canBe_79 : decode kY_TrustDeskModel_canBe.2.1 79 = .ok (.iload_n 3, 1) := by decide +kernel
theorem d_TrustDeskModel_canBe_80 : decode kY_TrustDeskModel_canBe.2.1 80 = .ok (.iload_n 2, 1) := by decide +kernel
theorem d_TrustDeskModel_canBe_81 : decode kY_TrustDeskModel_canBe.2.1 81 = .ok (.if_icmp .eq 39, 3) := by decide +kernel
theorem d_TrustDeskModel_canBe_84 : decode kY_TrustDeskModel_canBe.2.1 84 = .ok (.aload_n 0, 1) := by decide +kernel
theorem d_TrustDeskModel_canBe_85 : decode kY_TrustDeskModel_canBe.2.1 85 = .ok (.getfield 98, 3) := by decide +kernel
theorem d_TrustDeskModel_canBe_88 : decode kY_TrustDeskModel_canBe.2.1 88 = .ok (.iload_n 2, 1) := by decide +kernel
theorem d_TrustDeskModel_canBe_89 : decode kY_TrustDeskModel_canBe.2.1 89 = .ok (.iaload, 1) := by decide +kernel
theorem d_TrustDeskModel_canBe_90 : decode kY_TrustDeskModel_canBe.2.1 90 = .ok (.aload_n 0, 1) := by decide +kernel
theorem d_TrustDeskModel_canBe_91 : decode kY_TrustDeskModel_canBe.2.1 91 = .ok (.iload_n 2, 1) := by decide +kernel
theorem d_TrustDeskModel_canBe_92 : decode kY_TrustDeskModel_canBe.2.1 92 = .ok (.iconst 2, 1) := by decide +kernel
theorem d_TrustDeskModel_canBe_93 : decode kY_TrustDeskModel_canBe.2.1 93 = .ok (.invokevirtual 441, 3) := by decide +kernel
theorem d_TrustDeskModel_canBe_96 : decode kY_TrustDeskModel_canBe.2.1 96 = .ok (.isub, 1) := by decide +kernel
theorem d_TrustDeskModel_canBe_97 : decode kY_TrustDeskModel_canBe.2.1 97 = .ok (.aload_n 0, 1) := by decide +kernel
theorem d_TrustDeskModel_canBe_98 : decode kY_TrustDeskModel_canBe.2.1 98 = .ok (.getfield 98, 3) := by decide +kernel
theorem d_TrustDeskModel_canBe_101 : decode kY_TrustDeskModel_canBe.2.1 101 = .ok (.iload_n 3, 1) := by decide +kernel
theorem d_TrustDeskModel_canBe_102 : decode kY_TrustDeskModel_canBe.2.1 102 = .ok (.iaload, 1) := by decide +kernel
theorem d_TrustDeskModel_canBe_103 : decode kY_TrustDeskModel_canBe.2.1 103 = .ok (.iadd, 1) := by decide +kernel
theorem d_TrustDeskModel_canBe_104 : decode kY_TrustDeskModel_canBe.2.1 104 = .ok (.aload_n 0, 1) := by decide +kernel
theorem d_TrustDeskModel_canBe_105 : decode kY_TrustDeskModel_canBe.2.1 105 = .ok (.iload_n 3, 1) := by decide +kernel
theorem d_TrustDeskModel_canBe_106 : decode kY_TrustDeskModel_canBe.2.1 106 = .ok (.iconst 2, 1) := by decide +kernel
theorem d_TrustDeskModel_canBe_107 : decode kY_TrustDeskModel_canBe.2.1 107 = .ok (.invokevirtual 441, 3) := by decide +kernel
theorem d_TrustDeskModel_canBe_110 : decode kY_TrustDeskModel_canBe.2.1 110 = .ok (.isub, 1) := by decide +kernel
theorem d_TrustDeskModel_canBe_111 : decode kY_TrustDeskModel_canBe.2.1 111 = .ok (.bipush 12, 2) := by decide +kernel
theorem d_TrustDeskModel_canBe_113 : decode kY_TrustDeskModel_canBe.2.1 113 = .ok (.if_icmp .gt 7, 3) := by decide +kernel
theorem d_TrustDeskModel_canBe_116 : decode kY_TrustDeskModel_canBe.2.1 116 = .ok (.iconst 1, 1) := by decide +kernel
theorem d_TrustDeskModel_canBe_117 : decode kY_TrustDeskModel_canBe.2.1 117 = .ok (.goto 4, 3) := by decide +kernel
theorem d_TrustDeskModel_canBe_122 : decode kY_TrustDeskModel_canBe.2.1 122 = .ok (.aload_n 0, 1) := by decide +kernel
theorem d_TrustDeskModel_canBe_123 : decode kY_TrustDeskModel_canBe.2.1 123 = .ok (.getfield 66, 3) := by decide +kernel
theorem d_TrustDeskModel_canBe_126 : decode kY_TrustDeskModel_canBe.2.1 126 = .ok (.iload_n 2, 1) := by decide +kernel
theorem d_TrustDeskModel_canBe_127 : decode kY_TrustDeskModel_canBe.2.1 127 = .ok (.iaload, 1) := by decide +kernel
theorem d_TrustDeskModel_canBe_128 : decode kY_TrustDeskModel_canBe.2.1 128 = .ok (.iload_n 3, 1) := by decide +kernel
theorem d_TrustDeskModel_canBe_129 : decode kY_TrustDeskModel_canBe.2.1 129 = .ok (.if_icmp .lt 7, 3) := by decide +kernel
theorem d_TrustDeskModel_canBe_136 : decode kY_TrustDeskModel_canBe.2.1 136 = .ok (.iconst 0, 1) := by decide +kernel
theorem d_TrustDeskModel_canBe_137 : decode kY_TrustDeskModel_canBe.2.1 137 = .ok (.ireturn, 1) := by decide +kernel
theorem d_TrustDeskModel_canBe_132 : decode kY_TrustDeskModel_canBe.2.1 132 = .ok (.iconst 1, 1) := by decide +kernel
theorem d_TrustDeskModel_canBe_133 : decode kY_TrustDeskModel_canBe.2.1 133 = .ok (.goto 4, 3) := by decide +kernel
def w_TrustDeskModel_canBe_x : List Nat := []
set_option maxHeartbeats 100000000 in theorem tc_TrustDeskModel_canBe_x {g : mj_G} {l : Launch} {d : Nat} {T0 : tm_H} {M0 : mj_M} {n0 x9 : Nat} {o0 : Nat} {x1 : Int32} (h_o0 : T0 o0 = some (0, 13, 0)) (hn0 : 0 ≤ x1.toInt ∧ x1.toInt ≤ 39) (yR : rI M0 o0) (yX : rX M0 o0) (ys : x1.toInt < rv M0 o0 53) (I0 : tm_I tm_FT (tm_in w_TrustDeskModel_canBe_x) x9 T0 M0 n0 T0 M0 n0) : mj_Met g l kY_TrustDeskModel_canBe (d + 2) [.ref o0, .int x1] M0 n0 0 0 (tm_Q tm_FT (tm_in w_TrustDeskModel_canBe_x) x9 T0 M0 n0 (fun r _ M => ∃ v : Int32, r = some (.int v) ∧ 0 ≤ v.toInt ∧ v.toInt ≤ 1 ∧ rI M o0 ∧ (v.toInt = 1 → rCB M0 o0 x1.toNatClampNeg))) := by
  refine mj_enter (by decide) (Nat.le_of_ble_eq_true rfl) ?_
  have K1 : rX M0 o0 := yX
  refine mv_aload_n d_TrustDeskModel_canBe_0 rfl rfl ?_
  obtain ⟨a3, q2, t_a3⟩ := tm_atR I0 h_o0 (k := 55) rfl
  refine tr_getK q2 d_TrustDeskModel_canBe_1 f_TrustDeskModel_125_13 ?_
  refine mv_iload_n d_TrustDeskModel_canBe_4 rfl rfl ?_
  refine tr_ialdR (o := o0) (k := 55) I0 q2 t_a3 (by decide) d_TrustDeskModel_canBe_5 (vp_in_iff.mpr (by have := yR.1 32 _ _ rfl; omega)) (fun v4 e5 => ?_)
  have := yR.a (k := 55) rfl (x1 : Int32).toNatClampNeg
  refine mv_istore_n (lv' := [(2, .int v4), (0, .ref o0), (1, .int x1)]) d_TrustDeskModel_canBe_6 rfl (by decide) rfl ?_
  refine mv_aload_n d_TrustDeskModel_canBe_7 rfl rfl ?_
  obtain ⟨a7, q6, t_a7⟩ := tm_atR I0 h_o0 (k := 56) rfl
  refine tr_getK q6 d_TrustDeskModel_canBe_8 f_TrustDeskModel_128_13 ?_
  refine mv_iload_n d_TrustDeskModel_canBe_11 rfl rfl ?_
  refine tr_ialdR (o := o0) (k := 56) I0 q6 t_a7 (by decide) d_TrustDeskModel_canBe_12 (vp_in_iff.mpr (by have := yR.1 32 _ _ rfl; omega)) (fun v8 e9 => ?_)
  have := K1 x1.toNatClampNeg (by have := mz_nat9 (i := x1) (by have := yR.1 32 _ _ rfl; omega); omega) (by have := mz_nat9 (i := x1) (by have := yR.1 32 _ _ rfl; omega); omega)
  refine mv_istore_n (lv' := [(3, .int v8), (2, .int v4), (0, .ref o0), (1, .int x1)]) d_TrustDeskModel_canBe_13 rfl (by decide) rfl ?_
  refine mv_aload_n d_TrustDeskModel_canBe_14 rfl rfl ?_
  refine mv_iload_n d_TrustDeskModel_canBe_15 rfl rfl ?_
  obtain ⟨_, b10, -⟩ := I0.1 _ _ h_o0
  refine mv_callV (kc1 := 0) (ks1 := 0) (kc' := 0) (ks' := 0) (As := [.int v4]) (st9 := [.int v4, .ref o0]) d_TrustDeskModel_canBe_16 lV_TrustDeskModel_492 b10 rfl (mj_enter (by decide) (Nat.le_of_ble_eq_true rfl) ?_) rfl (Nat.le_of_ble_eq_true rfl) (Nat.le_of_ble_eq_true rfl) (Nat.le_of_ble_eq_true rfl) (hst := rfl) (fun _ _ _ h => h)
  refine mv_aload_n d_TrustDeskModel_isFree_0 rfl rfl ?_
  refine mv_iload_n d_TrustDeskModel_isFree_1 rfl rfl ?_
  obtain ⟨_, b11, -⟩ := I0.1 _ _ h_o0
  refine mv_callV (kc1 := 0) (ks1 := 0) (kc' := 0) (ks' := 0) (As := [.int v4]) (st9 := [.int v4, .ref o0]) d_TrustDeskModel_isFree_2 lV_TrustDeskModel_418 b11 rfl (mj_enter (by decide) (Nat.le_of_ble_eq_true rfl) ?_) rfl (Nat.le_of_ble_eq_true rfl) (Nat.le_of_ble_eq_true rfl) (Nat.le_of_ble_eq_true rfl) (hst := rfl) (fun _ _ _ h => h)
  refine mv_iload_n d_TrustDeskModel_isFund_0 rfl rfl ?_
  have := mz_hi v4
  refine mv_if_ltZ (tgt := 16) (a := v4.toInt) d_TrustDeskModel_isFund_1 (by decide) rfl (fun b12 => ?_) (fun b12 => ?_)
  · refine mv_iconst (v := 0) d_TrustDeskModel_isFund_16 (by decide) ?_
    refine mv_iret d_TrustDeskModel_isFund_17 rfl (by decide) ?_
    refine mv_if_eq_t (tgt := 22) d_TrustDeskModel_isFree_5 (by decide) (by decide) ?_
    refine mv_iconst (v := 0) d_TrustDeskModel_isFree_22 (by decide) ?_
    refine mv_iret d_TrustDeskModel_isFree_23 rfl (by decide) ?_
    refine mv_if_ne_f (tgt := 24) d_TrustDeskModel_canBe_19 (by decide) (by decide) ?_
    refine mv_iconst (v := 0) d_TrustDeskModel_canBe_22 (by decide) ?_
    exact mv_iret d_TrustDeskModel_canBe_23 rfl (by decide) ⟨_, I0, _, rfl, by decide, by decide, yR, (fun h9 => absurd h9 (by decide))⟩
  · refine mv_iload_n d_TrustDeskModel_isFund_4 rfl rfl ?_
    refine mv_aload_n d_TrustDeskModel_isFund_5 rfl rfl ?_
    obtain ⟨v14, q13⟩ := tm_atI I0 h_o0 (k := 32) rfl
    refine tr_getK q13 d_TrustDeskModel_isFund_6 f_TrustDeskModel_415_13 ?_
    have := yR.f (k := 32) q13 rfl
    have := tm_rv q13
    have := mz_hi v4
    have := mz_hi v14
    refine mv_icmp_geZ (tgt := 16) (a := v4.toInt) (b := v14.toInt) d_TrustDeskModel_isFund_9 (by decide) rfl rfl (fun b15 => ?_) (fun b15 => ?_)
    · refine mv_iconst (v := 0) d_TrustDeskModel_isFund_16 (by decide) ?_
      refine mv_iret d_TrustDeskModel_isFund_17 rfl (by decide) ?_
      refine mv_if_eq_t (tgt := 22) d_TrustDeskModel_isFree_5 (by decide) (by decide) ?_
      refine mv_iconst (v := 0) d_TrustDeskModel_isFree_22 (by decide) ?_
      refine mv_iret d_TrustDeskModel_isFree_23 rfl (by decide) ?_
      refine mv_if_ne_f (tgt := 24) d_TrustDeskModel_canBe_19 (by decide) (by decide) ?_
      refine mv_iconst (v := 0) d_TrustDeskModel_canBe_22 (by decide) ?_
      exact mv_iret d_TrustDeskModel_canBe_23 rfl (by decide) ⟨_, I0, _, rfl, by decide, by decide, yR, (fun h9 => absurd h9 (by decide))⟩
    · refine mv_iconst (v := 1) d_TrustDeskModel_isFund_12 (by decide) ?_
      refine mv_goto (tgt := 17) d_TrustDeskModel_isFund_13 (by decide) ?_
      refine mv_iret d_TrustDeskModel_isFund_17 rfl (by decide) ?_
      refine mv_if_eq_f (tgt := 22) d_TrustDeskModel_isFree_5 (by decide) (by decide) ?_
      refine mv_aload_n d_TrustDeskModel_isFree_8 rfl rfl ?_
      obtain ⟨a17, q16, t_a17⟩ := tm_atR I0 h_o0 (k := 37) rfl
      refine tr_getK q16 d_TrustDeskModel_isFree_9 f_TrustDeskModel_79_13 ?_
      refine mv_iload_n d_TrustDeskModel_isFree_12 rfl rfl ?_
      refine tr_ialdR (o := o0) (k := 37) I0 q16 t_a17 (by decide) d_TrustDeskModel_isFree_13 (vp_in_iff.mpr (by have := yR.1 32 _ _ rfl; omega)) (fun v18 e19 => ?_)
      have := yR.a (k := 37) rfl (v4 : Int32).toNatClampNeg
      refine mv_iconst (v := (-1)) d_TrustDeskModel_isFree_14 (by decide) ?_
      have := mz_hi v18
      refine mv_icmp_neZ (tgt := 22) (a := v18.toInt) (b := (-1)) d_TrustDeskModel_isFree_15 (by decide) rfl (by decide) (fun b20 => ?_) (fun b20 => ?_)
      · refine mv_iconst (v := 0) d_TrustDeskModel_isFree_22 (by decide) ?_
        refine mv_iret d_TrustDeskModel_isFree_23 rfl (by decide) ?_
        refine mv_if_ne_f (tgt := 24) d_TrustDeskModel_canBe_19 (by decide) (by decide) ?_
        refine mv_iconst (v := 0) d_TrustDeskModel_canBe_22 (by decide) ?_
        exact mv_iret d_TrustDeskModel_canBe_23 rfl (by decide) ⟨_, I0, _, rfl, by decide, by decide, yR, (fun h9 => absurd h9 (by decide))⟩
      · refine mv_iconst (v := 1) d_TrustDeskModel_isFree_18 (by decide) ?_
        refine mv_goto (tgt := 23) d_TrustDeskModel_isFree_19 (by decide) ?_
        refine mv_iret d_TrustDeskModel_isFree_23 rfl (by decide) ?_
        refine mv_if_ne_t (tgt := 24) d_TrustDeskModel_canBe_19 (by decide) (by decide) ?_
        refine mv_aload_n d_TrustDeskModel_canBe_24 rfl rfl ?_
        obtain ⟨a22, q21, t_a22⟩ := tm_atR I0 h_o0 (k := 54) rfl
        refine tr_getK q21 d_TrustDeskModel_canBe_25 f_TrustDeskModel_122_13 ?_
        refine mv_iload_n d_TrustDeskModel_canBe_28 rfl rfl ?_
        refine tr_ialdR (o := o0) (k := 54) I0 q21 t_a22 (by decide) d_TrustDeskModel_canBe_29 (vp_in_iff.mpr (by have := yR.1 32 _ _ rfl; omega)) (fun v23 e24 => ?_)
        have := yR.a (k := 54) rfl (x1 : Int32).toNatClampNeg
        have := K1 x1.toNatClampNeg (by have := mz_nat9 (i := x1) (by have := yR.1 32 _ _ rfl; omega); omega) (by have := mz_nat9 (i := x1) (by have := yR.1 32 _ _ rfl; omega); omega)
        rcases (show (v23.toInt < 0 ∨ 2 < v23.toInt) ∨ v23.toInt = 0 ∨ v23.toInt = 1 ∨ v23.toInt = 2 by omega) with b25 | b25 | b25 | b25
        · refine mv_tableOut (tgt := 138) d_TrustDeskModel_canBe_30 b25 (by decide) ?_
          refine mv_iload_n d_TrustDeskModel_canBe_138 rfl rfl ?_
          refine mv_aload_n d_TrustDeskModel_canBe_139 rfl rfl ?_
          obtain ⟨a27, q26, t_a27⟩ := tm_atR I0 h_o0 (k := 43) rfl
          refine tr_getK q26 d_TrustDeskModel_canBe_140 f_TrustDeskModel_98_13 ?_
          refine mv_iload_n d_TrustDeskModel_canBe_143 rfl rfl ?_
          refine tr_ialdR (o := o0) (k := 43) I0 q26 t_a27 (by decide) d_TrustDeskModel_canBe_144 (vp_in_iff.mpr (by have := yR.1 32 _ _ rfl; omega)) (fun v28 e29 => ?_)
          have := yR.a (k := 43) rfl (v4 : Int32).toNatClampNeg
          have := mz_hi v8
          have := mz_hi v28
          refine mv_icmp_geZ (tgt := 167) (a := v8.toInt) (b := v28.toInt) d_TrustDeskModel_canBe_145 (by decide) rfl rfl (fun b30 => ?_) (fun b30 => ?_)
          · refine mv_iconst (v := 0) d_TrustDeskModel_canBe_167 (by decide) ?_
            exact mv_iret d_TrustDeskModel_canBe_168 rfl (by decide) ⟨_, I0, _, rfl, by decide, by decide, yR, (fun h9 => absurd h9 (by decide))⟩
          · refine mv_aload_n d_TrustDeskModel_canBe_148 rfl rfl ?_
            obtain ⟨a32, q31, t_a32⟩ := tm_atR I0 h_o0 (k := 46) rfl
            refine tr_getK q31 d_TrustDeskModel_canBe_149 f_TrustDeskModel_107_13 ?_
            refine mv_bipush (v := 80) d_TrustDeskModel_canBe_152 (by decide) ?_
            refine mv_iload_n d_TrustDeskModel_canBe_154 rfl rfl ?_
            refine mv_imul d_TrustDeskModel_canBe_155 ?_
            refine mv_iload_n d_TrustDeskModel_canBe_156 rfl rfl ?_
            refine mv_iadd d_TrustDeskModel_canBe_157 ?_
            have b33 : (80 * v4 : Int32).toInt = (80 * v4.toInt) := mz_mul2 (by decide) rfl (by have := yR.1 32 _ _ rfl; omega) (by have := yR.1 32 _ _ rfl; omega)
            have b34 : ((80 * v4) + v8 : Int32).toInt = ((80 * v4.toInt) + v8.toInt) := mz_add2 b33 rfl (by have := yR.1 32 _ _ rfl; omega) (by have := yR.1 32 _ _ rfl; omega)
            refine tr_ialdR (o := o0) (k := 46) I0 q31 t_a32 (by decide) d_TrustDeskModel_canBe_158 (vp_in_iff.mpr (by have := yR.1 32 _ _ rfl; omega)) (fun v35 e36 => ?_)
            refine mv_iconst (v := 2) d_TrustDeskModel_canBe_159 (by decide) ?_
            have := mz_hi v35
            refine mv_icmp_eqZ (tgt := 167) (a := v35.toInt) (b := 2) d_TrustDeskModel_canBe_160 (by decide) rfl (by decide) (fun b37 => ?_) (fun b37 => ?_)
            · refine mv_iconst (v := 0) d_TrustDeskModel_canBe_167 (by decide) ?_
              exact mv_iret d_TrustDeskModel_canBe_168 rfl (by decide) ⟨_, I0, _, rfl, by decide, by decide, yR, (fun h9 => absurd h9 (by decide))⟩
            · refine mv_iconst (v := 1) d_TrustDeskModel_canBe_163 (by decide) ?_
              refine mv_goto (tgt := 168) d_TrustDeskModel_canBe_164 (by decide) ?_
              exact mv_iret d_TrustDeskModel_canBe_168 rfl (by decide) ⟨_, I0, _, rfl, by decide, by decide, yR, (fun _ => by have e9 : (ra M0 o0 55 x1.toNatClampNeg).toNat = v4.toNatClampNeg := (by have := mz_nat9 (i := v4) (by have := yR.1 32 _ _ rfl; omega); have := yR.1 32 _ _ rfl; omega); unfold rCB; rw [e9]; exact ⟨(by have := yR.1 32 _ _ rfl; omega), (by have := yR.1 32 _ _ rfl; omega), (by have := yR.1 32 _ _ rfl; omega), (fun h9 => by exfalso; have := yR.1 32 _ _ rfl; omega), (fun h9 => by exfalso; have := yR.1 32 _ _ rfl; omega), (fun h9 => by exfalso; have := yR.1 32 _ _ rfl; omega), (fun _ => (by have := yR.1 32 _ _ rfl; omega))⟩)⟩
        · refine mv_tableIn (tgt := 56) (off := 26) d_TrustDeskModel_canBe_30 (by omega) (by omega) (by rw [b25]; rfl) (by decide) ?_
          refine mv_aload_n d_TrustDeskModel_canBe_56 rfl rfl ?_
          refine mv_iload_n d_TrustDeskModel_canBe_57 rfl rfl ?_
          obtain ⟨_, b44, -⟩ := I0.1 _ _ h_o0
          refine mv_callV (kc' := 0) (ks' := 0) (As := [.int v4]) (st9 := [.int v4, .ref o0]) d_TrustDeskModel_canBe_58 lV_TrustDeskModel_515 b44 rfl (tc_TrustDeskModel_firstDead_x (d := (d + 1)) (x9 := x9) (o0 := o0) (x1 := v4) h_o0 (by have := yR.1 32 _ _ rfl; omega) yR I0.start) rfl (Nat.le_of_ble_eq_true rfl) (Nat.le_of_ble_eq_true rfl) (Nat.le_of_ble_eq_true rfl) (hst := rfl) (fun b38r M39 n40 b38 => ?_)
          obtain ⟨T41, J42, v45, rfl, R46, f47, f48⟩ := b38
          have I43 := I0.call J42 (tm_sub (by decide)) (Or.inl rfl)
          have t49 := J42.up h_o0
          replace f47 := Im.i f47
          replace f48 := Im.i f48
          have z50 := (rv_c I0 J42 (I0.up h_o0) (k := 32) rfl)
          have K51 : rX M39 o0 := K1.same (sA_c I0 J42 (I0.up h_o0) (by decide +kernel)) (sF_c I0 J42 (I0.up h_o0) (by decide +kernel))
          have q52 := J42.keep h_o0 (by decide) q2
          have t53 := J42.up t_a3
          have q54 := J42.keep h_o0 (by decide) q6
          have t55 := J42.up t_a7
          have q56 := J42.keep h_o0 (by decide) q13
          have q57 := J42.keep h_o0 (by decide) q16
          have t58 := J42.up t_a17
          have q59 := J42.keep h_o0 (by decide) q21
          have t60 := J42.up t_a22
          refine mv_iconst (v := (-1)) d_TrustDeskModel_canBe_61 (by decide) ?_
          have := mz_hi v45
          refine mv_icmp_eqZ (tgt := 69) (a := v45.toInt) (b := (-1)) d_TrustDeskModel_canBe_62 (by decide) rfl (by decide) (fun b61 => ?_) (fun b61 => ?_)
          · refine mv_iconst (v := 0) d_TrustDeskModel_canBe_69 (by decide) ?_
            exact mv_iret d_TrustDeskModel_canBe_70 rfl (by decide) ⟨_, I43, _, rfl, by decide, by decide, R46, (fun h9 => absurd h9 (by decide))⟩
          · refine mv_iconst (v := 1) d_TrustDeskModel_canBe_65 (by decide) ?_
            refine mv_goto (tgt := 70) d_TrustDeskModel_canBe_66 (by decide) ?_
            exact mv_iret d_TrustDeskModel_canBe_70 rfl (by decide) ⟨_, I43, _, rfl, by decide, by decide, R46, (fun _ => by have e9 : (ra M0 o0 55 x1.toNatClampNeg).toNat = v4.toNatClampNeg := (by have := mz_nat9 (i := v4) (by have := R46.1 32 _ _ rfl; omega); have := R46.1 32 _ _ rfl; omega); unfold rCB; rw [e9]; exact ⟨(by have := R46.1 32 _ _ rfl; omega), (by have := R46.1 32 _ _ rfl; omega), (by have := R46.1 32 _ _ rfl; omega), (fun _ => ⟨v45.toInt.toNat, by have := f48.o (by omega); omega, (f48.o (by omega)).2.2⟩), (fun h9 => by exfalso; have := R46.1 32 _ _ rfl; omega), (fun h9 => by exfalso; have := R46.1 32 _ _ rfl; omega), (fun h9 => by exfalso; have := R46.1 32 _ _ rfl; omega)⟩)⟩
        · refine mv_tableIn (tgt := 71) (off := 41) d_TrustDeskModel_canBe_30 (by omega) (by omega) (by rw [b25]; rfl) (by decide) ?_
          refine mv_aload_n d_TrustDeskModel_canBe_71 rfl rfl ?_
          refine mv_iload_n d_TrustDeskModel_canBe_72 rfl rfl ?_
          obtain ⟨_, b62, -⟩ := I0.1 _ _ h_o0
          refine mv_callV (kc1 := 0) (ks1 := 0) (kc' := 0) (ks' := 0) (As := [.int v8]) (st9 := [.int v8, .ref o0]) d_TrustDeskModel_canBe_73 lV_TrustDeskModel_492 b62 rfl (mj_enter (by decide) (Nat.le_of_ble_eq_true rfl) ?_) rfl (Nat.le_of_ble_eq_true rfl) (Nat.le_of_ble_eq_true rfl) (Nat.le_of_ble_eq_true rfl) (hst := rfl) (fun _ _ _ h => h)
          refine mv_aload_n d_TrustDeskModel_isFree_0 rfl rfl ?_
          refine mv_iload_n d_TrustDeskModel_isFree_1 rfl rfl ?_
          obtain ⟨_, b63, -⟩ := I0.1 _ _ h_o0
          refine mv_callV (kc1 := 0) (ks1 := 0) (kc' := 0) (ks' := 0) (As := [.int v8]) (st9 := [.int v8, .ref o0]) d_TrustDeskModel_isFree_2 lV_TrustDeskModel_418 b63 rfl (mj_enter (by decide) (Nat.le_of_ble_eq_true rfl) ?_) rfl (Nat.le_of_ble_eq_true rfl) (Nat.le_of_ble_eq_true rfl) (Nat.le_of_ble_eq_true rfl) (hst := rfl) (fun _ _ _ h => h)
          refine mv_iload_n d_TrustDeskModel_isFund_0 rfl rfl ?_
          have := mz_hi v8
          refine mv_if_ltZ (tgt := 16) (a := v8.toInt) d_TrustDeskModel_isFund_1 (by decide) rfl (fun b64 => ?_) (fun b64 => ?_)
          · refine mv_iconst (v := 0) d_TrustDeskModel_isFund_16 (by decide) ?_
            refine mv_iret d_TrustDeskModel_isFund_17 rfl (by decide) ?_
            refine mv_if_eq_t (tgt := 22) d_TrustDeskModel_isFree_5 (by decide) (by decide) ?_
            refine mv_iconst (v := 0) d_TrustDeskModel_isFree_22 (by decide) ?_
            refine mv_iret d_TrustDeskModel_isFree_23 rfl (by decide) ?_
            refine mv_if_eq_t (tgt := 120) d_TrustDeskModel_canBe_76 (by decide) (by decide) ?_
            refine mv_iconst (v := 0) d_TrustDeskModel_canBe_120 (by decide) ?_
            exact mv_iret d_TrustDeskModel_canBe_121 rfl (by decide) ⟨_, I0, _, rfl, by decide, by decide, yR, (fun h9 => absurd h9 (by decide))⟩
          · refine mv_iload_n d_TrustDeskModel_isFund_4 rfl rfl ?_
            refine mv_aload_n d_TrustDeskModel_isFund_5 rfl rfl ?_
            refine tr_getK (k := 32) q13 d_TrustDeskModel_isFund_6 f_TrustDeskModel_415_13 ?_
            have := mz_hi v8
            have := mz_hi v14
            refine mv_icmp_geZ (tgt := 16) (a := v8.toInt) (b := v14.toInt) d_TrustDeskModel_isFund_9 (by decide) rfl rfl (fun b65 => ?_) (fun b65 => ?_)
            · refine mv_iconst (v := 0) d_TrustDeskModel_isFund_16 (by decide) ?_
              refine mv_iret d_TrustDeskModel_isFund_17 rfl (by decide) ?_
              refine mv_if_eq_t (tgt := 22) d_TrustDeskModel_isFree_5 (by decide) (by decide) ?_
              refine mv_iconst (v := 0) d_TrustDeskModel_isFree_22 (by decide) ?_
              refine mv_iret d_TrustDeskModel_isFree_23 rfl (by decide) ?_
              refine mv_if_eq_t (tgt := 120) d_TrustDeskModel_canBe_76 (by decide) (by decide) ?_
              refine mv_iconst (v := 0) d_TrustDeskModel_canBe_120 (by decide) ?_
              exact mv_iret d_TrustDeskModel_canBe_121 rfl (by decide) ⟨_, I0, _, rfl, by decide, by decide, yR, (fun h9 => absurd h9 (by decide))⟩
            · refine mv_iconst (v := 1) d_TrustDeskModel_isFund_12 (by decide) ?_
              refine mv_goto (tgt := 17) d_TrustDeskModel_isFund_13 (by decide) ?_
              refine mv_iret d_TrustDeskModel_isFund_17 rfl (by decide) ?_
              refine mv_if_eq_f (tgt := 22) d_TrustDeskModel_isFree_5 (by decide) (by decide) ?_
              refine mv_aload_n d_TrustDeskModel_isFree_8 rfl rfl ?_
              refine tr_getK (k := 37) q16 d_TrustDeskModel_isFree_9 f_TrustDeskModel_79_13 ?_
              refine mv_iload_n d_TrustDeskModel_isFree_12 rfl rfl ?_
              refine tr_ialdR (o := o0) (k := 37) I0 q16 t_a17 (by decide) d_TrustDeskModel_isFree_13 (vp_in_iff.mpr (by have := yR.1 32 _ _ rfl; omega)) (fun v66 e67 => ?_)
              have := yR.a (k := 37) rfl (v8 : Int32).toNatClampNeg
              refine mv_iconst (v := (-1)) d_TrustDeskModel_isFree_14 (by decide) ?_
              have := mz_hi v66
              refine mv_icmp_neZ (tgt := 22) (a := v66.toInt) (b := (-1)) d_TrustDeskModel_isFree_15 (by decide) rfl (by decide) (fun b68 => ?_) (fun b68 => ?_)
              · refine mv_iconst (v := 0) d_TrustDeskModel_isFree_22 (by decide) ?_
                refine mv_iret d_TrustDeskModel_isFree_23 rfl (by decide) ?_
                refine mv_if_eq_t (tgt := 120) d_TrustDeskModel_canBe_76 (by decide) (by decide) ?_
                refine mv_iconst (v := 0) d_TrustDeskModel_canBe_120 (by decide) ?_
                exact mv_iret d_TrustDeskModel_canBe_121 rfl (by decide) ⟨_, I0, _, rfl, by decide, by decide, yR, (fun h9 => absurd h9 (by decide))⟩
              · refine mv_iconst (v := 1) d_TrustDeskModel_isFree_18 (by decide) ?_
                refine mv_goto (tgt := 23) d_TrustDeskModel_isFree_19 (by decide) ?_
                refine mv_iret d_TrustDeskModel_isFree_23 rfl (by decide) ?_
                refine mv_if_eq_f (tgt := 120) d_TrustDeskModel_canBe_76 (by decide) (by decide) ?_
                refine mv_iload_n d_TrustDeskModel_canBe_79 rfl rfl ?_
                refine mv_iload_n d_TrustDeskModel_canBe_80 rfl rfl ?_
                have := mz_hi v8
                have := mz_hi v4
                refine mv_icmp_eqZ (tgt := 120) (a := v8.toInt) (b := v4.toInt) d_TrustDeskModel_canBe_81 (by decide) rfl rfl (fun b69 => ?_) (fun b69 => ?_)
                · refine mv_iconst (v := 0) d_TrustDeskModel_canBe_120 (by decide) ?_
                  exact mv_iret d_TrustDeskModel_canBe_121 rfl (by decide) ⟨_, I0, _, rfl, by decide, by decide, yR, (fun h9 => absurd h9 (by decide))⟩
                · refine mv_aload_n d_TrustDeskModel_canBe_84 rfl rfl ?_
                  obtain ⟨a71, q70, t_a71⟩ := tm_atR I0 h_o0 (k := 43) rfl
                  refine tr_getK q70 d_TrustDeskModel_canBe_85 f_TrustDeskModel_98_13 ?_
                  refine mv_iload_n d_TrustDeskModel_canBe_88 rfl rfl ?_
                  refine tr_ialdR (o := o0) (k := 43) I0 q70 t_a71 (by decide) d_TrustDeskModel_canBe_89 (vp_in_iff.mpr (by have := yR.1 32 _ _ rfl; omega)) (fun v72 e73 => ?_)
                  have := yR.a (k := 43) rfl (v4 : Int32).toNatClampNeg
                  refine mv_aload_n d_TrustDeskModel_canBe_90 rfl rfl ?_
                  refine mv_iload_n d_TrustDeskModel_canBe_91 rfl rfl ?_
                  refine mv_iconst (v := 2) d_TrustDeskModel_canBe_92 (by decide) ?_
                  obtain ⟨_, b80, -⟩ := I0.1 _ _ h_o0
                  have : (2 : Int32).toInt = 2 := by decide
                  refine mv_callV (kc' := 0) (ks' := 0) (As := [.int v4, .int 2]) (st9 := [.int 2, .int v4, .ref o0, .int v72]) d_TrustDeskModel_canBe_93 lV_TrustDeskModel_441 b80 rfl (tc_TrustDeskModel_howMany_x (d := (d + 1)) (x9 := x9) (o0 := o0) (x1 := v4) (x2 := 2) h_o0 (by have := yR.1 32 _ _ rfl; omega) yR I0.start) rfl (Nat.le_of_ble_eq_true rfl) (Nat.le_of_ble_eq_true rfl) (Nat.le_of_ble_eq_true rfl) (hst := rfl) (fun b74r M75 n76 b74 => ?_)
                  obtain ⟨T77, J78, v81, rfl, R82⟩ := b74
                  have I79 := I0.call J78 (tm_sub (by decide)) (Or.inl rfl)
                  have t83 := J78.up h_o0
                  have z84 := (rv_c I0 J78 (I0.up h_o0) (k := 32) rfl)
                  have K85 : rX M75 o0 := K1.same (sA_c I0 J78 (I0.up h_o0) (by decide +kernel)) (sF_c I0 J78 (I0.up h_o0) (by decide +kernel))
                  have q86 := J78.keep h_o0 (by decide) q2
                  have t87 := J78.up t_a3
                  have q88 := J78.keep h_o0 (by decide) q6
                  have t89 := J78.up t_a7
                  have q90 := J78.keep h_o0 (by decide) q13
                  have q91 := J78.keep h_o0 (by decide) q16
                  have t92 := J78.up t_a17
                  have q93 := J78.keep h_o0 (by decide) q21
                  have t94 := J78.up t_a22
                  have q95 := J78.keep h_o0 (by decide) q70
                  have t96 := J78.up t_a71
                  refine mv_isub d_TrustDeskModel_canBe_96 ?_
                  refine mv_aload_n d_TrustDeskModel_canBe_97 rfl rfl ?_
                  refine tr_getK (k := 43) q95 d_TrustDeskModel_canBe_98 f_TrustDeskModel_98_13 ?_
                  refine mv_iload_n d_TrustDeskModel_canBe_101 rfl rfl ?_
                  refine tr_ialdR (o := o0) (k := 43) I79 q95 t96 (by decide) d_TrustDeskModel_canBe_102 (vp_in_iff.mpr (by have := R82.1 32 _ _ rfl; omega)) (fun v97 e98 => ?_)
                  have := R82.a (k := 43) rfl (v8 : Int32).toNatClampNeg
                  refine mv_iadd d_TrustDeskModel_canBe_103 ?_
                  refine mv_aload_n d_TrustDeskModel_canBe_104 rfl rfl ?_
                  refine mv_iload_n d_TrustDeskModel_canBe_105 rfl rfl ?_
                  refine mv_iconst (v := 2) d_TrustDeskModel_canBe_106 (by decide) ?_
                  obtain ⟨_, b105, -⟩ := I79.1 _ _ t83
                  have : (2 : Int32).toInt = 2 := by decide
                  refine mv_callV (kc' := 0) (ks' := 0) (As := [.int v8, .int 2]) (st9 := [.int 2, .int v8, .ref o0, .int ((v72 - v81) + v97)]) d_TrustDeskModel_canBe_107 lV_TrustDeskModel_441 b105 rfl (tc_TrustDeskModel_howMany_x (d := (d + 1)) (x9 := x9) (o0 := o0) (x1 := v8) (x2 := 2) t83 (by have := R82.1 32 _ _ rfl; omega) R82 I79.start) rfl (Nat.le_of_ble_eq_true rfl) (Nat.le_of_ble_eq_true rfl) (Nat.le_of_ble_eq_true rfl) (hst := rfl) (fun b99r M100 n101 b99 => ?_)
                  obtain ⟨T102, J103, v106, rfl, R107⟩ := b99
                  have I104 := I79.call J103 (tm_sub (by decide)) (Or.inl rfl)
                  have t108 := J103.up t83
                  have z109 := (rv_c I79 J103 (I79.up h_o0) (k := 32) rfl).trans z84
                  have K110 : rX M100 o0 := K85.same (sA_c I79 J103 (I79.up h_o0) (by decide +kernel)) (sF_c I79 J103 (I79.up h_o0) (by decide +kernel))
                  clear z84
                  have q111 := J103.keep t83 (by decide) q86
                  have t112 := J103.up t87
                  have q113 := J103.keep t83 (by decide) q88
                  have t114 := J103.up t89
                  have q115 := J103.keep t83 (by decide) q90
                  have q116 := J103.keep t83 (by decide) q91
                  have t117 := J103.up t92
                  have q118 := J103.keep t83 (by decide) q93
                  have t119 := J103.up t94
                  have q120 := J103.keep t83 (by decide) q95
                  have t121 := J103.up t96
                  refine mv_isub d_TrustDeskModel_canBe_110 ?_
                  refine mv_bipush (v := 12) d_TrustDeskModel_canBe_111 (by decide) ?_
                  have := mz_hi (((v72 - v81) + v97) - v106)
                  refine mv_icmp_gtZ (tgt := 120) (a := (((v72 - v81) + v97) - v106).toInt) (b := 12) d_TrustDeskModel_canBe_113 (by decide) rfl (by decide) (fun b122 => ?_) (fun b122 => ?_)
                  · refine mv_iconst (v := 0) d_TrustDeskModel_canBe_120 (by decide) ?_
                    exact mv_iret d_TrustDeskModel_canBe_121 rfl (by decide) ⟨_, I104, _, rfl, by decide, by decide, R107, (fun h9 => absurd h9 (by decide))⟩
                  · refine mv_iconst (v := 1) d_TrustDeskModel_canBe_116 (by decide) ?_
                    refine mv_goto (tgt := 121) d_TrustDeskModel_canBe_117 (by decide) ?_
                    exact mv_iret d_TrustDeskModel_canBe_121 rfl (by decide) ⟨_, I104, _, rfl, by decide, by decide, R107, (fun _ => by have e9 : (ra M0 o0 55 x1.toNatClampNeg).toNat = v4.toNatClampNeg := (by have := mz_nat9 (i := v4) (by have := R107.1 32 _ _ rfl; omega); have := R107.1 32 _ _ rfl; omega); unfold rCB; rw [e9]; exact ⟨(by have := R107.1 32 _ _ rfl; omega), (by have := R107.1 32 _ _ rfl; omega), (by have := R107.1 32 _ _ rfl; omega), (fun h9 => by exfalso; have := R107.1 32 _ _ rfl; omega), (fun _ => ⟨(by have := R107.1 32 _ _ rfl; omega), (by have := R107.1 32 _ _ rfl; omega), by rw [show (ra M0 o0 56 x1.toNatClampNeg).toNat = v8.toNatClampNeg from by have := mz_nat9 (i := v8) (by have := R107.1 32 _ _ rfl; omega); have := R107.1 32 _ _ rfl; omega]; omega, (by have := R107.1 32 _ _ rfl; omega)⟩), (fun h9 => by exfalso; have := R107.1 32 _ _ rfl; omega), (fun h9 => by exfalso; have := R107.1 32 _ _ rfl; omega)⟩)⟩
        · refine mv_tableIn (tgt := 122) (off := 92) d_TrustDeskModel_canBe_30 (by omega) (by omega) (by rw [b25]; rfl) (by decide) ?_
          refine mv_aload_n d_TrustDeskModel_canBe_122 rfl rfl ?_
          obtain ⟨a124, q123, t_a124⟩ := tm_atR I0 h_o0 (k := 33) rfl
          refine tr_getK q123 d_TrustDeskModel_canBe_123 f_TrustDeskModel_66_13 ?_
          refine mv_iload_n d_TrustDeskModel_canBe_126 rfl rfl ?_
          refine tr_ialdR (o := o0) (k := 33) I0 q123 t_a124 (by decide) d_TrustDeskModel_canBe_127 (vp_in_iff.mpr (by have := yR.1 32 _ _ rfl; omega)) (fun v125 e126 => ?_)
          have := yR.a (k := 33) rfl (v4 : Int32).toNatClampNeg
          refine mv_iload_n d_TrustDeskModel_canBe_128 rfl rfl ?_
          have := mz_hi v125
          have := mz_hi v8
          refine mv_icmp_ltZ (tgt := 136) (a := v125.toInt) (b := v8.toInt) d_TrustDeskModel_canBe_129 (by decide) rfl rfl (fun b127 => ?_) (fun b127 => ?_)
          · refine mv_iconst (v := 0) d_TrustDeskModel_canBe_136 (by decide) ?_
            exact mv_iret d_TrustDeskModel_canBe_137 rfl (by decide) ⟨_, I0, _, rfl, by decide, by decide, yR, (fun h9 => absurd h9 (by decide))⟩
          · refine mv_iconst (v := 1) d_TrustDeskModel_canBe_132 (by decide) ?_
            refine mv_goto (tgt := 137) d_TrustDeskModel_canBe_133 (by decide) ?_
            exact mv_iret d_TrustDeskModel_canBe_137 rfl (by decide) ⟨_, I0, _, rfl, by decide, by decide, yR, (fun _ => by have e9 : (ra M0 o0 55 x1.toNatClampNeg).toNat = v4.toNatClampNeg := (by have := mz_nat9 (i := v4) (by have := yR.1 32 _ _ rfl; omega); have := yR.1 32 _ _ rfl; omega); unfold rCB; rw [e9]; exact ⟨(by have := yR.1 32 _ _ rfl; omega), (by have := yR.1 32 _ _ rfl; omega), (by have := yR.1 32 _ _ rfl; omega), (fun h9 => by exfalso; have := yR.1 32 _ _ rfl; omega), (fun h9 => by exfalso; have := yR.1 32 _ _ rfl; omega), (fun _ => (by have := yR.1 32 _ _ rfl; omega)), (fun h9 => by exfalso; have := yR.1 32 _ _ rfl; omega)⟩)⟩
abbrev kY_TrustDeskModel_marksLeft : mj_Y := (⟨"TrustDeskModel", "marksLeft", "(I)I"⟩, prog_14_method_81_code, 3, (Option.some Jvm.ClassFile.FieldType.int))
theorem d_TrustDeskModel_marksLeft_0 : decode kY_TrustDeskModel_marksLeft.2.1 0 = .ok (.aload_n 0, 1) := by decide +kernel
theorem d_TrustDeskModel_marksLeft_1 : decode kY_TrustDeskModel_marksLeft.2.1 1 = .ok (.getfield 125, 3) := by decide +kernel
theorem d_TrustDeskModel_marksLeft_4 : decode kY_TrustDeskModel_marksLeft.2.1 4 = .ok (.iload_n 1, 1) := by decide +kernel
theorem d_TrustDeskModel_marksLeft_5 : decode kY_TrustDeskModel_marksLeft.2.1 5 = .ok (.iaload, 1) := by decide +kernel
theorem d_TrustDeskModel_marksLeft_6 : decode kY_TrustDeskModel_marksLeft.2.1 6 = .ok (.istore_n 2, 1) := by decide +kernel
theorem d_TrustDeskModel_marksLeft_7 : decode kY_TrustDeskModel_marksLeft.2.1 7 = .ok (.aload_n 0, 1) := by decide +kernel
theorem d_TrustDeskModel_marksLeft_8 : decode kY_TrustDeskModel_marksLeft.2.1 8 = .ok (.getfield 122, 3) := by decide +kernel
theorem d_TrustDeskModel_marksLeft_11 : decode kY_TrustDeskModel_marksLeft.2.1 11 = .ok (.iload_n 1, 1) := by decide +kernel
theorem d_TrustDeskModel_marksLeft_12 : decode kY_TrustDeskModel_marksLeft.2.1 12 = .ok (.iaload, 1) := by decide +kernel
theorem d_TrustDeskModel_marksLeft_13 : decode kY_TrustDeskModel_marksLeft.2.1 13 = .ok (.ifCond .ne 27, 3) := by decide +kernel
theorem d_TrustDeskModel_marksLeft_40 : decode kY_TrustDeskModel_marksLeft.2.1 40 = .ok (.aload_n 0, 1) := by decide +kernel
theorem d_TrustDeskModel_marksLeft_41 : decode kY_TrustDeskModel_marksLeft.2.1 41 = .ok (.getfield 122, 3) := by decide +kernel
theorem d_TrustDeskModel_marksLeft_44 : decode kY_TrustDeskModel_marksLeft.2.1 44 = .ok (.iload_n 1, 1) := by decide +kernel
theorem d_TrustDeskModel_marksLeft_45 : decode kY_TrustDeskModel_marksLeft.2.1 45 = .ok (.iaload, 1) := by decide +kernel
theorem d_TrustDeskModel_marksLeft_46 : decode kY_TrustDeskModel_marksLeft.2.1 46 = .ok (.iconst 1, 1) := by decide +kernel
theorem d_TrustDeskModel_marksLeft_47 : decode kY_TrustDeskModel_marksLeft.2.1 47 = .ok (.if_icmp .ne 27, 3) := by decide +kernel
theorem d_TrustDeskModel_marksLeft_74 : decode kY_TrustDeskModel_marksLeft.2.1 74 = .ok (.bipush 12, 2) := by decide +kernel
theorem d_TrustDeskModel_marksLeft_76 : decode kY_TrustDeskModel_marksLeft.2.1 76 = .ok (.ireturn, 1) := by decide +kernel
theorem d_TrustDeskModel_marksLeft_50 : decode kY_TrustDeskModel_marksLeft.2.1 50 = .ok (.aload_n 0, 1) := by decide +kernel
theorem d_TrustDeskModel_marksLeft_51 : decode kY_TrustDeskModel_marksLeft.2.1 51 = .ok (.getfield 76, 3) := by decide +kernel
theorem d_TrustDeskModel_marksLeft_54 : decode kY_TrustDeskModel_marksLeft.2.1 54 = .ok (.iload_n 2, 1) := by decide +kernel
theorem d_TrustDeskModel_marksLeft_55 : decode kY_TrustDeskModel_marksLeft.2.1 55 = .ok (.iaload, 1) := by decide +kernel
theorem d_TrustDeskModel_marksLeft_56 : decode kY_TrustDeskModel_marksLeft.2.1 56 = .ok (.aload_n 0, 1) := by decide +kernel
theorem d_TrustDeskModel_marksLeft_57 : decode kY_TrustDeskModel_marksLeft.2.1 57 = .ok (.getfield 76, 3) := by decide +kernel
theorem d_TrustDeskModel_marksLeft_60 : decode kY_TrustDeskModel_marksLeft.2.1 60 = .ok (.aload_n 0, 1) := by decide +kernel
theorem d_TrustDeskModel_marksLeft_61 : decode kY_TrustDeskModel_marksLeft.2.1 61 = .ok (.getfield 128, 3) := by decide +kernel
theorem d_TrustDeskModel_marksLeft_64 : decode kY_TrustDeskModel_marksLeft.2.1 64 = .ok (.iload_n 1, 1) := by decide +kernel
theorem d_TrustDeskModel_marksLeft_65 : decode kY_TrustDeskModel_marksLeft.2.1 65 = .ok (.iaload, 1) := by decide +kernel
theorem d_TrustDeskModel_marksLeft_66 : decode kY_TrustDeskModel_marksLeft.2.1 66 = .ok (.iaload, 1) := by decide +kernel
theorem d_TrustDeskModel_marksLeft_67 : decode kY_TrustDeskModel_marksLeft.2.1 67 = .ok (.iand, 1) := by decide +kernel
theorem d_TrustDeskModel_marksLeft_68 : decode kY_TrustDeskModel_marksLeft.2.1 68 = .ok (.invokestatic 444, 3) := by decide +kernel
theorem d_TrustDeskModel_marksLeft_71 : decode kY_TrustDeskModel_marksLeft.2.1 71 = .ok (.goto 5, 3) := by decide +kernel
theorem d_TrustDeskModel_marksLeft_16 : decode kY_TrustDeskModel_marksLeft.2.1 16 = .ok (.aload_n 0, 1) := by decide +kernel
theorem d_TrustDeskModel_marksLeft_17 : decode kY_TrustDeskModel_marksLeft.2.1 17 = .ok (.getfield 76, 3) := by decide +kernel
theorem d_TrustDeskModel_marksLeft_20 : decode kY_TrustDeskModel_marksLeft.2.1 20 = .ok (.iload_n 2, 1) := by decide +kernel
theorem d_TrustDeskModel_marksLeft_21 : decode kY_TrustDeskModel_marksLeft.2.1 21 = .ok (.iaload, 1) := by decide +kernel
theorem d_TrustDeskModel_marksLeft_22 : decode kY_TrustDeskModel_marksLeft.2.1 22 = .ok (.aload_n 0, 1) := by decide +kernel
theorem d_TrustDeskModel_marksLeft_23 : decode kY_TrustDeskModel_marksLeft.2.1 23 = .ok (.getfield 116, 3) := by decide +kernel
theorem d_TrustDeskModel_marksLeft_26 : decode kY_TrustDeskModel_marksLeft.2.1 26 = .ok (.aload_n 0, 1) := by decide +kernel
theorem d_TrustDeskModel_marksLeft_27 : decode kY_TrustDeskModel_marksLeft.2.1 27 = .ok (.getfield 128, 3) := by decide +kernel
theorem d_TrustDeskModel_marksLeft_30 : decode kY_TrustDeskModel_marksLeft.2.1 30 = .ok (.iload_n 1, 1) := by decide +kernel
theorem d_TrustDeskModel_marksLeft_31 : decode kY_TrustDeskModel_marksLeft.2.1 31 = .ok (.iaload, 1) := by decide +kernel
theorem d_TrustDeskModel_marksLeft_32 : decode kY_TrustDeskModel_marksLeft.2.1 32 = .ok (.iaload, 1) := by decide +kernel
theorem d_TrustDeskModel_marksLeft_33 : decode kY_TrustDeskModel_marksLeft.2.1 33 = .ok (.iand, 1) := by decide +kernel
theorem d_TrustDeskModel_marksLeft_34 : decode kY_TrustDeskModel_marksLeft.2.1 34 = .ok (.invokestatic 444, 3) := by decide +kernel
theorem d_TrustDeskModel_marksLeft_37 : decode kY_TrustDeskModel_marksLeft.2.1 37 = .ok (.goto 39, 3) := by decide +kernel
def w_TrustDeskModel_marksLeft_x : List Nat := []
set_option maxHeartbeats 100000000 in theorem tc_TrustDeskModel_marksLeft_x {g : mj_G} {l : Launch} {d : Nat} {T0 : tm_H} {M0 : mj_M} {n0 x9 : Nat} {o0 : Nat} {x1 : Int32} (h_o0 : T0 o0 = some (0, 13, 0)) (hn0 : 0 ≤ x1.toInt ∧ x1.toInt ≤ 39) (yR : rI M0 o0) (yX : rX M0 o0) (ys : x1.toInt < rv M0 o0 53) (I0 : tm_I tm_FT (tm_in w_TrustDeskModel_marksLeft_x) x9 T0 M0 n0 T0 M0 n0) : mj_Met g l kY_TrustDeskModel_marksLeft (d + 1) [.ref o0, .int x1] M0 n0 0 0 (tm_Q tm_FT (tm_in w_TrustDeskModel_marksLeft_x) x9 T0 M0 n0 (fun r _ M => ∃ v : Int32, r = some (.int v) ∧ rI M o0)) := by
  refine mj_enter (by decide) (Nat.le_of_ble_eq_true rfl) ?_
  have K1 : rX M0 o0 := yX
  refine mv_aload_n d_TrustDeskModel_marksLeft_0 rfl rfl ?_
  obtain ⟨a3, q2, t_a3⟩ := tm_atR I0 h_o0 (k := 55) rfl
  refine tr_getK q2 d_TrustDeskModel_marksLeft_1 f_TrustDeskModel_125_13 ?_
  refine mv_iload_n d_TrustDeskModel_marksLeft_4 rfl rfl ?_
  refine tr_ialdR (o := o0) (k := 55) I0 q2 t_a3 (by decide) d_TrustDeskModel_marksLeft_5 (vp_in_iff.mpr (by have := yR.1 32 _ _ rfl; have := yR.1 49 _ _ rfl; omega)) (fun v4 e5 => ?_)
  have := yR.a (k := 55) rfl (x1 : Int32).toNatClampNeg
  refine mv_istore_n (lv' := [(2, .int v4), (0, .ref o0), (1, .int x1)]) d_TrustDeskModel_marksLeft_6 rfl (by decide) rfl ?_
  refine mv_aload_n d_TrustDeskModel_marksLeft_7 rfl rfl ?_
  obtain ⟨a7, q6, t_a7⟩ := tm_atR I0 h_o0 (k := 54) rfl
  refine tr_getK q6 d_TrustDeskModel_marksLeft_8 f_TrustDeskModel_122_13 ?_
  refine mv_iload_n d_TrustDeskModel_marksLeft_11 rfl rfl ?_
  refine tr_ialdR (o := o0) (k := 54) I0 q6 t_a7 (by decide) d_TrustDeskModel_marksLeft_12 (vp_in_iff.mpr (by have := yR.1 32 _ _ rfl; have := yR.1 49 _ _ rfl; omega)) (fun v8 e9 => ?_)
  have := yR.a (k := 54) rfl (x1 : Int32).toNatClampNeg
  have := K1 x1.toNatClampNeg (by have := mz_nat9 (i := x1) (by have := yR.1 32 _ _ rfl; have := yR.1 49 _ _ rfl; omega); omega) (by have := mz_nat9 (i := x1) (by have := yR.1 32 _ _ rfl; have := yR.1 49 _ _ rfl; omega); omega)
  have := mz_hi v8
  refine mv_if_neZ (tgt := 40) (a := v8.toInt) d_TrustDeskModel_marksLeft_13 (by decide) rfl (fun b10 => ?_) (fun b10 => ?_)
  · refine mv_aload_n d_TrustDeskModel_marksLeft_40 rfl rfl ?_
    refine tr_getK (k := 54) q6 d_TrustDeskModel_marksLeft_41 f_TrustDeskModel_122_13 ?_
    refine mv_iload_n d_TrustDeskModel_marksLeft_44 rfl rfl ?_
    refine tr_ialdR (o := o0) (k := 54) I0 q6 t_a7 (by decide) d_TrustDeskModel_marksLeft_45 (vp_in_iff.mpr (by have := yR.1 32 _ _ rfl; have := yR.1 49 _ _ rfl; omega)) (fun v11 e12 => ?_)
    have := yR.a (k := 54) rfl (x1 : Int32).toNatClampNeg
    have := K1 x1.toNatClampNeg (by have := mz_nat9 (i := x1) (by have := yR.1 32 _ _ rfl; have := yR.1 49 _ _ rfl; omega); omega) (by have := mz_nat9 (i := x1) (by have := yR.1 32 _ _ rfl; have := yR.1 49 _ _ rfl; omega); omega)
    refine mv_iconst (v := 1) d_TrustDeskModel_marksLeft_46 (by decide) ?_
    have := mz_hi v11
    refine mv_icmp_neZ (tgt := 74) (a := v11.toInt) (b := 1) d_TrustDeskModel_marksLeft_47 (by decide) rfl (by decide) (fun b13 => ?_) (fun b13 => ?_)
    · refine mv_bipush (v := 12) d_TrustDeskModel_marksLeft_74 (by decide) ?_
      exact mv_iret d_TrustDeskModel_marksLeft_76 rfl (by first | rfl | decide) ⟨_, I0, _, rfl, yR⟩
    · refine mv_aload_n d_TrustDeskModel_marksLeft_50 rfl rfl ?_
      obtain ⟨a15, q14, t_a15⟩ := tm_atR I0 h_o0 (k := 36) rfl
      refine tr_getK q14 d_TrustDeskModel_marksLeft_51 f_TrustDeskModel_76_13 ?_
      refine mv_iload_n d_TrustDeskModel_marksLeft_54 rfl rfl ?_
      refine tr_ialdR (o := o0) (k := 36) I0 q14 t_a15 (by decide) d_TrustDeskModel_marksLeft_55 (vp_in_iff.mpr (by have := yR.1 32 _ _ rfl; have := yR.1 49 _ _ rfl; omega)) (fun v16 e17 => ?_)
      refine mv_aload_n d_TrustDeskModel_marksLeft_56 rfl rfl ?_
      refine tr_getK (k := 36) q14 d_TrustDeskModel_marksLeft_57 f_TrustDeskModel_76_13 ?_
      refine mv_aload_n d_TrustDeskModel_marksLeft_60 rfl rfl ?_
      obtain ⟨a19, q18, t_a19⟩ := tm_atR I0 h_o0 (k := 56) rfl
      refine tr_getK q18 d_TrustDeskModel_marksLeft_61 f_TrustDeskModel_128_13 ?_
      refine mv_iload_n d_TrustDeskModel_marksLeft_64 rfl rfl ?_
      refine tr_ialdR (o := o0) (k := 56) I0 q18 t_a19 (by decide) d_TrustDeskModel_marksLeft_65 (vp_in_iff.mpr (by have := yR.1 32 _ _ rfl; have := yR.1 49 _ _ rfl; omega)) (fun v20 e21 => ?_)
      have := K1 x1.toNatClampNeg (by have := mz_nat9 (i := x1) (by have := yR.1 32 _ _ rfl; have := yR.1 49 _ _ rfl; omega); omega) (by have := mz_nat9 (i := x1) (by have := yR.1 32 _ _ rfl; have := yR.1 49 _ _ rfl; omega); omega)
      refine tr_ialdR (o := o0) (k := 36) I0 q14 t_a15 (by decide) d_TrustDeskModel_marksLeft_66 (vp_in_iff.mpr (by have := yR.1 32 _ _ rfl; have := yR.1 49 _ _ rfl; omega)) (fun v22 e23 => ?_)
      refine mv_iand d_TrustDeskModel_marksLeft_67 ?_
      refine mv_callS (kc' := 0) (ks' := 0) (As := [.int (v16 &&& v22)]) (st9 := [.int (v16 &&& v22)]) d_TrustDeskModel_marksLeft_68 lS_TrustDeskModel_444 (tc_TrustDeskModel_size (d := d) (x9 := x9) (x1 := (v16 &&& v22))  I0.start) rfl (Nat.le_of_ble_eq_true rfl) (Nat.le_of_ble_eq_true rfl) (Nat.le_of_ble_eq_true rfl) (hst := rfl) (fun b24r M25 n26 b24 => ?_)
      obtain ⟨T27, J28, v30, rfl⟩ := b24
      have I29 := I0.call J28 (tm_sub (by decide)) (Or.inl rfl)
      have t31 := J28.up h_o0
      have R32 := rI_call I0 J28 (I0.up h_o0) (fun _ _ => rfl) (fun _ _ => rfl) yR
      have z33 := (rv_c I0 J28 (I0.up h_o0) (k := 32) rfl)
      have z34 := (rv_c I0 J28 (I0.up h_o0) (k := 49) rfl)
      have K35 : rX M25 o0 := K1.same (sA_c I0 J28 (I0.up h_o0) (by decide +kernel)) (sF_c I0 J28 (I0.up h_o0) (by decide +kernel))
      have q36 := J28.keep h_o0 (by decide) q2
      have t37 := J28.up t_a3
      have q38 := J28.keep h_o0 (by decide) q6
      have t39 := J28.up t_a7
      have q40 := J28.keep h_o0 (by decide) q14
      have t41 := J28.up t_a15
      have q42 := J28.keep h_o0 (by decide) q18
      have t43 := J28.up t_a19
      refine mv_goto (tgt := 76) d_TrustDeskModel_marksLeft_71 (by decide) ?_
      exact mv_iret d_TrustDeskModel_marksLeft_76 rfl (by first | rfl | decide) ⟨_, I29, _, rfl, R32⟩
  · refine mv_aload_n d_TrustDeskModel_marksLeft_16 rfl rfl ?_
    obtain ⟨a45, q44, t_a45⟩ := tm_atR I0 h_o0 (k := 36) rfl
    refine tr_getK q44 d_TrustDeskModel_marksLeft_17 f_TrustDeskModel_76_13 ?_
    refine mv_iload_n d_TrustDeskModel_marksLeft_20 rfl rfl ?_
    refine tr_ialdR (o := o0) (k := 36) I0 q44 t_a45 (by decide) d_TrustDeskModel_marksLeft_21 (vp_in_iff.mpr (by have := yR.1 32 _ _ rfl; have := yR.1 49 _ _ rfl; omega)) (fun v46 e47 => ?_)
    refine mv_aload_n d_TrustDeskModel_marksLeft_22 rfl rfl ?_
    obtain ⟨a49, q48, t_a49⟩ := tm_atR I0 h_o0 (k := 50) rfl
    refine tr_getK q48 d_TrustDeskModel_marksLeft_23 f_TrustDeskModel_116_13 ?_
    refine mv_aload_n d_TrustDeskModel_marksLeft_26 rfl rfl ?_
    obtain ⟨a51, q50, t_a51⟩ := tm_atR I0 h_o0 (k := 56) rfl
    refine tr_getK q50 d_TrustDeskModel_marksLeft_27 f_TrustDeskModel_128_13 ?_
    refine mv_iload_n d_TrustDeskModel_marksLeft_30 rfl rfl ?_
    refine tr_ialdR (o := o0) (k := 56) I0 q50 t_a51 (by decide) d_TrustDeskModel_marksLeft_31 (vp_in_iff.mpr (by have := yR.1 32 _ _ rfl; have := yR.1 49 _ _ rfl; omega)) (fun v52 e53 => ?_)
    have := K1 x1.toNatClampNeg (by have := mz_nat9 (i := x1) (by have := yR.1 32 _ _ rfl; have := yR.1 49 _ _ rfl; omega); omega) (by have := mz_nat9 (i := x1) (by have := yR.1 32 _ _ rfl; have := yR.1 49 _ _ rfl; omega); omega)
    refine tr_ialdR (o := o0) (k := 50) I0 q48 t_a49 (by decide) d_TrustDeskModel_marksLeft_32 (vp_in_iff.mpr (by have := yR.1 32 _ _ rfl; have := yR.1 49 _ _ rfl; omega)) (fun v54 e55 => ?_)
    refine mv_iand d_TrustDeskModel_marksLeft_33 ?_
    refine mv_callS (kc' := 0) (ks' := 0) (As := [.int (v46 &&& v54)]) (st9 := [.int (v46 &&& v54)]) d_TrustDeskModel_marksLeft_34 lS_TrustDeskModel_444 (tc_TrustDeskModel_size (d := d) (x9 := x9) (x1 := (v46 &&& v54))  I0.start) rfl (Nat.le_of_ble_eq_true rfl) (Nat.le_of_ble_eq_true rfl) (Nat.le_of_ble_eq_true rfl) (hst := rfl) (fun b56r M57 n58 b56 => ?_)
    obtain ⟨T59, J60, v62, rfl⟩ := b56
    have I61 := I0.call J60 (tm_sub (by decide)) (Or.inl rfl)
    have t63 := J60.up h_o0
    have R64 := rI_call I0 J60 (I0.up h_o0) (fun _ _ => rfl) (fun _ _ => rfl) yR
    have z65 := (rv_c I0 J60 (I0.up h_o0) (k := 32) rfl)
    have z66 := (rv_c I0 J60 (I0.up h_o0) (k := 49) rfl)
    have K67 : rX M57 o0 := K1.same (sA_c I0 J60 (I0.up h_o0) (by decide +kernel)) (sF_c I0 J60 (I0.up h_o0) (by decide +kernel))
    have q68 := J60.keep h_o0 (by decide) q2
    have t69 := J60.up t_a3
    have q70 := J60.keep h_o0 (by decide) q6
    have t71 := J60.up t_a7
    have q72 := J60.keep h_o0 (by decide) q44
    have t73 := J60.up t_a45
    have q74 := J60.keep h_o0 (by decide) q48
    have t75 := J60.up t_a49
    have q76 := J60.keep h_o0 (by decide) q50
    have t77 := J60.up t_a51
    refine mv_goto (tgt := 76) d_TrustDeskModel_marksLeft_37 (by decide) ?_
    exact mv_iret d_TrustDeskModel_marksLeft_76 rfl (by first | rfl | decide) ⟨_, I61, _, rfl, R64⟩
abbrev kY_TrustDeskModel_lacksYes : mj_Y := (⟨"TrustDeskModel", "lacksYes", "(II)Z"⟩, prog_14_method_82_code, 5, (Option.some Jvm.ClassFile.FieldType.boolean))
theorem d_TrustDeskModel_lacksYes_0 : decode kY_TrustDeskModel_lacksYes.2.1 0 = .ok (.iconst 0, 1) := by decide +kernel
theorem d_TrustDeskModel_lacksYes_1 : decode kY_TrustDeskModel_lacksYes.2.1 1 = .ok (.istore_n 3, 1) := by decide +kernel
theorem d_TrustDeskModel_lacksYes_2 : decode kY_TrustDeskModel_lacksYes.2.1 2 = .ok (.iconst 0, 1) := by decide +kernel
theorem d_TrustDeskModel_lacksYes_3 : decode kY_TrustDeskModel_lacksYes.2.1 3 = .ok (.istore 4, 2) := by decide +kernel
theorem d_TrustDeskModel_lacksYes_5 : decode kY_TrustDeskModel_lacksYes.2.1 5 = .ok (.iload 4, 2) := by decide +kernel
theorem d_TrustDeskModel_lacksYes_7 : decode kY_TrustDeskModel_lacksYes.2.1 7 = .ok (.bipush 100, 2) := by decide +kernel
theorem d_TrustDeskModel_lacksYes_9 : decode kY_TrustDeskModel_lacksYes.2.1 9 = .ok (.if_icmp .ge 43, 3) := by decide +kernel
theorem d_TrustDeskModel_lacksYes_52 : decode kY_TrustDeskModel_lacksYes.2.1 52 = .ok (.iload_n 3, 1) := by decide +kernel
theorem d_TrustDeskModel_lacksYes_53 : decode kY_TrustDeskModel_lacksYes.2.1 53 = .ok (.aload_n 0, 1) := by decide +kernel
theorem d_TrustDeskModel_lacksYes_54 : decode kY_TrustDeskModel_lacksYes.2.1 54 = .ok (.getfield 85, 3) := by decide +kernel
theorem d_TrustDeskModel_lacksYes_57 : decode kY_TrustDeskModel_lacksYes.2.1 57 = .ok (.iload_n 2, 1) := by decide +kernel
theorem d_TrustDeskModel_lacksYes_58 : decode kY_TrustDeskModel_lacksYes.2.1 58 = .ok (.iaload, 1) := by decide +kernel
theorem d_TrustDeskModel_lacksYes_59 : decode kY_TrustDeskModel_lacksYes.2.1 59 = .ok (.if_icmp .ge 7, 3) := by decide +kernel
theorem d_TrustDeskModel_lacksYes_66 : decode kY_TrustDeskModel_lacksYes.2.1 66 = .ok (.iconst 0, 1) := by decide +kernel
theorem d_TrustDeskModel_lacksYes_67 : decode kY_TrustDeskModel_lacksYes.2.1 67 = .ok (.ireturn, 1) := by decide +kernel
theorem d_TrustDeskModel_lacksYes_62 : decode kY_TrustDeskModel_lacksYes.2.1 62 = .ok (.iconst 1, 1) := by decide +kernel
theorem d_TrustDeskModel_lacksYes_63 : decode kY_TrustDeskModel_lacksYes.2.1 63 = .ok (.goto 4, 3) := by decide +kernel
theorem d_TrustDeskModel_lacksYes_12 : decode kY_TrustDeskModel_lacksYes.2.1 12 = .ok (.aload_n 0, 1) := by decide +kernel
theorem d_TrustDeskModel_lacksYes_13 : decode kY_TrustDeskModel_lacksYes.2.1 13 = .ok (.getfield 88, 3) := by decide +kernel
theorem d_TrustDeskModel_lacksYes_16 : decode kY_TrustDeskModel_lacksYes.2.1 16 = .ok (.bipush 100, 2) := by decide +kernel
theorem d_TrustDeskModel_lacksYes_18 : decode kY_TrustDeskModel_lacksYes.2.1 18 = .ok (.iload_n 2, 1) := by decide +kernel
theorem d_TrustDeskModel_lacksYes_19 : decode kY_TrustDeskModel_lacksYes.2.1 19 = .ok (.imul, 1) := by decide +kernel
theorem d_TrustDeskModel_lacksYes_20 : decode kY_TrustDeskModel_lacksYes.2.1 20 = .ok (.iload 4, 2) := by decide +kernel
theorem d_TrustDeskModel_lacksYes_22 : decode kY_TrustDeskModel_lacksYes.2.1 22 = .ok (.iadd, 1) := by decide +kernel
theorem d_TrustDeskModel_lacksYes_23 : decode kY_TrustDeskModel_lacksYes.2.1 23 = .ok (.baload, 1) := by decide +kernel
theorem d_TrustDeskModel_lacksYes_24 : decode kY_TrustDeskModel_lacksYes.2.1 24 = .ok (.ifCond .eq 22, 3) := by decide +kernel
theorem d_TrustDeskModel_lacksYes_46 : decode kY_TrustDeskModel_lacksYes.2.1 46 = .ok (.iinc 4 1, 3) := by decide +kernel
theorem d_TrustDeskModel_lacksYes_49 : decode kY_TrustDeskModel_lacksYes.2.1 49 = .ok (.goto (-44), 3) := by decide +kernel
theorem d_TrustDeskModel_lacksYes_27 : decode kY_TrustDeskModel_lacksYes.2.1 27 = .ok (.aload_n 0, 1) := by decide +kernel
theorem d_TrustDeskModel_lacksYes_28 : decode kY_TrustDeskModel_lacksYes.2.1 28 = .ok (.getfield 146, 3) := by decide +kernel
theorem d_TrustDeskModel_lacksYes_31 : decode kY_TrustDeskModel_lacksYes.2.1 31 = .ok (.bipush 100, 2) := by decide +kernel
theorem d_TrustDeskModel_lacksYes_33 : decode kY_TrustDeskModel_lacksYes.2.1 33 = .ok (.iload_n 1, 1) := by decide +kernel
theorem d_TrustDeskModel_lacksYes_34 : decode kY_TrustDeskModel_lacksYes.2.1 34 = .ok (.imul, 1) := by decide +kernel
theorem d_TrustDeskModel_lacksYes_35 : decode kY_TrustDeskModel_lacksYes.2.1 35 = .ok (.iload 4, 2) := by decide +kernel
theorem d_TrustDeskModel_lacksYes_37 : decode kY_TrustDeskModel_lacksYes.2.1 37 = .ok (.iadd, 1) := by decide +kernel
theorem d_TrustDeskModel_lacksYes_38 : decode kY_TrustDeskModel_lacksYes.2.1 38 = .ok (.iaload, 1) := by decide +kernel
theorem d_TrustDeskModel_lacksYes_39 : decode kY_TrustDeskModel_lacksYes.2.1 39 = .ok (.iconst 1, 1) := by decide +kernel
theorem d_TrustDeskModel_lacksYes_40 : decode kY_TrustDeskModel_lacksYes.2.1 40 = .ok (.if_icmp .ne 6, 3) := by decide +kernel
theorem d_TrustDeskModel_lacksYes_43 : decode kY_TrustDeskModel_lacksYes.2.1 43 = .ok (.iinc 3 1, 3) := by decide +kernel
def w_TrustDeskModel_lacksYes_x : List Nat := []
set_option maxHeartbeats 100000000 in theorem tc_TrustDeskModel_lacksYes_x {g : mj_G} {l : Launch} {d : Nat} {T0 : tm_H} {M0 : mj_M} {n0 x9 : Nat} {o0 : Nat} {x1 : Int32} {x2 : Int32} (h_o0 : T0 o0 = some (0, 13, 0)) (hn0 : 0 ≤ x1.toInt ∧ x1.toInt ≤ 39) (hn1 : 0 ≤ x2.toInt ∧ x2.toInt ≤ 11) (yR : rI M0 o0) (I0 : tm_I tm_FT (tm_in w_TrustDeskModel_lacksYes_x) x9 T0 M0 n0 T0 M0 n0) : mj_Met g l kY_TrustDeskModel_lacksYes d [.ref o0, .int x1, .int x2] M0 n0 0 0 (tm_Q tm_FT (tm_in w_TrustDeskModel_lacksYes_x) x9 T0 M0 n0 (fun r _ M => ∃ v : Int32, r = some (.int v) ∧ 0 ≤ v.toInt ∧ v.toInt ≤ 1 ∧ rI M o0)) := by
  refine mj_enter (by decide) (Nat.le_of_ble_eq_true rfl) ?_
  refine mv_iconst (v := 0) d_TrustDeskModel_lacksYes_0 (by decide) ?_
  refine mv_istore_n (lv' := [(3, .int 0), (0, .ref o0), (1, .int x1), (2, .int x2)]) d_TrustDeskModel_lacksYes_1 rfl (by decide) rfl ?_
  refine mv_iconst (v := 0) d_TrustDeskModel_lacksYes_2 (by decide) ?_
  refine mv_istore (lv' := [(4, .int 0), (3, .int 0), (0, .ref o0), (1, .int x1), (2, .int x2)]) d_TrustDeskModel_lacksYes_3 (by decide) rfl ?_
  have L5_1 : ∀ (k : Nat) (i4_1 : Int32) (i3_1 : Int32) (T_1 : tm_H) (M_1 : mj_M) (n_1 : Nat), tm_I tm_FT (tm_in w_TrustDeskModel_lacksYes_x) x9 T0 M0 n0 T_1 M_1 n_1 → T_1 o0 = some (0, 13, 0) → 0 ≤ i4_1.toInt → (rI M_1 o0) → 2147483647 - i4_1.toInt < (k : Int) → mj_V g l kY_TrustDeskModel_lacksYes d 5 [(4, .int i4_1), (3, .int i3_1), (0, .ref o0), (1, .int x1), (2, .int x2)] [] M_1 n_1 0 0 (tm_Q tm_FT (tm_in w_TrustDeskModel_lacksYes_x) x9 T0 M0 n0 (fun r _ M => ∃ v : Int32, r = some (.int v) ∧ 0 ≤ v.toInt ∧ v.toInt ≤ 1 ∧ rI M o0)) := by
    intro k1
    induction k1 with
    | zero =>
      intro i4_1 i3_1 T_1 M_1 n_1 I_1 h_q0_1 iv0_1 kKR_1 hk1
      have := mz_hi i4_1
      have := kKR_1.1 15 _ _ rfl
      have := kKR_1.1 16 _ _ rfl
      have := kKR_1.1 19 _ _ rfl
      omega
    | succ k1 ih1 =>
      intro i4_1 i3_1 T_1 M_1 n_1 I_1 h_q0_1 iv0_1 kKR_1 hk1
      refine mv_iload d_TrustDeskModel_lacksYes_5 rfl ?_
      refine mv_bipush (v := 100) d_TrustDeskModel_lacksYes_7 (by decide) ?_
      have := mz_hi i4_1
      refine mv_icmp_geZ (tgt := 52) (a := i4_1.toInt) (b := 100) d_TrustDeskModel_lacksYes_9 (by decide) rfl (by decide) (fun b2 => ?_) (fun b2 => ?_)
      · refine mv_iload_n d_TrustDeskModel_lacksYes_52 rfl rfl ?_
        refine mv_aload_n d_TrustDeskModel_lacksYes_53 rfl rfl ?_
        obtain ⟨a4, q3, t_a4⟩ := tm_atR I_1 h_q0_1 (k := 39) rfl
        refine tr_getK q3 d_TrustDeskModel_lacksYes_54 f_TrustDeskModel_85_13 ?_
        refine mv_iload_n d_TrustDeskModel_lacksYes_57 rfl rfl ?_
        refine tr_ialdR (o := o0) (k := 39) I_1 q3 t_a4 (by decide) d_TrustDeskModel_lacksYes_58 (vp_in_iff.mpr (by omega)) (fun v5 e6 => ?_)
        have := mz_hi i3_1
        have := mz_hi v5
        refine mv_icmp_geZ (tgt := 66) (a := i3_1.toInt) (b := v5.toInt) d_TrustDeskModel_lacksYes_59 (by decide) rfl rfl (fun b7 => ?_) (fun b7 => ?_)
        · refine mv_iconst (v := 0) d_TrustDeskModel_lacksYes_66 (by decide) ?_
          exact mv_iret d_TrustDeskModel_lacksYes_67 rfl (by decide) ⟨_, I_1, _, rfl, by decide, by decide, kKR_1⟩
        · refine mv_iconst (v := 1) d_TrustDeskModel_lacksYes_62 (by decide) ?_
          refine mv_goto (tgt := 67) d_TrustDeskModel_lacksYes_63 (by decide) ?_
          exact mv_iret d_TrustDeskModel_lacksYes_67 rfl (by decide) ⟨_, I_1, _, rfl, by decide, by decide, kKR_1⟩
      · refine mv_aload_n d_TrustDeskModel_lacksYes_12 rfl rfl ?_
        obtain ⟨a9, q8, t_a9⟩ := tm_atR I_1 h_q0_1 (k := 40) rfl
        refine tr_getK q8 d_TrustDeskModel_lacksYes_13 f_TrustDeskModel_88_13 ?_
        refine mv_bipush (v := 100) d_TrustDeskModel_lacksYes_16 (by decide) ?_
        refine mv_iload_n d_TrustDeskModel_lacksYes_18 rfl rfl ?_
        refine mv_imul d_TrustDeskModel_lacksYes_19 ?_
        refine mv_iload d_TrustDeskModel_lacksYes_20 rfl ?_
        refine mv_iadd d_TrustDeskModel_lacksYes_22 ?_
        have b10 : (100 * x2 : Int32).toInt = (100 * x2.toInt) := mz_mul2 (by decide) rfl (by omega) (by omega)
        have b11 : ((100 * x2) + i4_1 : Int32).toInt = ((100 * x2.toInt) + i4_1.toInt) := mz_add2 b10 rfl (by omega) (by omega)
        refine tr_zaldR (o := o0) (k := 40) I_1 q8 t_a9 (by decide) d_TrustDeskModel_lacksYes_23 (vp_in_iff.mpr (by omega)) (fun v12 e13 => ?_)
        have := mz_hi v12
        refine mv_if_eqZ (tgt := 46) (a := v12.toInt) d_TrustDeskModel_lacksYes_24 (by decide) rfl (fun b14 => ?_) (fun b14 => ?_)
        · refine mv_iinc (v := (i4_1 + 1)) (lv' := [(4, .int (i4_1 + 1)), (3, .int i3_1), (0, .ref o0), (1, .int x1), (2, .int x2)]) d_TrustDeskModel_lacksYes_46 rfl rfl (by decide) rfl ?_
          refine mv_goto (tgt := 5) d_TrustDeskModel_lacksYes_49 (by decide) ?_
          have b15 : (i4_1 + 1 : Int32).toInt = (i4_1.toInt + 1) := mz_add2 rfl (by decide) (by omega) (by omega)
          have b16 : (i4_1 + 1).toInt = i4_1.toInt + 1 := mz_addn 1 1 (by decide) (by have := mz_lo i4_1; omega) (by have := mz_hi i4_1; omega)
          exact (ih1 (i4_1 + 1) i3_1 T_1 M_1 n_1 I_1 h_q0_1 (by first | omega | decide | exact fun h9 => absurd (by decide) h9) kKR_1 (by omega))
        · refine mv_aload_n d_TrustDeskModel_lacksYes_27 rfl rfl ?_
          obtain ⟨a18, q17, t_a18⟩ := tm_atR I_1 h_q0_1 (k := 62) rfl
          refine tr_getK q17 d_TrustDeskModel_lacksYes_28 f_TrustDeskModel_146_13 ?_
          refine mv_bipush (v := 100) d_TrustDeskModel_lacksYes_31 (by decide) ?_
          refine mv_iload_n d_TrustDeskModel_lacksYes_33 rfl rfl ?_
          refine mv_imul d_TrustDeskModel_lacksYes_34 ?_
          refine mv_iload d_TrustDeskModel_lacksYes_35 rfl ?_
          refine mv_iadd d_TrustDeskModel_lacksYes_37 ?_
          have b19 : (100 * x1 : Int32).toInt = (100 * x1.toInt) := mz_mul2 (by decide) rfl (by omega) (by omega)
          have b20 : ((100 * x1) + i4_1 : Int32).toInt = ((100 * x1.toInt) + i4_1.toInt) := mz_add2 b19 rfl (by omega) (by omega)
          refine tr_ialdR (o := o0) (k := 62) I_1 q17 t_a18 (by decide) d_TrustDeskModel_lacksYes_38 (vp_in_iff.mpr (by omega)) (fun v21 e22 => ?_)
          refine mv_iconst (v := 1) d_TrustDeskModel_lacksYes_39 (by decide) ?_
          have := mz_hi v21
          refine mv_icmp_neZ (tgt := 46) (a := v21.toInt) (b := 1) d_TrustDeskModel_lacksYes_40 (by decide) rfl (by decide) (fun b23 => ?_) (fun b23 => ?_)
          · refine mv_iinc (v := (i4_1 + 1)) (lv' := [(4, .int (i4_1 + 1)), (3, .int i3_1), (0, .ref o0), (1, .int x1), (2, .int x2)]) d_TrustDeskModel_lacksYes_46 rfl rfl (by decide) rfl ?_
            refine mv_goto (tgt := 5) d_TrustDeskModel_lacksYes_49 (by decide) ?_
            have b24 : (i4_1 + 1 : Int32).toInt = (i4_1.toInt + 1) := mz_add2 rfl (by decide) (by omega) (by omega)
            have b25 : (i4_1 + 1).toInt = i4_1.toInt + 1 := mz_addn 1 1 (by decide) (by have := mz_lo i4_1; omega) (by have := mz_hi i4_1; omega)
            exact (ih1 (i4_1 + 1) i3_1 T_1 M_1 n_1 I_1 h_q0_1 (by first | omega | decide | exact fun h9 => absurd (by decide) h9) kKR_1 (by omega))
          · refine mv_iinc (v := (i3_1 + 1)) (lv' := [(3, .int (i3_1 + 1)), (4, .int i4_1), (0, .ref o0), (1, .int x1), (2, .int x2)]) d_TrustDeskModel_lacksYes_43 rfl rfl (by decide) rfl ?_
            refine mv_iinc (v := (i4_1 + 1)) (lv' := [(4, .int (i4_1 + 1)), (3, .int (i3_1 + 1)), (0, .ref o0), (1, .int x1), (2, .int x2)]) d_TrustDeskModel_lacksYes_46 rfl rfl (by decide) rfl ?_
            refine mv_goto (tgt := 5) d_TrustDeskModel_lacksYes_49 (by decide) ?_
            have b26 : (i4_1 + 1 : Int32).toInt = (i4_1.toInt + 1) := mz_add2 rfl (by decide) (by omega) (by omega)
            have b27 : (i4_1 + 1).toInt = i4_1.toInt + 1 := mz_addn 1 1 (by decide) (by have := mz_lo i4_1; omega) (by have := mz_hi i4_1; omega)
            exact (ih1 (i4_1 + 1) (i3_1 + 1) T_1 M_1 n_1 I_1 h_q0_1 (by first | omega | decide | exact fun h9 => absurd (by decide) h9) kKR_1 (by omega))
  have : (0 : Int32).toInt = 0 := by decide
  exact mv_less (Nat.zero_le _) (Nat.zero_le _) (L5_1 4294967296 0 0 T0 M0 n0 I0 h_o0 (by first | omega | decide | exact fun h9 => absurd (by decide) h9) yR (by show (2147483647 - (0 : Int) : Int) < _; decide))
