def w_Fund_init_f : List Nat := [662]
theorem tc_Fund_init_f {g : mj_G} {l : Launch} {d : Nat} {T0 : tm_H} {M0 : mj_M} {n0 : Nat} {o0 : Nat} {x1 : Int32} {x2 : Int32} {x3 : Int32} (h_o0 : T0 o0 = some (5, 6, 0)) (m_o0 : M0 o0 = some (.inr (6, [.int 0, .int 0, .int 0, .long 0, .int 0, .int 0, .int 0, .int 0, .int 0, .int 0, .long 0, .null, .null, .null, .null])))  (I0 : tm_I tm_FT (tm_in w_Fund_init_f) o0 T0 M0 n0 T0 M0 n0) : mj_Met g l kY_Fund_init (d + 4) [.ref o0, .int x1, .int x2, .int x3] M0 n0 4 216 (tm_Q tm_FT (tm_in w_Fund_init_f) o0 T0 M0 n0 (fun r T M => r = none ∧ ∃ c0 c1 c2 c3 : Nat, M o0 = some (.inr (6, [.int x1, .int x2, .int x3, .long 0, .int 0, .int 7, .int 1, .int 0, .int (-1), .int 0, .long 0, .ref c0, .ref c1, .ref c2, .ref c3])) ∧ T c0 = some (3, 3, o0) ∧ T c1 = some (1, 5296, 12) ∧ T c2 = some (1, 5306, 100) ∧ T c3 = some (1, 5314, 101) ∧ tm_at M c0 0 2 (.int 0) ∧ n0 ≤ c3 ∧ M c3 = some (.inl (2, 101, .inl (fun _ => 0))))) := by
  refine mj_enter (by decide) (Nat.le_of_ble_eq_true rfl) ?_
  refine mv_aload_n d_Fund_init_0 rfl rfl ?_
  refine mv_oinit d_Fund_init_1 (mj_in1 (List.mem_of_getElem? (i := 660) (by decide +kernel)) rfl) (Nat.le_of_ble_eq_true rfl) ?_
  refine mv_aload_n d_Fund_init_4 rfl rfl ?_
  refine mv_bipush (v := 7) d_Fund_init_5 (by decide) ?_
  refine tr_putX (k := 5) (fs' := [.int 0, .int 0, .int 0, .long 0, .int 0, .int 7, .int 0, .int 0, .int 0, .int 0, .long 0, .null, .null, .null, .null]) tm_okF I0 h_o0 (Or.inl rfl) m_o0 d_Fund_init_7 p_Fund_9_6 (Nat.le_of_ble_eq_true rfl) rfl rfl rfl (fun M1 I2 m3 K4 => ?_)
  refine mv_aload_n d_Fund_init_10 rfl rfl ?_
  refine mv_iconst (v := 1) d_Fund_init_11 (by decide) ?_
  refine tr_putX (k := 6) (fs' := [.int 0, .int 0, .int 0, .long 0, .int 0, .int 7, .int 1, .int 0, .int 0, .int 0, .long 0, .null, .null, .null, .null]) tm_okF I2 h_o0 (Or.inl rfl) m3 d_Fund_init_12 p_Fund_15_6 (Nat.le_of_ble_eq_true rfl) rfl rfl rfl (fun M5 I6 m7 K8 => ?_)
  refine mv_aload_n d_Fund_init_15 rfl rfl ?_
  refine mv_iconst (v := (-1)) d_Fund_init_16 (by decide) ?_
  refine tr_putX (k := 8) (fs' := [.int 0, .int 0, .int 0, .long 0, .int 0, .int 7, .int 1, .int 0, .int (-1), .int 0, .long 0, .null, .null, .null, .null]) tm_okF I6 h_o0 (Or.inl rfl) m7 d_Fund_init_17 p_Fund_18_6 (Nat.le_of_ble_eq_true rfl) rfl rfl rfl (fun M9 I10 m11 K12 => ?_)
  refine mv_aload_n d_Fund_init_20 rfl rfl ?_
  refine tr_new (kc' := 3) (ks' := 213) tm_okF I10 d_Fund_init_21 n_Fund_21 (Nat.le_of_ble_eq_true rfl) (Nat.le_of_ble_eq_true rfl) (fun T13 M14 I15 t_x16 m17 h18 u19 K20 => ?_)
  have m21 := (K20 _ _ h_o0).trans m11
  have t22 := u19 _ _ h_o0
  have h23 := tm_ne I10 h_o0
  refine mv_dup d_Fund_init_24 rfl ?_
  refine mv_callI (kc' := 3) (ks' := 213) (As := []) (st9 := [.ref n0, .ref n0, .ref o0]) d_Fund_init_25 lI_Fund_23 (tc_ArrayList_init (d := d) (o0 := n0) t_x16 m17 I15.start) rfl (Nat.le_of_ble_eq_true rfl) (Nat.le_of_ble_eq_true rfl) (Nat.le_of_ble_eq_true rfl) (hst := rfl) (fun b24r M25 n26 b24 => ?_)
  obtain ⟨T27, J28, rfl, m30⟩ := b24
  have I29 := I15.call J28 (tm_sub (by decide)) (Or.inr h18)
  have m31 := (J28.keepX t22 h23).trans m21
  have t32 := J28.up t_x16
  have t33 := J28.up t22
  obtain ⟨T34, I35, t_x36, u37⟩ := I29.sealL (o := o0) (c := 3) tm_okF t32 h18 m30
  have t38 := u37 _ _ t33 h23
  have q39 : tm_at M25 n0 0 2 (.int 0) := ⟨_, m30, rfl⟩
  refine tr_putXF (k := 11) (fs' := [.int 0, .int 0, .int 0, .long 0, .int 0, .int 7, .int 1, .int 0, .int (-1), .int 0, .long 0, .ref n0, .null, .null, .null]) tm_okF I35 t38 (Or.inl rfl) m31 d_Fund_init_28 p_Fund_24_6 rfl (Nat.le_of_ble_eq_true rfl) rfl rfl rfl (fun M40 I41 m42 K43 => ?_)
  have q44 := tm_at.eq (K43 _ (tm_dif t_x36 t38 rfl)) q39
  refine mv_aload_n d_Fund_init_31 rfl rfl ?_
  refine mv_bipush (v := 12) d_Fund_init_32 (by decide) ?_
  refine tr_newi (E := 5296) (N := 12) (kc' := 2) (ks' := 201) tm_okF I41 (by decide) d_Fund_init_34 (by decide) (by decide) (by decide) (Nat.le_of_ble_eq_true rfl) (Nat.le_of_ble_eq_true rfl) (fun T45 M46 I47 t_x48 u49 K50 => ?_)
  have q51 := tm_at.eq (K50 _ _ t_x36) q44
  have t52 := u49 _ _ t_x36
  have m53 := (K50 _ _ t38).trans m42
  have t54 := u49 _ _ t38
  refine tr_putXF (k := 12) (fs' := [.int 0, .int 0, .int 0, .long 0, .int 0, .int 7, .int 1, .int 0, .int (-1), .int 0, .long 0, .ref n0, .ref n26, .null, .null]) tm_okF I47 t54 (Or.inl rfl) m53 d_Fund_init_36 p_Fund_28_6 rfl (Nat.le_of_ble_eq_true rfl) rfl rfl rfl (fun M55 I56 m57 K58 => ?_)
  have q59 := tm_at.eq (K58 _ (tm_dif t52 t54 rfl)) q51
  refine mv_aload_n d_Fund_init_39 rfl rfl ?_
  refine mv_bipush (v := 100) d_Fund_init_40 (by decide) ?_
  refine tr_newz (E := 5306) (N := 100) (kc' := 1) (ks' := 101) tm_okF I56 (by decide) d_Fund_init_42 (by decide) (by decide) (by decide) (Nat.le_of_ble_eq_true rfl) (Nat.le_of_ble_eq_true rfl) (fun T60 M61 I62 t_x63 u64 K65 => ?_)
  have q66 := tm_at.eq (K65 _ _ t52) q59
  have t67 := u64 _ _ t52
  have m68 := (K65 _ _ t54).trans m57
  have t69 := u64 _ _ t54
  have t70 := u64 _ _ t_x48
  refine tr_putXF (k := 13) (fs' := [.int 0, .int 0, .int 0, .long 0, .int 0, .int 7, .int 1, .int 0, .int (-1), .int 0, .long 0, .ref n0, .ref n26, .ref (n26 + 1), .null]) tm_okF I62 t69 (Or.inl rfl) m68 d_Fund_init_44 p_Fund_32_6 rfl (Nat.le_of_ble_eq_true rfl) rfl rfl rfl (fun M71 I72 m73 K74 => ?_)
  have q75 := tm_at.eq (K74 _ (tm_dif t67 t69 rfl)) q66
  refine mv_aload_n d_Fund_init_47 rfl rfl ?_
  refine mv_bipush (v := 101) d_Fund_init_48 (by decide) ?_
  refine tr_newzV (E := 5314) (N := 101) (kc' := 0) (ks' := 0) tm_okF I72 (by decide) d_Fund_init_50 (by decide) (by decide) (by decide) (Nat.le_of_ble_eq_true rfl) (Nat.le_of_ble_eq_true rfl) (fun T76 M77 I78 t_x82 u79 K80 h81 => ?_)
  have q83 := tm_at.eq (K80 _ _ t67) q75
  have t84 := u79 _ _ t67
  have m85 := (K80 _ _ t69).trans m73
  have t86 := u79 _ _ t69
  have t87 := u79 _ _ t70
  have t88 := u79 _ _ t_x63
  refine tr_putXF (k := 14) (fs' := [.int 0, .int 0, .int 0, .long 0, .int 0, .int 7, .int 1, .int 0, .int (-1), .int 0, .long 0, .ref n0, .ref n26, .ref (n26 + 1), .ref ((n26 + 1) + 1)]) tm_okF I78 t86 (Or.inl rfl) m85 d_Fund_init_52 p_Fund_36_6 rfl (Nat.le_of_ble_eq_true rfl) rfl rfl rfl (fun M89 I90 m91 K92 => ?_)
  have q93 := tm_at.eq (K92 _ (tm_dif t84 t86 rfl)) q83
  have h94 := (K92 _ (tm_dif t_x82 t86 rfl)).trans h81
  refine mv_aload_n d_Fund_init_55 rfl rfl ?_
  refine mv_iload_n d_Fund_init_56 rfl rfl ?_
  refine tr_putXF (k := 0) (fs' := [.int x1, .int 0, .int 0, .long 0, .int 0, .int 7, .int 1, .int 0, .int (-1), .int 0, .long 0, .ref n0, .ref n26, .ref (n26 + 1), .ref ((n26 + 1) + 1)]) tm_okF I90 t86 (Or.inl rfl) m91 d_Fund_init_57 p_Fund_39_6 rfl (Nat.le_of_ble_eq_true rfl) rfl rfl rfl (fun M95 I96 m97 K98 => ?_)
  have q99 := tm_at.eq (K98 _ (tm_dif t84 t86 rfl)) q93
  have h100 := (K98 _ (tm_dif t_x82 t86 rfl)).trans h94
  refine mv_aload_n d_Fund_init_60 rfl rfl ?_
  refine mv_iload_n d_Fund_init_61 rfl rfl ?_
  refine tr_putX (k := 1) (fs' := [.int x1, .int x2, .int 0, .long 0, .int 0, .int 7, .int 1, .int 0, .int (-1), .int 0, .long 0, .ref n0, .ref n26, .ref (n26 + 1), .ref ((n26 + 1) + 1)]) tm_okF I96 t86 (Or.inl rfl) m97 d_Fund_init_62 p_Fund_42_6 (Nat.le_of_ble_eq_true rfl) rfl rfl rfl (fun M101 I102 m103 K104 => ?_)
  have q105 := tm_at.eq (K104 _ (tm_dif t84 t86 rfl)) q99
  have h106 := (K104 _ (tm_dif t_x82 t86 rfl)).trans h100
  refine mv_aload_n d_Fund_init_65 rfl rfl ?_
  refine mv_iload_n d_Fund_init_66 rfl rfl ?_
  refine tr_putX (k := 2) (fs' := [.int x1, .int x2, .int x3, .long 0, .int 0, .int 7, .int 1, .int 0, .int (-1), .int 0, .long 0, .ref n0, .ref n26, .ref (n26 + 1), .ref ((n26 + 1) + 1)]) tm_okF I102 t86 (Or.inl rfl) m103 d_Fund_init_67 p_Fund_45_6 (Nat.le_of_ble_eq_true rfl) rfl rfl rfl (fun M107 I108 m109 K110 => ?_)
  have q111 := tm_at.eq (K110 _ (tm_dif t84 t86 rfl)) q105
  have h112 := (K110 _ (tm_dif t_x82 t86 rfl)).trans h106
  refine mv_iload_n d_Fund_init_70 rfl rfl ?_
  have := mz_hi x1
  refine mv_if_ltZ (tgt := 88) (a := x1.toInt) d_Fund_init_71 (by decide) rfl (fun b113 => ?_) (fun b113 => ?_)
  · exact mv_vret d_Fund_init_88 rfl ⟨_, I108, rfl, _, _, _, _, m109, t84, t87, t88, t_x82, q111, I72.2.2.2.1, h112⟩
  · refine mv_iload_n d_Fund_init_74 rfl rfl ?_
    refine mv_bipush (v := 12) d_Fund_init_75 (by decide) ?_
    have := mz_hi x1
    refine mv_icmp_geZ (tgt := 88) (a := x1.toInt) (b := 12) d_Fund_init_77 (by decide) rfl (by decide) (fun b114 => ?_) (fun b114 => ?_)
    · exact mv_vret d_Fund_init_88 rfl ⟨_, I108, rfl, _, _, _, _, m109, t84, t87, t88, t_x82, q111, I72.2.2.2.1, h112⟩
    · refine mv_aload_n d_Fund_init_80 rfl rfl ?_
      refine mv_get d_Fund_init_81 f_Fund_28_6 m109 rfl ?_
      refine mv_iload_n d_Fund_init_84 rfl rfl ?_
      refine mv_ldc d_Fund_init_85 k_Fund_48 ?_
      refine tr_iastX tm_okF I108 t87 (by decide) (Or.inl (by decide)) d_Fund_init_87 (vp_in_iff.mpr (by omega)) (fun M115 I116 K117 K118 => ?_)
      have h119 := (K118 _ (fun h9 => by have t9 := t_x82; rw [h9] at t9; exact absurd (t9.symm.trans t87) (by decide))).trans h112
      have m120 := (K118 _ (tm_dif t86 t87 rfl)).trans m109
      exact mv_vret d_Fund_init_88 rfl ⟨_, I116, rfl, _, _, _, _, m120, t84, t87, t88, t_x82, (K117 _ 0 2 _ q111), I72.2.2.2.1, h119⟩
def w_TrustDesk_fund_f : List Nat := [604, 605, 606, 662, 900, 901, 902, 908, 909, 910, 911, 912, 913, 914, 915, 916, 918, 954, 955, 956, 957, 967, 5003, 5006]
set_option maxHeartbeats 100000000 in theorem tc_TrustDesk_fund_f {g : mj_G} {l : Launch} {d : Nat} {T0 : tm_H} {M0 : mj_M} {n0 x9 : Nat} {o0 : Nat} {x1 : Int32} {x2 : Int32} (h_o0 : T0 o0 = some (0, 12, 0)) {Lf : Nat} (h_Lf : T0 Lf = some (3, 6, o0)) (q_Lf : tm_at M0 o0 12 6 (.ref Lf)) {Rd : Nat} {k vp0 : Int32} {pb : Nat → Int} {pn : Nat} (h_Rd : T0 Rd = some (0, 9, 0)) (q_Rd : tm_at M0 o0 12 1 (.ref Rd)) (yB : qB M0 Rd pb pn) (yp : tm_at M0 Rd 9 2 (.int vp0)) (yk : tm_at M0 Lf 0 2 (.int k)) (I0 : tm_I tm_FT (tm_in w_TrustDesk_fund_f) x9 T0 M0 n0 T0 M0 n0) : mj_Met g l kY_TrustDesk_fund (d + 23) [.ref o0, .int x1, .int x2] M0 n0 104 13845 (tm_Q tm_FT (tm_in w_TrustDesk_fund_f) x9 T0 M0 n0 (fun r T M => ∃ v : Int32, r = some (.int v) ∧ tm_FS T0 M0 n0 T M Lf ∧ ((v.toInt = -1 ∧ ¬ (0 ≤ x1.toInt ∧ x1.toInt ≤ 999 ∧ 0 ≤ x2.toInt ∧ x2.toInt ≤ 99999 ∧ k.toInt < 12) ∧ qB M Rd pb pn ∧ tm_at M Rd 9 2 (.int vp0) ∧ tm_at M Lf 0 2 (.int k)) ∨ ((0 ≤ x1.toInt ∧ x1.toInt ≤ 999 ∧ 0 ≤ x2.toInt ∧ x2.toInt ≤ 99999 ∧ k.toInt < 12) ∧ tm_at M Rd 9 0 (.int 0) ∧ ∃ vp k1 : Int32, tm_at M Rd 9 2 (.int vp) ∧ tm_at M Lf 0 2 (.int k1) ∧ ((p_dee pb pn).2.2.1 = 0 ∧ v.toInt = k.toInt ∧ vp.toInt = -1 ∧ k1.toInt = k.toInt + 1 ∨ (p_dee pb pn).2.2.1 ≠ 0 ∧ v.toInt = -1 - (p_dee pb pn).2.2.1 ∧ vp.toInt = ((p_dee pb pn).2.2.2.1 : Int) ∧ k1.toInt = k.toInt))) ∧ ((0 ≤ x1.toInt ∧ x1.toInt ≤ 999 ∧ 0 ≤ x2.toInt ∧ x2.toInt ≤ 99999 ∧ k.toInt < 12) → (p_dee pb pn).2.2.1 = 0 → ∃ b R1 : Nat, tm_ge M Lf k.toNatClampNeg b ∧ tm_at M b 6 14 (.ref R1) ∧ n0 ≤ R1 ∧ M R1 = some (.inl (2, 101, .inl (fun _ => 0)))))) := by
  refine mj_enter (by decide) (Nat.le_of_ble_eq_true rfl) ?_
  have K0L : ∀ (a o : Nat) (w : Value), T0 a = some (3, 3, o) → o < n0 → tm_at M0 a 0 2 w → tm_at M0 a 0 2 w := fun a o w h hx q => q
  have K0J : ∀ (a : Nat) (w : Value), T0 a = some (0, 6, 0) → tm_at M0 a 6 8 w → tm_at M0 a 6 8 w := fun a w h q => q
  have K0G : ∀ (i b : Nat), tm_ge M0 Lf i b → tm_ge M0 Lf i b := fun i b q => q
  have K0S : ∀ (w : Value), tm_at M0 Lf 0 2 w → tm_at M0 Lf 0 2 w := fun w q => q
  obtain ⟨_, _, _, _, zz1⟩ := tm_lsn I0 h_Lf yk
  have yp1 := zz1.2.1
  refine mv_iload_n d_TrustDesk_fund_0 rfl rfl ?_
  have := mz_hi x1
  refine mv_if_ltZ (tgt := 33) (a := x1.toInt) d_TrustDesk_fund_1 (by decide) rfl (fun b1 => ?_) (fun b1 => ?_)
  · refine mv_iconst (v := (-1)) d_TrustDesk_fund_33 (by decide) ?_
    exact mv_iret d_TrustDesk_fund_34 rfl (by first | rfl | decide) ⟨_, I0, _, rfl, ⟨K0L, K0J, K0G, Or.inl K0S⟩, Or.inl ⟨by first | decide | omega, by omega, yB, yp, yk⟩, (fun h9 _ => absurd h9 (by omega))⟩
  · refine mv_iload_n d_TrustDesk_fund_4 rfl rfl ?_
    refine mv_sipush (v := 999) d_TrustDesk_fund_5 (by decide) ?_
    have := mz_hi x1
    refine mv_icmp_gtZ (tgt := 33) (a := x1.toInt) (b := 999) d_TrustDesk_fund_8 (by decide) rfl (by decide) (fun b2 => ?_) (fun b2 => ?_)
    · refine mv_iconst (v := (-1)) d_TrustDesk_fund_33 (by decide) ?_
      exact mv_iret d_TrustDesk_fund_34 rfl (by first | rfl | decide) ⟨_, I0, _, rfl, ⟨K0L, K0J, K0G, Or.inl K0S⟩, Or.inl ⟨by first | decide | omega, by omega, yB, yp, yk⟩, (fun h9 _ => absurd h9 (by omega))⟩
    · refine mv_iload_n d_TrustDesk_fund_11 rfl rfl ?_
      have := mz_hi x2
      refine mv_if_ltZ (tgt := 33) (a := x2.toInt) d_TrustDesk_fund_12 (by decide) rfl (fun b3 => ?_) (fun b3 => ?_)
      · refine mv_iconst (v := (-1)) d_TrustDesk_fund_33 (by decide) ?_
        exact mv_iret d_TrustDesk_fund_34 rfl (by first | rfl | decide) ⟨_, I0, _, rfl, ⟨K0L, K0J, K0G, Or.inl K0S⟩, Or.inl ⟨by first | decide | omega, by omega, yB, yp, yk⟩, (fun h9 _ => absurd h9 (by omega))⟩
      · refine mv_iload_n d_TrustDesk_fund_15 rfl rfl ?_
        refine mv_ldc d_TrustDesk_fund_16 k_TrustDesk_122 ?_
        have := mz_hi x2
        refine mv_icmp_gtZ (tgt := 33) (a := x2.toInt) (b := 99999) d_TrustDesk_fund_18 (by decide) rfl (by decide) (fun b4 => ?_) (fun b4 => ?_)
        · refine mv_iconst (v := (-1)) d_TrustDesk_fund_33 (by decide) ?_
          exact mv_iret d_TrustDesk_fund_34 rfl (by first | rfl | decide) ⟨_, I0, _, rfl, ⟨K0L, K0J, K0G, Or.inl K0S⟩, Or.inl ⟨by first | decide | omega, by omega, yB, yp, yk⟩, (fun h9 _ => absurd h9 (by omega))⟩
        · refine mv_aload_n d_TrustDesk_fund_21 rfl rfl ?_
          refine tr_getK (k := 6) q_Lf d_TrustDesk_fund_22 f_TrustDesk_53_12 ?_
          obtain ⟨m6, e7, N8, f9, h5⟩ := tm_lsn I0 h_Lf yk
          refine mv_callV_s (kc' := 104) (ks' := 13845) [] [.ref Lf] d_TrustDesk_fund_25 lV_TrustDesk_97 h5.1 rfl (tc_L_size (d := (d + 22)) h5.1) rfl (Nat.le_of_ble_eq_true rfl) (Nat.le_of_ble_eq_true rfl) (Nat.le_of_ble_eq_true rfl) rfl ?_
          refine mv_bipush (v := 12) d_TrustDesk_fund_28 (by decide) ?_
          have := mz_hi k
          refine mv_icmp_ltZ (tgt := 35) (a := k.toInt) (b := 12) d_TrustDesk_fund_30 (by decide) rfl (by decide) (fun b10 => ?_) (fun b10 => ?_)
          · refine tr_new (kc' := 103) (ks' := 13830) tm_okF I0 d_TrustDesk_fund_35 n_TrustDesk_123 (Nat.le_of_ble_eq_true rfl) (Nat.le_of_ble_eq_true rfl) (fun T11 M12 I13 t_x14 m15 h16 u17 K18 => ?_)
            have K19 : ∀ (a o : Nat) (w : Value), T0 a = some (3, 3, o) → o < n0 → tm_at M0 a 0 2 w → tm_at M12 a 0 2 w := fun a o w h hx q => tm_at.eq (K18 _ _ (I0.up h)) (K0L a o w h hx q)
            have K20 : ∀ (a : Nat) (w : Value), T0 a = some (0, 6, 0) → tm_at M0 a 6 8 w → tm_at M12 a 6 8 w := fun a w h q => tm_at.eq (K18 _ _ (I0.up h)) (K0J a w h q)
            have K21 : ∀ (i b : Nat), tm_ge M0 Lf i b → tm_ge M12 Lf i b := fun i b q => tm_ge.mono I0.1 (I0.up h_Lf) (K18 _ _ (I0.up h_Lf)) (fun e te => K18 _ _ te) (K0G i b q)
            have K22 : ∀ (w : Value), tm_at M0 Lf 0 2 w → tm_at M12 Lf 0 2 w := fun w q => tm_at.eq (K18 _ _ (I0.up h_Lf)) (K0S w q)
            have B23 : qB M12 Rd pb pn := yB.made I0.1 (I0.up h_Rd) K18
            have q24 := tm_at.eq (K18 _ _ h_o0) q_Lf
            have t25 := u17 _ _ h_Lf
            have t26 := u17 _ _ h_o0
            have q27 := tm_at.eq (K18 _ _ h_o0) q_Rd
            have t28 := u17 _ _ h_Rd
            have q29 := tm_at.eq (K18 _ _ h_Lf) yk
            have q30 := tm_at.eq (K18 _ _ h_Rd) yp
            refine mv_dup d_TrustDesk_fund_38 rfl ?_
            refine mv_aload_n d_TrustDesk_fund_39 rfl rfl ?_
            refine tr_getK (k := 6) q24 d_TrustDesk_fund_40 f_TrustDesk_53_12 ?_
            obtain ⟨m32, e33, N34, f35, h31⟩ := tm_lsn I13 t25 q29
            refine mv_callV_s (kc' := 103) (ks' := 13830) [] [.ref Lf, .ref n0, .ref n0] d_TrustDesk_fund_43 lV_TrustDesk_97 h31.1 rfl (tc_L_size (d := (d + 22)) h31.1) rfl (Nat.le_of_ble_eq_true rfl) (Nat.le_of_ble_eq_true rfl) (Nat.le_of_ble_eq_true rfl) rfl ?_
            refine mv_iload_n d_TrustDesk_fund_46 rfl rfl ?_
            refine mv_iload_n d_TrustDesk_fund_47 rfl rfl ?_
            refine mv_callI (kc' := 99) (ks' := 13614) (As := [.int k, .int x1, .int x2]) (st9 := [.int x2, .int x1, .int k, .ref n0, .ref n0]) d_TrustDesk_fund_48 lI_TrustDesk_125 (tc_Fund_init_f (d := (d + 18)) (o0 := n0) (x1 := k) (x2 := x1) (x3 := x2) t_x14 m15 I13.start) rfl (Nat.le_of_ble_eq_true rfl) (Nat.le_of_ble_eq_true rfl) (Nat.le_of_ble_eq_true rfl) (hst := rfl) (fun b36r M37 n38 b36 => ?_)
            obtain ⟨T39, J40, rfl, a42, a43, a44, a45, m46, t_a42, t_a43, t_a44, t_a45, z47, z48⟩ := b36
            have I41 := I13.call J40 (tm_sub (by decide)) (Or.inr h16)
            have t49 := J40.up t_x14
            have t50 := J40.up t26
            have K51 : ∀ (a o : Nat) (w : Value), T0 a = some (3, 3, o) → o < n0 → tm_at M0 a 0 2 w → tm_at M37 a 0 2 w := fun a o w h hx q => J40.keepL (I13.up h) (by decide) (K19 a o w h hx q)
            have K52 : ∀ (a : Nat) (w : Value), T0 a = some (0, 6, 0) → tm_at M0 a 6 8 w → tm_at M37 a 6 8 w := fun a w h q => J40.keep (I13.up h) (by decide) (K20 a w h q)
            have K53 : ∀ (i b : Nat), tm_ge M0 Lf i b → tm_ge M37 Lf i b := fun i b q => tm_I.keepG I13.1 J40 (I13.up h_Lf) (by decide) (K21 i b q)
            have K54 : ∀ (w : Value), tm_at M0 Lf 0 2 w → tm_at M37 Lf 0 2 w := fun w q => J40.keepL (I13.up h_Lf) (by decide) (K22 w q)
            have B55 : qB M37 Rd pb pn := B23.keep I13.1 J40 (I13.up h_Rd) (by decide) (by decide) (by decide)
            have q56 := J40.keep t26 (by decide) q24
            have t57 := J40.up t25
            have q58 := J40.keep t26 (by decide) q27
            have t59 := J40.up t28
            have q60 := J40.keepL t25 (by decide) q29
            have q61 := J40.keep t28 (by decide) q30
            obtain ⟨T62, I63, t_x64, u65⟩ := I41.sealO tm_okF t49 h16 m46 (fun _ z9 => (tm_fs_cons ⟨_, rfl⟩ (tm_fs_cons ⟨_, rfl⟩ (tm_fs_cons ⟨_, rfl⟩ (tm_fs_cons ⟨_, rfl⟩ (tm_fs_cons ⟨_, rfl⟩ (tm_fs_cons ⟨_, rfl⟩ (tm_fs_cons ⟨_, rfl⟩ (tm_fs_cons ⟨_, rfl⟩ (tm_fs_cons ⟨_, rfl⟩ (tm_fs_cons ⟨_, rfl⟩ (tm_fs_cons ⟨_, rfl⟩ (tm_fs_cons ⟨_, rfl, z9 _ _ t_a42 (Nat.le_of_ble_eq_true rfl)⟩ (tm_fs_cons ⟨_, rfl, z9 _ _ t_a43 (Nat.le_of_ble_eq_true rfl)⟩ (tm_fs_cons ⟨_, rfl, z9 _ _ t_a44 (Nat.le_of_ble_eq_true rfl)⟩ (tm_fs_cons ⟨_, rfl, z9 _ _ t_a45 (Nat.le_of_ble_eq_true rfl)⟩ tm_fs_nil))))))))))))))))
            have t66 := u65 _ _ t57 (tm_dif t57 t49 rfl)
            have t67 := u65 _ _ t50 (tm_dif t50 t49 rfl)
            have t68 := u65 _ _ t59 (tm_dif t59 t49 rfl)
            have t69 := u65 _ _ t_a42 (tm_dif t_a42 t49 rfl)
            have q70 : tm_at M37 n0 6 0 (.int k) := ⟨_, m46, rfl⟩
            have q71 : tm_at M37 n0 6 1 (.int x1) := ⟨_, m46, rfl⟩
            have q72 : tm_at M37 n0 6 2 (.int x2) := ⟨_, m46, rfl⟩
            have q73 : tm_at M37 n0 6 3 (.long 0) := ⟨_, m46, rfl⟩
            have q74 : tm_at M37 n0 6 4 (.int 0) := ⟨_, m46, rfl⟩
            have q75 : tm_at M37 n0 6 5 (.int 7) := ⟨_, m46, rfl⟩
            have q76 : tm_at M37 n0 6 6 (.int 1) := ⟨_, m46, rfl⟩
            have q77 : tm_at M37 n0 6 7 (.int 0) := ⟨_, m46, rfl⟩
            have q78 : tm_at M37 n0 6 8 (.int (-1)) := ⟨_, m46, rfl⟩
            have q79 : tm_at M37 n0 6 9 (.int 0) := ⟨_, m46, rfl⟩
            have q80 : tm_at M37 n0 6 10 (.long 0) := ⟨_, m46, rfl⟩
            have q81 : tm_at M37 n0 6 11 (.ref a42) := ⟨_, m46, rfl⟩
            have q82 : tm_at M37 n0 6 12 (.ref a43) := ⟨_, m46, rfl⟩
            have t83 := u65 _ _ t_a43 (tm_dif t_a43 t49 rfl)
            have q84 : tm_at M37 n0 6 13 (.ref a44) := ⟨_, m46, rfl⟩
            have t85 := u65 _ _ t_a44 (tm_dif t_a44 t49 rfl)
            have q86 : tm_at M37 n0 6 14 (.ref a45) := ⟨_, m46, rfl⟩
            have t87 := u65 _ _ t_a45 (tm_dif t_a45 t49 rfl)
            have z88 : M37 a45 = some (.inl (2, 101, .inl (fun _ => 0))) := z48.2
            refine mv_astore_n (lv' := [(3, .ref n0), (0, .ref o0), (1, .int x1), (2, .int x2)]) d_TrustDesk_fund_51 rfl (by decide) rfl ?_
            refine mv_aload_n d_TrustDesk_fund_52 rfl rfl ?_
            refine tr_getK (k := 1) q58 d_TrustDesk_fund_53 f_TrustDesk_19_12 ?_
            refine mv_aload_n d_TrustDesk_fund_56 rfl rfl ?_
            obtain ⟨_, b95, -⟩ := I63.1 _ _ t68
            refine mv_callV (kc' := 1) (ks' := 34) (As := [.ref n0]) (st9 := [.ref n0, .ref Rd]) d_TrustDesk_fund_57 lV_TrustDesk_128 b95 rfl (tc_Reader_readDeed_r (d := d) (x9 := x9) (o0 := Rd) (o1 := n0) t68 t_x64 B55 t69 q81 z47 (by first | omega | decide) (qE.nil z47) I63.start) rfl (Nat.le_of_ble_eq_true rfl) (Nat.le_of_ble_eq_true rfl) (Nat.le_of_ble_eq_true rfl) (hst := rfl) (fun b89r M90 n91 b89 => ?_)
            obtain ⟨T92, J93, v96, rfl, b97, b98, ⟨s99, z100, h101⟩, K102, f103⟩ := b89
            have I94 := I63.call J93 (tm_sub (by decide)) (Or.inl rfl)
            have t104 := J93.up t_x64
            have t105 := J93.up t67
            have K106 : ∀ (a o : Nat) (w : Value), T0 a = some (3, 3, o) → o < n0 → tm_at M0 a 0 2 w → tm_at M90 a 0 2 w := fun a o w h hx q => K102 _ _ _ (I63.up h) (Nat.ne_of_lt (Nat.lt_of_lt_of_le hx h16)) (K51 a o w h hx q)
            have K107 : ∀ (a : Nat) (w : Value), T0 a = some (0, 6, 0) → tm_at M0 a 6 8 w → tm_at M90 a 6 8 w := fun a w h q => J93.keep (I63.up h) (by decide) (K52 a w h q)
            have K108 : ∀ (i b : Nat), tm_ge M0 Lf i b → tm_ge M90 Lf i b := fun i b q => tm_I.keepG I63.1 J93 (I63.up h_Lf) (by decide) (K53 i b q)
            have K109 : ∀ (w : Value), tm_at M0 Lf 0 2 w → tm_at M90 Lf 0 2 w := fun w q => J93.keepL (I63.up h_Lf) (by decide) (K54 w q)
            have B110 : qB M90 Rd pb pn := B55.keep I63.1 J93 (I63.up h_Rd) (by decide) (by decide) (by decide)
            have z111 : M90 a45 = some (.inl (2, 101, .inl (fun _ => 0))) := (tm_keepV J93 t87 (by decide)).trans z88
            have q112 := J93.keep t67 (by decide) q56
            have t113 := J93.up t66
            have q114 := J93.keep t67 (by decide) q58
            have t115 := J93.up t68
            have q116 := J93.keepL t66 (by decide) q60
            have q117 := J93.keep t_x64 (by decide) q70
            have q118 := J93.keep t_x64 (by decide) q71
            have q119 := J93.keep t_x64 (by decide) q72
            have q120 := J93.keep t_x64 (by decide) q73
            have q121 := J93.keep t_x64 (by decide) q77
            have q122 := J93.keep t_x64 (by decide) q78
            have q123 := J93.keep t_x64 (by decide) q79
            have q124 := J93.keep t_x64 (by decide) q80
            have q125 := J93.keep t_x64 (by decide) q81
            have t126 := J93.up t69
            have q127 := J93.keep t_x64 (by decide) q82
            have t128 := J93.up t83
            have q129 := J93.keep t_x64 (by decide) q84
            have t130 := J93.up t85
            have q131 := J93.keep t_x64 (by decide) q86
            have t132 := J93.up t87
            obtain ⟨v133, v134, q136, q137, h139, h140⟩ := f103
            refine mv_istore (lv' := [(4, .int v96), (3, .ref n0), (0, .ref o0), (1, .int x1), (2, .int x2)]) d_TrustDesk_fund_60 (by decide) rfl ?_
            refine mv_aload_n d_TrustDesk_fund_62 rfl rfl ?_
            refine tr_getK (k := 1) q114 d_TrustDesk_fund_63 f_TrustDesk_19_12 ?_
            refine mv_iconst (v := 0) d_TrustDesk_fund_66 (by decide) ?_
            refine tr_putKM tm_okF I94 t115 (k := 0) rfl ⟨_, rfl⟩ (Or.inl (by decide)) d_TrustDesk_fund_67 p_TrustDesk_88_9 rfl rfl (fun M141 I142 q143 K144 K144M => ?_)
            have K145 : ∀ (a o : Nat) (w : Value), T0 a = some (3, 3, o) → o < n0 → tm_at M0 a 0 2 w → tm_at M141 a 0 2 w := fun a o w h hx q => K144 _ 0 2 _ rfl (K106 a o w h hx q)
            have K146 : ∀ (a : Nat) (w : Value), T0 a = some (0, 6, 0) → tm_at M0 a 6 8 w → tm_at M141 a 6 8 w := fun a w h q => K144 _ 6 8 _ rfl (K107 a w h q)
            have K147 : ∀ (i b : Nat), tm_ge M0 Lf i b → tm_ge M141 Lf i b := fun i b q => tm_ge.put I94.1 (I94.up h_Lf) t115 (by decide) K144M (K108 i b q)
            have K148 : ∀ (w : Value), tm_at M0 Lf 0 2 w → tm_at M141 Lf 0 2 w := fun w q => K144 _ 0 2 _ rfl (K109 w q)
            have z149 : M141 a45 = some (.inl (2, 101, .inl (fun _ => 0))) := (K144M _ (tm_dif t132 t115 rfl)).trans z111
            refine mv_iload d_TrustDesk_fund_70 rfl ?_
            have := mz_hi v96
            refine mv_if_neZ (tgt := 85) (a := v96.toInt) d_TrustDesk_fund_72 (by decide) rfl (fun b150 => ?_) (fun b150 => ?_)
            · refine mv_aload_n d_TrustDesk_fund_85 rfl rfl ?_
              refine tr_getK (k := 6) (K144 _ 12 6 _ rfl q112) d_TrustDesk_fund_86 f_TrustDesk_53_12 ?_
              refine mv_aload_n d_TrustDesk_fund_89 rfl rfl ?_
              have : tm_mx 6 = 12 := rfl
              obtain ⟨m152, e153, N154, f155, h151⟩ := tm_lsn I142 t113 (K144 _ 0 2 _ rfl q116)
              refine mv_callV (kc' := 0) (ks' := 0) (As := [.ref n0]) (st9 := [.ref n0, .ref Lf]) d_TrustDesk_fund_90 lV_TrustDesk_107 h151.1 rfl (tc_AL_addK (FT := tm_FT) (W := tm_in [5006]) (x := x9) (d := (d + 16)) tm_okF t113 t104 (K144 _ 0 2 _ rfl q116) (show _ < (12 : Int) by omega) rfl (C := "TrustDesk$Fund") (T9 := kF_Fund) (N9 := 15) rfl (mj_in1 (List.mem_of_getElem? (i := 2104) (by decide +kernel)) rfl) (by decide) (by decide) I142.start) rfl (Nat.le_of_ble_eq_true rfl) (Nat.le_of_ble_eq_true rfl) (Nat.le_of_ble_eq_true rfl) (hst := rfl) (fun b156r M157 n158 b156 => ?_)
              obtain ⟨T159, J160, rfl, q162, K163, K164, g165⟩ := b156
              have I161 := I142.call J160 (tm_sub (by decide)) (Or.inl rfl)
              have t166 := J160.up t113
              have t167 := J160.up t104
              have t168 := J160.up t105
              have q169 := J160.keep t105 (by decide) (K144 _ 12 6 _ rfl q112)
              have q170 := J160.keep t105 (by decide) (K144 _ 12 1 _ rfl q114)
              have t171 := J160.up t115
              have q172 := J160.keep t104 (by decide) (K144 _ 6 0 _ rfl q117)
              have q173 := J160.keep t104 (by decide) (K144 _ 6 1 _ rfl q118)
              have q174 := J160.keep t104 (by decide) (K144 _ 6 2 _ rfl q119)
              have q175 := J160.keep t104 (by decide) (K144 _ 6 3 _ rfl q120)
              have q176 := J160.keep t104 (by decide) (K144 _ 6 7 _ rfl q121)
              have q177 := J160.keep t104 (by decide) (K144 _ 6 8 _ rfl q122)
              have q178 := J160.keep t104 (by decide) (K144 _ 6 9 _ rfl q123)
              have q179 := J160.keep t104 (by decide) (K144 _ 6 10 _ rfl q124)
              have q180 := J160.keep t104 (by decide) (K144 _ 6 11 _ rfl q125)
              have t181 := J160.up t126
              have q182 := J160.keep t104 (by decide) (K144 _ 6 12 _ rfl q127)
              have t183 := J160.up t128
              have q184 := J160.keep t104 (by decide) (K144 _ 6 13 _ rfl q129)
              have t185 := J160.up t130
              have q186 := J160.keep t104 (by decide) (K144 _ 6 14 _ rfl q131)
              have t187 := J160.up t132
              have q188 := J160.keepL t126 (by decide) (K144 _ 0 2 _ rfl z100)
              have q189 := J160.keep (I94.up h_Rd) (by decide) (K144 _ 9 1 _ rfl q136)
              have q190 := J160.keep (I94.up h_Rd) (by decide) (K144 _ 9 2 _ rfl q137)
              have q191 := J160.keep t115 (by decide) q143
              have K192 : ∀ (a o : Nat) (w : Value), T0 a = some (3, 3, o) → o < n0 → tm_at M0 a 0 2 w → tm_at M157 a 0 2 w := fun a o w h hx q => tm_at.eq (K163 _ _ _ (tm_lnc (I142.up h) t113 (by decide)) (I142.up h)) (K145 a o w h hx q)
              have K193 : ∀ (a : Nat) (w : Value), T0 a = some (0, 6, 0) → tm_at M0 a 6 8 w → tm_at M157 a 6 8 w := fun a w h q => J160.keep (I142.up h) (by decide) (K146 a w h q)
              have K194 : ∀ (i b : Nat), tm_ge M0 Lf i b → tm_ge M157 Lf i b := fun i b q => K164 _ _ (K147 i b q)
              have z195 : M157 a45 = some (.inl (2, 101, .inl (fun _ => 0))) := (tm_keepV J160 t132 (by decide)).trans z149
              have b196 : (k + 1).toInt = k.toInt + 1 := mz_addn 1 1 (by decide) (by have := mz_lo k; omega) (by omega)
              refine mv_pop d_TrustDesk_fund_93 rfl ?_
              refine mv_aload_n d_TrustDesk_fund_94 rfl rfl ?_
              refine tr_getK (k := 0) q172 d_TrustDesk_fund_95 f_TrustDesk_132_6 ?_
              exact mv_iret d_TrustDesk_fund_98 rfl (by first | rfl | decide) ⟨_, I161, _, rfl, ⟨K192, K193, K194, Or.inr ⟨n0, a42, k, s99, k, yk, q162, g165, q172, by omega, q180, t181, q188, by omega, h16⟩⟩, Or.inr ⟨by omega, q191, _, _, q190, q162, by omega⟩, (fun _ _ => ⟨_, _, g165, q186, (Nat.le_trans I13.2.2.2.1 z48.1), z195⟩)⟩
            · refine mv_iconst (v := (-1)) d_TrustDesk_fund_75 (by decide) ?_
              refine mv_aload_n d_TrustDesk_fund_76 rfl rfl ?_
              refine tr_getK (k := 1) (K144 _ 12 1 _ rfl q114) d_TrustDesk_fund_77 f_TrustDesk_19_12 ?_
              refine tr_getK (k := 1) (K144 _ 9 1 _ rfl q136) d_TrustDesk_fund_80 f_TrustDesk_104_9 ?_
              refine mv_isub d_TrustDesk_fund_83 ?_
              have : (((-1) - v133) : Int32).toInt = -1 - v133.toInt := mz_sub2 (by decide) rfl (by have := mz_lo v133; have := mz_hi v133; omega) (by have := mz_lo v133; have := mz_hi v133; omega)
              exact mv_iret d_TrustDesk_fund_84 rfl (by first | rfl | decide) ⟨_, I142, _, rfl, ⟨K145, K146, K147, Or.inl K148⟩, Or.inr ⟨by omega, q143, _, _, (K144 _ 9 2 _ rfl q137), (K144 _ 0 2 _ rfl q116), by omega⟩, (fun _ h9 => absurd h9 (by omega))⟩
          · refine mv_iconst (v := (-1)) d_TrustDesk_fund_33 (by decide) ?_
            exact mv_iret d_TrustDesk_fund_34 rfl (by first | rfl | decide) ⟨_, I0, _, rfl, ⟨K0L, K0J, K0G, Or.inl K0S⟩, Or.inl ⟨by first | decide | omega, by omega, yB, yp, yk⟩, (fun h9 _ => absurd h9 (by omega))⟩
