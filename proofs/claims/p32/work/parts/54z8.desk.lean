def w_TrustDesk_act_r : List Nat := [101, 153, 154, 900, 901, 902, 908, 909, 910, 911, 912, 913, 914, 915, 916, 918, 954, 955, 956, 957, 967, 5001, 5002]
set_option maxHeartbeats 100000000 in theorem tc_TrustDesk_act_r {g : mj_G} {l : Launch} {d : Nat} {T0 : tm_H} {M0 : mj_M} {n0 x9 : Nat} {o0 : Nat} {x1 : Int32} (h_o0 : T0 o0 = some (0, 12, 0)) {Rd : Nat} {k vp0 : Int32} {pb : Nat → Int} {pn : Nat} (h_Rd : T0 Rd = some (0, 9, 0)) (q_Rd : tm_at M0 o0 12 1 (.ref Rd)) (yB : qB M0 Rd pb pn) (yp : tm_at M0 Rd 9 2 (.int vp0)) {Lx : Nat} (h_Lx : T0 Lx = some (3, 1, o0)) (q_Lx : tm_at M0 o0 12 5 (.ref Lx)) (yk : tm_at M0 Lx 0 2 (.int k)) (I0 : tm_I tm_FT (tm_in w_TrustDesk_act_r) x9 T0 M0 n0 T0 M0 n0) : mj_Met g l kY_TrustDesk_act (d + 23) [.ref o0, .int x1] M0 n0 71 10204 (tm_Q tm_FT (tm_in w_TrustDesk_act_r) x9 T0 M0 n0 (fun r _ M => ∃ v : Int32, r = some (.int v) ∧ ((v.toInt = -1 ∧ ¬ (0 ≤ x1.toInt ∧ x1.toInt ≤ 36000 ∧ k.toInt < 20) ∧ qB M Rd pb pn ∧ tm_at M Rd 9 2 (.int vp0) ∧ tm_at M Lx 0 2 (.int k)) ∨ ((0 ≤ x1.toInt ∧ x1.toInt ≤ 36000 ∧ k.toInt < 20) ∧ tm_at M Rd 9 0 (.int 0) ∧ ∃ vp k1 : Int32, tm_at M Rd 9 2 (.int vp) ∧ tm_at M Lx 0 2 (.int k1) ∧ ((p_act pb pn).2.1 = 0 ∧ v.toInt = ((p_act pb pn).1 : Int) ∧ vp.toInt = -1 ∧ k1.toInt = k.toInt + 1 ∨ (p_act pb pn).2.1 ≠ 0 ∧ v.toInt = -1 - (p_act pb pn).2.1 ∧ vp.toInt = ((p_act pb pn).2.2.1 : Int) ∧ k1.toInt = k.toInt))))) := by
  refine mj_enter (by decide) (Nat.le_of_ble_eq_true rfl) ?_
  refine mv_iload_n d_TrustDesk_act_0 rfl rfl ?_
  refine mv_callS (kc1 := 0) (ks1 := 0) (kc' := 71) (ks' := 10204) (As := [.int x1]) (st9 := [.int x1]) d_TrustDesk_act_1 lS_TrustDesk_94 (mj_enter (by decide) (Nat.le_of_ble_eq_true rfl) ?_) rfl (Nat.le_of_ble_eq_true rfl) (Nat.le_of_ble_eq_true rfl) (Nat.le_of_ble_eq_true rfl) (hst := rfl) (fun _ _ _ h => h)
  refine mv_iload_n d_TrustDesk_isDay_0 rfl rfl ?_
  have := mz_hi x1
  refine mv_if_ltZ (tgt := 14) (a := x1.toInt) d_TrustDesk_isDay_1 (by decide) rfl (fun b1 => ?_) (fun b1 => ?_)
  · refine mv_iconst (v := 0) d_TrustDesk_isDay_14 (by decide) ?_
    refine mv_iret d_TrustDesk_isDay_15 rfl (by decide) ?_
    refine mv_if_eq_t (tgt := 19) d_TrustDesk_act_4 (by decide) (by decide) ?_
    refine mv_iconst (v := (-1)) d_TrustDesk_act_19 (by decide) ?_
    exact mv_iret d_TrustDesk_act_20 rfl (by first | rfl | decide) ⟨_, I0, _, rfl, Or.inl ⟨by first | decide | omega, by omega, yB, yp, yk⟩⟩
  · refine mv_iload_n d_TrustDesk_isDay_4 rfl rfl ?_
    refine mv_ldc d_TrustDesk_isDay_5 k_TrustDesk_147 ?_
    have := mz_hi x1
    refine mv_icmp_gtZ (tgt := 14) (a := x1.toInt) (b := 36000) d_TrustDesk_isDay_7 (by decide) rfl (by decide) (fun b2 => ?_) (fun b2 => ?_)
    · refine mv_iconst (v := 0) d_TrustDesk_isDay_14 (by decide) ?_
      refine mv_iret d_TrustDesk_isDay_15 rfl (by decide) ?_
      refine mv_if_eq_t (tgt := 19) d_TrustDesk_act_4 (by decide) (by decide) ?_
      refine mv_iconst (v := (-1)) d_TrustDesk_act_19 (by decide) ?_
      exact mv_iret d_TrustDesk_act_20 rfl (by first | rfl | decide) ⟨_, I0, _, rfl, Or.inl ⟨by first | decide | omega, by omega, yB, yp, yk⟩⟩
    · refine mv_iconst (v := 1) d_TrustDesk_isDay_10 (by decide) ?_
      refine mv_goto (tgt := 15) d_TrustDesk_isDay_11 (by decide) ?_
      refine mv_iret d_TrustDesk_isDay_15 rfl (by decide) ?_
      refine mv_if_eq_f (tgt := 19) d_TrustDesk_act_4 (by decide) (by decide) ?_
      refine mv_aload_n d_TrustDesk_act_7 rfl rfl ?_
      refine tr_getK (k := 5) q_Lx d_TrustDesk_act_8 f_TrustDesk_49_12 ?_
      obtain ⟨m4, e5, N6, f7, h3⟩ := tm_lsn I0 h_Lx yk
      refine mv_callV_s (kc' := 71) (ks' := 10204) [] [.ref Lx] d_TrustDesk_act_11 lV_TrustDesk_97 h3.1 rfl (tc_L_size (d := (d + 22)) h3.1) rfl (Nat.le_of_ble_eq_true rfl) (Nat.le_of_ble_eq_true rfl) (Nat.le_of_ble_eq_true rfl) rfl ?_
      refine mv_bipush (v := 20) d_TrustDesk_act_14 (by decide) ?_
      have := mz_hi k
      refine mv_icmp_ltZ (tgt := 21) (a := k.toInt) (b := 20) d_TrustDesk_act_16 (by decide) rfl (by decide) (fun b8 => ?_) (fun b8 => ?_)
      · refine tr_new (kc' := 70) (ks' := 10199) tm_okF I0 d_TrustDesk_act_21 n_TrustDesk_37 (Nat.le_of_ble_eq_true rfl) (Nat.le_of_ble_eq_true rfl) (fun T9 M10 I11 t_x12 m13 h14 u15 K16 => ?_)
        have B17 : qB M10 Rd pb pn := yB.made I0.1 (I0.up h_Rd) K16
        have q18 := tm_at.eq (K16 _ _ h_o0) q_Rd
        have t19 := u15 _ _ h_Rd
        have t20 := u15 _ _ h_o0
        have q21 := tm_at.eq (K16 _ _ h_o0) q_Lx
        have t22 := u15 _ _ h_Lx
        have q23 := tm_at.eq (K16 _ _ h_Lx) yk
        have q24 := tm_at.eq (K16 _ _ h_Rd) yp
        refine mv_dup d_TrustDesk_act_24 rfl ?_
        refine mv_iload_n d_TrustDesk_act_25 rfl rfl ?_
        refine mv_callI (kc' := 67) (ks' := 10170) (As := [.int x1]) (st9 := [.int x1, .ref n0, .ref n0]) d_TrustDesk_act_26 lI_TrustDesk_39 (tc_Act_init (d := (d + 18)) (o0 := n0) (x1 := x1) t_x12 m13 I11.start) rfl (Nat.le_of_ble_eq_true rfl) (Nat.le_of_ble_eq_true rfl) (Nat.le_of_ble_eq_true rfl) (hst := rfl) (fun b25r M26 n27 b25 => ?_)
        obtain ⟨T28, J29, rfl, a31, a32, a33, m34, t_a31, t_a32, t_a33⟩ := b25
        have I30 := I11.call J29 (tm_sub (by decide)) (Or.inr h14)
        have t35 := J29.up t_x12
        have t36 := J29.up t20
        have B37 : qB M26 Rd pb pn := B17.keep I11.1 J29 (I11.up h_Rd) (by decide) (by decide) (by decide)
        have q38 := J29.keep t20 (by decide) q18
        have t39 := J29.up t19
        have q40 := J29.keep t20 (by decide) q21
        have t41 := J29.up t22
        have q42 := J29.keepL t22 (by decide) q23
        have q43 := J29.keep t19 (by decide) q24
        obtain ⟨T44, I45, t_x46, u47⟩ := I30.sealO tm_okF t35 h14 m34 (fun _ z9 => (tm_fs_cons ⟨_, rfl⟩ (tm_fs_cons ⟨_, rfl⟩ (tm_fs_cons ⟨_, rfl, z9 _ _ t_a31 (Nat.le_of_ble_eq_true rfl)⟩ (tm_fs_cons ⟨_, rfl, z9 _ _ t_a32 (Nat.le_of_ble_eq_true rfl)⟩ (tm_fs_cons ⟨_, rfl, z9 _ _ t_a33 (Nat.le_of_ble_eq_true rfl)⟩ tm_fs_nil))))))
        have t48 := u47 _ _ t39 (tm_dif t39 t35 rfl)
        have t49 := u47 _ _ t36 (tm_dif t36 t35 rfl)
        have t50 := u47 _ _ t41 (tm_dif t41 t35 rfl)
        have q51 : tm_at M26 n0 1 0 (.int x1) := ⟨_, m34, rfl⟩
        have q52 : tm_at M26 n0 1 1 (.int 0) := ⟨_, m34, rfl⟩
        have q53 : tm_at M26 n0 1 2 (.ref a31) := ⟨_, m34, rfl⟩
        have t54 := u47 _ _ t_a31 (tm_dif t_a31 t35 rfl)
        have q55 : tm_at M26 n0 1 3 (.ref a32) := ⟨_, m34, rfl⟩
        have t56 := u47 _ _ t_a32 (tm_dif t_a32 t35 rfl)
        have q57 : tm_at M26 n0 1 4 (.ref a33) := ⟨_, m34, rfl⟩
        have t58 := u47 _ _ t_a33 (tm_dif t_a33 t35 rfl)
        refine mv_astore_n (lv' := [(2, .ref n0), (0, .ref o0), (1, .int x1)]) d_TrustDesk_act_29 rfl (by decide) rfl ?_
        refine mv_aload_n d_TrustDesk_act_30 rfl rfl ?_
        refine tr_getK (k := 1) q38 d_TrustDesk_act_31 f_TrustDesk_19_12 ?_
        refine mv_aload_n d_TrustDesk_act_34 rfl rfl ?_
        obtain ⟨_, b65, -⟩ := I45.1 _ _ t48
        refine mv_callV (kc' := 1) (ks' := 50) (As := [.ref n0]) (st9 := [.ref n0, .ref Rd]) d_TrustDesk_act_35 lV_TrustDesk_100 b65 rfl (tc_Reader_readAct_x (d := d) (x9 := x9) (o0 := Rd) (o1 := n0) t48 t_x46 B37 q52 (by decide) I45.start) rfl (Nat.le_of_ble_eq_true rfl) (Nat.le_of_ble_eq_true rfl) (Nat.le_of_ble_eq_true rfl) (hst := rfl) (fun b59r M60 n61 b59 => ?_)
        obtain ⟨T62, J63, v66, rfl, b67, b68, f69⟩ := b59
        have I64 := I45.call J63 (tm_sub (by decide)) (Or.inl rfl)
        have t70 := J63.up t_x46
        have t71 := J63.up t49
        have B72 : qB M60 Rd pb pn := B37.keep I45.1 J63 (I45.up h_Rd) (by decide) (by decide) (by decide)
        have q73 := J63.keep t49 (by decide) q38
        have t74 := J63.up t48
        have q75 := J63.keep t49 (by decide) q40
        have t76 := J63.up t50
        have q77 := J63.keepL t50 (by decide) q42
        have q78 := J63.keep t_x46 (by decide) q51
        have q79 := J63.keep t_x46 (by decide) q53
        have t80 := J63.up t54
        have q81 := J63.keep t_x46 (by decide) q55
        have t82 := J63.up t56
        have q83 := J63.keep t_x46 (by decide) q57
        have t84 := J63.up t58
        obtain ⟨v85, v86, v87, q88, q89, q90, h91, h92⟩ := f69
        refine mv_istore_n (lv' := [(3, .int v66), (2, .ref n0), (0, .ref o0), (1, .int x1)]) d_TrustDesk_act_38 rfl (by decide) rfl ?_
        refine mv_aload_n d_TrustDesk_act_39 rfl rfl ?_
        refine tr_getK (k := 1) q73 d_TrustDesk_act_40 f_TrustDesk_19_12 ?_
        refine mv_iconst (v := 0) d_TrustDesk_act_43 (by decide) ?_
        refine tr_putK tm_okF I64 t74 (k := 0) rfl ⟨_, rfl⟩ (Or.inl (by decide)) d_TrustDesk_act_44 p_TrustDesk_88_9 rfl rfl (fun M93 I94 q95 K96 => ?_)
        refine mv_iload_n d_TrustDesk_act_47 rfl rfl ?_
        have := mz_hi v66
        refine mv_if_neZ (tgt := 61) (a := v66.toInt) d_TrustDesk_act_48 (by decide) rfl (fun b97 => ?_) (fun b97 => ?_)
        · refine mv_aload_n d_TrustDesk_act_61 rfl rfl ?_
          refine tr_getK (k := 5) (K96 _ 12 5 _ rfl q75) d_TrustDesk_act_62 f_TrustDesk_49_12 ?_
          refine mv_aload_n d_TrustDesk_act_65 rfl rfl ?_
          obtain ⟨m99, e100, N101, f102, h98⟩ := tm_lsn I94 t76 (K96 _ 0 2 _ rfl q77)
          refine mv_callV (kc' := 0) (ks' := 0) (As := [.ref n0]) (st9 := [.ref n0, .ref Lx]) d_TrustDesk_act_66 lV_TrustDesk_107 h98.1 rfl (tc_AL_addT (FT := tm_FT) (W := tm_in [5001]) (x := x9) (d := (d + 16)) tm_okF t76 t70 (K96 _ 0 2 _ rfl q77) (show _ < (20 : Int) by omega) rfl (C := "TrustDesk$Act") (T9 := kF_Act) (N9 := 5) rfl (mj_in1 (List.mem_of_getElem? (i := 2100) (by decide +kernel)) rfl) (by decide) (by decide) I94.start) rfl (Nat.le_of_ble_eq_true rfl) (Nat.le_of_ble_eq_true rfl) (Nat.le_of_ble_eq_true rfl) (hst := rfl) (fun b103r M104 n105 b103 => ?_)
          obtain ⟨T106, J107, rfl, q109⟩ := b103
          have I108 := I94.call J107 (tm_sub (by decide)) (Or.inl rfl)
          have t110 := J107.up t76
          have t111 := J107.up t70
          have t112 := J107.up t71
          have q113 := J107.keep t71 (by decide) (K96 _ 12 1 _ rfl q73)
          have t114 := J107.up t74
          have q115 := J107.keep t71 (by decide) (K96 _ 12 5 _ rfl q75)
          have q116 := J107.keep t70 (by decide) (K96 _ 1 0 _ rfl q78)
          have q117 := J107.keep t70 (by decide) (K96 _ 1 2 _ rfl q79)
          have t118 := J107.up t80
          have q119 := J107.keep t70 (by decide) (K96 _ 1 3 _ rfl q81)
          have t120 := J107.up t82
          have q121 := J107.keep t70 (by decide) (K96 _ 1 4 _ rfl q83)
          have t122 := J107.up t84
          have q123 := J107.keep (J63.up t_x46) (by decide) (K96 _ 1 1 _ rfl q90)
          have q124 := J107.keep (I64.up h_Rd) (by decide) (K96 _ 9 1 _ rfl q88)
          have q125 := J107.keep (I64.up h_Rd) (by decide) (K96 _ 9 2 _ rfl q89)
          have q126 := J107.keep t74 (by decide) q95
          have b127 : (k + 1).toInt = k.toInt + 1 := mz_addn 1 1 (by decide) (by have := mz_lo k; omega) (by omega)
          refine mv_pop d_TrustDesk_act_69 rfl ?_
          refine mv_aload_n d_TrustDesk_act_70 rfl rfl ?_
          refine tr_getK (k := 1) q123 d_TrustDesk_act_71 f_TrustDesk_111_1 ?_
          exact mv_iret d_TrustDesk_act_74 rfl (by first | rfl | decide) ⟨_, I108, _, rfl, Or.inr ⟨by omega, q126, _, _, q125, q109, by omega⟩⟩
        · refine mv_iconst (v := (-1)) d_TrustDesk_act_51 (by decide) ?_
          refine mv_aload_n d_TrustDesk_act_52 rfl rfl ?_
          refine tr_getK (k := 1) (K96 _ 12 1 _ rfl q73) d_TrustDesk_act_53 f_TrustDesk_19_12 ?_
          refine tr_getK (k := 1) (K96 _ 9 1 _ rfl q88) d_TrustDesk_act_56 f_TrustDesk_104_9 ?_
          refine mv_isub d_TrustDesk_act_59 ?_
          have : (((-1) - v85) : Int32).toInt = -1 - v85.toInt := mz_sub2 (by decide) rfl (by have := mz_lo v85; have := mz_hi v85; omega) (by have := mz_lo v85; have := mz_hi v85; omega)
          exact mv_iret d_TrustDesk_act_60 rfl (by first | rfl | decide) ⟨_, I94, _, rfl, Or.inr ⟨by omega, q95, _, _, (K96 _ 9 2 _ rfl q89), (K96 _ 0 2 _ rfl q77), by omega⟩⟩
      · refine mv_iconst (v := (-1)) d_TrustDesk_act_19 (by decide) ?_
        exact mv_iret d_TrustDesk_act_20 rfl (by first | rfl | decide) ⟨_, I0, _, rfl, Or.inl ⟨by first | decide | omega, by omega, yB, yp, yk⟩⟩
def w_TrustDesk_near_r : List Nat := [900, 901, 902, 908, 909, 910, 911, 912, 913, 914, 915, 916, 918, 954, 955, 956, 957, 967, 5008]
set_option maxHeartbeats 100000000 in theorem tc_TrustDesk_near_r {g : mj_G} {l : Launch} {d : Nat} {T0 : tm_H} {M0 : mj_M} {n0 x9 : Nat} {o0 : Nat} {x1 : Int32} (h_o0 : T0 o0 = some (0, 12, 0)) {Rd : Nat} {k vp0 : Int32} {pb : Nat → Int} {pn : Nat} (h_Rd : T0 Rd = some (0, 9, 0)) (q_Rd : tm_at M0 o0 12 1 (.ref Rd)) (yB : qB M0 Rd pb pn) (yp : tm_at M0 Rd 9 2 (.int vp0)) {Lx : Nat} (h_Lx : T0 Lx = some (3, 8, o0)) (q_Lx : tm_at M0 o0 12 7 (.ref Lx)) (yk : tm_at M0 Lx 0 2 (.int k)) (I0 : tm_I tm_FT (tm_in w_TrustDesk_near_r) x9 T0 M0 n0 T0 M0 n0) : mj_Met g l kY_TrustDesk_near (d + 22) [.ref o0, .int x1] M0 n0 7 843 (tm_Q tm_FT (tm_in w_TrustDesk_near_r) x9 T0 M0 n0 (fun r _ M => ∃ v : Int32, r = some (.int v) ∧ ((v.toInt = -1 ∧ ¬ (0 ≤ x1.toInt ∧ x1.toInt ≤ 255 ∧ k.toInt < 12) ∧ qB M Rd pb pn ∧ tm_at M Rd 9 2 (.int vp0) ∧ tm_at M Lx 0 2 (.int k)) ∨ ((0 ≤ x1.toInt ∧ x1.toInt ≤ 255 ∧ k.toInt < 12) ∧ tm_at M Rd 9 0 (.int 0) ∧ ∃ vp k1 : Int32, tm_at M Rd 9 2 (.int vp) ∧ tm_at M Lx 0 2 (.int k1) ∧ ((p_nea pb pn).1 = 0 ∧ v.toInt = k.toInt ∧ vp.toInt = -1 ∧ k1.toInt = k.toInt + 1 ∨ (p_nea pb pn).1 ≠ 0 ∧ v.toInt = -1 - (p_nea pb pn).1 ∧ vp.toInt = ((p_nea pb pn).2.1 : Int) ∧ k1.toInt = k.toInt))))) := by
  refine mj_enter (by decide) (Nat.le_of_ble_eq_true rfl) ?_
  refine mv_iload_n d_TrustDesk_near_0 rfl rfl ?_
  have := mz_hi x1
  refine mv_if_ltZ (tgt := 23) (a := x1.toInt) d_TrustDesk_near_1 (by decide) rfl (fun b1 => ?_) (fun b1 => ?_)
  · refine mv_iconst (v := (-1)) d_TrustDesk_near_23 (by decide) ?_
    exact mv_iret d_TrustDesk_near_24 rfl (by first | rfl | decide) ⟨_, I0, _, rfl, Or.inl ⟨by first | decide | omega, by omega, yB, yp, yk⟩⟩
  · refine mv_iload_n d_TrustDesk_near_4 rfl rfl ?_
    refine mv_sipush (v := 255) d_TrustDesk_near_5 (by decide) ?_
    have := mz_hi x1
    refine mv_icmp_gtZ (tgt := 23) (a := x1.toInt) (b := 255) d_TrustDesk_near_8 (by decide) rfl (by decide) (fun b2 => ?_) (fun b2 => ?_)
    · refine mv_iconst (v := (-1)) d_TrustDesk_near_23 (by decide) ?_
      exact mv_iret d_TrustDesk_near_24 rfl (by first | rfl | decide) ⟨_, I0, _, rfl, Or.inl ⟨by first | decide | omega, by omega, yB, yp, yk⟩⟩
    · refine mv_aload_n d_TrustDesk_near_11 rfl rfl ?_
      refine tr_getK (k := 7) q_Lx d_TrustDesk_near_12 f_TrustDesk_56_12 ?_
      obtain ⟨m4, e5, N6, f7, h3⟩ := tm_lsn I0 h_Lx yk
      refine mv_callV_s (kc' := 7) (ks' := 843) [] [.ref Lx] d_TrustDesk_near_15 lV_TrustDesk_97 h3.1 rfl (tc_L_size (d := (d + 21)) h3.1) rfl (Nat.le_of_ble_eq_true rfl) (Nat.le_of_ble_eq_true rfl) (Nat.le_of_ble_eq_true rfl) rfl ?_
      refine mv_bipush (v := 12) d_TrustDesk_near_18 (by decide) ?_
      have := mz_hi k
      refine mv_icmp_ltZ (tgt := 25) (a := k.toInt) (b := 12) d_TrustDesk_near_20 (by decide) rfl (by decide) (fun b8 => ?_) (fun b8 => ?_)
      · refine mv_aload_n d_TrustDesk_near_25 rfl rfl ?_
        refine tr_getK (k := 1) q_Rd d_TrustDesk_near_26 f_TrustDesk_19_12 ?_
        obtain ⟨_, b15, -⟩ := I0.1 _ _ h_Rd
        refine mv_callV (kc' := 2) (ks' := 36) (As := []) (st9 := [.ref Rd]) d_TrustDesk_near_29 lV_TrustDesk_135 b15 rfl (tc_Reader_readNearEnd_x (d := d) (x9 := x9) (o0 := Rd) h_Rd yB I0.start) rfl (Nat.le_of_ble_eq_true rfl) (Nat.le_of_ble_eq_true rfl) (Nat.le_of_ble_eq_true rfl) (hst := rfl) (fun b9r M10 n11 b9 => ?_)
        obtain ⟨T12, J13, b17⟩ := b9
        have I14 := I0.call J13 (tm_sub (by decide)) (Or.inl rfl)
        have t18 := J13.up h_o0
        have B19 : qB M10 Rd pb pn := yB.keep I0.1 J13 (I0.up h_Rd) (by decide) (by decide) (by decide)
        have q20 := J13.keep h_o0 (by decide) q_Rd
        have t21 := J13.up h_Rd
        have q22 := J13.keep h_o0 (by decide) q_Lx
        have t23 := J13.up h_Lx
        have q24 := J13.keepL h_Lx (by decide) yk
        rcases b17 with ⟨rfl, v25, v26, q27, q28, h29, h30, h31⟩ | ⟨a16, rfl, t_a16, v32, v33, q34, q35, h36, h37, h38⟩
        · refine mv_astore_nN (lv' := [(2, .null), (0, .ref o0), (1, .int x1)]) d_TrustDesk_near_32 rfl (by decide) rfl ?_
          refine mv_aload_n d_TrustDesk_near_33 rfl rfl ?_
          refine tr_getK (k := 1) q20 d_TrustDesk_near_34 f_TrustDesk_19_12 ?_
          refine mv_iconst (v := 0) d_TrustDesk_near_37 (by decide) ?_
          refine tr_putK tm_okF I14 t21 (k := 0) rfl ⟨_, rfl⟩ (Or.inl (by decide)) d_TrustDesk_near_38 p_TrustDesk_88_9 rfl rfl (fun M39 I40 q41 K42 => ?_)
          refine mv_aload_nN d_TrustDesk_near_41 rfl rfl ?_
          refine mv_ifnonnullN d_TrustDesk_near_42 ?_
          refine mv_iconst (v := (-1)) d_TrustDesk_near_45 (by decide) ?_
          refine mv_aload_n d_TrustDesk_near_46 rfl rfl ?_
          refine tr_getK (k := 1) (K42 _ 12 1 _ rfl q20) d_TrustDesk_near_47 f_TrustDesk_19_12 ?_
          refine tr_getK (k := 1) (K42 _ 9 1 _ rfl q27) d_TrustDesk_near_50 f_TrustDesk_104_9 ?_
          refine mv_isub d_TrustDesk_near_53 ?_
          have : (((-1) - v25) : Int32).toInt = -1 - v25.toInt := mz_sub2 (by decide) rfl (by have := mz_lo v25; have := mz_hi v25; omega) (by have := mz_lo v25; have := mz_hi v25; omega)
          exact mv_iret d_TrustDesk_near_54 rfl (by first | rfl | decide) ⟨_, I40, _, rfl, Or.inr ⟨by omega, q41, _, _, (K42 _ 9 2 _ rfl q28), (K42 _ 0 2 _ rfl q24), by omega⟩⟩
        · refine mv_astore_n (lv' := [(2, .ref a16), (0, .ref o0), (1, .int x1)]) d_TrustDesk_near_32 rfl (by decide) rfl ?_
          refine mv_aload_n d_TrustDesk_near_33 rfl rfl ?_
          refine tr_getK (k := 1) q20 d_TrustDesk_near_34 f_TrustDesk_19_12 ?_
          refine mv_iconst (v := 0) d_TrustDesk_near_37 (by decide) ?_
          refine tr_putK tm_okF I14 t21 (k := 0) rfl ⟨_, rfl⟩ (Or.inl (by decide)) d_TrustDesk_near_38 p_TrustDesk_88_9 rfl rfl (fun M43 I44 q45 K46 => ?_)
          refine mv_aload_n d_TrustDesk_near_41 rfl rfl ?_
          refine mv_ifnonnull (tgt := 55) d_TrustDesk_near_42 (by decide) ?_
          refine mv_aload_n d_TrustDesk_near_55 rfl rfl ?_
          refine tr_getK (k := 7) (K46 _ 12 7 _ rfl q22) d_TrustDesk_near_56 f_TrustDesk_56_12 ?_
          refine tr_new (kc' := 1) (ks' := 34) tm_okF I44 d_TrustDesk_near_59 n_TrustDesk_139 (Nat.le_of_ble_eq_true rfl) (Nat.le_of_ble_eq_true rfl) (fun T47 M48 I49 t_x50 m51 h52 u53 K54 => ?_)
          have q55 := tm_at.eq (K54 _ _ t18) (K46 _ 12 1 _ rfl q20)
          have t56 := u53 _ _ t21
          have t57 := u53 _ _ t18
          have q58 := tm_at.eq (K54 _ _ t18) (K46 _ 12 7 _ rfl q22)
          have t59 := u53 _ _ t23
          have q60 := tm_at.eq (K54 _ _ t23) (K46 _ 0 2 _ rfl q24)
          have q61 := tm_at.eq (K54 _ _ (I14.up h_Rd)) (K46 _ 9 1 _ rfl q34)
          have q62 := tm_at.eq (K54 _ _ (I14.up h_Rd)) (K46 _ 9 2 _ rfl q35)
          have q63 := tm_at.eq (K54 _ _ t21) q45
          have t64 := u53 _ _ t_a16
          refine mv_dup d_TrustDesk_near_62 rfl ?_
          refine mv_aload_n d_TrustDesk_near_63 rfl rfl ?_
          refine mv_iload_n d_TrustDesk_near_64 rfl rfl ?_
          refine mv_callI (kc' := 1) (ks' := 34) (As := [.ref a16, .int x1]) (st9 := [.int x1, .ref a16, .ref n11, .ref n11, .ref Lx]) d_TrustDesk_near_65 lI_TrustDesk_141 (tc_NearEnd_init (d := (d + 20)) (o0 := n11) (o1 := a16) (x2 := x1) t_x50 t64 m51 I49.start) rfl (Nat.le_of_ble_eq_true rfl) (Nat.le_of_ble_eq_true rfl) (Nat.le_of_ble_eq_true rfl) (hst := rfl) (fun b65r M66 n67 b65 => ?_)
          obtain ⟨T68, J69, rfl, m71⟩ := b65
          have I70 := I49.call J69 (tm_sub (by decide)) (Or.inr h52)
          have t72 := J69.up t_x50
          have t73 := J69.up t64
          have t74 := J69.up t57
          have t75 := J69.up t59
          have q76 := J69.keep t57 (by decide) q55
          have t77 := J69.up t56
          have q78 := J69.keep t57 (by decide) q58
          have q79 := J69.keepL t59 (by decide) q60
          have q80 := J69.keep t56 (by decide) q61
          have q81 := J69.keep t56 (by decide) q62
          have q82 := J69.keep t56 (by decide) q63
          obtain ⟨T83, I84, t_x85, u86⟩ := I70.sealO tm_okF t72 h52 m71 (fun _ z9 => (tm_fs_cons ⟨_, rfl, z9 _ _ t73 (Nat.le_of_ble_eq_true rfl)⟩ (tm_fs_cons ⟨_, rfl⟩ tm_fs_nil)))
          have t87 := u86 _ _ t77 (tm_dif t77 t72 rfl)
          have t88 := u86 _ _ t74 (tm_dif t74 t72 rfl)
          have t89 := u86 _ _ t75 (tm_dif t75 t72 rfl)
          have q90 : tm_at M66 n11 8 0 (.ref a16) := ⟨_, m71, rfl⟩
          have t91 := u86 _ _ t73 (tm_dif t73 t72 rfl)
          have q92 : tm_at M66 n11 8 1 (.int x1) := ⟨_, m71, rfl⟩
          obtain ⟨m94, e95, N96, f97, h93⟩ := tm_lsn I84 t89 q79
          refine mv_callV (kc' := 0) (ks' := 0) (As := [.ref n11]) (st9 := [.ref n11, .ref Lx]) d_TrustDesk_near_68 lV_TrustDesk_107 h93.1 rfl (tc_AL_addT (FT := tm_FT) (W := tm_in [5008]) (x := x9) (d := (d + 15)) tm_okF t89 t_x85 q79 (show _ < (12 : Int) by omega) rfl (C := "TrustDesk$NearEnd") (T9 := kF_NearEnd) (N9 := 2) rfl (mj_in1 (List.mem_of_getElem? (i := 2107) (by decide +kernel)) rfl) (by decide) (by decide) I84.start) rfl (Nat.le_of_ble_eq_true rfl) (Nat.le_of_ble_eq_true rfl) (Nat.le_of_ble_eq_true rfl) (hst := rfl) (fun b98r M99 n100 b98 => ?_)
          obtain ⟨T101, J102, rfl, q104⟩ := b98
          have I103 := I84.call J102 (tm_sub (by decide)) (Or.inl rfl)
          have t105 := J102.up t89
          have t106 := J102.up t91
          have t107 := J102.up t88
          have q108 := J102.keep t88 (by decide) q76
          have t109 := J102.up t87
          have q110 := J102.keep t88 (by decide) q78
          have q111 := J102.keep t87 (by decide) q80
          have q112 := J102.keep t87 (by decide) q81
          have q113 := J102.keep t87 (by decide) q82
          have b114 : (k + 1).toInt = k.toInt + 1 := mz_addn 1 1 (by decide) (by have := mz_lo k; omega) (by omega)
          refine mv_pop d_TrustDesk_near_71 rfl ?_
          refine mv_aload_n d_TrustDesk_near_72 rfl rfl ?_
          refine tr_getK (k := 7) q110 d_TrustDesk_near_73 f_TrustDesk_56_12 ?_
          obtain ⟨m116, e117, N118, f119, h115⟩ := tm_lsn I103 t105 q104
          refine mv_callV_s (kc' := 0) (ks' := 0) [] [.ref Lx] d_TrustDesk_near_76 lV_TrustDesk_97 h115.1 rfl (tc_L_size (d := (d + 21)) h115.1) rfl (Nat.le_of_ble_eq_true rfl) (Nat.le_of_ble_eq_true rfl) (Nat.le_of_ble_eq_true rfl) rfl ?_
          refine mv_iconst (v := 1) d_TrustDesk_near_79 (by decide) ?_
          refine mv_isubv (v := k) d_TrustDesk_near_80 (Int32.add_sub_cancel _ _) ?_
          exact mv_iret d_TrustDesk_near_81 rfl (by first | rfl | decide) ⟨_, I103, _, rfl, Or.inr ⟨by omega, q113, _, _, q112, q104, by omega⟩⟩
      · refine mv_iconst (v := (-1)) d_TrustDesk_near_23 (by decide) ?_
        exact mv_iret d_TrustDesk_near_24 rfl (by first | rfl | decide) ⟨_, I0, _, rfl, Or.inl ⟨by first | decide | omega, by omega, yB, yp, yk⟩⟩
def w_TrustDesk_fund_r : List Nat := [604, 605, 606, 662, 900, 901, 902, 908, 909, 910, 911, 912, 913, 914, 915, 916, 918, 954, 955, 956, 957, 967, 5003, 5006]
set_option maxHeartbeats 100000000 in theorem tc_TrustDesk_fund_r {g : mj_G} {l : Launch} {d : Nat} {T0 : tm_H} {M0 : mj_M} {n0 x9 : Nat} {o0 : Nat} {x1 : Int32} {x2 : Int32} (h_o0 : T0 o0 = some (0, 12, 0)) {Lf : Nat} (h_Lf : T0 Lf = some (3, 6, o0)) (q_Lf : tm_at M0 o0 12 6 (.ref Lf)) {Rd : Nat} {k vp0 : Int32} {pb : Nat → Int} {pn : Nat} (h_Rd : T0 Rd = some (0, 9, 0)) (q_Rd : tm_at M0 o0 12 1 (.ref Rd)) (yB : qB M0 Rd pb pn) (yp : tm_at M0 Rd 9 2 (.int vp0)) (yk : tm_at M0 Lf 0 2 (.int k)) (I0 : tm_I tm_FT (tm_in w_TrustDesk_fund_r) x9 T0 M0 n0 T0 M0 n0) : mj_Met g l kY_TrustDesk_fund (d + 23) [.ref o0, .int x1, .int x2] M0 n0 104 13845 (tm_Q tm_FT (tm_in w_TrustDesk_fund_r) x9 T0 M0 n0 (fun r T M => ∃ v : Int32, r = some (.int v) ∧ tm_FS T0 M0 n0 T M Lf ∧ ((v.toInt = -1 ∧ ¬ (0 ≤ x1.toInt ∧ x1.toInt ≤ 999 ∧ 0 ≤ x2.toInt ∧ x2.toInt ≤ 99999 ∧ k.toInt < 12) ∧ qB M Rd pb pn ∧ tm_at M Rd 9 2 (.int vp0) ∧ tm_at M Lf 0 2 (.int k)) ∨ ((0 ≤ x1.toInt ∧ x1.toInt ≤ 999 ∧ 0 ≤ x2.toInt ∧ x2.toInt ≤ 99999 ∧ k.toInt < 12) ∧ tm_at M Rd 9 0 (.int 0) ∧ ∃ vp k1 : Int32, tm_at M Rd 9 2 (.int vp) ∧ tm_at M Lf 0 2 (.int k1) ∧ ((p_dee pb pn).2.2.1 = 0 ∧ v.toInt = k.toInt ∧ vp.toInt = -1 ∧ k1.toInt = k.toInt + 1 ∨ (p_dee pb pn).2.2.1 ≠ 0 ∧ v.toInt = -1 - (p_dee pb pn).2.2.1 ∧ vp.toInt = ((p_dee pb pn).2.2.2.1 : Int) ∧ k1.toInt = k.toInt))))) := by
  refine mj_enter (by decide) (Nat.le_of_ble_eq_true rfl) ?_
  have K0L : ∀ (a o : Nat) (w : Value), T0 a = some (3, 3, o) → o < n0 → tm_at M0 a 0 2 w → tm_at M0 a 0 2 w := fun a o w h hx q => q
  have K0J : ∀ (a : Nat) (w : Value), T0 a = some (0, 6, 0) → tm_at M0 a 6 8 w → tm_at M0 a 6 8 w := fun a w h q => q
  have K0G : ∀ (i b : Nat), tm_ge M0 Lf i b → tm_ge M0 Lf i b := fun i b q => q
  have K0S : ∀ (w : Value), tm_at M0 Lf 0 2 w → tm_at M0 Lf 0 2 w := fun w q => q
  obtain ⟨_, _, _, _, zz1⟩ := tm_lsn I0 h_Lf yk
  have yp1 := zz1.2.1
  refine mv_iload_n d_TrustDesk_fund_0 rfl rfl ?_
  have := mz_hi x1
  refine mv_if_ltZ (tgt := 33) (a := x1.toInt) d_TrustDesk_fund_1 (by decide) rfl (fun b1 => ?_) (fun b1 => ?_)
  · refine mv_iconst (v := (-1)) d_TrustDesk_fund_33 (by decide) ?_
    exact mv_iret d_TrustDesk_fund_34 rfl (by first | rfl | decide) ⟨_, I0, _, rfl, ⟨K0L, K0J, K0G, Or.inl K0S⟩, Or.inl ⟨by first | decide | omega, by omega, yB, yp, yk⟩⟩
  · refine mv_iload_n d_TrustDesk_fund_4 rfl rfl ?_
    refine mv_sipush (v := 999) d_TrustDesk_fund_5 (by decide) ?_
    have := mz_hi x1
    refine mv_icmp_gtZ (tgt := 33) (a := x1.toInt) (b := 999) d_TrustDesk_fund_8 (by decide) rfl (by decide) (fun b2 => ?_) (fun b2 => ?_)
    · refine mv_iconst (v := (-1)) d_TrustDesk_fund_33 (by decide) ?_
      exact mv_iret d_TrustDesk_fund_34 rfl (by first | rfl | decide) ⟨_, I0, _, rfl, ⟨K0L, K0J, K0G, Or.inl K0S⟩, Or.inl ⟨by first | decide | omega, by omega, yB, yp, yk⟩⟩
    · refine mv_iload_n d_TrustDesk_fund_11 rfl rfl ?_
      have := mz_hi x2
      refine mv_if_ltZ (tgt := 33) (a := x2.toInt) d_TrustDesk_fund_12 (by decide) rfl (fun b3 => ?_) (fun b3 => ?_)
      · refine mv_iconst (v := (-1)) d_TrustDesk_fund_33 (by decide) ?_
        exact mv_iret d_TrustDesk_fund_34 rfl (by first | rfl | decide) ⟨_, I0, _, rfl, ⟨K0L, K0J, K0G, Or.inl K0S⟩, Or.inl ⟨by first | decide | omega, by omega, yB, yp, yk⟩⟩
      · refine mv_iload_n d_TrustDesk_fund_15 rfl rfl ?_
        refine mv_ldc d_TrustDesk_fund_16 k_TrustDesk_122 ?_
        have := mz_hi x2
        refine mv_icmp_gtZ (tgt := 33) (a := x2.toInt) (b := 99999) d_TrustDesk_fund_18 (by decide) rfl (by decide) (fun b4 => ?_) (fun b4 => ?_)
        · refine mv_iconst (v := (-1)) d_TrustDesk_fund_33 (by decide) ?_
          exact mv_iret d_TrustDesk_fund_34 rfl (by first | rfl | decide) ⟨_, I0, _, rfl, ⟨K0L, K0J, K0G, Or.inl K0S⟩, Or.inl ⟨by first | decide | omega, by omega, yB, yp, yk⟩⟩
        · refine mv_aload_n d_TrustDesk_fund_21 rfl rfl ?_
          refine tr_getK (k := 6) q_Lf d_TrustDesk_fund_22 f_TrustDesk_53_12 ?_
          obtain ⟨m6, e7, N8, f9, h5⟩ := tm_lsn I0 h_Lf yk
          refine mv_callV_s (kc' := 104) (ks' := 13845) [] [.ref Lf] d_TrustDesk_fund_25 lV_TrustDesk_97 h5.1 rfl (tc_L_size (d := (d + 22)) h5.1) rfl (Nat.le_of_ble_eq_true rfl) (Nat.le_of_ble_eq_true rfl) (Nat.le_of_ble_eq_true rfl) rfl ?_
          refine mv_bipush (v := 12) d_TrustDesk_fund_28 (by decide) ?_
          have := mz_hi k
          refine mv_icmp_ltZ (tgt := 35) (a := k.toInt) (b := 12) d_TrustDesk_fund_30 (by decide) rfl (by decide) (fun b10 => ?_) (fun b10 => ?_)
          · refine tr_new (kc' := 103) (ks' := 13830) tm_okF I0 d_TrustDesk_fund_35 n_TrustDesk_123 (Nat.le_of_ble_eq_true rfl) (Nat.le_of_ble_eq_true rfl) (fun T11 M12 I13 t_x14 m15 h16 u17 K18 => ?_)
            have K19 : ∀ (a o : Nat) (w : Value), T0 a = some (3, 3, o) → o < n0 → tm_at M0 a 0 2 w → tm_at M12 a 0 2 w := fun a o w h hx q => tm_at.eq (K18 _ _ (I0.up h)) (K0L a o w h hx q)
            have K20 : ∀ (a : Nat) (w : Value), T0 a = some (0, 6, 0) → tm_at M0 a 6 8 w → tm_at M12 a 6 8 w := fun a w h q => tm_at.eq (K18 _ _ (I0.up h)) (K0J a w h q)
            have K21 : ∀ (i b : Nat), tm_ge M0 Lf i b → tm_ge M12 Lf i b := fun i b q => tm_ge.mono I0.1 (I0.up h_Lf) (K18 _ _ (I0.up h_Lf)) (fun e te => K18 _ _ te) (K0G i b q)
            have K22 : ∀ (w : Value), tm_at M0 Lf 0 2 w → tm_at M12 Lf 0 2 w := fun w q => tm_at.eq (K18 _ _ (I0.up h_Lf)) (K0S w q)
            have B23 : qB M12 Rd pb pn := yB.made I0.1 (I0.up h_Rd) K18
            have q24 := tm_at.eq (K18 _ _ h_o0) q_Lf
            have t25 := u17 _ _ h_Lf
            have t26 := u17 _ _ h_o0
            have q27 := tm_at.eq (K18 _ _ h_o0) q_Rd
            have t28 := u17 _ _ h_Rd
            have q29 := tm_at.eq (K18 _ _ h_Lf) yk
            have q30 := tm_at.eq (K18 _ _ h_Rd) yp
            refine mv_dup d_TrustDesk_fund_38 rfl ?_
            refine mv_aload_n d_TrustDesk_fund_39 rfl rfl ?_
            refine tr_getK (k := 6) q24 d_TrustDesk_fund_40 f_TrustDesk_53_12 ?_
            obtain ⟨m32, e33, N34, f35, h31⟩ := tm_lsn I13 t25 q29
            refine mv_callV_s (kc' := 103) (ks' := 13830) [] [.ref Lf, .ref n0, .ref n0] d_TrustDesk_fund_43 lV_TrustDesk_97 h31.1 rfl (tc_L_size (d := (d + 22)) h31.1) rfl (Nat.le_of_ble_eq_true rfl) (Nat.le_of_ble_eq_true rfl) (Nat.le_of_ble_eq_true rfl) rfl ?_
            refine mv_iload_n d_TrustDesk_fund_46 rfl rfl ?_
            refine mv_iload_n d_TrustDesk_fund_47 rfl rfl ?_
            refine mv_callI (kc' := 99) (ks' := 13614) (As := [.int k, .int x1, .int x2]) (st9 := [.int x2, .int x1, .int k, .ref n0, .ref n0]) d_TrustDesk_fund_48 lI_TrustDesk_125 (tc_Fund_init_x (d := (d + 18)) (o0 := n0) (x1 := k) (x2 := x1) (x3 := x2) t_x14 m15 I13.start) rfl (Nat.le_of_ble_eq_true rfl) (Nat.le_of_ble_eq_true rfl) (Nat.le_of_ble_eq_true rfl) (hst := rfl) (fun b36r M37 n38 b36 => ?_)
            obtain ⟨T39, J40, rfl, a42, a43, a44, a45, m46, t_a42, t_a43, t_a44, t_a45, z47⟩ := b36
            have I41 := I13.call J40 (tm_sub (by decide)) (Or.inr h16)
            have t48 := J40.up t_x14
            have t49 := J40.up t26
            have K50 : ∀ (a o : Nat) (w : Value), T0 a = some (3, 3, o) → o < n0 → tm_at M0 a 0 2 w → tm_at M37 a 0 2 w := fun a o w h hx q => J40.keepL (I13.up h) (by decide) (K19 a o w h hx q)
            have K51 : ∀ (a : Nat) (w : Value), T0 a = some (0, 6, 0) → tm_at M0 a 6 8 w → tm_at M37 a 6 8 w := fun a w h q => J40.keep (I13.up h) (by decide) (K20 a w h q)
            have K52 : ∀ (i b : Nat), tm_ge M0 Lf i b → tm_ge M37 Lf i b := fun i b q => tm_I.keepG I13.1 J40 (I13.up h_Lf) (by decide) (K21 i b q)
            have K53 : ∀ (w : Value), tm_at M0 Lf 0 2 w → tm_at M37 Lf 0 2 w := fun w q => J40.keepL (I13.up h_Lf) (by decide) (K22 w q)
            have B54 : qB M37 Rd pb pn := B23.keep I13.1 J40 (I13.up h_Rd) (by decide) (by decide) (by decide)
            have q55 := J40.keep t26 (by decide) q24
            have t56 := J40.up t25
            have q57 := J40.keep t26 (by decide) q27
            have t58 := J40.up t28
            have q59 := J40.keepL t25 (by decide) q29
            have q60 := J40.keep t28 (by decide) q30
            obtain ⟨T61, I62, t_x63, u64⟩ := I41.sealO tm_okF t48 h16 m46 (fun _ z9 => (tm_fs_cons ⟨_, rfl⟩ (tm_fs_cons ⟨_, rfl⟩ (tm_fs_cons ⟨_, rfl⟩ (tm_fs_cons ⟨_, rfl⟩ (tm_fs_cons ⟨_, rfl⟩ (tm_fs_cons ⟨_, rfl⟩ (tm_fs_cons ⟨_, rfl⟩ (tm_fs_cons ⟨_, rfl⟩ (tm_fs_cons ⟨_, rfl⟩ (tm_fs_cons ⟨_, rfl⟩ (tm_fs_cons ⟨_, rfl⟩ (tm_fs_cons ⟨_, rfl, z9 _ _ t_a42 (Nat.le_of_ble_eq_true rfl)⟩ (tm_fs_cons ⟨_, rfl, z9 _ _ t_a43 (Nat.le_of_ble_eq_true rfl)⟩ (tm_fs_cons ⟨_, rfl, z9 _ _ t_a44 (Nat.le_of_ble_eq_true rfl)⟩ (tm_fs_cons ⟨_, rfl, z9 _ _ t_a45 (Nat.le_of_ble_eq_true rfl)⟩ tm_fs_nil))))))))))))))))
            have t65 := u64 _ _ t56 (tm_dif t56 t48 rfl)
            have t66 := u64 _ _ t49 (tm_dif t49 t48 rfl)
            have t67 := u64 _ _ t58 (tm_dif t58 t48 rfl)
            have t68 := u64 _ _ t_a42 (tm_dif t_a42 t48 rfl)
            have q69 : tm_at M37 n0 6 0 (.int k) := ⟨_, m46, rfl⟩
            have q70 : tm_at M37 n0 6 1 (.int x1) := ⟨_, m46, rfl⟩
            have q71 : tm_at M37 n0 6 2 (.int x2) := ⟨_, m46, rfl⟩
            have q72 : tm_at M37 n0 6 3 (.long 0) := ⟨_, m46, rfl⟩
            have q73 : tm_at M37 n0 6 4 (.int 0) := ⟨_, m46, rfl⟩
            have q74 : tm_at M37 n0 6 5 (.int 7) := ⟨_, m46, rfl⟩
            have q75 : tm_at M37 n0 6 6 (.int 1) := ⟨_, m46, rfl⟩
            have q76 : tm_at M37 n0 6 7 (.int 0) := ⟨_, m46, rfl⟩
            have q77 : tm_at M37 n0 6 8 (.int (-1)) := ⟨_, m46, rfl⟩
            have q78 : tm_at M37 n0 6 9 (.int 0) := ⟨_, m46, rfl⟩
            have q79 : tm_at M37 n0 6 10 (.long 0) := ⟨_, m46, rfl⟩
            have q80 : tm_at M37 n0 6 11 (.ref a42) := ⟨_, m46, rfl⟩
            have q81 : tm_at M37 n0 6 12 (.ref a43) := ⟨_, m46, rfl⟩
            have t82 := u64 _ _ t_a43 (tm_dif t_a43 t48 rfl)
            have q83 : tm_at M37 n0 6 13 (.ref a44) := ⟨_, m46, rfl⟩
            have t84 := u64 _ _ t_a44 (tm_dif t_a44 t48 rfl)
            have q85 : tm_at M37 n0 6 14 (.ref a45) := ⟨_, m46, rfl⟩
            have t86 := u64 _ _ t_a45 (tm_dif t_a45 t48 rfl)
            refine mv_astore_n (lv' := [(3, .ref n0), (0, .ref o0), (1, .int x1), (2, .int x2)]) d_TrustDesk_fund_51 rfl (by decide) rfl ?_
            refine mv_aload_n d_TrustDesk_fund_52 rfl rfl ?_
            refine tr_getK (k := 1) q57 d_TrustDesk_fund_53 f_TrustDesk_19_12 ?_
            refine mv_aload_n d_TrustDesk_fund_56 rfl rfl ?_
            obtain ⟨_, b93, -⟩ := I62.1 _ _ t67
            refine mv_callV (kc' := 1) (ks' := 34) (As := [.ref n0]) (st9 := [.ref n0, .ref Rd]) d_TrustDesk_fund_57 lV_TrustDesk_128 b93 rfl (tc_Reader_readDeed_r (d := d) (x9 := x9) (o0 := Rd) (o1 := n0) t67 t_x63 B54 t68 q80 z47 (by first | omega | decide) (qE.nil z47) I62.start) rfl (Nat.le_of_ble_eq_true rfl) (Nat.le_of_ble_eq_true rfl) (Nat.le_of_ble_eq_true rfl) (hst := rfl) (fun b87r M88 n89 b87 => ?_)
            obtain ⟨T90, J91, v94, rfl, b95, b96, ⟨s97, z98, h99⟩, K100, f101⟩ := b87
            have I92 := I62.call J91 (tm_sub (by decide)) (Or.inl rfl)
            have t102 := J91.up t_x63
            have t103 := J91.up t66
            have K104 : ∀ (a o : Nat) (w : Value), T0 a = some (3, 3, o) → o < n0 → tm_at M0 a 0 2 w → tm_at M88 a 0 2 w := fun a o w h hx q => K100 _ _ _ (I62.up h) (Nat.ne_of_lt (Nat.lt_of_lt_of_le hx h16)) (K50 a o w h hx q)
            have K105 : ∀ (a : Nat) (w : Value), T0 a = some (0, 6, 0) → tm_at M0 a 6 8 w → tm_at M88 a 6 8 w := fun a w h q => J91.keep (I62.up h) (by decide) (K51 a w h q)
            have K106 : ∀ (i b : Nat), tm_ge M0 Lf i b → tm_ge M88 Lf i b := fun i b q => tm_I.keepG I62.1 J91 (I62.up h_Lf) (by decide) (K52 i b q)
            have K107 : ∀ (w : Value), tm_at M0 Lf 0 2 w → tm_at M88 Lf 0 2 w := fun w q => J91.keepL (I62.up h_Lf) (by decide) (K53 w q)
            have B108 : qB M88 Rd pb pn := B54.keep I62.1 J91 (I62.up h_Rd) (by decide) (by decide) (by decide)
            have q109 := J91.keep t66 (by decide) q55
            have t110 := J91.up t65
            have q111 := J91.keep t66 (by decide) q57
            have t112 := J91.up t67
            have q113 := J91.keepL t65 (by decide) q59
            have q114 := J91.keep t_x63 (by decide) q69
            have q115 := J91.keep t_x63 (by decide) q70
            have q116 := J91.keep t_x63 (by decide) q71
            have q117 := J91.keep t_x63 (by decide) q72
            have q118 := J91.keep t_x63 (by decide) q76
            have q119 := J91.keep t_x63 (by decide) q77
            have q120 := J91.keep t_x63 (by decide) q78
            have q121 := J91.keep t_x63 (by decide) q79
            have q122 := J91.keep t_x63 (by decide) q80
            have t123 := J91.up t68
            have q124 := J91.keep t_x63 (by decide) q81
            have t125 := J91.up t82
            have q126 := J91.keep t_x63 (by decide) q83
            have t127 := J91.up t84
            have q128 := J91.keep t_x63 (by decide) q85
            have t129 := J91.up t86
            obtain ⟨v130, v131, q133, q134, h136, h137⟩ := f101
            refine mv_istore (lv' := [(4, .int v94), (3, .ref n0), (0, .ref o0), (1, .int x1), (2, .int x2)]) d_TrustDesk_fund_60 (by decide) rfl ?_
            refine mv_aload_n d_TrustDesk_fund_62 rfl rfl ?_
            refine tr_getK (k := 1) q111 d_TrustDesk_fund_63 f_TrustDesk_19_12 ?_
            refine mv_iconst (v := 0) d_TrustDesk_fund_66 (by decide) ?_
            refine tr_putKM tm_okF I92 t112 (k := 0) rfl ⟨_, rfl⟩ (Or.inl (by decide)) d_TrustDesk_fund_67 p_TrustDesk_88_9 rfl rfl (fun M138 I139 q140 K141 K141M => ?_)
            have K142 : ∀ (a o : Nat) (w : Value), T0 a = some (3, 3, o) → o < n0 → tm_at M0 a 0 2 w → tm_at M138 a 0 2 w := fun a o w h hx q => K141 _ 0 2 _ rfl (K104 a o w h hx q)
            have K143 : ∀ (a : Nat) (w : Value), T0 a = some (0, 6, 0) → tm_at M0 a 6 8 w → tm_at M138 a 6 8 w := fun a w h q => K141 _ 6 8 _ rfl (K105 a w h q)
            have K144 : ∀ (i b : Nat), tm_ge M0 Lf i b → tm_ge M138 Lf i b := fun i b q => tm_ge.put I92.1 (I92.up h_Lf) t112 (by decide) K141M (K106 i b q)
            have K145 : ∀ (w : Value), tm_at M0 Lf 0 2 w → tm_at M138 Lf 0 2 w := fun w q => K141 _ 0 2 _ rfl (K107 w q)
            refine mv_iload d_TrustDesk_fund_70 rfl ?_
            have := mz_hi v94
            refine mv_if_neZ (tgt := 85) (a := v94.toInt) d_TrustDesk_fund_72 (by decide) rfl (fun b146 => ?_) (fun b146 => ?_)
            · refine mv_aload_n d_TrustDesk_fund_85 rfl rfl ?_
              refine tr_getK (k := 6) (K141 _ 12 6 _ rfl q109) d_TrustDesk_fund_86 f_TrustDesk_53_12 ?_
              refine mv_aload_n d_TrustDesk_fund_89 rfl rfl ?_
              have : tm_mx 6 = 12 := rfl
              obtain ⟨m148, e149, N150, f151, h147⟩ := tm_lsn I139 t110 (K141 _ 0 2 _ rfl q113)
              refine mv_callV (kc' := 0) (ks' := 0) (As := [.ref n0]) (st9 := [.ref n0, .ref Lf]) d_TrustDesk_fund_90 lV_TrustDesk_107 h147.1 rfl (tc_AL_addK (FT := tm_FT) (W := tm_in [5006]) (x := x9) (d := (d + 16)) tm_okF t110 t102 (K141 _ 0 2 _ rfl q113) (show _ < (12 : Int) by omega) rfl (C := "TrustDesk$Fund") (T9 := kF_Fund) (N9 := 15) rfl (mj_in1 (List.mem_of_getElem? (i := 2104) (by decide +kernel)) rfl) (by decide) (by decide) I139.start) rfl (Nat.le_of_ble_eq_true rfl) (Nat.le_of_ble_eq_true rfl) (Nat.le_of_ble_eq_true rfl) (hst := rfl) (fun b152r M153 n154 b152 => ?_)
              obtain ⟨T155, J156, rfl, q158, K159, K160, g161⟩ := b152
              have I157 := I139.call J156 (tm_sub (by decide)) (Or.inl rfl)
              have t162 := J156.up t110
              have t163 := J156.up t102
              have t164 := J156.up t103
              have q165 := J156.keep t103 (by decide) (K141 _ 12 6 _ rfl q109)
              have q166 := J156.keep t103 (by decide) (K141 _ 12 1 _ rfl q111)
              have t167 := J156.up t112
              have q168 := J156.keep t102 (by decide) (K141 _ 6 0 _ rfl q114)
              have q169 := J156.keep t102 (by decide) (K141 _ 6 1 _ rfl q115)
              have q170 := J156.keep t102 (by decide) (K141 _ 6 2 _ rfl q116)
              have q171 := J156.keep t102 (by decide) (K141 _ 6 3 _ rfl q117)
              have q172 := J156.keep t102 (by decide) (K141 _ 6 7 _ rfl q118)
              have q173 := J156.keep t102 (by decide) (K141 _ 6 8 _ rfl q119)
              have q174 := J156.keep t102 (by decide) (K141 _ 6 9 _ rfl q120)
              have q175 := J156.keep t102 (by decide) (K141 _ 6 10 _ rfl q121)
              have q176 := J156.keep t102 (by decide) (K141 _ 6 11 _ rfl q122)
              have t177 := J156.up t123
              have q178 := J156.keep t102 (by decide) (K141 _ 6 12 _ rfl q124)
              have t179 := J156.up t125
              have q180 := J156.keep t102 (by decide) (K141 _ 6 13 _ rfl q126)
              have t181 := J156.up t127
              have q182 := J156.keep t102 (by decide) (K141 _ 6 14 _ rfl q128)
              have t183 := J156.up t129
              have q184 := J156.keepL t123 (by decide) (K141 _ 0 2 _ rfl z98)
              have q185 := J156.keep (I92.up h_Rd) (by decide) (K141 _ 9 1 _ rfl q133)
              have q186 := J156.keep (I92.up h_Rd) (by decide) (K141 _ 9 2 _ rfl q134)
              have q187 := J156.keep t112 (by decide) q140
              have K188 : ∀ (a o : Nat) (w : Value), T0 a = some (3, 3, o) → o < n0 → tm_at M0 a 0 2 w → tm_at M153 a 0 2 w := fun a o w h hx q => tm_at.eq (K159 _ _ _ (tm_lnc (I139.up h) t110 (by decide)) (I139.up h)) (K142 a o w h hx q)
              have K189 : ∀ (a : Nat) (w : Value), T0 a = some (0, 6, 0) → tm_at M0 a 6 8 w → tm_at M153 a 6 8 w := fun a w h q => J156.keep (I139.up h) (by decide) (K143 a w h q)
              have K190 : ∀ (i b : Nat), tm_ge M0 Lf i b → tm_ge M153 Lf i b := fun i b q => K160 _ _ (K144 i b q)
              have b191 : (k + 1).toInt = k.toInt + 1 := mz_addn 1 1 (by decide) (by have := mz_lo k; omega) (by omega)
              refine mv_pop d_TrustDesk_fund_93 rfl ?_
              refine mv_aload_n d_TrustDesk_fund_94 rfl rfl ?_
              refine tr_getK (k := 0) q168 d_TrustDesk_fund_95 f_TrustDesk_132_6 ?_
              exact mv_iret d_TrustDesk_fund_98 rfl (by first | rfl | decide) ⟨_, I157, _, rfl, ⟨K188, K189, K190, Or.inr ⟨n0, a42, k, s97, k, yk, q158, g161, q168, by omega, q176, t177, q184, by omega, h16⟩⟩, Or.inr ⟨by omega, q187, _, _, q186, q158, by omega⟩⟩
            · refine mv_iconst (v := (-1)) d_TrustDesk_fund_75 (by decide) ?_
              refine mv_aload_n d_TrustDesk_fund_76 rfl rfl ?_
              refine tr_getK (k := 1) (K141 _ 12 1 _ rfl q111) d_TrustDesk_fund_77 f_TrustDesk_19_12 ?_
              refine tr_getK (k := 1) (K141 _ 9 1 _ rfl q133) d_TrustDesk_fund_80 f_TrustDesk_104_9 ?_
              refine mv_isub d_TrustDesk_fund_83 ?_
              have : (((-1) - v130) : Int32).toInt = -1 - v130.toInt := mz_sub2 (by decide) rfl (by have := mz_lo v130; have := mz_hi v130; omega) (by have := mz_lo v130; have := mz_hi v130; omega)
              exact mv_iret d_TrustDesk_fund_84 rfl (by first | rfl | decide) ⟨_, I139, _, rfl, ⟨K142, K143, K144, Or.inl K145⟩, Or.inr ⟨by omega, q140, _, _, (K141 _ 9 2 _ rfl q134), (K141 _ 0 2 _ rfl q113), by omega⟩⟩
          · refine mv_iconst (v := (-1)) d_TrustDesk_fund_33 (by decide) ?_
            exact mv_iret d_TrustDesk_fund_34 rfl (by first | rfl | decide) ⟨_, I0, _, rfl, ⟨K0L, K0J, K0G, Or.inl K0S⟩, Or.inl ⟨by first | decide | omega, by omega, yB, yp, yk⟩⟩
def w_Reader_takeFour_r : List Nat := [900, 953]
set_option maxHeartbeats 100000000 in theorem tc_Reader_takeFour_r {g : mj_G} {l : Launch} {d : Nat} {T0 : tm_H} {M0 : mj_M} {n0 x9 : Nat} {o0 : Nat} {x1 : Int32} (h_o0 : T0 o0 = some (0, 9, 0)) {pb : Nat → Int} {pn : Nat} (yB : qB M0 o0 pb pn) (yn : pn ≤ 396) (I0 : tm_I tm_FT (tm_in w_Reader_takeFour_r) x9 T0 M0 n0 T0 M0 n0) : mj_Met g l kY_Reader_takeFour d [.ref o0, .int x1] M0 n0 0 0 (tm_Q tm_FT (tm_in w_Reader_takeFour_r) x9 T0 M0 n0 (fun r _ M => r = none ∧ (qB M o0 (p_f4 pb pn x1.toInt) (pn + 4)))) := by
  refine mj_enter (by decide) (Nat.le_of_ble_eq_true rfl) ?_
  obtain ⟨z0, yz0⟩ := tm_atI I0 h_o0 (k := 0) rfl
  have := tm_rv yz0
  have := yB.1
  refine mv_bipush (v := 24) d_Reader_takeFour_0 (by decide) ?_
  refine mv_istore_n (lv' := [(2, .int 24), (0, .ref o0), (1, .int x1)]) d_Reader_takeFour_2 rfl (by decide) rfl ?_
  refine mv_iload_n d_Reader_takeFour_3 rfl rfl ?_
  refine mv_if_lt_f (tgt := 56) d_Reader_takeFour_4 (by decide) (by decide) ?_
  refine mv_aload_n d_Reader_takeFour_7 rfl rfl ?_
  refine tr_getK (k := 0) yz0 d_Reader_takeFour_8 f_Reader_34_9 ?_
  have := mz_hi z0
  refine mv_if_ltZ (tgt := 50) (a := z0.toInt) d_Reader_takeFour_11 (by decide) rfl (fun b1 => absurd b1 (by omega)) (fun b1 => ?_)
  refine mv_aload_n d_Reader_takeFour_14 rfl rfl ?_
  refine tr_getK (k := 0) yz0 d_Reader_takeFour_15 f_Reader_34_9 ?_
  refine mv_sipush (v := 400) d_Reader_takeFour_18 (by decide) ?_
  have := mz_hi z0
  refine mv_icmp_geZ (tgt := 50) (a := z0.toInt) (b := 400) d_Reader_takeFour_21 (by decide) rfl (by decide) (fun b2 => absurd b2 (by omega)) (fun b2 => ?_)
  refine mv_aload_n d_Reader_takeFour_24 rfl rfl ?_
  obtain ⟨a4, q3, t_a4⟩ := tm_atR I0 h_o0 (k := 3) rfl
  refine tr_getK q3 d_Reader_takeFour_25 f_Reader_15_9 ?_
  refine mv_aload_n d_Reader_takeFour_28 rfl rfl ?_
  refine tr_getK (k := 0) yz0 d_Reader_takeFour_29 f_Reader_34_9 ?_
  refine mv_iload_n d_Reader_takeFour_32 rfl rfl ?_
  refine mv_iload_n d_Reader_takeFour_33 rfl rfl ?_
  refine mv_iushr (v := (x1.toUInt32 >>> ((24 : Int32).toUInt32 &&& Int32.toUInt32 31)).toInt32) d_Reader_takeFour_34 rfl ?_
  refine mv_sipush (v := 255) d_Reader_takeFour_35 (by decide) ?_
  have := mz_ub24 x1
  refine mv_iand d_Reader_takeFour_38 ?_
  refine tr_iast9 (o := o0) (k := 3) I0 (I0.up h_o0) rfl q3 t_a4 (by decide) (Or.inl (by decide)) d_Reader_takeFour_39 (vp_in_iff.mpr (by omega)) (fun M5 I6 K7 E8 A9 => ?_)
  refine mv_aload_n d_Reader_takeFour_40 rfl rfl ?_
  refine mv_dup d_Reader_takeFour_41 rfl ?_
  refine tr_getK (k := 0) (K7 _ 9 0 _ yz0) d_Reader_takeFour_42 f_Reader_34_9 ?_
  refine mv_iconst (v := 1) d_Reader_takeFour_45 (by decide) ?_
  refine mv_iadd d_Reader_takeFour_46 ?_
  obtain ⟨w10, h11, b12⟩ : ∃ w9 : Int32, (z0 + 1) = w9 ∧ w9.toInt = z0.toInt + 1 := ⟨_, rfl, mz_add2 rfl (by decide) (by omega) (by omega)⟩
  rw [h11]
  refine tr_putKM tm_okF I6 h_o0 (k := 0) rfl ⟨_, rfl⟩ (Or.inl (by decide)) d_Reader_takeFour_47 p_Reader_34_9 rfl rfl (fun M13 I14 q15 K16 K16M => ?_)
  have B17 : qB M13 o0 (p_u pb pn (x1.toInt / 16777216 % 256)) (pn + 1) := yB.put (u := (x1.toInt / 16777216 % 256)) (m := z0.toNatClampNeg) (fun j => (E8 j).trans (by rw [show (((x1.toUInt32 >>> ((24 : Int32).toUInt32 &&& Int32.toUInt32 31)).toInt32) &&& 255).toInt = (x1.toInt / 16777216 % 256) from by omega])) (fun j => ra_put9 I6 h_o0 rfl (by decide) K16 K16M j) ((tm_rv q15).trans (by omega)) (by have := mz_nat9 (i := z0) (by omega); omega) (by omega) (by omega)
  refine mv_iinc (v := 16) (lv' := [(2, .int 16), (0, .ref o0), (1, .int x1)]) d_Reader_takeFour_50 rfl (by decide) (by decide) rfl ?_
  refine mv_goto (tgt := 3) d_Reader_takeFour_53 (by decide) ?_
  refine mv_iload_n d_Reader_takeFour_3 rfl rfl ?_
  refine mv_if_lt_f (tgt := 56) d_Reader_takeFour_4 (by decide) (by decide) ?_
  refine mv_aload_n d_Reader_takeFour_7 rfl rfl ?_
  refine tr_getK (k := 0) q15 d_Reader_takeFour_8 f_Reader_34_9 ?_
  have := mz_hi w10
  refine mv_if_ltZ (tgt := 50) (a := w10.toInt) d_Reader_takeFour_11 (by decide) rfl (fun b18 => absurd b18 (by omega)) (fun b18 => ?_)
  refine mv_aload_n d_Reader_takeFour_14 rfl rfl ?_
  refine tr_getK (k := 0) q15 d_Reader_takeFour_15 f_Reader_34_9 ?_
  refine mv_sipush (v := 400) d_Reader_takeFour_18 (by decide) ?_
  have := mz_hi w10
  refine mv_icmp_geZ (tgt := 50) (a := w10.toInt) (b := 400) d_Reader_takeFour_21 (by decide) rfl (by decide) (fun b19 => absurd b19 (by omega)) (fun b19 => ?_)
  refine mv_aload_n d_Reader_takeFour_24 rfl rfl ?_
  refine tr_getK (k := 3) (K16 _ 9 3 _ rfl (K7 _ 9 3 _ q3)) d_Reader_takeFour_25 f_Reader_15_9 ?_
  refine mv_aload_n d_Reader_takeFour_28 rfl rfl ?_
  refine tr_getK (k := 0) q15 d_Reader_takeFour_29 f_Reader_34_9 ?_
  refine mv_iload_n d_Reader_takeFour_32 rfl rfl ?_
  refine mv_iload_n d_Reader_takeFour_33 rfl rfl ?_
  refine mv_iushr (v := (x1.toUInt32 >>> ((16 : Int32).toUInt32 &&& Int32.toUInt32 31)).toInt32) d_Reader_takeFour_34 rfl ?_
  refine mv_sipush (v := 255) d_Reader_takeFour_35 (by decide) ?_
  have := mz_ub16 x1
  refine mv_iand d_Reader_takeFour_38 ?_
  refine tr_iast9 (o := o0) (k := 3) I14 (I14.up h_o0) rfl (K16 _ 9 3 _ rfl (K7 _ 9 3 _ q3)) t_a4 (by decide) (Or.inl (by decide)) d_Reader_takeFour_39 (vp_in_iff.mpr (by omega)) (fun M20 I21 K22 E23 A24 => ?_)
  refine mv_aload_n d_Reader_takeFour_40 rfl rfl ?_
  refine mv_dup d_Reader_takeFour_41 rfl ?_
  refine tr_getK (k := 0) (K22 _ 9 0 _ q15) d_Reader_takeFour_42 f_Reader_34_9 ?_
  refine mv_iconst (v := 1) d_Reader_takeFour_45 (by decide) ?_
  refine mv_iadd d_Reader_takeFour_46 ?_
  obtain ⟨w25, h26, b27⟩ : ∃ w9 : Int32, (w10 + 1) = w9 ∧ w9.toInt = w10.toInt + 1 := ⟨_, rfl, mz_add2 rfl (by decide) (by omega) (by omega)⟩
  rw [h26]
  refine tr_putKM tm_okF I21 h_o0 (k := 0) rfl ⟨_, rfl⟩ (Or.inl (by decide)) d_Reader_takeFour_47 p_Reader_34_9 rfl rfl (fun M28 I29 q30 K31 K31M => ?_)
  have B32 : qB M28 o0 (p_u (p_u pb pn (x1.toInt / 16777216 % 256)) (pn + 1) (x1.toInt / 65536 % 256)) (pn + 2) := B17.put (u := (x1.toInt / 65536 % 256)) (m := w10.toNatClampNeg) (fun j => (E23 j).trans (by rw [show (((x1.toUInt32 >>> ((16 : Int32).toUInt32 &&& Int32.toUInt32 31)).toInt32) &&& 255).toInt = (x1.toInt / 65536 % 256) from by omega])) (fun j => ra_put9 I21 h_o0 rfl (by decide) K31 K31M j) ((tm_rv q30).trans (by omega)) (by have := mz_nat9 (i := w10) (by omega); omega) (by omega) (by omega)
  refine mv_iinc (v := 8) (lv' := [(2, .int 8), (0, .ref o0), (1, .int x1)]) d_Reader_takeFour_50 rfl (by decide) (by decide) rfl ?_
  refine mv_goto (tgt := 3) d_Reader_takeFour_53 (by decide) ?_
  refine mv_iload_n d_Reader_takeFour_3 rfl rfl ?_
  refine mv_if_lt_f (tgt := 56) d_Reader_takeFour_4 (by decide) (by decide) ?_
  refine mv_aload_n d_Reader_takeFour_7 rfl rfl ?_
  refine tr_getK (k := 0) q30 d_Reader_takeFour_8 f_Reader_34_9 ?_
  have := mz_hi w25
  refine mv_if_ltZ (tgt := 50) (a := w25.toInt) d_Reader_takeFour_11 (by decide) rfl (fun b33 => absurd b33 (by omega)) (fun b33 => ?_)
  refine mv_aload_n d_Reader_takeFour_14 rfl rfl ?_
  refine tr_getK (k := 0) q30 d_Reader_takeFour_15 f_Reader_34_9 ?_
  refine mv_sipush (v := 400) d_Reader_takeFour_18 (by decide) ?_
  have := mz_hi w25
  refine mv_icmp_geZ (tgt := 50) (a := w25.toInt) (b := 400) d_Reader_takeFour_21 (by decide) rfl (by decide) (fun b34 => absurd b34 (by omega)) (fun b34 => ?_)
  refine mv_aload_n d_Reader_takeFour_24 rfl rfl ?_
  refine tr_getK (k := 3) (K31 _ 9 3 _ rfl (K22 _ 9 3 _ (K16 _ 9 3 _ rfl (K7 _ 9 3 _ q3)))) d_Reader_takeFour_25 f_Reader_15_9 ?_
  refine mv_aload_n d_Reader_takeFour_28 rfl rfl ?_
  refine tr_getK (k := 0) q30 d_Reader_takeFour_29 f_Reader_34_9 ?_
  refine mv_iload_n d_Reader_takeFour_32 rfl rfl ?_
  refine mv_iload_n d_Reader_takeFour_33 rfl rfl ?_
  refine mv_iushr (v := (x1.toUInt32 >>> ((8 : Int32).toUInt32 &&& Int32.toUInt32 31)).toInt32) d_Reader_takeFour_34 rfl ?_
  refine mv_sipush (v := 255) d_Reader_takeFour_35 (by decide) ?_
  have := mz_ub8 x1
  refine mv_iand d_Reader_takeFour_38 ?_
  refine tr_iast9 (o := o0) (k := 3) I29 (I29.up h_o0) rfl (K31 _ 9 3 _ rfl (K22 _ 9 3 _ (K16 _ 9 3 _ rfl (K7 _ 9 3 _ q3)))) t_a4 (by decide) (Or.inl (by decide)) d_Reader_takeFour_39 (vp_in_iff.mpr (by omega)) (fun M35 I36 K37 E38 A39 => ?_)
  refine mv_aload_n d_Reader_takeFour_40 rfl rfl ?_
  refine mv_dup d_Reader_takeFour_41 rfl ?_
  refine tr_getK (k := 0) (K37 _ 9 0 _ q30) d_Reader_takeFour_42 f_Reader_34_9 ?_
  refine mv_iconst (v := 1) d_Reader_takeFour_45 (by decide) ?_
  refine mv_iadd d_Reader_takeFour_46 ?_
  obtain ⟨w40, h41, b42⟩ : ∃ w9 : Int32, (w25 + 1) = w9 ∧ w9.toInt = w25.toInt + 1 := ⟨_, rfl, mz_add2 rfl (by decide) (by omega) (by omega)⟩
  rw [h41]
  refine tr_putKM tm_okF I36 h_o0 (k := 0) rfl ⟨_, rfl⟩ (Or.inl (by decide)) d_Reader_takeFour_47 p_Reader_34_9 rfl rfl (fun M43 I44 q45 K46 K46M => ?_)
  have B47 : qB M43 o0 (p_u (p_u (p_u pb pn (x1.toInt / 16777216 % 256)) (pn + 1) (x1.toInt / 65536 % 256)) (pn + 2) (x1.toInt / 256 % 256)) (pn + 3) := B32.put (u := (x1.toInt / 256 % 256)) (m := w25.toNatClampNeg) (fun j => (E38 j).trans (by rw [show (((x1.toUInt32 >>> ((8 : Int32).toUInt32 &&& Int32.toUInt32 31)).toInt32) &&& 255).toInt = (x1.toInt / 256 % 256) from by omega])) (fun j => ra_put9 I36 h_o0 rfl (by decide) K46 K46M j) ((tm_rv q45).trans (by omega)) (by have := mz_nat9 (i := w25) (by omega); omega) (by omega) (by omega)
  refine mv_iinc (v := 0) (lv' := [(2, .int 0), (0, .ref o0), (1, .int x1)]) d_Reader_takeFour_50 rfl (by decide) (by decide) rfl ?_
  refine mv_goto (tgt := 3) d_Reader_takeFour_53 (by decide) ?_
  refine mv_iload_n d_Reader_takeFour_3 rfl rfl ?_
  refine mv_if_lt_f (tgt := 56) d_Reader_takeFour_4 (by decide) (by decide) ?_
  refine mv_aload_n d_Reader_takeFour_7 rfl rfl ?_
  refine tr_getK (k := 0) q45 d_Reader_takeFour_8 f_Reader_34_9 ?_
  have := mz_hi w40
  refine mv_if_ltZ (tgt := 50) (a := w40.toInt) d_Reader_takeFour_11 (by decide) rfl (fun b48 => absurd b48 (by omega)) (fun b48 => ?_)
  refine mv_aload_n d_Reader_takeFour_14 rfl rfl ?_
  refine tr_getK (k := 0) q45 d_Reader_takeFour_15 f_Reader_34_9 ?_
  refine mv_sipush (v := 400) d_Reader_takeFour_18 (by decide) ?_
  have := mz_hi w40
  refine mv_icmp_geZ (tgt := 50) (a := w40.toInt) (b := 400) d_Reader_takeFour_21 (by decide) rfl (by decide) (fun b49 => absurd b49 (by omega)) (fun b49 => ?_)
  refine mv_aload_n d_Reader_takeFour_24 rfl rfl ?_
  refine tr_getK (k := 3) (K46 _ 9 3 _ rfl (K37 _ 9 3 _ (K31 _ 9 3 _ rfl (K22 _ 9 3 _ (K16 _ 9 3 _ rfl (K7 _ 9 3 _ q3)))))) d_Reader_takeFour_25 f_Reader_15_9 ?_
  refine mv_aload_n d_Reader_takeFour_28 rfl rfl ?_
  refine tr_getK (k := 0) q45 d_Reader_takeFour_29 f_Reader_34_9 ?_
  refine mv_iload_n d_Reader_takeFour_32 rfl rfl ?_
  refine mv_iload_n d_Reader_takeFour_33 rfl rfl ?_
  refine mv_iushr (v := (x1.toUInt32 >>> ((0 : Int32).toUInt32 &&& Int32.toUInt32 31)).toInt32) d_Reader_takeFour_34 rfl ?_
  refine mv_sipush (v := 255) d_Reader_takeFour_35 (by decide) ?_
  have := mz_ub0 x1
  refine mv_iand d_Reader_takeFour_38 ?_
  refine tr_iast9 (o := o0) (k := 3) I44 (I44.up h_o0) rfl (K46 _ 9 3 _ rfl (K37 _ 9 3 _ (K31 _ 9 3 _ rfl (K22 _ 9 3 _ (K16 _ 9 3 _ rfl (K7 _ 9 3 _ q3)))))) t_a4 (by decide) (Or.inl (by decide)) d_Reader_takeFour_39 (vp_in_iff.mpr (by omega)) (fun M50 I51 K52 E53 A54 => ?_)
  refine mv_aload_n d_Reader_takeFour_40 rfl rfl ?_
  refine mv_dup d_Reader_takeFour_41 rfl ?_
  refine tr_getK (k := 0) (K52 _ 9 0 _ q45) d_Reader_takeFour_42 f_Reader_34_9 ?_
  refine mv_iconst (v := 1) d_Reader_takeFour_45 (by decide) ?_
  refine mv_iadd d_Reader_takeFour_46 ?_
  obtain ⟨w55, h56, b57⟩ : ∃ w9 : Int32, (w40 + 1) = w9 ∧ w9.toInt = w40.toInt + 1 := ⟨_, rfl, mz_add2 rfl (by decide) (by omega) (by omega)⟩
  rw [h56]
  refine tr_putKM tm_okF I51 h_o0 (k := 0) rfl ⟨_, rfl⟩ (Or.inl (by decide)) d_Reader_takeFour_47 p_Reader_34_9 rfl rfl (fun M58 I59 q60 K61 K61M => ?_)
  have B62 : qB M58 o0 (p_u (p_u (p_u (p_u pb pn (x1.toInt / 16777216 % 256)) (pn + 1) (x1.toInt / 65536 % 256)) (pn + 2) (x1.toInt / 256 % 256)) (pn + 3) (x1.toInt / 1 % 256)) (pn + 4) := B47.put (u := (x1.toInt / 1 % 256)) (m := w40.toNatClampNeg) (fun j => (E53 j).trans (by rw [show (((x1.toUInt32 >>> ((0 : Int32).toUInt32 &&& Int32.toUInt32 31)).toInt32) &&& 255).toInt = (x1.toInt / 1 % 256) from by omega])) (fun j => ra_put9 I51 h_o0 rfl (by decide) K61 K61M j) ((tm_rv q60).trans (by omega)) (by have := mz_nat9 (i := w40) (by omega); omega) (by omega) (by omega)
  refine mv_iinc (v := (-8)) (lv' := [(2, .int (-8)), (0, .ref o0), (1, .int x1)]) d_Reader_takeFour_50 rfl (by decide) (by decide) rfl ?_
  refine mv_goto (tgt := 3) d_Reader_takeFour_53 (by decide) ?_
  refine mv_iload_n d_Reader_takeFour_3 rfl rfl ?_
  refine mv_if_lt_t (tgt := 56) d_Reader_takeFour_4 (by decide) (by decide) ?_
  exact mv_vret d_Reader_takeFour_56 rfl ⟨_, I59, rfl, B62⟩
def w_TrustDesk_feed_r : List Nat := [900, 953]
set_option maxHeartbeats 100000000 in theorem tc_TrustDesk_feed_r {g : mj_G} {l : Launch} {d : Nat} {T0 : tm_H} {M0 : mj_M} {n0 x9 : Nat} {o0 : Nat} {x1 : Int32} {x2 : Int32} {x3 : Int32} {x4 : Int32} {x5 : Int32} (h_o0 : T0 o0 = some (0, 12, 0)) {Rd : Nat} (h_Rd : T0 Rd = some (0, 9, 0)) (q_Rd : tm_at M0 o0 12 1 (.ref Rd)) {pb : Nat → Int} {pn : Nat} (yB : qB M0 Rd pb pn) (I0 : tm_I tm_FT (tm_in w_TrustDesk_feed_r) x9 T0 M0 n0 T0 M0 n0) : mj_Met g l kY_TrustDesk_feed (d + 1) [.ref o0, .int x1, .int x2, .int x3, .int x4, .int x5] M0 n0 0 0 (tm_Q tm_FT (tm_in w_TrustDesk_feed_r) x9 T0 M0 n0 (fun r _ M => ∃ v : Int32, r = some (.int v) ∧ (v.toInt = -1 ∧ 380 < pn ∧ qB M Rd pb pn ∨ v.toInt = (pn : Int) + 20 ∧ pn ≤ 380 ∧ qB M Rd (p_f20 pb pn x1.toInt x2.toInt x3.toInt x4.toInt x5.toInt) (pn + 20)))) := by
  refine mj_enter (by decide) (Nat.le_of_ble_eq_true rfl) ?_
  refine mv_aload_n d_TrustDesk_feed_0 rfl rfl ?_
  refine tr_getK (k := 1) q_Rd d_TrustDesk_feed_1 f_TrustDesk_19_12 ?_
  obtain ⟨v2, q1⟩ := tm_atI I0 h_Rd (k := 0) rfl
  refine tr_getK q1 d_TrustDesk_feed_4 f_TrustDesk_88_9 ?_
  have := tm_rv q1
  have := yB.1
  refine mv_sipush (v := 380) d_TrustDesk_feed_7 (by decide) ?_
  have := mz_hi v2
  refine mv_icmp_leZ (tgt := 15) (a := v2.toInt) (b := 380) d_TrustDesk_feed_10 (by decide) rfl (by decide) (fun b3 => ?_) (fun b3 => ?_)
  · refine mv_aload_n d_TrustDesk_feed_15 rfl rfl ?_
    refine tr_getK (k := 1) q_Rd d_TrustDesk_feed_16 f_TrustDesk_19_12 ?_
    refine mv_iload_n d_TrustDesk_feed_19 rfl rfl ?_
    obtain ⟨_, b10, -⟩ := I0.1 _ _ h_Rd
    refine mv_callV (kc' := 0) (ks' := 0) (As := [.int x1]) (st9 := [.int x1, .ref Rd]) d_TrustDesk_feed_20 lV_TrustDesk_91 b10 rfl (tc_Reader_takeFour_r (d := d) (x9 := x9) (o0 := Rd) (x1 := x1) h_Rd yB (by omega) I0.start) rfl (Nat.le_of_ble_eq_true rfl) (Nat.le_of_ble_eq_true rfl) (Nat.le_of_ble_eq_true rfl) (hst := rfl) (fun b4r M5 n6 b4 => ?_)
    obtain ⟨T7, J8, rfl, B11⟩ := b4
    have I9 := I0.call J8 (tm_sub (by decide)) (Or.inl rfl)
    have t12 := J8.up h_o0
    have q13 := J8.keep h_o0 (by decide) q_Rd
    have t14 := J8.up h_Rd
    have := B11.1
    refine mv_aload_n d_TrustDesk_feed_23 rfl rfl ?_
    refine tr_getK (k := 1) q13 d_TrustDesk_feed_24 f_TrustDesk_19_12 ?_
    refine mv_iload_n d_TrustDesk_feed_27 rfl rfl ?_
    obtain ⟨_, b22, -⟩ := I9.1 _ _ t14
    refine mv_callV (kc' := 0) (ks' := 0) (As := [.int x2]) (st9 := [.int x2, .ref Rd]) d_TrustDesk_feed_28 lV_TrustDesk_91 b22 rfl (tc_Reader_takeFour_r (d := d) (x9 := x9) (o0 := Rd) (x1 := x2) t14 B11 (by omega) I9.start) rfl (Nat.le_of_ble_eq_true rfl) (Nat.le_of_ble_eq_true rfl) (Nat.le_of_ble_eq_true rfl) (hst := rfl) (fun b16r M17 n18 b16 => ?_)
    obtain ⟨T19, J20, rfl, B23⟩ := b16
    have I21 := I9.call J20 (tm_sub (by decide)) (Or.inl rfl)
    have t24 := J20.up t12
    have q25 := J20.keep t12 (by decide) q13
    have t26 := J20.up t14
    have := B23.1
    refine mv_aload_n d_TrustDesk_feed_31 rfl rfl ?_
    refine tr_getK (k := 1) q25 d_TrustDesk_feed_32 f_TrustDesk_19_12 ?_
    refine mv_iload_n d_TrustDesk_feed_35 rfl rfl ?_
    obtain ⟨_, b34, -⟩ := I21.1 _ _ t26
    refine mv_callV (kc' := 0) (ks' := 0) (As := [.int x3]) (st9 := [.int x3, .ref Rd]) d_TrustDesk_feed_36 lV_TrustDesk_91 b34 rfl (tc_Reader_takeFour_r (d := d) (x9 := x9) (o0 := Rd) (x1 := x3) t26 B23 (by omega) I21.start) rfl (Nat.le_of_ble_eq_true rfl) (Nat.le_of_ble_eq_true rfl) (Nat.le_of_ble_eq_true rfl) (hst := rfl) (fun b28r M29 n30 b28 => ?_)
    obtain ⟨T31, J32, rfl, B35⟩ := b28
    have I33 := I21.call J32 (tm_sub (by decide)) (Or.inl rfl)
    have t36 := J32.up t24
    have q37 := J32.keep t24 (by decide) q25
    have t38 := J32.up t26
    have := B35.1
    refine mv_aload_n d_TrustDesk_feed_39 rfl rfl ?_
    refine tr_getK (k := 1) q37 d_TrustDesk_feed_40 f_TrustDesk_19_12 ?_
    refine mv_iload d_TrustDesk_feed_43 rfl ?_
    obtain ⟨_, b46, -⟩ := I33.1 _ _ t38
    refine mv_callV (kc' := 0) (ks' := 0) (As := [.int x4]) (st9 := [.int x4, .ref Rd]) d_TrustDesk_feed_45 lV_TrustDesk_91 b46 rfl (tc_Reader_takeFour_r (d := d) (x9 := x9) (o0 := Rd) (x1 := x4) t38 B35 (by omega) I33.start) rfl (Nat.le_of_ble_eq_true rfl) (Nat.le_of_ble_eq_true rfl) (Nat.le_of_ble_eq_true rfl) (hst := rfl) (fun b40r M41 n42 b40 => ?_)
    obtain ⟨T43, J44, rfl, B47⟩ := b40
    have I45 := I33.call J44 (tm_sub (by decide)) (Or.inl rfl)
    have t48 := J44.up t36
    have q49 := J44.keep t36 (by decide) q37
    have t50 := J44.up t38
    have := B47.1
    refine mv_aload_n d_TrustDesk_feed_48 rfl rfl ?_
    refine tr_getK (k := 1) q49 d_TrustDesk_feed_49 f_TrustDesk_19_12 ?_
    refine mv_iload d_TrustDesk_feed_52 rfl ?_
    obtain ⟨_, b58, -⟩ := I45.1 _ _ t50
    refine mv_callV (kc' := 0) (ks' := 0) (As := [.int x5]) (st9 := [.int x5, .ref Rd]) d_TrustDesk_feed_54 lV_TrustDesk_91 b58 rfl (tc_Reader_takeFour_r (d := d) (x9 := x9) (o0 := Rd) (x1 := x5) t50 B47 (by omega) I45.start) rfl (Nat.le_of_ble_eq_true rfl) (Nat.le_of_ble_eq_true rfl) (Nat.le_of_ble_eq_true rfl) (hst := rfl) (fun b52r M53 n54 b52 => ?_)
    obtain ⟨T55, J56, rfl, B59⟩ := b52
    have I57 := I45.call J56 (tm_sub (by decide)) (Or.inl rfl)
    have t60 := J56.up t48
    have q61 := J56.keep t48 (by decide) q49
    have t62 := J56.up t50
    have := B59.1
    refine mv_aload_n d_TrustDesk_feed_57 rfl rfl ?_
    refine tr_getK (k := 1) q61 d_TrustDesk_feed_58 f_TrustDesk_19_12 ?_
    obtain ⟨v65, q64⟩ := tm_atI I57 t62 (k := 0) rfl
    refine tr_getK q64 d_TrustDesk_feed_61 f_TrustDesk_88_9 ?_
    have := tm_rv q64
    have := B59.1
    exact mv_iret d_TrustDesk_feed_64 rfl (by first | rfl | decide) ⟨_, I57, _, rfl, Or.inr ⟨by omega, by omega, B59⟩⟩
  · refine mv_iconst (v := (-1)) d_TrustDesk_feed_13 (by decide) ?_
    exact mv_iret d_TrustDesk_feed_14 rfl (by first | rfl | decide) ⟨_, I0, _, rfl, Or.inl ⟨by decide, by omega, yB⟩⟩
def w_TrustDesk_end_r : List Nat := [900]
theorem tc_TrustDesk_end_r {g : mj_G} {l : Launch} {d : Nat} {T0 : tm_H} {M0 : mj_M} {n0 x9 : Nat} {o0 : Nat} {x1 : Int32} (h_o0 : T0 o0 = some (0, 12, 0)) {Rd : Nat} (h_Rd : T0 Rd = some (0, 9, 0)) (q_Rd : tm_at M0 o0 12 1 (.ref Rd)) {z0 : Int32} {pn : Nat} (yz0 : tm_at M0 Rd 9 0 (.int z0)) (yz : z0.toInt = (pn : Int)) (I0 : tm_I tm_FT (tm_in w_TrustDesk_end_r) x9 T0 M0 n0 T0 M0 n0) : mj_Met g l kY_TrustDesk_end d [.ref o0, .int x1] M0 n0 0 0 (tm_Q tm_FT (tm_in w_TrustDesk_end_r) x9 T0 M0 n0 (fun r _ M => ∃ v : Int32, r = some (.int v) ∧ (v.toInt = -1 ∧ ¬ (0 ≤ x1.toInt ∧ x1.toInt ≤ (pn : Int)) ∧ tm_at M Rd 9 0 (.int z0) ∨ v.toInt = x1.toInt ∧ (0 ≤ x1.toInt ∧ x1.toInt ≤ (pn : Int)) ∧ tm_at M Rd 9 0 (.int x1)))) := by
  refine mj_enter (by decide) (Nat.le_of_ble_eq_true rfl) ?_
  refine mv_iload_n d_TrustDesk_end_0 rfl rfl ?_
  have := mz_hi x1
  refine mv_if_ltZ (tgt := 15) (a := x1.toInt) d_TrustDesk_end_1 (by decide) rfl (fun b1 => ?_) (fun b1 => ?_)
  · refine mv_iconst (v := (-1)) d_TrustDesk_end_15 (by decide) ?_
    exact mv_iret d_TrustDesk_end_16 rfl (by first | rfl | decide) ⟨_, I0, _, rfl, Or.inl ⟨by decide, by omega, yz0⟩⟩
  · refine mv_iload_n d_TrustDesk_end_4 rfl rfl ?_
    refine mv_aload_n d_TrustDesk_end_5 rfl rfl ?_
    refine tr_getK (k := 1) q_Rd d_TrustDesk_end_6 f_TrustDesk_19_12 ?_
    refine tr_getK (k := 0) yz0 d_TrustDesk_end_9 f_TrustDesk_88_9 ?_
    have := mz_hi x1
    have := mz_hi z0
    refine mv_icmp_leZ (tgt := 17) (a := x1.toInt) (b := z0.toInt) d_TrustDesk_end_12 (by decide) rfl rfl (fun b2 => ?_) (fun b2 => ?_)
    · refine mv_aload_n d_TrustDesk_end_17 rfl rfl ?_
      refine tr_getK (k := 1) q_Rd d_TrustDesk_end_18 f_TrustDesk_19_12 ?_
      refine mv_iload_n d_TrustDesk_end_21 rfl rfl ?_
      refine tr_putK tm_okF I0 h_Rd (k := 0) rfl ⟨_, rfl⟩ (Or.inl (by decide)) d_TrustDesk_end_22 p_TrustDesk_88_9 rfl rfl (fun M3 I4 q5 K6 => ?_)
      refine mv_iload_n d_TrustDesk_end_25 rfl rfl ?_
      exact mv_iret d_TrustDesk_end_26 rfl (by first | rfl | decide) ⟨_, I4, _, rfl, Or.inr ⟨rfl, by omega, q5⟩⟩
    · refine mv_iconst (v := (-1)) d_TrustDesk_end_15 (by decide) ?_
      exact mv_iret d_TrustDesk_end_16 rfl (by first | rfl | decide) ⟨_, I0, _, rfl, Or.inl ⟨by decide, by omega, yz0⟩⟩
def w_TrustDesk_place_r : List Nat := []
theorem tc_TrustDesk_place_r {g : mj_G} {l : Launch} {d : Nat} {T0 : tm_H} {M0 : mj_M} {n0 x9 : Nat} {o0 : Nat} (h_o0 : T0 o0 = some (0, 12, 0)) {Rd : Nat} (h_Rd : T0 Rd = some (0, 9, 0)) (q_Rd : tm_at M0 o0 12 1 (.ref Rd)) {vp0 : Int32} (yp : tm_at M0 Rd 9 2 (.int vp0)) (I0 : tm_I tm_FT (tm_in w_TrustDesk_place_r) x9 T0 M0 n0 T0 M0 n0) : mj_Met g l kY_TrustDesk_place d [.ref o0] M0 n0 0 0 (tm_Q tm_FT (tm_in w_TrustDesk_place_r) x9 T0 M0 n0 (fun r _ M => ∃ v : Int32, r = some (.int v) ∧ (v.toInt = vp0.toInt))) := by
  refine mj_enter (by decide) (Nat.le_of_ble_eq_true rfl) ?_
  refine mv_aload_n d_TrustDesk_place_0 rfl rfl ?_
  refine tr_getK (k := 1) q_Rd d_TrustDesk_place_1 f_TrustDesk_19_12 ?_
  refine tr_getK (k := 2) yp d_TrustDesk_place_4 f_TrustDesk_144_9 ?_
  exact mv_iret d_TrustDesk_place_7 rfl (by first | rfl | decide) ⟨_, I0, _, rfl, rfl⟩
def w_TrustDesk_propose_r : List Nat := [5011]
set_option maxHeartbeats 100000000 in theorem tc_TrustDesk_propose_r {g : mj_G} {l : Launch} {d : Nat} {T0 : tm_H} {M0 : mj_M} {n0 x9 : Nat} {o0 : Nat} {x1 : Int32} {x2 : Int32} {x3 : Int32} (h_o0 : T0 o0 = some (0, 12, 0))  {Lg : Nat} {kf : Int32} (h_Lg : T0 Lg = some (3, 6, o0)) (q_Lg : tm_at M0 o0 12 6 (.ref Lg)) (ykf : tm_at M0 Lg 0 2 (.int kf)) {Ln : Nat} {kn : Int32} (h_Ln : T0 Ln = some (3, 8, o0)) (q_Ln : tm_at M0 o0 12 7 (.ref Ln)) (ykn : tm_at M0 Ln 0 2 (.int kn)) {Ls : Nat} {ks : Int32} (h_Ls : T0 Ls = some (3, 11, o0)) (q_Ls : tm_at M0 o0 12 8 (.ref Ls)) (yks : tm_at M0 Ls 0 2 (.int ks)) (I0 : tm_I tm_FT (tm_in w_TrustDesk_propose_r) x9 T0 M0 n0 T0 M0 n0) : mj_Met g l kY_TrustDesk_propose (d + 7) [.ref o0, .int x1, .int x2, .int x3] M0 n0 4 302 (tm_Q tm_FT (tm_in w_TrustDesk_propose_r) x9 T0 M0 n0 (fun r _ M => ∃ v : Int32, r = some (.int v) ∧ ((v.toInt = -1 ∧ ¬ (0 ≤ x2.toInt ∧ x2.toInt < kf.toInt ∧ ((x1.toInt = 0 ∧ 0 ≤ x3.toInt ∧ x3.toInt < kn.toInt) ∨ (x1.toInt = 1 ∧ 0 ≤ x3.toInt ∧ x3.toInt < kf.toInt) ∨ (x1.toInt = 2 ∧ 1 ≤ x3.toInt ∧ x3.toInt ≤ 999) ∨ (x1.toInt = 3 ∧ 0 ≤ x3.toInt)) ∧ ks.toInt < 40) ∧ tm_at M Ls 0 2 (.int ks)) ∨ ((0 ≤ x2.toInt ∧ x2.toInt < kf.toInt ∧ ((x1.toInt = 0 ∧ 0 ≤ x3.toInt ∧ x3.toInt < kn.toInt) ∨ (x1.toInt = 1 ∧ 0 ≤ x3.toInt ∧ x3.toInt < kf.toInt) ∨ (x1.toInt = 2 ∧ 1 ≤ x3.toInt ∧ x3.toInt ≤ 999) ∨ (x1.toInt = 3 ∧ 0 ≤ x3.toInt)) ∧ ks.toInt < 40) ∧ v.toInt = ks.toInt ∧ ∃ k1 : Int32, tm_at M Ls 0 2 (.int k1) ∧ k1.toInt = ks.toInt + 1)))) := by
  refine mj_enter (by decide) (Nat.le_of_ble_eq_true rfl) ?_
  refine mv_aload_n d_TrustDesk_propose_0 rfl rfl ?_
  refine mv_iload_n d_TrustDesk_propose_1 rfl rfl ?_
  obtain ⟨_, b1, -⟩ := I0.1 _ _ h_o0
  refine mv_callV (kc1 := 0) (ks1 := 0) (kc' := 4) (ks' := 302) (As := [.int x2]) (st9 := [.int x2, .ref o0]) d_TrustDesk_propose_2 lV_TrustDesk_257 b1 rfl (mj_enter (by decide) (Nat.le_of_ble_eq_true rfl) ?_) rfl (Nat.le_of_ble_eq_true rfl) (Nat.le_of_ble_eq_true rfl) (Nat.le_of_ble_eq_true rfl) (hst := rfl) (fun _ _ _ h => h)
  refine mv_iload_n d_TrustDesk_fundAt_0 rfl rfl ?_
  have := mz_hi x2
  refine mv_if_ltZ (tgt := 29) (a := x2.toInt) d_TrustDesk_fundAt_1 (by decide) rfl (fun b2 => ?_) (fun b2 => ?_)
  · refine mv_null d_TrustDesk_fundAt_29 ?_
    refine mv_aret (r := none) d_TrustDesk_fundAt_30 rfl (by first | exact Or.inl ⟨_, rfl⟩ | exact Or.inr ⟨_, rfl⟩) ?_
    refine mv_ifnullN (tgt := 29) d_TrustDesk_propose_5 (by decide) ?_
    refine mv_iconst (v := (-1)) d_TrustDesk_propose_29 (by decide) ?_
    exact mv_iret d_TrustDesk_propose_30 rfl (by first | rfl | decide) ⟨_, I0, _, rfl, Or.inl ⟨by decide, by omega, yks⟩⟩
  · refine mv_iload_n d_TrustDesk_fundAt_4 rfl rfl ?_
    refine mv_aload_n d_TrustDesk_fundAt_5 rfl rfl ?_
    refine tr_getK (k := 6) q_Lg d_TrustDesk_fundAt_6 f_TrustDesk_53_12 ?_
    obtain ⟨m4, e5, N6, f7, h3⟩ := tm_lsn I0 h_Lg ykf
    refine mv_callV_s (kc' := 0) (ks' := 0) [] [.ref Lg, .int x2] d_TrustDesk_fundAt_9 lV_TrustDesk_97 h3.1 rfl (tc_L_size (d := (d + 5)) h3.1) rfl (Nat.le_of_ble_eq_true rfl) (Nat.le_of_ble_eq_true rfl) (Nat.le_of_ble_eq_true rfl) rfl ?_
    have := mz_hi x2
    have := mz_hi kf
    refine mv_icmp_geZ (tgt := 29) (a := x2.toInt) (b := kf.toInt) d_TrustDesk_fundAt_12 (by decide) rfl rfl (fun b8 => ?_) (fun b8 => ?_)
    · refine mv_null d_TrustDesk_fundAt_29 ?_
      refine mv_aret (r := none) d_TrustDesk_fundAt_30 rfl (by first | exact Or.inl ⟨_, rfl⟩ | exact Or.inr ⟨_, rfl⟩) ?_
      refine mv_ifnullN (tgt := 29) d_TrustDesk_propose_5 (by decide) ?_
      refine mv_iconst (v := (-1)) d_TrustDesk_propose_29 (by decide) ?_
      exact mv_iret d_TrustDesk_propose_30 rfl (by first | rfl | decide) ⟨_, I0, _, rfl, Or.inl ⟨by decide, by omega, yks⟩⟩
    · refine mv_aload_n d_TrustDesk_fundAt_15 rfl rfl ?_
      refine tr_getK (k := 6) q_Lg d_TrustDesk_fundAt_16 f_TrustDesk_53_12 ?_
      refine mv_iload_n d_TrustDesk_fundAt_19 rfl rfl ?_
      obtain ⟨m10, e11, N12, f13, h9⟩ := tm_lsn I0 h_Lg ykf
      obtain ⟨u14e, u14i, a15, u14f, u14t⟩ := tm_el (i := x2) h9 (by omega) (by omega)
      have t_a15 : T0 a15 = some (0, 6, 0) := u14t
      refine mv_callV_s (kc' := 0) (ks' := 0) [.int x2] [.int x2, .ref Lg] d_TrustDesk_fundAt_20 lV_TrustDesk_158 h9.1 rfl (tc_L_get (d := (d + 3)) h9.1 u14e (by omega) (by omega) u14i u14f) rfl (Nat.le_of_ble_eq_true rfl) (Nat.le_of_ble_eq_true rfl) (Nat.le_of_ble_eq_true rfl) rfl ?_
      obtain ⟨_, b16, -⟩ := I0.1 _ _ t_a15
      refine mv_castS (T9 := kF_Fund) (N := 15) d_TrustDesk_fundAt_23 (mj_in1 (List.mem_of_getElem? (i := 655) (by decide +kernel)) rfl) b16 rfl ?_
      refine mv_goto (tgt := 30) d_TrustDesk_fundAt_26 (by decide) ?_
      refine mv_aret (r := (some a15)) d_TrustDesk_fundAt_30 rfl (by first | exact Or.inl ⟨_, rfl⟩ | exact Or.inr ⟨_, rfl⟩) ?_
      refine mv_ifnull d_TrustDesk_propose_5 ?_
      refine mv_aload_n d_TrustDesk_propose_8 rfl rfl ?_
      refine mv_iload_n d_TrustDesk_propose_9 rfl rfl ?_
      refine mv_iload_n d_TrustDesk_propose_10 rfl rfl ?_
      obtain ⟨_, b17, -⟩ := I0.1 _ _ h_o0
      refine mv_callV (kc1 := 0) (ks1 := 0) (kc' := 4) (ks' := 302) (As := [.int x1, .int x3]) (st9 := [.int x3, .int x1, .ref o0]) d_TrustDesk_propose_11 lV_TrustDesk_267 b17 rfl (mj_enter (by decide) (Nat.le_of_ble_eq_true rfl) ?_) rfl (Nat.le_of_ble_eq_true rfl) (Nat.le_of_ble_eq_true rfl) (Nat.le_of_ble_eq_true rfl) (hst := rfl) (fun _ _ _ h => h)
      refine mv_iload_n d_TrustDesk_isSubject_0 rfl rfl ?_
      rcases (show (x1.toInt < 0 ∨ 3 < x1.toInt) ∨ x1.toInt = 0 ∨ x1.toInt = 1 ∨ x1.toInt = 2 ∨ x1.toInt = 3 by omega) with b18 | b18 | b18 | b18 | b18
      · refine mv_tableOut (tgt := 88) d_TrustDesk_isSubject_1 b18 (by decide) ?_
        refine mv_iconst (v := 0) d_TrustDesk_isSubject_88 (by decide) ?_
        refine mv_iret d_TrustDesk_isSubject_89 rfl (by decide) ?_
        refine mv_if_eq_t (tgt := 29) d_TrustDesk_propose_14 (by decide) (by decide) ?_
        refine mv_iconst (v := (-1)) d_TrustDesk_propose_29 (by decide) ?_
        exact mv_iret d_TrustDesk_propose_30 rfl (by first | rfl | decide) ⟨_, I0, _, rfl, Or.inl ⟨by decide, by omega, yks⟩⟩
      · refine mv_tableIn (tgt := 32) (off := 31) d_TrustDesk_isSubject_1 (by omega) (by omega) (by rw [b18]; rfl) (by decide) ?_
        refine mv_aload_n d_TrustDesk_isSubject_32 rfl rfl ?_
        refine mv_iload_n d_TrustDesk_isSubject_33 rfl rfl ?_
        obtain ⟨_, b19, -⟩ := I0.1 _ _ h_o0
        refine mv_callV (kc1 := 0) (ks1 := 0) (kc' := 0) (ks' := 0) (As := [.int x3]) (st9 := [.int x3, .ref o0]) d_TrustDesk_isSubject_34 lV_TrustDesk_276 b19 rfl (mj_enter (by decide) (Nat.le_of_ble_eq_true rfl) ?_) rfl (Nat.le_of_ble_eq_true rfl) (Nat.le_of_ble_eq_true rfl) (Nat.le_of_ble_eq_true rfl) (hst := rfl) (fun _ _ _ h => h)
        refine mv_iload_n d_TrustDesk_nearAt_0 rfl rfl ?_
        have := mz_hi x3
        refine mv_if_ltZ (tgt := 29) (a := x3.toInt) d_TrustDesk_nearAt_1 (by decide) rfl (fun b20 => ?_) (fun b20 => ?_)
        · refine mv_null d_TrustDesk_nearAt_29 ?_
          refine mv_aret (r := none) d_TrustDesk_nearAt_30 rfl (by first | exact Or.inl ⟨_, rfl⟩ | exact Or.inr ⟨_, rfl⟩) ?_
          refine mv_ifnullN (tgt := 44) d_TrustDesk_isSubject_37 (by decide) ?_
          refine mv_iconst (v := 0) d_TrustDesk_isSubject_44 (by decide) ?_
          refine mv_iret d_TrustDesk_isSubject_45 rfl (by decide) ?_
          refine mv_if_eq_t (tgt := 29) d_TrustDesk_propose_14 (by decide) (by decide) ?_
          refine mv_iconst (v := (-1)) d_TrustDesk_propose_29 (by decide) ?_
          exact mv_iret d_TrustDesk_propose_30 rfl (by first | rfl | decide) ⟨_, I0, _, rfl, Or.inl ⟨by decide, by omega, yks⟩⟩
        · refine mv_iload_n d_TrustDesk_nearAt_4 rfl rfl ?_
          refine mv_aload_n d_TrustDesk_nearAt_5 rfl rfl ?_
          refine tr_getK (k := 7) q_Ln d_TrustDesk_nearAt_6 f_TrustDesk_56_12 ?_
          obtain ⟨m22, e23, N24, f25, h21⟩ := tm_lsn I0 h_Ln ykn
          refine mv_callV_s (kc' := 0) (ks' := 0) [] [.ref Ln, .int x3] d_TrustDesk_nearAt_9 lV_TrustDesk_97 h21.1 rfl (tc_L_size (d := (d + 4)) h21.1) rfl (Nat.le_of_ble_eq_true rfl) (Nat.le_of_ble_eq_true rfl) (Nat.le_of_ble_eq_true rfl) rfl ?_
          have := mz_hi x3
          have := mz_hi kn
          refine mv_icmp_geZ (tgt := 29) (a := x3.toInt) (b := kn.toInt) d_TrustDesk_nearAt_12 (by decide) rfl rfl (fun b26 => ?_) (fun b26 => ?_)
          · refine mv_null d_TrustDesk_nearAt_29 ?_
            refine mv_aret (r := none) d_TrustDesk_nearAt_30 rfl (by first | exact Or.inl ⟨_, rfl⟩ | exact Or.inr ⟨_, rfl⟩) ?_
            refine mv_ifnullN (tgt := 44) d_TrustDesk_isSubject_37 (by decide) ?_
            refine mv_iconst (v := 0) d_TrustDesk_isSubject_44 (by decide) ?_
            refine mv_iret d_TrustDesk_isSubject_45 rfl (by decide) ?_
            refine mv_if_eq_t (tgt := 29) d_TrustDesk_propose_14 (by decide) (by decide) ?_
            refine mv_iconst (v := (-1)) d_TrustDesk_propose_29 (by decide) ?_
            exact mv_iret d_TrustDesk_propose_30 rfl (by first | rfl | decide) ⟨_, I0, _, rfl, Or.inl ⟨by decide, by omega, yks⟩⟩
          · refine mv_aload_n d_TrustDesk_nearAt_15 rfl rfl ?_
            refine tr_getK (k := 7) q_Ln d_TrustDesk_nearAt_16 f_TrustDesk_56_12 ?_
            refine mv_iload_n d_TrustDesk_nearAt_19 rfl rfl ?_
            obtain ⟨m28, e29, N30, f31, h27⟩ := tm_lsn I0 h_Ln ykn
            obtain ⟨u32e, u32i, a33, u32f, u32t⟩ := tm_el (i := x3) h27 (by omega) (by omega)
            have t_a33 : T0 a33 = some (0, 8, 0) := u32t
            refine mv_callV_s (kc' := 0) (ks' := 0) [.int x3] [.int x3, .ref Ln] d_TrustDesk_nearAt_20 lV_TrustDesk_158 h27.1 rfl (tc_L_get (d := (d + 2)) h27.1 u32e (by omega) (by omega) u32i u32f) rfl (Nat.le_of_ble_eq_true rfl) (Nat.le_of_ble_eq_true rfl) (Nat.le_of_ble_eq_true rfl) rfl ?_
            obtain ⟨_, b34, -⟩ := I0.1 _ _ t_a33
            refine mv_castS (T9 := kF_NearEnd) (N := 2) d_TrustDesk_nearAt_23 (mj_in1 (List.mem_of_getElem? (i := 821) (by decide +kernel)) rfl) b34 rfl ?_
            refine mv_goto (tgt := 30) d_TrustDesk_nearAt_26 (by decide) ?_
            refine mv_aret (r := (some a33)) d_TrustDesk_nearAt_30 rfl (by first | exact Or.inl ⟨_, rfl⟩ | exact Or.inr ⟨_, rfl⟩) ?_
            refine mv_ifnull d_TrustDesk_isSubject_37 ?_
            refine mv_iconst (v := 1) d_TrustDesk_isSubject_40 (by decide) ?_
            refine mv_goto (tgt := 45) d_TrustDesk_isSubject_41 (by decide) ?_
            refine mv_iret d_TrustDesk_isSubject_45 rfl (by decide) ?_
            refine mv_if_eq_f (tgt := 29) d_TrustDesk_propose_14 (by decide) (by decide) ?_
            refine mv_aload_n d_TrustDesk_propose_17 rfl rfl ?_
            refine tr_getK (k := 8) q_Ls d_TrustDesk_propose_18 f_TrustDesk_59_12 ?_
            obtain ⟨m36, e37, N38, f39, h35⟩ := tm_lsn I0 h_Ls yks
            refine mv_callV_s (kc' := 4) (ks' := 302) [] [.ref Ls] d_TrustDesk_propose_21 lV_TrustDesk_97 h35.1 rfl (tc_L_size (d := (d + 6)) h35.1) rfl (Nat.le_of_ble_eq_true rfl) (Nat.le_of_ble_eq_true rfl) (Nat.le_of_ble_eq_true rfl) rfl ?_
            refine mv_bipush (v := 40) d_TrustDesk_propose_24 (by decide) ?_
            have := mz_hi ks
            refine mv_icmp_ltZ (tgt := 31) (a := ks.toInt) (b := 40) d_TrustDesk_propose_26 (by decide) rfl (by decide) (fun b40 => ?_) (fun b40 => ?_)
            · refine mv_aload_n d_TrustDesk_propose_31 rfl rfl ?_
              obtain ⟨v42, q41⟩ := tm_atI I0 h_o0 (k := 12) rfl
              refine tr_getK q41 d_TrustDesk_propose_32 f_TrustDesk_73_12 ?_
              refine mv_aload_n d_TrustDesk_propose_35 rfl rfl ?_
              refine mv_aload_n d_TrustDesk_propose_36 rfl rfl ?_
              refine tr_getK (k := 12) q41 d_TrustDesk_propose_37 f_TrustDesk_73_12 ?_
              obtain ⟨_, b49, -⟩ := I0.1 _ _ h_o0
              refine mv_callV (kc' := 4) (ks' := 302) (As := [.int v42]) (st9 := [.int v42, .ref o0, .int v42]) d_TrustDesk_propose_40 lV_TrustDesk_114 b49 rfl (tc_TrustDesk_inForce (d := (d + 3)) (x9 := x9) (o0 := o0) (x1 := v42) h_o0 I0.start) rfl (Nat.le_of_ble_eq_true rfl) (Nat.le_of_ble_eq_true rfl) (Nat.le_of_ble_eq_true rfl) (hst := rfl) (fun b43r M44 n45 b43 => ?_)
              obtain ⟨T46, J47, a50, rfl, t_a50⟩ := b43
              have I48 := I0.call J47 (tm_sub (by decide)) (Or.inl rfl)
              have t51 := J47.up h_o0
              have q52 := J47.keep h_o0 (by decide) q_Lg
              have t53 := J47.up h_Lg
              have q54 := J47.keepL h_Lg (by decide) ykf
              have q55 := J47.keep h_o0 (by decide) q_Ln
              have t56 := J47.up h_Ln
              have q57 := J47.keepL h_Ln (by decide) ykn
              have q58 := J47.keep h_o0 (by decide) q_Ls
              have t59 := J47.up h_Ls
              have q60 := J47.keepL h_Ls (by decide) yks
              have q61 := J47.keep h_o0 (by decide) q41
              refine mv_iconst (v := 2) d_TrustDesk_propose_43 (by decide) ?_
              obtain ⟨_, b68, -⟩ := I48.1 _ _ t_a50
              refine mv_callV (kc' := 4) (ks' := 302) (As := [.int 2]) (st9 := [.int 2, .ref a50, .int v42]) d_TrustDesk_propose_44 lV_TrustDesk_118 b68 rfl (tc_Act_rule (d := (d + 6)) (x9 := x9) (o0 := a50) (x1 := 2) t_a50 I48.start) rfl (Nat.le_of_ble_eq_true rfl) (Nat.le_of_ble_eq_true rfl) (Nat.le_of_ble_eq_true rfl) (hst := rfl) (fun b62r M63 n64 b62 => ?_)
              obtain ⟨T65, J66, v69, rfl⟩ := b62
              have I67 := I48.call J66 (tm_sub (by decide)) (Or.inl rfl)
              have t70 := J66.up t51
              have q71 := J66.keep t51 (by decide) q52
              have t72 := J66.up t53
              have q73 := J66.keepL t53 (by decide) q54
              have q74 := J66.keep t51 (by decide) q55
              have t75 := J66.up t56
              have q76 := J66.keepL t56 (by decide) q57
              have q77 := J66.keep t51 (by decide) q58
              have t78 := J66.up t59
              have q79 := J66.keepL t59 (by decide) q60
              have q80 := J66.keep t51 (by decide) q61
              refine mv_iadd d_TrustDesk_propose_47 ?_
              refine mv_istore (lv' := [(4, .int (v42 + v69)), (0, .ref o0), (1, .int x1), (2, .int x2), (3, .int x3)]) d_TrustDesk_propose_48 (by decide) rfl ?_
              refine mv_aload_n d_TrustDesk_propose_50 rfl rfl ?_
              refine tr_getK (k := 8) q77 d_TrustDesk_propose_51 f_TrustDesk_59_12 ?_
              refine tr_new (kc' := 3) (ks' := 290) tm_okF I67 d_TrustDesk_propose_54 n_TrustDesk_271 (Nat.le_of_ble_eq_true rfl) (Nat.le_of_ble_eq_true rfl) (fun T81 M82 I83 t_x84 m85 h86 u87 K88 => ?_)
              have q89 := tm_at.eq (K88 _ _ t70) q71
              have t90 := u87 _ _ t72
              have t91 := u87 _ _ t70
              have q92 := tm_at.eq (K88 _ _ t72) q73
              have q93 := tm_at.eq (K88 _ _ t70) q74
              have t94 := u87 _ _ t75
              have q95 := tm_at.eq (K88 _ _ t75) q76
              have q96 := tm_at.eq (K88 _ _ t70) q77
              have t97 := u87 _ _ t78
              have q98 := tm_at.eq (K88 _ _ t78) q79
              have q99 := tm_at.eq (K88 _ _ t70) q80
              refine mv_dup d_TrustDesk_propose_57 rfl ?_
              refine mv_iload_n d_TrustDesk_propose_58 rfl rfl ?_
              refine mv_iload_n d_TrustDesk_propose_59 rfl rfl ?_
              refine mv_iload_n d_TrustDesk_propose_60 rfl rfl ?_
              refine mv_aload_n d_TrustDesk_propose_61 rfl rfl ?_
              refine tr_getK (k := 12) q99 d_TrustDesk_propose_62 f_TrustDesk_73_12 ?_
              refine mv_iload d_TrustDesk_propose_65 rfl ?_
              refine mv_callI (kc' := 1) (ks' := 90) (As := [.int x1, .int x2, .int x3, .int v42, .int (v42 + v69)]) (st9 := [.int (v42 + v69), .int v42, .int x3, .int x2, .int x1, .ref n64, .ref n64, .ref Ls]) d_TrustDesk_propose_67 lI_TrustDesk_273 (tc_Scheme_init (d := (d + 5)) (o0 := n64) (x1 := x1) (x2 := x2) (x3 := x3) (x4 := v42) (x5 := (v42 + v69)) t_x84 m85 I83.start) rfl (Nat.le_of_ble_eq_true rfl) (Nat.le_of_ble_eq_true rfl) (Nat.le_of_ble_eq_true rfl) (hst := rfl) (fun b100r M101 n102 b100 => ?_)
              obtain ⟨T103, J104, rfl, a106, a107, m108, t_a106, t_a107⟩ := b100
              have I105 := I83.call J104 (tm_sub (by decide)) (Or.inr h86)
              have t109 := J104.up t_x84
              have t110 := J104.up t91
              have t111 := J104.up t97
              have q112 := J104.keep t91 (by decide) q89
              have t113 := J104.up t90
              have q114 := J104.keepL t90 (by decide) q92
              have q115 := J104.keep t91 (by decide) q93
              have t116 := J104.up t94
              have q117 := J104.keepL t94 (by decide) q95
              have q118 := J104.keep t91 (by decide) q96
              have q119 := J104.keepL t97 (by decide) q98
              have q120 := J104.keep t91 (by decide) q99
              obtain ⟨T121, I122, t_x123, u124⟩ := I105.sealO tm_okF t109 h86 m108 (fun _ z9 => (tm_fs_cons ⟨_, rfl⟩ (tm_fs_cons ⟨_, rfl⟩ (tm_fs_cons ⟨_, rfl⟩ (tm_fs_cons ⟨_, rfl⟩ (tm_fs_cons ⟨_, rfl⟩ (tm_fs_cons ⟨_, rfl⟩ (tm_fs_cons ⟨_, rfl⟩ (tm_fs_cons ⟨_, rfl⟩ (tm_fs_cons ⟨_, rfl⟩ (tm_fs_cons ⟨_, rfl⟩ (tm_fs_cons ⟨_, rfl, z9 _ _ t_a106 (Nat.le_of_ble_eq_true rfl)⟩ (tm_fs_cons ⟨_, rfl, z9 _ _ t_a107 (Nat.le_of_ble_eq_true rfl)⟩ tm_fs_nil)))))))))))))
              have t125 := u124 _ _ t113 (tm_dif t113 t109 rfl)
              have t126 := u124 _ _ t110 (tm_dif t110 t109 rfl)
              have t127 := u124 _ _ t116 (tm_dif t116 t109 rfl)
              have t128 := u124 _ _ t111 (tm_dif t111 t109 rfl)
              obtain ⟨m130, e131, N132, f133, h129⟩ := tm_lsn I122 t128 q119
              refine mv_callV (kc' := 0) (ks' := 0) (As := [.ref n64]) (st9 := [.ref n64, .ref Ls]) d_TrustDesk_propose_70 lV_TrustDesk_107 h129.1 rfl (tc_AL_addT (FT := tm_FT) (W := tm_in [5011]) (x := x9) (d := d) tm_okF t128 t_x123 q119 (show _ < (40 : Int) by omega) rfl (C := "TrustDesk$Scheme") (T9 := kF_Scheme) (N9 := 12) rfl (mj_in1 (List.mem_of_getElem? (i := 2108) (by decide +kernel)) rfl) (by decide) (by decide) I122.start) rfl (Nat.le_of_ble_eq_true rfl) (Nat.le_of_ble_eq_true rfl) (Nat.le_of_ble_eq_true rfl) (hst := rfl) (fun b134r M135 n136 b134 => ?_)
              obtain ⟨T137, J138, rfl, q140⟩ := b134
              have I139 := I122.call J138 (tm_sub (by decide)) (Or.inl rfl)
              have t141 := J138.up t128
              have t142 := J138.up t126
              have q143 := J138.keep t126 (by decide) q112
              have t144 := J138.up t125
              have q145 := J138.keepL t125 (by decide) q114
              have q146 := J138.keep t126 (by decide) q115
              have t147 := J138.up t127
              have q148 := J138.keepL t127 (by decide) q117
              have q149 := J138.keep t126 (by decide) q118
              have q150 := J138.keep t126 (by decide) q120
              have b151 : (ks + 1).toInt = ks.toInt + 1 := mz_addn 1 1 (by decide) (by have := mz_lo ks; omega) (by omega)
              refine mv_pop d_TrustDesk_propose_73 rfl ?_
              refine mv_aload_n d_TrustDesk_propose_74 rfl rfl ?_
              refine tr_getK (k := 8) q149 d_TrustDesk_propose_75 f_TrustDesk_59_12 ?_
              obtain ⟨m153, e154, N155, f156, h152⟩ := tm_lsn I139 t141 q140
              refine mv_callV_s (kc' := 0) (ks' := 0) [] [.ref Ls] d_TrustDesk_propose_78 lV_TrustDesk_97 h152.1 rfl (tc_L_size (d := (d + 6)) h152.1) rfl (Nat.le_of_ble_eq_true rfl) (Nat.le_of_ble_eq_true rfl) (Nat.le_of_ble_eq_true rfl) rfl ?_
              refine mv_iconst (v := 1) d_TrustDesk_propose_81 (by decide) ?_
              refine mv_isubv (v := ks) d_TrustDesk_propose_82 (Int32.add_sub_cancel _ _) ?_
              exact mv_iret d_TrustDesk_propose_83 rfl (by first | rfl | decide) ⟨_, I139, _, rfl, Or.inr ⟨by omega, by omega, _, q140, by omega⟩⟩
            · refine mv_iconst (v := (-1)) d_TrustDesk_propose_29 (by decide) ?_
              exact mv_iret d_TrustDesk_propose_30 rfl (by first | rfl | decide) ⟨_, I0, _, rfl, Or.inl ⟨by decide, by omega, yks⟩⟩
      · refine mv_tableIn (tgt := 46) (off := 45) d_TrustDesk_isSubject_1 (by omega) (by omega) (by rw [b18]; rfl) (by decide) ?_
        refine mv_aload_n d_TrustDesk_isSubject_46 rfl rfl ?_
        refine mv_iload_n d_TrustDesk_isSubject_47 rfl rfl ?_
        obtain ⟨_, b157, -⟩ := I0.1 _ _ h_o0
        refine mv_callV (kc1 := 0) (ks1 := 0) (kc' := 0) (ks' := 0) (As := [.int x3]) (st9 := [.int x3, .ref o0]) d_TrustDesk_isSubject_48 lV_TrustDesk_257 b157 rfl (mj_enter (by decide) (Nat.le_of_ble_eq_true rfl) ?_) rfl (Nat.le_of_ble_eq_true rfl) (Nat.le_of_ble_eq_true rfl) (Nat.le_of_ble_eq_true rfl) (hst := rfl) (fun _ _ _ h => h)
        refine mv_iload_n d_TrustDesk_fundAt_0 rfl rfl ?_
        have := mz_hi x3
        refine mv_if_ltZ (tgt := 29) (a := x3.toInt) d_TrustDesk_fundAt_1 (by decide) rfl (fun b158 => ?_) (fun b158 => ?_)
        · refine mv_null d_TrustDesk_fundAt_29 ?_
          refine mv_aret (r := none) d_TrustDesk_fundAt_30 rfl (by first | exact Or.inl ⟨_, rfl⟩ | exact Or.inr ⟨_, rfl⟩) ?_
          refine mv_ifnullN (tgt := 58) d_TrustDesk_isSubject_51 (by decide) ?_
          refine mv_iconst (v := 0) d_TrustDesk_isSubject_58 (by decide) ?_
          refine mv_iret d_TrustDesk_isSubject_59 rfl (by decide) ?_
          refine mv_if_eq_t (tgt := 29) d_TrustDesk_propose_14 (by decide) (by decide) ?_
          refine mv_iconst (v := (-1)) d_TrustDesk_propose_29 (by decide) ?_
          exact mv_iret d_TrustDesk_propose_30 rfl (by first | rfl | decide) ⟨_, I0, _, rfl, Or.inl ⟨by decide, by omega, yks⟩⟩
        · refine mv_iload_n d_TrustDesk_fundAt_4 rfl rfl ?_
          refine mv_aload_n d_TrustDesk_fundAt_5 rfl rfl ?_
          refine tr_getK (k := 6) q_Lg d_TrustDesk_fundAt_6 f_TrustDesk_53_12 ?_
          obtain ⟨m160, e161, N162, f163, h159⟩ := tm_lsn I0 h_Lg ykf
          refine mv_callV_s (kc' := 0) (ks' := 0) [] [.ref Lg, .int x3] d_TrustDesk_fundAt_9 lV_TrustDesk_97 h159.1 rfl (tc_L_size (d := (d + 4)) h159.1) rfl (Nat.le_of_ble_eq_true rfl) (Nat.le_of_ble_eq_true rfl) (Nat.le_of_ble_eq_true rfl) rfl ?_
          have := mz_hi x3
          have := mz_hi kf
          refine mv_icmp_geZ (tgt := 29) (a := x3.toInt) (b := kf.toInt) d_TrustDesk_fundAt_12 (by decide) rfl rfl (fun b164 => ?_) (fun b164 => ?_)
          · refine mv_null d_TrustDesk_fundAt_29 ?_
            refine mv_aret (r := none) d_TrustDesk_fundAt_30 rfl (by first | exact Or.inl ⟨_, rfl⟩ | exact Or.inr ⟨_, rfl⟩) ?_
            refine mv_ifnullN (tgt := 58) d_TrustDesk_isSubject_51 (by decide) ?_
            refine mv_iconst (v := 0) d_TrustDesk_isSubject_58 (by decide) ?_
            refine mv_iret d_TrustDesk_isSubject_59 rfl (by decide) ?_
            refine mv_if_eq_t (tgt := 29) d_TrustDesk_propose_14 (by decide) (by decide) ?_
            refine mv_iconst (v := (-1)) d_TrustDesk_propose_29 (by decide) ?_
            exact mv_iret d_TrustDesk_propose_30 rfl (by first | rfl | decide) ⟨_, I0, _, rfl, Or.inl ⟨by decide, by omega, yks⟩⟩
          · refine mv_aload_n d_TrustDesk_fundAt_15 rfl rfl ?_
            refine tr_getK (k := 6) q_Lg d_TrustDesk_fundAt_16 f_TrustDesk_53_12 ?_
            refine mv_iload_n d_TrustDesk_fundAt_19 rfl rfl ?_
            obtain ⟨m166, e167, N168, f169, h165⟩ := tm_lsn I0 h_Lg ykf
            obtain ⟨u170e, u170i, a171, u170f, u170t⟩ := tm_el (i := x3) h165 (by omega) (by omega)
            have t_a171 : T0 a171 = some (0, 6, 0) := u170t
            refine mv_callV_s (kc' := 0) (ks' := 0) [.int x3] [.int x3, .ref Lg] d_TrustDesk_fundAt_20 lV_TrustDesk_158 h165.1 rfl (tc_L_get (d := (d + 2)) h165.1 u170e (by omega) (by omega) u170i u170f) rfl (Nat.le_of_ble_eq_true rfl) (Nat.le_of_ble_eq_true rfl) (Nat.le_of_ble_eq_true rfl) rfl ?_
            obtain ⟨_, b172, -⟩ := I0.1 _ _ t_a171
            refine mv_castS (T9 := kF_Fund) (N := 15) d_TrustDesk_fundAt_23 (mj_in1 (List.mem_of_getElem? (i := 655) (by decide +kernel)) rfl) b172 rfl ?_
            refine mv_goto (tgt := 30) d_TrustDesk_fundAt_26 (by decide) ?_
            refine mv_aret (r := (some a171)) d_TrustDesk_fundAt_30 rfl (by first | exact Or.inl ⟨_, rfl⟩ | exact Or.inr ⟨_, rfl⟩) ?_
            refine mv_ifnull d_TrustDesk_isSubject_51 ?_
            refine mv_iconst (v := 1) d_TrustDesk_isSubject_54 (by decide) ?_
            refine mv_goto (tgt := 59) d_TrustDesk_isSubject_55 (by decide) ?_
            refine mv_iret d_TrustDesk_isSubject_59 rfl (by decide) ?_
            refine mv_if_eq_f (tgt := 29) d_TrustDesk_propose_14 (by decide) (by decide) ?_
            refine mv_aload_n d_TrustDesk_propose_17 rfl rfl ?_
            refine tr_getK (k := 8) q_Ls d_TrustDesk_propose_18 f_TrustDesk_59_12 ?_
            obtain ⟨m174, e175, N176, f177, h173⟩ := tm_lsn I0 h_Ls yks
            refine mv_callV_s (kc' := 4) (ks' := 302) [] [.ref Ls] d_TrustDesk_propose_21 lV_TrustDesk_97 h173.1 rfl (tc_L_size (d := (d + 6)) h173.1) rfl (Nat.le_of_ble_eq_true rfl) (Nat.le_of_ble_eq_true rfl) (Nat.le_of_ble_eq_true rfl) rfl ?_
            refine mv_bipush (v := 40) d_TrustDesk_propose_24 (by decide) ?_
            have := mz_hi ks
            refine mv_icmp_ltZ (tgt := 31) (a := ks.toInt) (b := 40) d_TrustDesk_propose_26 (by decide) rfl (by decide) (fun b178 => ?_) (fun b178 => ?_)
            · refine mv_aload_n d_TrustDesk_propose_31 rfl rfl ?_
              obtain ⟨v180, q179⟩ := tm_atI I0 h_o0 (k := 12) rfl
              refine tr_getK q179 d_TrustDesk_propose_32 f_TrustDesk_73_12 ?_
              refine mv_aload_n d_TrustDesk_propose_35 rfl rfl ?_
              refine mv_aload_n d_TrustDesk_propose_36 rfl rfl ?_
              refine tr_getK (k := 12) q179 d_TrustDesk_propose_37 f_TrustDesk_73_12 ?_
              obtain ⟨_, b187, -⟩ := I0.1 _ _ h_o0
              refine mv_callV (kc' := 4) (ks' := 302) (As := [.int v180]) (st9 := [.int v180, .ref o0, .int v180]) d_TrustDesk_propose_40 lV_TrustDesk_114 b187 rfl (tc_TrustDesk_inForce (d := (d + 3)) (x9 := x9) (o0 := o0) (x1 := v180) h_o0 I0.start) rfl (Nat.le_of_ble_eq_true rfl) (Nat.le_of_ble_eq_true rfl) (Nat.le_of_ble_eq_true rfl) (hst := rfl) (fun b181r M182 n183 b181 => ?_)
              obtain ⟨T184, J185, a188, rfl, t_a188⟩ := b181
              have I186 := I0.call J185 (tm_sub (by decide)) (Or.inl rfl)
              have t189 := J185.up h_o0
              have q190 := J185.keep h_o0 (by decide) q_Lg
              have t191 := J185.up h_Lg
              have q192 := J185.keepL h_Lg (by decide) ykf
              have q193 := J185.keep h_o0 (by decide) q_Ln
              have t194 := J185.up h_Ln
              have q195 := J185.keepL h_Ln (by decide) ykn
              have q196 := J185.keep h_o0 (by decide) q_Ls
              have t197 := J185.up h_Ls
              have q198 := J185.keepL h_Ls (by decide) yks
              have q199 := J185.keep h_o0 (by decide) q179
              refine mv_iconst (v := 2) d_TrustDesk_propose_43 (by decide) ?_
              obtain ⟨_, b206, -⟩ := I186.1 _ _ t_a188
              refine mv_callV (kc' := 4) (ks' := 302) (As := [.int 2]) (st9 := [.int 2, .ref a188, .int v180]) d_TrustDesk_propose_44 lV_TrustDesk_118 b206 rfl (tc_Act_rule (d := (d + 6)) (x9 := x9) (o0 := a188) (x1 := 2) t_a188 I186.start) rfl (Nat.le_of_ble_eq_true rfl) (Nat.le_of_ble_eq_true rfl) (Nat.le_of_ble_eq_true rfl) (hst := rfl) (fun b200r M201 n202 b200 => ?_)
              obtain ⟨T203, J204, v207, rfl⟩ := b200
              have I205 := I186.call J204 (tm_sub (by decide)) (Or.inl rfl)
              have t208 := J204.up t189
              have q209 := J204.keep t189 (by decide) q190
              have t210 := J204.up t191
              have q211 := J204.keepL t191 (by decide) q192
              have q212 := J204.keep t189 (by decide) q193
              have t213 := J204.up t194
              have q214 := J204.keepL t194 (by decide) q195
              have q215 := J204.keep t189 (by decide) q196
              have t216 := J204.up t197
              have q217 := J204.keepL t197 (by decide) q198
              have q218 := J204.keep t189 (by decide) q199
              refine mv_iadd d_TrustDesk_propose_47 ?_
              refine mv_istore (lv' := [(4, .int (v180 + v207)), (0, .ref o0), (1, .int x1), (2, .int x2), (3, .int x3)]) d_TrustDesk_propose_48 (by decide) rfl ?_
              refine mv_aload_n d_TrustDesk_propose_50 rfl rfl ?_
              refine tr_getK (k := 8) q215 d_TrustDesk_propose_51 f_TrustDesk_59_12 ?_
              refine tr_new (kc' := 3) (ks' := 290) tm_okF I205 d_TrustDesk_propose_54 n_TrustDesk_271 (Nat.le_of_ble_eq_true rfl) (Nat.le_of_ble_eq_true rfl) (fun T219 M220 I221 t_x222 m223 h224 u225 K226 => ?_)
              have q227 := tm_at.eq (K226 _ _ t208) q209
              have t228 := u225 _ _ t210
              have t229 := u225 _ _ t208
              have q230 := tm_at.eq (K226 _ _ t210) q211
              have q231 := tm_at.eq (K226 _ _ t208) q212
              have t232 := u225 _ _ t213
              have q233 := tm_at.eq (K226 _ _ t213) q214
              have q234 := tm_at.eq (K226 _ _ t208) q215
              have t235 := u225 _ _ t216
              have q236 := tm_at.eq (K226 _ _ t216) q217
              have q237 := tm_at.eq (K226 _ _ t208) q218
              refine mv_dup d_TrustDesk_propose_57 rfl ?_
              refine mv_iload_n d_TrustDesk_propose_58 rfl rfl ?_
              refine mv_iload_n d_TrustDesk_propose_59 rfl rfl ?_
              refine mv_iload_n d_TrustDesk_propose_60 rfl rfl ?_
              refine mv_aload_n d_TrustDesk_propose_61 rfl rfl ?_
              refine tr_getK (k := 12) q237 d_TrustDesk_propose_62 f_TrustDesk_73_12 ?_
              refine mv_iload d_TrustDesk_propose_65 rfl ?_
              refine mv_callI (kc' := 1) (ks' := 90) (As := [.int x1, .int x2, .int x3, .int v180, .int (v180 + v207)]) (st9 := [.int (v180 + v207), .int v180, .int x3, .int x2, .int x1, .ref n202, .ref n202, .ref Ls]) d_TrustDesk_propose_67 lI_TrustDesk_273 (tc_Scheme_init (d := (d + 5)) (o0 := n202) (x1 := x1) (x2 := x2) (x3 := x3) (x4 := v180) (x5 := (v180 + v207)) t_x222 m223 I221.start) rfl (Nat.le_of_ble_eq_true rfl) (Nat.le_of_ble_eq_true rfl) (Nat.le_of_ble_eq_true rfl) (hst := rfl) (fun b238r M239 n240 b238 => ?_)
              obtain ⟨T241, J242, rfl, a244, a245, m246, t_a244, t_a245⟩ := b238
              have I243 := I221.call J242 (tm_sub (by decide)) (Or.inr h224)
              have t247 := J242.up t_x222
              have t248 := J242.up t229
              have t249 := J242.up t235
              have q250 := J242.keep t229 (by decide) q227
              have t251 := J242.up t228
              have q252 := J242.keepL t228 (by decide) q230
              have q253 := J242.keep t229 (by decide) q231
              have t254 := J242.up t232
              have q255 := J242.keepL t232 (by decide) q233
              have q256 := J242.keep t229 (by decide) q234
              have q257 := J242.keepL t235 (by decide) q236
              have q258 := J242.keep t229 (by decide) q237
              obtain ⟨T259, I260, t_x261, u262⟩ := I243.sealO tm_okF t247 h224 m246 (fun _ z9 => (tm_fs_cons ⟨_, rfl⟩ (tm_fs_cons ⟨_, rfl⟩ (tm_fs_cons ⟨_, rfl⟩ (tm_fs_cons ⟨_, rfl⟩ (tm_fs_cons ⟨_, rfl⟩ (tm_fs_cons ⟨_, rfl⟩ (tm_fs_cons ⟨_, rfl⟩ (tm_fs_cons ⟨_, rfl⟩ (tm_fs_cons ⟨_, rfl⟩ (tm_fs_cons ⟨_, rfl⟩ (tm_fs_cons ⟨_, rfl, z9 _ _ t_a244 (Nat.le_of_ble_eq_true rfl)⟩ (tm_fs_cons ⟨_, rfl, z9 _ _ t_a245 (Nat.le_of_ble_eq_true rfl)⟩ tm_fs_nil)))))))))))))
              have t263 := u262 _ _ t251 (tm_dif t251 t247 rfl)
              have t264 := u262 _ _ t248 (tm_dif t248 t247 rfl)
              have t265 := u262 _ _ t254 (tm_dif t254 t247 rfl)
              have t266 := u262 _ _ t249 (tm_dif t249 t247 rfl)
              obtain ⟨m268, e269, N270, f271, h267⟩ := tm_lsn I260 t266 q257
              refine mv_callV (kc' := 0) (ks' := 0) (As := [.ref n202]) (st9 := [.ref n202, .ref Ls]) d_TrustDesk_propose_70 lV_TrustDesk_107 h267.1 rfl (tc_AL_addT (FT := tm_FT) (W := tm_in [5011]) (x := x9) (d := d) tm_okF t266 t_x261 q257 (show _ < (40 : Int) by omega) rfl (C := "TrustDesk$Scheme") (T9 := kF_Scheme) (N9 := 12) rfl (mj_in1 (List.mem_of_getElem? (i := 2108) (by decide +kernel)) rfl) (by decide) (by decide) I260.start) rfl (Nat.le_of_ble_eq_true rfl) (Nat.le_of_ble_eq_true rfl) (Nat.le_of_ble_eq_true rfl) (hst := rfl) (fun b272r M273 n274 b272 => ?_)
              obtain ⟨T275, J276, rfl, q278⟩ := b272
              have I277 := I260.call J276 (tm_sub (by decide)) (Or.inl rfl)
              have t279 := J276.up t266
              have t280 := J276.up t264
              have q281 := J276.keep t264 (by decide) q250
              have t282 := J276.up t263
              have q283 := J276.keepL t263 (by decide) q252
              have q284 := J276.keep t264 (by decide) q253
              have t285 := J276.up t265
              have q286 := J276.keepL t265 (by decide) q255
              have q287 := J276.keep t264 (by decide) q256
              have q288 := J276.keep t264 (by decide) q258
              have b289 : (ks + 1).toInt = ks.toInt + 1 := mz_addn 1 1 (by decide) (by have := mz_lo ks; omega) (by omega)
              refine mv_pop d_TrustDesk_propose_73 rfl ?_
              refine mv_aload_n d_TrustDesk_propose_74 rfl rfl ?_
              refine tr_getK (k := 8) q287 d_TrustDesk_propose_75 f_TrustDesk_59_12 ?_
              obtain ⟨m291, e292, N293, f294, h290⟩ := tm_lsn I277 t279 q278
              refine mv_callV_s (kc' := 0) (ks' := 0) [] [.ref Ls] d_TrustDesk_propose_78 lV_TrustDesk_97 h290.1 rfl (tc_L_size (d := (d + 6)) h290.1) rfl (Nat.le_of_ble_eq_true rfl) (Nat.le_of_ble_eq_true rfl) (Nat.le_of_ble_eq_true rfl) rfl ?_
              refine mv_iconst (v := 1) d_TrustDesk_propose_81 (by decide) ?_
              refine mv_isubv (v := ks) d_TrustDesk_propose_82 (Int32.add_sub_cancel _ _) ?_
              exact mv_iret d_TrustDesk_propose_83 rfl (by first | rfl | decide) ⟨_, I277, _, rfl, Or.inr ⟨by omega, by omega, _, q278, by omega⟩⟩
            · refine mv_iconst (v := (-1)) d_TrustDesk_propose_29 (by decide) ?_
              exact mv_iret d_TrustDesk_propose_30 rfl (by first | rfl | decide) ⟨_, I0, _, rfl, Or.inl ⟨by decide, by omega, yks⟩⟩
      · refine mv_tableIn (tgt := 60) (off := 59) d_TrustDesk_isSubject_1 (by omega) (by omega) (by rw [b18]; rfl) (by decide) ?_
        refine mv_iload_n d_TrustDesk_isSubject_60 rfl rfl ?_
        refine mv_iconst (v := 1) d_TrustDesk_isSubject_61 (by decide) ?_
        have := mz_hi x3
        refine mv_icmp_ltZ (tgt := 76) (a := x3.toInt) (b := 1) d_TrustDesk_isSubject_62 (by decide) rfl (by decide) (fun b295 => ?_) (fun b295 => ?_)
        · refine mv_iconst (v := 0) d_TrustDesk_isSubject_76 (by decide) ?_
          refine mv_iret d_TrustDesk_isSubject_77 rfl (by decide) ?_
          refine mv_if_eq_t (tgt := 29) d_TrustDesk_propose_14 (by decide) (by decide) ?_
          refine mv_iconst (v := (-1)) d_TrustDesk_propose_29 (by decide) ?_
          exact mv_iret d_TrustDesk_propose_30 rfl (by first | rfl | decide) ⟨_, I0, _, rfl, Or.inl ⟨by decide, by omega, yks⟩⟩
        · refine mv_iload_n d_TrustDesk_isSubject_65 rfl rfl ?_
          refine mv_sipush (v := 999) d_TrustDesk_isSubject_66 (by decide) ?_
          have := mz_hi x3
          refine mv_icmp_gtZ (tgt := 76) (a := x3.toInt) (b := 999) d_TrustDesk_isSubject_69 (by decide) rfl (by decide) (fun b296 => ?_) (fun b296 => ?_)
          · refine mv_iconst (v := 0) d_TrustDesk_isSubject_76 (by decide) ?_
            refine mv_iret d_TrustDesk_isSubject_77 rfl (by decide) ?_
            refine mv_if_eq_t (tgt := 29) d_TrustDesk_propose_14 (by decide) (by decide) ?_
            refine mv_iconst (v := (-1)) d_TrustDesk_propose_29 (by decide) ?_
            exact mv_iret d_TrustDesk_propose_30 rfl (by first | rfl | decide) ⟨_, I0, _, rfl, Or.inl ⟨by decide, by omega, yks⟩⟩
          · refine mv_iconst (v := 1) d_TrustDesk_isSubject_72 (by decide) ?_
            refine mv_goto (tgt := 77) d_TrustDesk_isSubject_73 (by decide) ?_
            refine mv_iret d_TrustDesk_isSubject_77 rfl (by decide) ?_
            refine mv_if_eq_f (tgt := 29) d_TrustDesk_propose_14 (by decide) (by decide) ?_
            refine mv_aload_n d_TrustDesk_propose_17 rfl rfl ?_
            refine tr_getK (k := 8) q_Ls d_TrustDesk_propose_18 f_TrustDesk_59_12 ?_
            obtain ⟨m298, e299, N300, f301, h297⟩ := tm_lsn I0 h_Ls yks
            refine mv_callV_s (kc' := 4) (ks' := 302) [] [.ref Ls] d_TrustDesk_propose_21 lV_TrustDesk_97 h297.1 rfl (tc_L_size (d := (d + 6)) h297.1) rfl (Nat.le_of_ble_eq_true rfl) (Nat.le_of_ble_eq_true rfl) (Nat.le_of_ble_eq_true rfl) rfl ?_
            refine mv_bipush (v := 40) d_TrustDesk_propose_24 (by decide) ?_
            have := mz_hi ks
            refine mv_icmp_ltZ (tgt := 31) (a := ks.toInt) (b := 40) d_TrustDesk_propose_26 (by decide) rfl (by decide) (fun b302 => ?_) (fun b302 => ?_)
            · refine mv_aload_n d_TrustDesk_propose_31 rfl rfl ?_
              obtain ⟨v304, q303⟩ := tm_atI I0 h_o0 (k := 12) rfl
              refine tr_getK q303 d_TrustDesk_propose_32 f_TrustDesk_73_12 ?_
              refine mv_aload_n d_TrustDesk_propose_35 rfl rfl ?_
              refine mv_aload_n d_TrustDesk_propose_36 rfl rfl ?_
              refine tr_getK (k := 12) q303 d_TrustDesk_propose_37 f_TrustDesk_73_12 ?_
              obtain ⟨_, b311, -⟩ := I0.1 _ _ h_o0
              refine mv_callV (kc' := 4) (ks' := 302) (As := [.int v304]) (st9 := [.int v304, .ref o0, .int v304]) d_TrustDesk_propose_40 lV_TrustDesk_114 b311 rfl (tc_TrustDesk_inForce (d := (d + 3)) (x9 := x9) (o0 := o0) (x1 := v304) h_o0 I0.start) rfl (Nat.le_of_ble_eq_true rfl) (Nat.le_of_ble_eq_true rfl) (Nat.le_of_ble_eq_true rfl) (hst := rfl) (fun b305r M306 n307 b305 => ?_)
              obtain ⟨T308, J309, a312, rfl, t_a312⟩ := b305
              have I310 := I0.call J309 (tm_sub (by decide)) (Or.inl rfl)
              have t313 := J309.up h_o0
              have q314 := J309.keep h_o0 (by decide) q_Lg
              have t315 := J309.up h_Lg
              have q316 := J309.keepL h_Lg (by decide) ykf
              have q317 := J309.keep h_o0 (by decide) q_Ln
              have t318 := J309.up h_Ln
              have q319 := J309.keepL h_Ln (by decide) ykn
              have q320 := J309.keep h_o0 (by decide) q_Ls
              have t321 := J309.up h_Ls
              have q322 := J309.keepL h_Ls (by decide) yks
              have q323 := J309.keep h_o0 (by decide) q303
              refine mv_iconst (v := 2) d_TrustDesk_propose_43 (by decide) ?_
              obtain ⟨_, b330, -⟩ := I310.1 _ _ t_a312
              refine mv_callV (kc' := 4) (ks' := 302) (As := [.int 2]) (st9 := [.int 2, .ref a312, .int v304]) d_TrustDesk_propose_44 lV_TrustDesk_118 b330 rfl (tc_Act_rule (d := (d + 6)) (x9 := x9) (o0 := a312) (x1 := 2) t_a312 I310.start) rfl (Nat.le_of_ble_eq_true rfl) (Nat.le_of_ble_eq_true rfl) (Nat.le_of_ble_eq_true rfl) (hst := rfl) (fun b324r M325 n326 b324 => ?_)
              obtain ⟨T327, J328, v331, rfl⟩ := b324
              have I329 := I310.call J328 (tm_sub (by decide)) (Or.inl rfl)
              have t332 := J328.up t313
              have q333 := J328.keep t313 (by decide) q314
              have t334 := J328.up t315
              have q335 := J328.keepL t315 (by decide) q316
              have q336 := J328.keep t313 (by decide) q317
              have t337 := J328.up t318
              have q338 := J328.keepL t318 (by decide) q319
              have q339 := J328.keep t313 (by decide) q320
              have t340 := J328.up t321
              have q341 := J328.keepL t321 (by decide) q322
              have q342 := J328.keep t313 (by decide) q323
              refine mv_iadd d_TrustDesk_propose_47 ?_
              refine mv_istore (lv' := [(4, .int (v304 + v331)), (0, .ref o0), (1, .int x1), (2, .int x2), (3, .int x3)]) d_TrustDesk_propose_48 (by decide) rfl ?_
              refine mv_aload_n d_TrustDesk_propose_50 rfl rfl ?_
              refine tr_getK (k := 8) q339 d_TrustDesk_propose_51 f_TrustDesk_59_12 ?_
              refine tr_new (kc' := 3) (ks' := 290) tm_okF I329 d_TrustDesk_propose_54 n_TrustDesk_271 (Nat.le_of_ble_eq_true rfl) (Nat.le_of_ble_eq_true rfl) (fun T343 M344 I345 t_x346 m347 h348 u349 K350 => ?_)
              have q351 := tm_at.eq (K350 _ _ t332) q333
              have t352 := u349 _ _ t334
              have t353 := u349 _ _ t332
              have q354 := tm_at.eq (K350 _ _ t334) q335
              have q355 := tm_at.eq (K350 _ _ t332) q336
              have t356 := u349 _ _ t337
              have q357 := tm_at.eq (K350 _ _ t337) q338
              have q358 := tm_at.eq (K350 _ _ t332) q339
              have t359 := u349 _ _ t340
              have q360 := tm_at.eq (K350 _ _ t340) q341
              have q361 := tm_at.eq (K350 _ _ t332) q342
              refine mv_dup d_TrustDesk_propose_57 rfl ?_
              refine mv_iload_n d_TrustDesk_propose_58 rfl rfl ?_
              refine mv_iload_n d_TrustDesk_propose_59 rfl rfl ?_
              refine mv_iload_n d_TrustDesk_propose_60 rfl rfl ?_
              refine mv_aload_n d_TrustDesk_propose_61 rfl rfl ?_
              refine tr_getK (k := 12) q361 d_TrustDesk_propose_62 f_TrustDesk_73_12 ?_
              refine mv_iload d_TrustDesk_propose_65 rfl ?_
              refine mv_callI (kc' := 1) (ks' := 90) (As := [.int x1, .int x2, .int x3, .int v304, .int (v304 + v331)]) (st9 := [.int (v304 + v331), .int v304, .int x3, .int x2, .int x1, .ref n326, .ref n326, .ref Ls]) d_TrustDesk_propose_67 lI_TrustDesk_273 (tc_Scheme_init (d := (d + 5)) (o0 := n326) (x1 := x1) (x2 := x2) (x3 := x3) (x4 := v304) (x5 := (v304 + v331)) t_x346 m347 I345.start) rfl (Nat.le_of_ble_eq_true rfl) (Nat.le_of_ble_eq_true rfl) (Nat.le_of_ble_eq_true rfl) (hst := rfl) (fun b362r M363 n364 b362 => ?_)
              obtain ⟨T365, J366, rfl, a368, a369, m370, t_a368, t_a369⟩ := b362
              have I367 := I345.call J366 (tm_sub (by decide)) (Or.inr h348)
              have t371 := J366.up t_x346
              have t372 := J366.up t353
              have t373 := J366.up t359
              have q374 := J366.keep t353 (by decide) q351
              have t375 := J366.up t352
              have q376 := J366.keepL t352 (by decide) q354
              have q377 := J366.keep t353 (by decide) q355
              have t378 := J366.up t356
              have q379 := J366.keepL t356 (by decide) q357
              have q380 := J366.keep t353 (by decide) q358
              have q381 := J366.keepL t359 (by decide) q360
              have q382 := J366.keep t353 (by decide) q361
              obtain ⟨T383, I384, t_x385, u386⟩ := I367.sealO tm_okF t371 h348 m370 (fun _ z9 => (tm_fs_cons ⟨_, rfl⟩ (tm_fs_cons ⟨_, rfl⟩ (tm_fs_cons ⟨_, rfl⟩ (tm_fs_cons ⟨_, rfl⟩ (tm_fs_cons ⟨_, rfl⟩ (tm_fs_cons ⟨_, rfl⟩ (tm_fs_cons ⟨_, rfl⟩ (tm_fs_cons ⟨_, rfl⟩ (tm_fs_cons ⟨_, rfl⟩ (tm_fs_cons ⟨_, rfl⟩ (tm_fs_cons ⟨_, rfl, z9 _ _ t_a368 (Nat.le_of_ble_eq_true rfl)⟩ (tm_fs_cons ⟨_, rfl, z9 _ _ t_a369 (Nat.le_of_ble_eq_true rfl)⟩ tm_fs_nil)))))))))))))
              have t387 := u386 _ _ t375 (tm_dif t375 t371 rfl)
              have t388 := u386 _ _ t372 (tm_dif t372 t371 rfl)
              have t389 := u386 _ _ t378 (tm_dif t378 t371 rfl)
              have t390 := u386 _ _ t373 (tm_dif t373 t371 rfl)
              obtain ⟨m392, e393, N394, f395, h391⟩ := tm_lsn I384 t390 q381
              refine mv_callV (kc' := 0) (ks' := 0) (As := [.ref n326]) (st9 := [.ref n326, .ref Ls]) d_TrustDesk_propose_70 lV_TrustDesk_107 h391.1 rfl (tc_AL_addT (FT := tm_FT) (W := tm_in [5011]) (x := x9) (d := d) tm_okF t390 t_x385 q381 (show _ < (40 : Int) by omega) rfl (C := "TrustDesk$Scheme") (T9 := kF_Scheme) (N9 := 12) rfl (mj_in1 (List.mem_of_getElem? (i := 2108) (by decide +kernel)) rfl) (by decide) (by decide) I384.start) rfl (Nat.le_of_ble_eq_true rfl) (Nat.le_of_ble_eq_true rfl) (Nat.le_of_ble_eq_true rfl) (hst := rfl) (fun b396r M397 n398 b396 => ?_)
              obtain ⟨T399, J400, rfl, q402⟩ := b396
              have I401 := I384.call J400 (tm_sub (by decide)) (Or.inl rfl)
              have t403 := J400.up t390
              have t404 := J400.up t388
              have q405 := J400.keep t388 (by decide) q374
              have t406 := J400.up t387
              have q407 := J400.keepL t387 (by decide) q376
              have q408 := J400.keep t388 (by decide) q377
              have t409 := J400.up t389
              have q410 := J400.keepL t389 (by decide) q379
              have q411 := J400.keep t388 (by decide) q380
              have q412 := J400.keep t388 (by decide) q382
              have b413 : (ks + 1).toInt = ks.toInt + 1 := mz_addn 1 1 (by decide) (by have := mz_lo ks; omega) (by omega)
              refine mv_pop d_TrustDesk_propose_73 rfl ?_
              refine mv_aload_n d_TrustDesk_propose_74 rfl rfl ?_
              refine tr_getK (k := 8) q411 d_TrustDesk_propose_75 f_TrustDesk_59_12 ?_
              obtain ⟨m415, e416, N417, f418, h414⟩ := tm_lsn I401 t403 q402
              refine mv_callV_s (kc' := 0) (ks' := 0) [] [.ref Ls] d_TrustDesk_propose_78 lV_TrustDesk_97 h414.1 rfl (tc_L_size (d := (d + 6)) h414.1) rfl (Nat.le_of_ble_eq_true rfl) (Nat.le_of_ble_eq_true rfl) (Nat.le_of_ble_eq_true rfl) rfl ?_
              refine mv_iconst (v := 1) d_TrustDesk_propose_81 (by decide) ?_
              refine mv_isubv (v := ks) d_TrustDesk_propose_82 (Int32.add_sub_cancel _ _) ?_
              exact mv_iret d_TrustDesk_propose_83 rfl (by first | rfl | decide) ⟨_, I401, _, rfl, Or.inr ⟨by omega, by omega, _, q402, by omega⟩⟩
            · refine mv_iconst (v := (-1)) d_TrustDesk_propose_29 (by decide) ?_
              exact mv_iret d_TrustDesk_propose_30 rfl (by first | rfl | decide) ⟨_, I0, _, rfl, Or.inl ⟨by decide, by omega, yks⟩⟩
      · refine mv_tableIn (tgt := 78) (off := 77) d_TrustDesk_isSubject_1 (by omega) (by omega) (by rw [b18]; rfl) (by decide) ?_
        refine mv_iload_n d_TrustDesk_isSubject_78 rfl rfl ?_
        have := mz_hi x3
        refine mv_if_ltZ (tgt := 86) (a := x3.toInt) d_TrustDesk_isSubject_79 (by decide) rfl (fun b419 => ?_) (fun b419 => ?_)
        · refine mv_iconst (v := 0) d_TrustDesk_isSubject_86 (by decide) ?_
          refine mv_iret d_TrustDesk_isSubject_87 rfl (by decide) ?_
          refine mv_if_eq_t (tgt := 29) d_TrustDesk_propose_14 (by decide) (by decide) ?_
          refine mv_iconst (v := (-1)) d_TrustDesk_propose_29 (by decide) ?_
          exact mv_iret d_TrustDesk_propose_30 rfl (by first | rfl | decide) ⟨_, I0, _, rfl, Or.inl ⟨by decide, by omega, yks⟩⟩
        · refine mv_iconst (v := 1) d_TrustDesk_isSubject_82 (by decide) ?_
          refine mv_goto (tgt := 87) d_TrustDesk_isSubject_83 (by decide) ?_
          refine mv_iret d_TrustDesk_isSubject_87 rfl (by decide) ?_
          refine mv_if_eq_f (tgt := 29) d_TrustDesk_propose_14 (by decide) (by decide) ?_
          refine mv_aload_n d_TrustDesk_propose_17 rfl rfl ?_
          refine tr_getK (k := 8) q_Ls d_TrustDesk_propose_18 f_TrustDesk_59_12 ?_
          obtain ⟨m421, e422, N423, f424, h420⟩ := tm_lsn I0 h_Ls yks
          refine mv_callV_s (kc' := 4) (ks' := 302) [] [.ref Ls] d_TrustDesk_propose_21 lV_TrustDesk_97 h420.1 rfl (tc_L_size (d := (d + 6)) h420.1) rfl (Nat.le_of_ble_eq_true rfl) (Nat.le_of_ble_eq_true rfl) (Nat.le_of_ble_eq_true rfl) rfl ?_
          refine mv_bipush (v := 40) d_TrustDesk_propose_24 (by decide) ?_
          have := mz_hi ks
          refine mv_icmp_ltZ (tgt := 31) (a := ks.toInt) (b := 40) d_TrustDesk_propose_26 (by decide) rfl (by decide) (fun b425 => ?_) (fun b425 => ?_)
          · refine mv_aload_n d_TrustDesk_propose_31 rfl rfl ?_
            obtain ⟨v427, q426⟩ := tm_atI I0 h_o0 (k := 12) rfl
            refine tr_getK q426 d_TrustDesk_propose_32 f_TrustDesk_73_12 ?_
            refine mv_aload_n d_TrustDesk_propose_35 rfl rfl ?_
            refine mv_aload_n d_TrustDesk_propose_36 rfl rfl ?_
            refine tr_getK (k := 12) q426 d_TrustDesk_propose_37 f_TrustDesk_73_12 ?_
            obtain ⟨_, b434, -⟩ := I0.1 _ _ h_o0
            refine mv_callV (kc' := 4) (ks' := 302) (As := [.int v427]) (st9 := [.int v427, .ref o0, .int v427]) d_TrustDesk_propose_40 lV_TrustDesk_114 b434 rfl (tc_TrustDesk_inForce (d := (d + 3)) (x9 := x9) (o0 := o0) (x1 := v427) h_o0 I0.start) rfl (Nat.le_of_ble_eq_true rfl) (Nat.le_of_ble_eq_true rfl) (Nat.le_of_ble_eq_true rfl) (hst := rfl) (fun b428r M429 n430 b428 => ?_)
            obtain ⟨T431, J432, a435, rfl, t_a435⟩ := b428
            have I433 := I0.call J432 (tm_sub (by decide)) (Or.inl rfl)
            have t436 := J432.up h_o0
            have q437 := J432.keep h_o0 (by decide) q_Lg
            have t438 := J432.up h_Lg
            have q439 := J432.keepL h_Lg (by decide) ykf
            have q440 := J432.keep h_o0 (by decide) q_Ln
            have t441 := J432.up h_Ln
            have q442 := J432.keepL h_Ln (by decide) ykn
            have q443 := J432.keep h_o0 (by decide) q_Ls
            have t444 := J432.up h_Ls
            have q445 := J432.keepL h_Ls (by decide) yks
            have q446 := J432.keep h_o0 (by decide) q426
            refine mv_iconst (v := 2) d_TrustDesk_propose_43 (by decide) ?_
            obtain ⟨_, b453, -⟩ := I433.1 _ _ t_a435
            refine mv_callV (kc' := 4) (ks' := 302) (As := [.int 2]) (st9 := [.int 2, .ref a435, .int v427]) d_TrustDesk_propose_44 lV_TrustDesk_118 b453 rfl (tc_Act_rule (d := (d + 6)) (x9 := x9) (o0 := a435) (x1 := 2) t_a435 I433.start) rfl (Nat.le_of_ble_eq_true rfl) (Nat.le_of_ble_eq_true rfl) (Nat.le_of_ble_eq_true rfl) (hst := rfl) (fun b447r M448 n449 b447 => ?_)
            obtain ⟨T450, J451, v454, rfl⟩ := b447
            have I452 := I433.call J451 (tm_sub (by decide)) (Or.inl rfl)
            have t455 := J451.up t436
            have q456 := J451.keep t436 (by decide) q437
            have t457 := J451.up t438
            have q458 := J451.keepL t438 (by decide) q439
            have q459 := J451.keep t436 (by decide) q440
            have t460 := J451.up t441
            have q461 := J451.keepL t441 (by decide) q442
            have q462 := J451.keep t436 (by decide) q443
            have t463 := J451.up t444
            have q464 := J451.keepL t444 (by decide) q445
            have q465 := J451.keep t436 (by decide) q446
            refine mv_iadd d_TrustDesk_propose_47 ?_
            refine mv_istore (lv' := [(4, .int (v427 + v454)), (0, .ref o0), (1, .int x1), (2, .int x2), (3, .int x3)]) d_TrustDesk_propose_48 (by decide) rfl ?_
            refine mv_aload_n d_TrustDesk_propose_50 rfl rfl ?_
            refine tr_getK (k := 8) q462 d_TrustDesk_propose_51 f_TrustDesk_59_12 ?_
            refine tr_new (kc' := 3) (ks' := 290) tm_okF I452 d_TrustDesk_propose_54 n_TrustDesk_271 (Nat.le_of_ble_eq_true rfl) (Nat.le_of_ble_eq_true rfl) (fun T466 M467 I468 t_x469 m470 h471 u472 K473 => ?_)
            have q474 := tm_at.eq (K473 _ _ t455) q456
            have t475 := u472 _ _ t457
            have t476 := u472 _ _ t455
            have q477 := tm_at.eq (K473 _ _ t457) q458
            have q478 := tm_at.eq (K473 _ _ t455) q459
            have t479 := u472 _ _ t460
            have q480 := tm_at.eq (K473 _ _ t460) q461
            have q481 := tm_at.eq (K473 _ _ t455) q462
            have t482 := u472 _ _ t463
            have q483 := tm_at.eq (K473 _ _ t463) q464
            have q484 := tm_at.eq (K473 _ _ t455) q465
            refine mv_dup d_TrustDesk_propose_57 rfl ?_
            refine mv_iload_n d_TrustDesk_propose_58 rfl rfl ?_
            refine mv_iload_n d_TrustDesk_propose_59 rfl rfl ?_
            refine mv_iload_n d_TrustDesk_propose_60 rfl rfl ?_
            refine mv_aload_n d_TrustDesk_propose_61 rfl rfl ?_
            refine tr_getK (k := 12) q484 d_TrustDesk_propose_62 f_TrustDesk_73_12 ?_
            refine mv_iload d_TrustDesk_propose_65 rfl ?_
            refine mv_callI (kc' := 1) (ks' := 90) (As := [.int x1, .int x2, .int x3, .int v427, .int (v427 + v454)]) (st9 := [.int (v427 + v454), .int v427, .int x3, .int x2, .int x1, .ref n449, .ref n449, .ref Ls]) d_TrustDesk_propose_67 lI_TrustDesk_273 (tc_Scheme_init (d := (d + 5)) (o0 := n449) (x1 := x1) (x2 := x2) (x3 := x3) (x4 := v427) (x5 := (v427 + v454)) t_x469 m470 I468.start) rfl (Nat.le_of_ble_eq_true rfl) (Nat.le_of_ble_eq_true rfl) (Nat.le_of_ble_eq_true rfl) (hst := rfl) (fun b485r M486 n487 b485 => ?_)
            obtain ⟨T488, J489, rfl, a491, a492, m493, t_a491, t_a492⟩ := b485
            have I490 := I468.call J489 (tm_sub (by decide)) (Or.inr h471)
            have t494 := J489.up t_x469
            have t495 := J489.up t476
            have t496 := J489.up t482
            have q497 := J489.keep t476 (by decide) q474
            have t498 := J489.up t475
            have q499 := J489.keepL t475 (by decide) q477
            have q500 := J489.keep t476 (by decide) q478
            have t501 := J489.up t479
            have q502 := J489.keepL t479 (by decide) q480
            have q503 := J489.keep t476 (by decide) q481
            have q504 := J489.keepL t482 (by decide) q483
            have q505 := J489.keep t476 (by decide) q484
            obtain ⟨T506, I507, t_x508, u509⟩ := I490.sealO tm_okF t494 h471 m493 (fun _ z9 => (tm_fs_cons ⟨_, rfl⟩ (tm_fs_cons ⟨_, rfl⟩ (tm_fs_cons ⟨_, rfl⟩ (tm_fs_cons ⟨_, rfl⟩ (tm_fs_cons ⟨_, rfl⟩ (tm_fs_cons ⟨_, rfl⟩ (tm_fs_cons ⟨_, rfl⟩ (tm_fs_cons ⟨_, rfl⟩ (tm_fs_cons ⟨_, rfl⟩ (tm_fs_cons ⟨_, rfl⟩ (tm_fs_cons ⟨_, rfl, z9 _ _ t_a491 (Nat.le_of_ble_eq_true rfl)⟩ (tm_fs_cons ⟨_, rfl, z9 _ _ t_a492 (Nat.le_of_ble_eq_true rfl)⟩ tm_fs_nil)))))))))))))
            have t510 := u509 _ _ t498 (tm_dif t498 t494 rfl)
            have t511 := u509 _ _ t495 (tm_dif t495 t494 rfl)
            have t512 := u509 _ _ t501 (tm_dif t501 t494 rfl)
            have t513 := u509 _ _ t496 (tm_dif t496 t494 rfl)
            obtain ⟨m515, e516, N517, f518, h514⟩ := tm_lsn I507 t513 q504
            refine mv_callV (kc' := 0) (ks' := 0) (As := [.ref n449]) (st9 := [.ref n449, .ref Ls]) d_TrustDesk_propose_70 lV_TrustDesk_107 h514.1 rfl (tc_AL_addT (FT := tm_FT) (W := tm_in [5011]) (x := x9) (d := d) tm_okF t513 t_x508 q504 (show _ < (40 : Int) by omega) rfl (C := "TrustDesk$Scheme") (T9 := kF_Scheme) (N9 := 12) rfl (mj_in1 (List.mem_of_getElem? (i := 2108) (by decide +kernel)) rfl) (by decide) (by decide) I507.start) rfl (Nat.le_of_ble_eq_true rfl) (Nat.le_of_ble_eq_true rfl) (Nat.le_of_ble_eq_true rfl) (hst := rfl) (fun b519r M520 n521 b519 => ?_)
            obtain ⟨T522, J523, rfl, q525⟩ := b519
            have I524 := I507.call J523 (tm_sub (by decide)) (Or.inl rfl)
            have t526 := J523.up t513
            have t527 := J523.up t511
            have q528 := J523.keep t511 (by decide) q497
            have t529 := J523.up t510
            have q530 := J523.keepL t510 (by decide) q499
            have q531 := J523.keep t511 (by decide) q500
            have t532 := J523.up t512
            have q533 := J523.keepL t512 (by decide) q502
            have q534 := J523.keep t511 (by decide) q503
            have q535 := J523.keep t511 (by decide) q505
            have b536 : (ks + 1).toInt = ks.toInt + 1 := mz_addn 1 1 (by decide) (by have := mz_lo ks; omega) (by omega)
            refine mv_pop d_TrustDesk_propose_73 rfl ?_
            refine mv_aload_n d_TrustDesk_propose_74 rfl rfl ?_
            refine tr_getK (k := 8) q534 d_TrustDesk_propose_75 f_TrustDesk_59_12 ?_
            obtain ⟨m538, e539, N540, f541, h537⟩ := tm_lsn I524 t526 q525
            refine mv_callV_s (kc' := 0) (ks' := 0) [] [.ref Ls] d_TrustDesk_propose_78 lV_TrustDesk_97 h537.1 rfl (tc_L_size (d := (d + 6)) h537.1) rfl (Nat.le_of_ble_eq_true rfl) (Nat.le_of_ble_eq_true rfl) (Nat.le_of_ble_eq_true rfl) rfl ?_
            refine mv_iconst (v := 1) d_TrustDesk_propose_81 (by decide) ?_
            refine mv_isubv (v := ks) d_TrustDesk_propose_82 (Int32.add_sub_cancel _ _) ?_
            exact mv_iret d_TrustDesk_propose_83 rfl (by first | rfl | decide) ⟨_, I524, _, rfl, Or.inr ⟨by omega, by omega, _, q525, by omega⟩⟩
          · refine mv_iconst (v := (-1)) d_TrustDesk_propose_29 (by decide) ?_
            exact mv_iret d_TrustDesk_propose_30 rfl (by first | rfl | decide) ⟨_, I0, _, rfl, Or.inl ⟨by decide, by omega, yks⟩⟩
def w_TrustDesk_lay_r : List Nat := [609]
set_option maxHeartbeats 100000000 in theorem tc_TrustDesk_lay_r {g : mj_G} {l : Launch} {d : Nat} {T0 : tm_H} {M0 : mj_M} {n0 x9 : Nat} {o0 : Nat} {x1 : Int32} {x2 : Int32} (h_o0 : T0 o0 = some (0, 12, 0))  {Lg : Nat} {kf : Int32} (h_Lg : T0 Lg = some (3, 6, o0)) (q_Lg : tm_at M0 o0 12 6 (.ref Lg)) (ykf : tm_at M0 Lg 0 2 (.int kf)) (I0 : tm_I tm_FT (tm_in w_TrustDesk_lay_r) x9 T0 M0 n0 T0 M0 n0) : mj_Met g l kY_TrustDesk_lay (d + 4) [.ref o0, .int x1, .int x2] M0 n0 0 0 (tm_Q tm_FT (tm_in w_TrustDesk_lay_r) x9 T0 M0 n0 (fun r _ M => ∃ v : Int32, r = some (.int v) ∧ 0 ≤ v.toInt ∧ v.toInt ≤ 1 ∧ ((v.toInt = 0 ∧ ¬ (0 ≤ x1.toInt ∧ x1.toInt < kf.toInt ∧ 0 ≤ x2.toInt ∧ x2.toInt ≤ 7)) ∨ (v.toInt = 1 ∧ (0 ≤ x1.toInt ∧ x1.toInt < kf.toInt ∧ 0 ≤ x2.toInt ∧ x2.toInt ≤ 7))))) := by
  refine mj_enter (by decide) (Nat.le_of_ble_eq_true rfl) ?_
  refine mv_aload_n d_TrustDesk_lay_0 rfl rfl ?_
  refine mv_iload_n d_TrustDesk_lay_1 rfl rfl ?_
  obtain ⟨_, b1, -⟩ := I0.1 _ _ h_o0
  refine mv_callV (kc1 := 0) (ks1 := 0) (kc' := 0) (ks' := 0) (As := [.int x1]) (st9 := [.int x1, .ref o0]) d_TrustDesk_lay_2 lV_TrustDesk_257 b1 rfl (mj_enter (by decide) (Nat.le_of_ble_eq_true rfl) ?_) rfl (Nat.le_of_ble_eq_true rfl) (Nat.le_of_ble_eq_true rfl) (Nat.le_of_ble_eq_true rfl) (hst := rfl) (fun _ _ _ h => h)
  refine mv_iload_n d_TrustDesk_fundAt_0 rfl rfl ?_
  have := mz_hi x1
  refine mv_if_ltZ (tgt := 29) (a := x1.toInt) d_TrustDesk_fundAt_1 (by decide) rfl (fun b2 => ?_) (fun b2 => ?_)
  · refine mv_null d_TrustDesk_fundAt_29 ?_
    refine mv_aret (r := none) d_TrustDesk_fundAt_30 rfl (by first | exact Or.inl ⟨_, rfl⟩ | exact Or.inr ⟨_, rfl⟩) ?_
    refine mv_astore_nN (lv' := [(3, .null), (0, .ref o0), (1, .int x1), (2, .int x2)]) d_TrustDesk_lay_5 rfl (by decide) rfl ?_
    refine mv_aload_nN d_TrustDesk_lay_6 rfl rfl ?_
    refine mv_ifnullN (tgt := 20) d_TrustDesk_lay_7 (by decide) ?_
    refine mv_iconst (v := 0) d_TrustDesk_lay_20 (by decide) ?_
    exact mv_iret d_TrustDesk_lay_21 rfl (by decide) ⟨_, I0, _, rfl, by decide, by decide, Or.inl ⟨by decide, by omega⟩⟩
  · refine mv_iload_n d_TrustDesk_fundAt_4 rfl rfl ?_
    refine mv_aload_n d_TrustDesk_fundAt_5 rfl rfl ?_
    refine tr_getK (k := 6) q_Lg d_TrustDesk_fundAt_6 f_TrustDesk_53_12 ?_
    obtain ⟨m4, e5, N6, f7, h3⟩ := tm_lsn I0 h_Lg ykf
    refine mv_callV_s (kc' := 0) (ks' := 0) [] [.ref Lg, .int x1] d_TrustDesk_fundAt_9 lV_TrustDesk_97 h3.1 rfl (tc_L_size (d := (d + 2)) h3.1) rfl (Nat.le_of_ble_eq_true rfl) (Nat.le_of_ble_eq_true rfl) (Nat.le_of_ble_eq_true rfl) rfl ?_
    have := mz_hi x1
    have := mz_hi kf
    refine mv_icmp_geZ (tgt := 29) (a := x1.toInt) (b := kf.toInt) d_TrustDesk_fundAt_12 (by decide) rfl rfl (fun b8 => ?_) (fun b8 => ?_)
    · refine mv_null d_TrustDesk_fundAt_29 ?_
      refine mv_aret (r := none) d_TrustDesk_fundAt_30 rfl (by first | exact Or.inl ⟨_, rfl⟩ | exact Or.inr ⟨_, rfl⟩) ?_
      refine mv_astore_nN (lv' := [(3, .null), (0, .ref o0), (1, .int x1), (2, .int x2)]) d_TrustDesk_lay_5 rfl (by decide) rfl ?_
      refine mv_aload_nN d_TrustDesk_lay_6 rfl rfl ?_
      refine mv_ifnullN (tgt := 20) d_TrustDesk_lay_7 (by decide) ?_
      refine mv_iconst (v := 0) d_TrustDesk_lay_20 (by decide) ?_
      exact mv_iret d_TrustDesk_lay_21 rfl (by decide) ⟨_, I0, _, rfl, by decide, by decide, Or.inl ⟨by decide, by omega⟩⟩
    · refine mv_aload_n d_TrustDesk_fundAt_15 rfl rfl ?_
      refine tr_getK (k := 6) q_Lg d_TrustDesk_fundAt_16 f_TrustDesk_53_12 ?_
      refine mv_iload_n d_TrustDesk_fundAt_19 rfl rfl ?_
      obtain ⟨m10, e11, N12, f13, h9⟩ := tm_lsn I0 h_Lg ykf
      obtain ⟨u14e, u14i, a15, u14f, u14t⟩ := tm_el (i := x1) h9 (by omega) (by omega)
      have t_a15 : T0 a15 = some (0, 6, 0) := u14t
      refine mv_callV_s (kc' := 0) (ks' := 0) [.int x1] [.int x1, .ref Lg] d_TrustDesk_fundAt_20 lV_TrustDesk_158 h9.1 rfl (tc_L_get (d := d) h9.1 u14e (by omega) (by omega) u14i u14f) rfl (Nat.le_of_ble_eq_true rfl) (Nat.le_of_ble_eq_true rfl) (Nat.le_of_ble_eq_true rfl) rfl ?_
      obtain ⟨_, b16, -⟩ := I0.1 _ _ t_a15
      refine mv_castS (T9 := kF_Fund) (N := 15) d_TrustDesk_fundAt_23 (mj_in1 (List.mem_of_getElem? (i := 655) (by decide +kernel)) rfl) b16 rfl ?_
      refine mv_goto (tgt := 30) d_TrustDesk_fundAt_26 (by decide) ?_
      refine mv_aret (r := (some a15)) d_TrustDesk_fundAt_30 rfl (by first | exact Or.inl ⟨_, rfl⟩ | exact Or.inr ⟨_, rfl⟩) ?_
      refine mv_astore_n (lv' := [(3, .ref a15), (0, .ref o0), (1, .int x1), (2, .int x2)]) d_TrustDesk_lay_5 rfl (by decide) rfl ?_
      refine mv_aload_n d_TrustDesk_lay_6 rfl rfl ?_
      refine mv_ifnull d_TrustDesk_lay_7 ?_
      refine mv_iload_n d_TrustDesk_lay_10 rfl rfl ?_
      have := mz_hi x2
      refine mv_if_ltZ (tgt := 20) (a := x2.toInt) d_TrustDesk_lay_11 (by decide) rfl (fun b17 => ?_) (fun b17 => ?_)
      · refine mv_iconst (v := 0) d_TrustDesk_lay_20 (by decide) ?_
        exact mv_iret d_TrustDesk_lay_21 rfl (by decide) ⟨_, I0, _, rfl, by decide, by decide, Or.inl ⟨by decide, by omega⟩⟩
      · refine mv_iload_n d_TrustDesk_lay_14 rfl rfl ?_
        refine mv_bipush (v := 8) d_TrustDesk_lay_15 (by decide) ?_
        have := mz_hi x2
        refine mv_icmp_ltZ (tgt := 22) (a := x2.toInt) (b := 8) d_TrustDesk_lay_17 (by decide) rfl (by decide) (fun b18 => ?_) (fun b18 => ?_)
        · refine mv_aload_n d_TrustDesk_lay_22 rfl rfl ?_
          refine mv_iload_n d_TrustDesk_lay_23 rfl rfl ?_
          refine tr_putK tm_okF I0 t_a15 (k := 9) rfl ⟨_, rfl⟩ (Or.inl (by decide)) d_TrustDesk_lay_24 p_TrustDesk_489_6 rfl rfl (fun M19 I20 q21 K22 => ?_)
          refine mv_iconst (v := 1) d_TrustDesk_lay_27 (by decide) ?_
          exact mv_iret d_TrustDesk_lay_28 rfl (by decide) ⟨_, I20, _, rfl, by decide, by decide, Or.inr ⟨by decide, by omega⟩⟩
        · refine mv_iconst (v := 0) d_TrustDesk_lay_20 (by decide) ?_
          exact mv_iret d_TrustDesk_lay_21 rfl (by decide) ⟨_, I0, _, rfl, by decide, by decide, Or.inl ⟨by decide, by omega⟩⟩
