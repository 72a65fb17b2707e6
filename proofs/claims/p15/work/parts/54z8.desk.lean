def w_TrustDesk_near_r : List Nat := [900, 901, 902, 908, 909, 910, 911, 912, 913, 914, 915, 916, 918, 954, 955, 956, 957, 967, 5008]
set_option maxHeartbeats 100000000 in theorem tc_TrustDesk_near_r {g : mj_G} {l : Launch} {d : Nat} {T0 : tm_H} {M0 : mj_M} {n0 x9 : Nat} {o0 : Nat} {x1 : Int32} (h_o0 : T0 o0 = some (0, 12, 0)) {Rd : Nat} {k vp0 : Int32} {pb : Nat → Int} {pn : Nat} (h_Rd : T0 Rd = some (0, 9, 0)) (q_Rd : tm_at M0 o0 12 1 (.ref Rd)) (yB : qB M0 Rd pb pn) (yp : tm_at M0 Rd 9 2 (.int vp0)) {Lx : Nat} (h_Lx : T0 Lx = some (3, 8, o0)) (q_Lx : tm_at M0 o0 12 7 (.ref Lx)) (yk : tm_at M0 Lx 0 2 (.int k)) (I0 : tm_I tm_FT (tm_in w_TrustDesk_near_r) x9 T0 M0 n0 T0 M0 n0) : mj_Met g l kY_TrustDesk_near (d + 22) [.ref o0, .int x1] M0 n0 7 843 (tm_Q tm_FT (tm_in w_TrustDesk_near_r) x9 T0 M0 n0 (fun r _ M => ∃ v : Int32, r = some (.int v) ∧ ((v.toInt = -1 ∧ ¬ (0 ≤ x1.toInt ∧ x1.toInt ≤ 255 ∧ k.toInt < 12) ∧ qB M Rd pb pn ∧ tm_at M Rd 9 2 (.int vp0) ∧ tm_at M Lx 0 2 (.int k)) ∨ ((0 ≤ x1.toInt ∧ x1.toInt ≤ 255 ∧ k.toInt < 12) ∧ tm_at M Rd 9 0 (.int 0) ∧ ∃ vp k1 : Int32, tm_at M Rd 9 2 (.int vp) ∧ tm_at M Lx 0 2 (.int k1) ∧ ((p_nea pb pn).1 = 0 ∧ v.toInt = k.toInt ∧ vp.toInt = -1 ∧ k1.toInt = k.toInt + 1 ∨ (p_nea pb pn).1 ≠ 0 ∧ v.toInt = -1 - (p_nea pb pn).1 ∧ vp.toInt = ((p_nea pb pn).2.1 : Int) ∧ k1.toInt = k.toInt))))) := by
  refine mj_enter (by decide) (Nat.le_of_ble_eq_true rfl) ?_
  refine mv_iload_n d_TrustDesk_near_0 rfl rfl ?_
  have := mz_hi x1
  refine mv_if_ltZ (tgt := 23) (a := x1.toInt) d_TrustDesk_near_1 (by decide) rfl (fun b1 => ?_) (fun b1 => ?_)
  · refine mv_iconst (v := (-1)) d_TrustDesk_near_23 (by decide) ?_
    exact mv_iret d_TrustDesk_near_24 rfl (by first | rfl | decide) ⟨_, I0, _, rfl, Or.inl ⟨by first | decide | omega, by omega, yB, yp, yk⟩⟩
  · refine mv_iload_n d_TrustDesk_near_4 rfl rfl ?_
    refine mv_sipush (v := 255) d_TrustDesk_near_5 (by decide) ?_
    have := mz_hi x1
    refine mv_icmp_gtZ (tgt := 23) (a := x1.toInt) (b := 255) d_TrustDesk_near_8 (by decide) rfl (by decide) (fun b2 => ?_) (fun b2 => ?_)
    · refine mv_iconst (v := (-1)) d_TrustDesk_near_23 (by decide) ?_
      exact mv_iret d_TrustDesk_near_24 rfl (by first | rfl | decide) ⟨_, I0, _, rfl, Or.inl ⟨by first | decide | omega, by omega, yB, yp, yk⟩⟩
    · refine mv_aload_n d_TrustDesk_near_11 rfl rfl ?_
      refine tr_getK (k := 7) q_Lx d_TrustDesk_near_12 f_TrustDesk_56_12 ?_
      obtain ⟨m4, e5, N6, f7, h3⟩ := tm_lsn I0 h_Lx yk
      refine mv_callV_s (kc' := 7) (ks' := 843) [] [.ref Lx] d_TrustDesk_near_15 lV_TrustDesk_97 h3.1 rfl (tc_L_size (d := (d + 21)) h3.1) rfl (Nat.le_of_ble_eq_true rfl) (Nat.le_of_ble_eq_true rfl) (Nat.le_of_ble_eq_true rfl) rfl ?_
      refine mv_bipush (v := 12) d_TrustDesk_near_18 (by decide) ?_
      have := mz_hi k
      refine mv_icmp_ltZ (tgt := 25) (a := k.toInt) (b := 12) d_TrustDesk_near_20 (by decide) rfl (by decide) (fun b8 => ?_) (fun b8 => ?_)
      · refine mv_aload_n d_TrustDesk_near_25 rfl rfl ?_
        refine tr_getK (k := 1) q_Rd d_TrustDesk_near_26 f_TrustDesk_19_12 ?_
        obtain ⟨_, b15, -⟩ := I0.1 _ _ h_Rd
        refine mv_callV (kc' := 2) (ks' := 36) (As := []) (st9 := [.ref Rd]) d_TrustDesk_near_29 lV_TrustDesk_135 b15 rfl (tc_Reader_readNearEnd_x (d := d) (x9 := x9) (o0 := Rd) h_Rd yB I0.start) rfl (Nat.le_of_ble_eq_true rfl) (Nat.le_of_ble_eq_true rfl) (Nat.le_of_ble_eq_true rfl) (hst := rfl) (fun b9r M10 n11 b9 => ?_)
        obtain ⟨T12, J13, b17⟩ := b9
        have I14 := I0.call J13 (tm_sub (by decide)) (Or.inl rfl)
        have t18 := J13.up h_o0
        have B19 : qB M10 Rd pb pn := yB.keep I0.1 J13 (I0.up h_Rd) (by decide) (by decide) (by decide)
        have q20 := J13.keep h_o0 (by decide) q_Rd
        have t21 := J13.up h_Rd
        have q22 := J13.keep h_o0 (by decide) q_Lx
        have t23 := J13.up h_Lx
        have q24 := J13.keepL h_Lx (by decide) yk
        rcases b17 with ⟨rfl, v25, v26, q27, q28, h29, h30, h31⟩ | ⟨a16, rfl, t_a16, v32, v33, q34, q35, h36, h37, h38⟩
        · refine mv_astore_nN (lv' := [(2, .null), (0, .ref o0), (1, .int x1)]) d_TrustDesk_near_32 rfl (by decide) rfl ?_
          refine mv_aload_n d_TrustDesk_near_33 rfl rfl ?_
          refine tr_getK (k := 1) q20 d_TrustDesk_near_34 f_TrustDesk_19_12 ?_
          refine mv_iconst (v := 0) d_TrustDesk_near_37 (by decide) ?_
          refine tr_putK tm_okF I14 t21 (k := 0) rfl ⟨_, rfl⟩ (Or.inl (by decide)) d_TrustDesk_near_38 p_TrustDesk_88_9 rfl rfl (fun M39 I40 q41 K42 => ?_)
          refine mv_aload_nN d_TrustDesk_near_41 rfl rfl ?_
          refine mv_ifnonnullN d_TrustDesk_near_42 ?_
          refine mv_iconst (v := (-1)) d_TrustDesk_near_45 (by decide) ?_
          refine mv_aload_n d_TrustDesk_near_46 rfl rfl ?_
          refine tr_getK (k := 1) (K42 _ 12 1 _ rfl q20) d_TrustDesk_near_47 f_TrustDesk_19_12 ?_
          refine tr_getK (k := 1) (K42 _ 9 1 _ rfl q27) d_TrustDesk_near_50 f_TrustDesk_104_9 ?_
          refine mv_isub d_TrustDesk_near_53 ?_
          have : (((-1) - v25) : Int32).toInt = -1 - v25.toInt := mz_sub2 (by decide) rfl (by have := mz_lo v25; have := mz_hi v25; omega) (by have := mz_lo v25; have := mz_hi v25; omega)
          exact mv_iret d_TrustDesk_near_54 rfl (by first | rfl | decide) ⟨_, I40, _, rfl, Or.inr ⟨by omega, q41, _, _, (K42 _ 9 2 _ rfl q28), (K42 _ 0 2 _ rfl q24), by omega⟩⟩
        · refine mv_astore_n (lv' := [(2, .ref a16), (0, .ref o0), (1, .int x1)]) d_TrustDesk_near_32 rfl (by decide) rfl ?_
          refine mv_aload_n d_TrustDesk_near_33 rfl rfl ?_
          refine tr_getK (k := 1) q20 d_TrustDesk_near_34 f_TrustDesk_19_12 ?_
          refine mv_iconst (v := 0) d_TrustDesk_near_37 (by decide) ?_
          refine tr_putK tm_okF I14 t21 (k := 0) rfl ⟨_, rfl⟩ (Or.inl (by decide)) d_TrustDesk_near_38 p_TrustDesk_88_9 rfl rfl (fun M43 I44 q45 K46 => ?_)
          refine mv_aload_n d_TrustDesk_near_41 rfl rfl ?_
          refine mv_ifnonnull (tgt := 55) d_TrustDesk_near_42 (by decide) ?_
          refine mv_aload_n d_TrustDesk_near_55 rfl rfl ?_
          refine tr_getK (k := 7) (K46 _ 12 7 _ rfl q22) d_TrustDesk_near_56 f_TrustDesk_56_12 ?_
          refine tr_new (kc' := 1) (ks' := 34) tm_okF I44 d_TrustDesk_near_59 n_TrustDesk_139 (Nat.le_of_ble_eq_true rfl) (Nat.le_of_ble_eq_true rfl) (fun T47 M48 I49 t_x50 m51 h52 u53 K54 => ?_)
          have q55 := tm_at.eq (K54 _ _ t18) (K46 _ 12 1 _ rfl q20)
          have t56 := u53 _ _ t21
          have t57 := u53 _ _ t18
          have q58 := tm_at.eq (K54 _ _ t18) (K46 _ 12 7 _ rfl q22)
          have t59 := u53 _ _ t23
          have q60 := tm_at.eq (K54 _ _ t23) (K46 _ 0 2 _ rfl q24)
          have q61 := tm_at.eq (K54 _ _ (I14.up h_Rd)) (K46 _ 9 1 _ rfl q34)
          have q62 := tm_at.eq (K54 _ _ (I14.up h_Rd)) (K46 _ 9 2 _ rfl q35)
          have q63 := tm_at.eq (K54 _ _ t21) q45
          have t64 := u53 _ _ t_a16
          refine mv_dup d_TrustDesk_near_62 rfl ?_
          refine mv_aload_n d_TrustDesk_near_63 rfl rfl ?_
          refine mv_iload_n d_TrustDesk_near_64 rfl rfl ?_
          refine mv_callI (kc' := 1) (ks' := 34) (As := [.ref a16, .int x1]) (st9 := [.int x1, .ref a16, .ref n11, .ref n11, .ref Lx]) d_TrustDesk_near_65 lI_TrustDesk_141 (tc_NearEnd_init (d := (d + 20)) (o0 := n11) (o1 := a16) (x2 := x1) t_x50 t64 m51 I49.start) rfl (Nat.le_of_ble_eq_true rfl) (Nat.le_of_ble_eq_true rfl) (Nat.le_of_ble_eq_true rfl) (hst := rfl) (fun b65r M66 n67 b65 => ?_)
          obtain ⟨T68, J69, rfl, m71⟩ := b65
          have I70 := I49.call J69 (tm_sub (by decide)) (Or.inr h52)
          have t72 := J69.up t_x50
          have t73 := J69.up t64
          have t74 := J69.up t57
          have t75 := J69.up t59
          have q76 := J69.keep t57 (by decide) q55
          have t77 := J69.up t56
          have q78 := J69.keep t57 (by decide) q58
          have q79 := J69.keepL t59 (by decide) q60
          have q80 := J69.keep t56 (by decide) q61
          have q81 := J69.keep t56 (by decide) q62
          have q82 := J69.keep t56 (by decide) q63
          obtain ⟨T83, I84, t_x85, u86⟩ := I70.sealO tm_okF t72 h52 m71 (fun _ z9 => (tm_fs_cons ⟨_, rfl, z9 _ _ t73 (Nat.le_of_ble_eq_true rfl)⟩ (tm_fs_cons ⟨_, rfl⟩ tm_fs_nil)))
          have t87 := u86 _ _ t77 (tm_dif t77 t72 rfl)
          have t88 := u86 _ _ t74 (tm_dif t74 t72 rfl)
          have t89 := u86 _ _ t75 (tm_dif t75 t72 rfl)
          have q90 : tm_at M66 n11 8 0 (.ref a16) := ⟨_, m71, rfl⟩
          have t91 := u86 _ _ t73 (tm_dif t73 t72 rfl)
          have q92 : tm_at M66 n11 8 1 (.int x1) := ⟨_, m71, rfl⟩
          obtain ⟨m94, e95, N96, f97, h93⟩ := tm_lsn I84 t89 q79
          refine mv_callV (kc' := 0) (ks' := 0) (As := [.ref n11]) (st9 := [.ref n11, .ref Lx]) d_TrustDesk_near_68 lV_TrustDesk_107 h93.1 rfl (tc_AL_addT (FT := tm_FT) (W := tm_in [5008]) (x := x9) (d := (d + 15)) tm_okF t89 t_x85 q79 (show _ < (12 : Int) by omega) rfl (C := "TrustDesk$NearEnd") (T9 := kF_NearEnd) (N9 := 2) rfl (mj_in1 (List.mem_of_getElem? (i := 2107) (by decide +kernel)) rfl) (by decide) (by decide) I84.start) rfl (Nat.le_of_ble_eq_true rfl) (Nat.le_of_ble_eq_true rfl) (Nat.le_of_ble_eq_true rfl) (hst := rfl) (fun b98r M99 n100 b98 => ?_)
          obtain ⟨T101, J102, rfl, q104⟩ := b98
          have I103 := I84.call J102 (tm_sub (by decide)) (Or.inl rfl)
          have t105 := J102.up t89
          have t106 := J102.up t91
          have t107 := J102.up t88
          have q108 := J102.keep t88 (by decide) q76
          have t109 := J102.up t87
          have q110 := J102.keep t88 (by decide) q78
          have q111 := J102.keep t87 (by decide) q80
          have q112 := J102.keep t87 (by decide) q81
          have q113 := J102.keep t87 (by decide) q82
          have b114 : (k + 1).toInt = k.toInt + 1 := mz_addn 1 1 (by decide) (by have := mz_lo k; omega) (by omega)
          refine mv_pop d_TrustDesk_near_71 rfl ?_
          refine mv_aload_n d_TrustDesk_near_72 rfl rfl ?_
          refine tr_getK (k := 7) q110 d_TrustDesk_near_73 f_TrustDesk_56_12 ?_
          obtain ⟨m116, e117, N118, f119, h115⟩ := tm_lsn I103 t105 q104
          refine mv_callV_s (kc' := 0) (ks' := 0) [] [.ref Lx] d_TrustDesk_near_76 lV_TrustDesk_97 h115.1 rfl (tc_L_size (d := (d + 21)) h115.1) rfl (Nat.le_of_ble_eq_true rfl) (Nat.le_of_ble_eq_true rfl) (Nat.le_of_ble_eq_true rfl) rfl ?_
          refine mv_iconst (v := 1) d_TrustDesk_near_79 (by decide) ?_
          refine mv_isubv (v := k) d_TrustDesk_near_80 (Int32.add_sub_cancel _ _) ?_
          exact mv_iret d_TrustDesk_near_81 rfl (by first | rfl | decide) ⟨_, I103, _, rfl, Or.inr ⟨by omega, q113, _, _, q112, q104, by omega⟩⟩
      · refine mv_iconst (v := (-1)) d_TrustDesk_near_23 (by decide) ?_
        exact mv_iret d_TrustDesk_near_24 rfl (by first | rfl | decide) ⟨_, I0, _, rfl, Or.inl ⟨by first | decide | omega, by omega, yB, yp, yk⟩⟩
def w_TrustDesk_fund_r : List Nat := [604, 605, 606, 662, 900, 901, 902, 908, 909, 910, 911, 912, 913, 914, 915, 916, 918, 954, 955, 956, 957, 967, 5003, 5006]
set_option maxHeartbeats 100000000 in theorem tc_TrustDesk_fund_r {g : mj_G} {l : Launch} {d : Nat} {T0 : tm_H} {M0 : mj_M} {n0 x9 : Nat} {o0 : Nat} {x1 : Int32} {x2 : Int32} (h_o0 : T0 o0 = some (0, 12, 0)) {Lf : Nat} (h_Lf : T0 Lf = some (3, 6, o0)) (q_Lf : tm_at M0 o0 12 6 (.ref Lf)) {Rd : Nat} {k vp0 : Int32} {pb : Nat → Int} {pn : Nat} (h_Rd : T0 Rd = some (0, 9, 0)) (q_Rd : tm_at M0 o0 12 1 (.ref Rd)) (yB : qB M0 Rd pb pn) (yp : tm_at M0 Rd 9 2 (.int vp0)) (yk : tm_at M0 Lf 0 2 (.int k)) (I0 : tm_I tm_FT (tm_in w_TrustDesk_fund_r) x9 T0 M0 n0 T0 M0 n0) : mj_Met g l kY_TrustDesk_fund (d + 23) [.ref o0, .int x1, .int x2] M0 n0 104 13845 (tm_Q tm_FT (tm_in w_TrustDesk_fund_r) x9 T0 M0 n0 (fun r T M => ∃ v : Int32, r = some (.int v) ∧ tm_FS T0 M0 n0 T M Lf ∧ ((v.toInt = -1 ∧ ¬ (0 ≤ x1.toInt ∧ x1.toInt ≤ 999 ∧ 0 ≤ x2.toInt ∧ x2.toInt ≤ 99999 ∧ k.toInt < 12) ∧ qB M Rd pb pn ∧ tm_at M Rd 9 2 (.int vp0) ∧ tm_at M Lf 0 2 (.int k)) ∨ ((0 ≤ x1.toInt ∧ x1.toInt ≤ 999 ∧ 0 ≤ x2.toInt ∧ x2.toInt ≤ 99999 ∧ k.toInt < 12) ∧ tm_at M Rd 9 0 (.int 0) ∧ ∃ vp k1 : Int32, tm_at M Rd 9 2 (.int vp) ∧ tm_at M Lf 0 2 (.int k1) ∧ ((p_dee pb pn).2.2.1 = 0 ∧ v.toInt = k.toInt ∧ vp.toInt = -1 ∧ k1.toInt = k.toInt + 1 ∨ (p_dee pb pn).2.2.1 ≠ 0 ∧ v.toInt = -1 - (p_dee pb pn).2.2.1 ∧ vp.toInt = ((p_dee pb pn).2.2.2.1 : Int) ∧ k1.toInt = k.toInt))))) := by
  refine mj_enter (by decide) (Nat.le_of_ble_eq_true rfl) ?_
  have K0L : ∀ (a o : Nat) (w : Value), T0 a = some (3, 3, o) → o < n0 → tm_at M0 a 0 2 w → tm_at M0 a 0 2 w := fun a o w h hx q => q
  have K0J : ∀ (a : Nat) (w : Value), T0 a = some (0, 6, 0) → tm_at M0 a 6 8 w → tm_at M0 a 6 8 w := fun a w h q => q
  have K0G : ∀ (i b : Nat), tm_ge M0 Lf i b → tm_ge M0 Lf i b := fun i b q => q
  have K0S : ∀ (w : Value), tm_at M0 Lf 0 2 w → tm_at M0 Lf 0 2 w := fun w q => q
  obtain ⟨_, _, _, _, zz1⟩ := tm_lsn I0 h_Lf yk
  have yp1 := zz1.2.1
  refine mv_iload_n d_TrustDesk_fund_0 rfl rfl ?_
  have := mz_hi x1
  refine mv_if_ltZ (tgt := 33) (a := x1.toInt) d_TrustDesk_fund_1 (by decide) rfl (fun b1 => ?_) (fun b1 => ?_)
  · refine mv_iconst (v := (-1)) d_TrustDesk_fund_33 (by decide) ?_
    exact mv_iret d_TrustDesk_fund_34 rfl (by first | rfl | decide) ⟨_, I0, _, rfl, ⟨K0L, K0J, K0G, Or.inl K0S⟩, Or.inl ⟨by first | decide | omega, by omega, yB, yp, yk⟩⟩
  · refine mv_iload_n d_TrustDesk_fund_4 rfl rfl ?_
    refine mv_sipush (v := 999) d_TrustDesk_fund_5 (by decide) ?_
    have := mz_hi x1
    refine mv_icmp_gtZ (tgt := 33) (a := x1.toInt) (b := 999) d_TrustDesk_fund_8 (by decide) rfl (by decide) (fun b2 => ?_) (fun b2 => ?_)
    · refine mv_iconst (v := (-1)) d_TrustDesk_fund_33 (by decide) ?_
      exact mv_iret d_TrustDesk_fund_34 rfl (by first | rfl | decide) ⟨_, I0, _, rfl, ⟨K0L, K0J, K0G, Or.inl K0S⟩, Or.inl ⟨by first | decide | omega, by omega, yB, yp, yk⟩⟩
    · refine mv_iload_n d_TrustDesk_fund_11 rfl rfl ?_
      have := mz_hi x2
      refine mv_if_ltZ (tgt := 33) (a := x2.toInt) d_TrustDesk_fund_12 (by decide) rfl (fun b3 => ?_) (fun b3 => ?_)
      · refine mv_iconst (v := (-1)) d_TrustDesk_fund_33 (by decide) ?_
        exact mv_iret d_TrustDesk_fund_34 rfl (by first | rfl | decide) ⟨_, I0, _, rfl, ⟨K0L, K0J, K0G, Or.inl K0S⟩, Or.inl ⟨by first | decide | omega, by omega, yB, yp, yk⟩⟩
      · refine mv_iload_n d_TrustDesk_fund_15 rfl rfl ?_
        refine mv_ldc d_TrustDesk_fund_16 k_TrustDesk_122 ?_
        have := mz_hi x2
        refine mv_icmp_gtZ (tgt := 33) (a := x2.toInt) (b := 99999) d_TrustDesk_fund_18 (by decide) rfl (by decide) (fun b4 => ?_) (fun b4 => ?_)
        · refine mv_iconst (v := (-1)) d_TrustDesk_fund_33 (by decide) ?_
          exact mv_iret d_TrustDesk_fund_34 rfl (by first | rfl | decide) ⟨_, I0, _, rfl, ⟨K0L, K0J, K0G, Or.inl K0S⟩, Or.inl ⟨by first | decide | omega, by omega, yB, yp, yk⟩⟩
        · refine mv_aload_n d_TrustDesk_fund_21 rfl rfl ?_
          refine tr_getK (k := 6) q_Lf d_TrustDesk_fund_22 f_TrustDesk_53_12 ?_
          obtain ⟨m6, e7, N8, f9, h5⟩ := tm_lsn I0 h_Lf yk
          refine mv_callV_s (kc' := 104) (ks' := 13845) [] [.ref Lf] d_TrustDesk_fund_25 lV_TrustDesk_97 h5.1 rfl (tc_L_size (d := (d + 22)) h5.1) rfl (Nat.le_of_ble_eq_true rfl) (Nat.le_of_ble_eq_true rfl) (Nat.le_of_ble_eq_true rfl) rfl ?_
          refine mv_bipush (v := 12) d_TrustDesk_fund_28 (by decide) ?_
          have := mz_hi k
          refine mv_icmp_ltZ (tgt := 35) (a := k.toInt) (b := 12) d_TrustDesk_fund_30 (by decide) rfl (by decide) (fun b10 => ?_) (fun b10 => ?_)
          · refine tr_new (kc' := 103) (ks' := 13830) tm_okF I0 d_TrustDesk_fund_35 n_TrustDesk_123 (Nat.le_of_ble_eq_true rfl) (Nat.le_of_ble_eq_true rfl) (fun T11 M12 I13 t_x14 m15 h16 u17 K18 => ?_)
            have K19 : ∀ (a o : Nat) (w : Value), T0 a = some (3, 3, o) → o < n0 → tm_at M0 a 0 2 w → tm_at M12 a 0 2 w := fun a o w h hx q => tm_at.eq (K18 _ _ (I0.up h)) (K0L a o w h hx q)
            have K20 : ∀ (a : Nat) (w : Value), T0 a = some (0, 6, 0) → tm_at M0 a 6 8 w → tm_at M12 a 6 8 w := fun a w h q => tm_at.eq (K18 _ _ (I0.up h)) (K0J a w h q)
            have K21 : ∀ (i b : Nat), tm_ge M0 Lf i b → tm_ge M12 Lf i b := fun i b q => tm_ge.mono I0.1 (I0.up h_Lf) (K18 _ _ (I0.up h_Lf)) (fun e te => K18 _ _ te) (K0G i b q)
            have K22 : ∀ (w : Value), tm_at M0 Lf 0 2 w → tm_at M12 Lf 0 2 w := fun w q => tm_at.eq (K18 _ _ (I0.up h_Lf)) (K0S w q)
            have B23 : qB M12 Rd pb pn := yB.made I0.1 (I0.up h_Rd) K18
            have q24 := tm_at.eq (K18 _ _ h_o0) q_Lf
            have t25 := u17 _ _ h_Lf
            have t26 := u17 _ _ h_o0
            have q27 := tm_at.eq (K18 _ _ h_o0) q_Rd
            have t28 := u17 _ _ h_Rd
            have q29 := tm_at.eq (K18 _ _ h_Lf) yk
            have q30 := tm_at.eq (K18 _ _ h_Rd) yp
            refine mv_dup d_TrustDesk_fund_38 rfl ?_
            refine mv_aload_n d_TrustDesk_fund_39 rfl rfl ?_
            refine tr_getK (k := 6) q24 d_TrustDesk_fund_40 f_TrustDesk_53_12 ?_
            obtain ⟨m32, e33, N34, f35, h31⟩ := tm_lsn I13 t25 q29
            refine mv_callV_s (kc' := 103) (ks' := 13830) [] [.ref Lf, .ref n0, .ref n0] d_TrustDesk_fund_43 lV_TrustDesk_97 h31.1 rfl (tc_L_size (d := (d + 22)) h31.1) rfl (Nat.le_of_ble_eq_true rfl) (Nat.le_of_ble_eq_true rfl) (Nat.le_of_ble_eq_true rfl) rfl ?_
            refine mv_iload_n d_TrustDesk_fund_46 rfl rfl ?_
            refine mv_iload_n d_TrustDesk_fund_47 rfl rfl ?_
            refine mv_callI (kc' := 99) (ks' := 13614) (As := [.int k, .int x1, .int x2]) (st9 := [.int x2, .int x1, .int k, .ref n0, .ref n0]) d_TrustDesk_fund_48 lI_TrustDesk_125 (tc_Fund_init_x (d := (d + 18)) (o0 := n0) (x1 := k) (x2 := x1) (x3 := x2) t_x14 m15 I13.start) rfl (Nat.le_of_ble_eq_true rfl) (Nat.le_of_ble_eq_true rfl) (Nat.le_of_ble_eq_true rfl) (hst := rfl) (fun b36r M37 n38 b36 => ?_)
            obtain ⟨T39, J40, rfl, a42, a43, a44, a45, m46, t_a42, t_a43, t_a44, t_a45, z47⟩ := b36
            have I41 := I13.call J40 (tm_sub (by decide)) (Or.inr h16)
            have t48 := J40.up t_x14
            have t49 := J40.up t26
            have K50 : ∀ (a o : Nat) (w : Value), T0 a = some (3, 3, o) → o < n0 → tm_at M0 a 0 2 w → tm_at M37 a 0 2 w := fun a o w h hx q => J40.keepL (I13.up h) (by decide) (K19 a o w h hx q)
            have K51 : ∀ (a : Nat) (w : Value), T0 a = some (0, 6, 0) → tm_at M0 a 6 8 w → tm_at M37 a 6 8 w := fun a w h q => J40.keep (I13.up h) (by decide) (K20 a w h q)
            have K52 : ∀ (i b : Nat), tm_ge M0 Lf i b → tm_ge M37 Lf i b := fun i b q => tm_I.keepG I13.1 J40 (I13.up h_Lf) (by decide) (K21 i b q)
            have K53 : ∀ (w : Value), tm_at M0 Lf 0 2 w → tm_at M37 Lf 0 2 w := fun w q => J40.keepL (I13.up h_Lf) (by decide) (K22 w q)
            have B54 : qB M37 Rd pb pn := B23.keep I13.1 J40 (I13.up h_Rd) (by decide) (by decide) (by decide)
            have q55 := J40.keep t26 (by decide) q24
            have t56 := J40.up t25
            have q57 := J40.keep t26 (by decide) q27
            have t58 := J40.up t28
            have q59 := J40.keepL t25 (by decide) q29
            have q60 := J40.keep t28 (by decide) q30
            obtain ⟨T61, I62, t_x63, u64⟩ := I41.sealO tm_okF t48 h16 m46 (fun _ z9 => (tm_fs_cons ⟨_, rfl⟩ (tm_fs_cons ⟨_, rfl⟩ (tm_fs_cons ⟨_, rfl⟩ (tm_fs_cons ⟨_, rfl⟩ (tm_fs_cons ⟨_, rfl⟩ (tm_fs_cons ⟨_, rfl⟩ (tm_fs_cons ⟨_, rfl⟩ (tm_fs_cons ⟨_, rfl⟩ (tm_fs_cons ⟨_, rfl⟩ (tm_fs_cons ⟨_, rfl⟩ (tm_fs_cons ⟨_, rfl⟩ (tm_fs_cons ⟨_, rfl, z9 _ _ t_a42 (Nat.le_of_ble_eq_true rfl)⟩ (tm_fs_cons ⟨_, rfl, z9 _ _ t_a43 (Nat.le_of_ble_eq_true rfl)⟩ (tm_fs_cons ⟨_, rfl, z9 _ _ t_a44 (Nat.le_of_ble_eq_true rfl)⟩ (tm_fs_cons ⟨_, rfl, z9 _ _ t_a45 (Nat.le_of_ble_eq_true rfl)⟩ tm_fs_nil))))))))))))))))
            have t65 := u64 _ _ t56 (tm_dif t56 t48 rfl)
            have t66 := u64 _ _ t49 (tm_dif t49 t48 rfl)
            have t67 := u64 _ _ t58 (tm_dif t58 t48 rfl)
            have t68 := u64 _ _ t_a42 (tm_dif t_a42 t48 rfl)
            have q69 : tm_at M37 n0 6 0 (.int k) := ⟨_, m46, rfl⟩
            have q70 : tm_at M37 n0 6 1 (.int x1) := ⟨_, m46, rfl⟩
            have q71 : tm_at M37 n0 6 2 (.int x2) := ⟨_, m46, rfl⟩
            have q72 : tm_at M37 n0 6 3 (.long 0) := ⟨_, m46, rfl⟩
            have q73 : tm_at M37 n0 6 4 (.int 0) := ⟨_, m46, rfl⟩
            have q74 : tm_at M37 n0 6 5 (.int 7) := ⟨_, m46, rfl⟩
            have q75 : tm_at M37 n0 6 6 (.int 1) := ⟨_, m46, rfl⟩
            have q76 : tm_at M37 n0 6 7 (.int 0) := ⟨_, m46, rfl⟩
            have q77 : tm_at M37 n0 6 8 (.int (-1)) := ⟨_, m46, rfl⟩
            have q78 : tm_at M37 n0 6 9 (.int 0) := ⟨_, m46, rfl⟩
            have q79 : tm_at M37 n0 6 10 (.long 0) := ⟨_, m46, rfl⟩
            have q80 : tm_at M37 n0 6 11 (.ref a42) := ⟨_, m46, rfl⟩
            have q81 : tm_at M37 n0 6 12 (.ref a43) := ⟨_, m46, rfl⟩
            have t82 := u64 _ _ t_a43 (tm_dif t_a43 t48 rfl)
            have q83 : tm_at M37 n0 6 13 (.ref a44) := ⟨_, m46, rfl⟩
            have t84 := u64 _ _ t_a44 (tm_dif t_a44 t48 rfl)
            have q85 : tm_at M37 n0 6 14 (.ref a45) := ⟨_, m46, rfl⟩
            have t86 := u64 _ _ t_a45 (tm_dif t_a45 t48 rfl)
            refine mv_astore_n (lv' := [(3, .ref n0), (0, .ref o0), (1, .int x1), (2, .int x2)]) d_TrustDesk_fund_51 rfl (by decide) rfl ?_
            refine mv_aload_n d_TrustDesk_fund_52 rfl rfl ?_
            refine tr_getK (k := 1) q57 d_TrustDesk_fund_53 f_TrustDesk_19_12 ?_
            refine mv_aload_n d_TrustDesk_fund_56 rfl rfl ?_
            obtain ⟨_, b93, -⟩ := I62.1 _ _ t67
            refine mv_callV (kc' := 1) (ks' := 34) (As := [.ref n0]) (st9 := [.ref n0, .ref Rd]) d_TrustDesk_fund_57 lV_TrustDesk_128 b93 rfl (tc_Reader_readDeed_r (d := d) (x9 := x9) (o0 := Rd) (o1 := n0) t67 t_x63 B54 t68 q80 z47 (by first | omega | decide) (qE.nil z47) I62.start) rfl (Nat.le_of_ble_eq_true rfl) (Nat.le_of_ble_eq_true rfl) (Nat.le_of_ble_eq_true rfl) (hst := rfl) (fun b87r M88 n89 b87 => ?_)
            obtain ⟨T90, J91, v94, rfl, b95, b96, ⟨s97, z98, h99⟩, K100, f101⟩ := b87
            have I92 := I62.call J91 (tm_sub (by decide)) (Or.inl rfl)
            have t102 := J91.up t_x63
            have t103 := J91.up t66
            have K104 : ∀ (a o : Nat) (w : Value), T0 a = some (3, 3, o) → o < n0 → tm_at M0 a 0 2 w → tm_at M88 a 0 2 w := fun a o w h hx q => K100 _ _ _ (I62.up h) (Nat.ne_of_lt (Nat.lt_of_lt_of_le hx h16)) (K50 a o w h hx q)
            have K105 : ∀ (a : Nat) (w : Value), T0 a = some (0, 6, 0) → tm_at M0 a 6 8 w → tm_at M88 a 6 8 w := fun a w h q => J91.keep (I62.up h) (by decide) (K51 a w h q)
            have K106 : ∀ (i b : Nat), tm_ge M0 Lf i b → tm_ge M88 Lf i b := fun i b q => tm_I.keepG I62.1 J91 (I62.up h_Lf) (by decide) (K52 i b q)
            have K107 : ∀ (w : Value), tm_at M0 Lf 0 2 w → tm_at M88 Lf 0 2 w := fun w q => J91.keepL (I62.up h_Lf) (by decide) (K53 w q)
            have B108 : qB M88 Rd pb pn := B54.keep I62.1 J91 (I62.up h_Rd) (by decide) (by decide) (by decide)
            have q109 := J91.keep t66 (by decide) q55
            have t110 := J91.up t65
            have q111 := J91.keep t66 (by decide) q57
            have t112 := J91.up t67
            have q113 := J91.keepL t65 (by decide) q59
            have q114 := J91.keep t_x63 (by decide) q69
            have q115 := J91.keep t_x63 (by decide) q70
            have q116 := J91.keep t_x63 (by decide) q71
            have q117 := J91.keep t_x63 (by decide) q72
            have q118 := J91.keep t_x63 (by decide) q76
            have q119 := J91.keep t_x63 (by decide) q77
            have q120 := J91.keep t_x63 (by decide) q78
            have q121 := J91.keep t_x63 (by decide) q79
            have q122 := J91.keep t_x63 (by decide) q80
            have t123 := J91.up t68
            have q124 := J91.keep t_x63 (by decide) q81
            have t125 := J91.up t82
            have q126 := J91.keep t_x63 (by decide) q83
            have t127 := J91.up t84
            have q128 := J91.keep t_x63 (by decide) q85
            have t129 := J91.up t86
            obtain ⟨v130, v131, q133, q134, h136, h137⟩ := f101
            refine mv_istore (lv' := [(4, .int v94), (3, .ref n0), (0, .ref o0), (1, .int x1), (2, .int x2)]) d_TrustDesk_fund_60 (by decide) rfl ?_
            refine mv_aload_n d_TrustDesk_fund_62 rfl rfl ?_
            refine tr_getK (k := 1) q111 d_TrustDesk_fund_63 f_TrustDesk_19_12 ?_
            refine mv_iconst (v := 0) d_TrustDesk_fund_66 (by decide) ?_
            refine tr_putKM tm_okF I92 t112 (k := 0) rfl ⟨_, rfl⟩ (Or.inl (by decide)) d_TrustDesk_fund_67 p_TrustDesk_88_9 rfl rfl (fun M138 I139 q140 K141 K141M => ?_)
            have K142 : ∀ (a o : Nat) (w : Value), T0 a = some (3, 3, o) → o < n0 → tm_at M0 a 0 2 w → tm_at M138 a 0 2 w := fun a o w h hx q => K141 _ 0 2 _ rfl (K104 a o w h hx q)
            have K143 : ∀ (a : Nat) (w : Value), T0 a = some (0, 6, 0) → tm_at M0 a 6 8 w → tm_at M138 a 6 8 w := fun a w h q => K141 _ 6 8 _ rfl (K105 a w h q)
            have K144 : ∀ (i b : Nat), tm_ge M0 Lf i b → tm_ge M138 Lf i b := fun i b q => tm_ge.put I92.1 (I92.up h_Lf) t112 (by decide) K141M (K106 i b q)
            have K145 : ∀ (w : Value), tm_at M0 Lf 0 2 w → tm_at M138 Lf 0 2 w := fun w q => K141 _ 0 2 _ rfl (K107 w q)
            refine mv_iload d_TrustDesk_fund_70 rfl ?_
            have := mz_hi v94
            refine mv_if_neZ (tgt := 85) (a := v94.toInt) d_TrustDesk_fund_72 (by decide) rfl (fun b146 => ?_) (fun b146 => ?_)
            · refine mv_aload_n d_TrustDesk_fund_85 rfl rfl ?_
              refine tr_getK (k := 6) (K141 _ 12 6 _ rfl q109) d_TrustDesk_fund_86 f_TrustDesk_53_12 ?_
              refine mv_aload_n d_TrustDesk_fund_89 rfl rfl ?_
              have : tm_mx 6 = 12 := rfl
              obtain ⟨m148, e149, N150, f151, h147⟩ := tm_lsn I139 t110 (K141 _ 0 2 _ rfl q113)
              refine mv_callV (kc' := 0) (ks' := 0) (As := [.ref n0]) (st9 := [.ref n0, .ref Lf]) d_TrustDesk_fund_90 lV_TrustDesk_107 h147.1 rfl (tc_AL_addK (FT := tm_FT) (W := tm_in [5006]) (x := x9) (d := (d + 16)) tm_okF t110 t102 (K141 _ 0 2 _ rfl q113) (show _ < (12 : Int) by omega) rfl (C := "TrustDesk$Fund") (T9 := kF_Fund) (N9 := 15) rfl (mj_in1 (List.mem_of_getElem? (i := 2104) (by decide +kernel)) rfl) (by decide) (by decide) I139.start) rfl (Nat.le_of_ble_eq_true rfl) (Nat.le_of_ble_eq_true rfl) (Nat.le_of_ble_eq_true rfl) (hst := rfl) (fun b152r M153 n154 b152 => ?_)
              obtain ⟨T155, J156, rfl, q158, K159, K160, g161⟩ := b152
              have I157 := I139.call J156 (tm_sub (by decide)) (Or.inl rfl)
              have t162 := J156.up t110
              have t163 := J156.up t102
              have t164 := J156.up t103
              have q165 := J156.keep t103 (by decide) (K141 _ 12 6 _ rfl q109)
              have q166 := J156.keep t103 (by decide) (K141 _ 12 1 _ rfl q111)
              have t167 := J156.up t112
              have q168 := J156.keep t102 (by decide) (K141 _ 6 0 _ rfl q114)
              have q169 := J156.keep t102 (by decide) (K141 _ 6 1 _ rfl q115)
              have q170 := J156.keep t102 (by decide) (K141 _ 6 2 _ rfl q116)
              have q171 := J156.keep t102 (by decide) (K141 _ 6 3 _ rfl q117)
              have q172 := J156.keep t102 (by decide) (K141 _ 6 7 _ rfl q118)
              have q173 := J156.keep t102 (by decide) (K141 _ 6 8 _ rfl q119)
              have q174 := J156.keep t102 (by decide) (K141 _ 6 9 _ rfl q120)
              have q175 := J156.keep t102 (by decide) (K141 _ 6 10 _ rfl q121)
              have q176 := J156.keep t102 (by decide) (K141 _ 6 11 _ rfl q122)
              have t177 := J156.up t123
              have q178 := J156.keep t102 (by decide) (K141 _ 6 12 _ rfl q124)
              have t179 := J156.up t125
              have q180 := J156.keep t102 (by decide) (K141 _ 6 13 _ rfl q126)
              have t181 := J156.up t127
              have q182 := J156.keep t102 (by decide) (K141 _ 6 14 _ rfl q128)
              have t183 := J156.up t129
              have q184 := J156.keepL t123 (by decide) (K141 _ 0 2 _ rfl z98)
              have q185 := J156.keep (I92.up h_Rd) (by decide) (K141 _ 9 1 _ rfl q133)
              have q186 := J156.keep (I92.up h_Rd) (by decide) (K141 _ 9 2 _ rfl q134)
              have q187 := J156.keep t112 (by decide) q140
              have K188 : ∀ (a o : Nat) (w : Value), T0 a = some (3, 3, o) → o < n0 → tm_at M0 a 0 2 w → tm_at M153 a 0 2 w := fun a o w h hx q => tm_at.eq (K159 _ _ _ (tm_lnc (I139.up h) t110 (by decide)) (I139.up h)) (K142 a o w h hx q)
              have K189 : ∀ (a : Nat) (w : Value), T0 a = some (0, 6, 0) → tm_at M0 a 6 8 w → tm_at M153 a 6 8 w := fun a w h q => J156.keep (I139.up h) (by decide) (K143 a w h q)
              have K190 : ∀ (i b : Nat), tm_ge M0 Lf i b → tm_ge M153 Lf i b := fun i b q => K160 _ _ (K144 i b q)
              have b191 : (k + 1).toInt = k.toInt + 1 := mz_addn 1 1 (by decide) (by have := mz_lo k; omega) (by omega)
              refine mv_pop d_TrustDesk_fund_93 rfl ?_
              refine mv_aload_n d_TrustDesk_fund_94 rfl rfl ?_
              refine tr_getK (k := 0) q168 d_TrustDesk_fund_95 f_TrustDesk_132_6 ?_
              exact mv_iret d_TrustDesk_fund_98 rfl (by first | rfl | decide) ⟨_, I157, _, rfl, ⟨K188, K189, K190, Or.inr ⟨n0, a42, k, s97, k, yk, q158, g161, q168, by omega, q176, t177, q184, by omega, h16⟩⟩, Or.inr ⟨by omega, q187, _, _, q186, q158, by omega⟩⟩
            · refine mv_iconst (v := (-1)) d_TrustDesk_fund_75 (by decide) ?_
              refine mv_aload_n d_TrustDesk_fund_76 rfl rfl ?_
              refine tr_getK (k := 1) (K141 _ 12 1 _ rfl q111) d_TrustDesk_fund_77 f_TrustDesk_19_12 ?_
              refine tr_getK (k := 1) (K141 _ 9 1 _ rfl q133) d_TrustDesk_fund_80 f_TrustDesk_104_9 ?_
              refine mv_isub d_TrustDesk_fund_83 ?_
              have : (((-1) - v130) : Int32).toInt = -1 - v130.toInt := mz_sub2 (by decide) rfl (by have := mz_lo v130; have := mz_hi v130; omega) (by have := mz_lo v130; have := mz_hi v130; omega)
              exact mv_iret d_TrustDesk_fund_84 rfl (by first | rfl | decide) ⟨_, I139, _, rfl, ⟨K142, K143, K144, Or.inl K145⟩, Or.inr ⟨by omega, q140, _, _, (K141 _ 9 2 _ rfl q134), (K141 _ 0 2 _ rfl q113), by omega⟩⟩
          · refine mv_iconst (v := (-1)) d_TrustDesk_fund_33 (by decide) ?_
            exact mv_iret d_TrustDesk_fund_34 rfl (by first | rfl | decide) ⟨_, I0, _, rfl, ⟨K0L, K0J, K0G, Or.inl K0S⟩, Or.inl ⟨by first | decide | omega, by omega, yB, yp, yk⟩⟩
def w_Reader_takeFour_r : List Nat := [900, 953]
set_option maxHeartbeats 100000000 in theorem tc_Reader_takeFour_r {g : mj_G} {l : Launch} {d : Nat} {T0 : tm_H} {M0 : mj_M} {n0 x9 : Nat} {o0 : Nat} {x1 : Int32} (h_o0 : T0 o0 = some (0, 9, 0)) {pb : Nat → Int} {pn : Nat} (yB : qB M0 o0 pb pn) (yn : pn ≤ 396) (I0 : tm_I tm_FT (tm_in w_Reader_takeFour_r) x9 T0 M0 n0 T0 M0 n0) : mj_Met g l kY_Reader_takeFour d [.ref o0, .int x1] M0 n0 0 0 (tm_Q tm_FT (tm_in w_Reader_takeFour_r) x9 T0 M0 n0 (fun r _ M => r = none ∧ (qB M o0 (p_f4 pb pn x1.toInt) (pn + 4)))) := by
  refine mj_enter (by decide) (Nat.le_of_ble_eq_true rfl) ?_
  obtain ⟨z0, yz0⟩ := tm_atI I0 h_o0 (k := 0) rfl
  have := tm_rv yz0
  have := yB.1
  refine mv_bipush (v := 24) d_Reader_takeFour_0 (by decide) ?_
  refine mv_istore_n (lv' := [(2, .int 24), (0, .ref o0), (1, .int x1)]) d_Reader_takeFour_2 rfl (by decide) rfl ?_
  refine mv_iload_n d_Reader_takeFour_3 rfl rfl ?_
  refine mv_if_lt_f (tgt := 56) d_Reader_takeFour_4 (by decide) (by decide) ?_
  refine mv_aload_n d_Reader_takeFour_7 rfl rfl ?_
  refine tr_getK (k := 0) yz0 d_Reader_takeFour_8 f_Reader_34_9 ?_
  have := mz_hi z0
  refine mv_if_ltZ (tgt := 50) (a := z0.toInt) d_Reader_takeFour_11 (by decide) rfl (fun b1 => absurd b1 (by omega)) (fun b1 => ?_)
  refine mv_aload_n d_Reader_takeFour_14 rfl rfl ?_
  refine tr_getK (k := 0) yz0 d_Reader_takeFour_15 f_Reader_34_9 ?_
  refine mv_sipush (v := 400) d_Reader_takeFour_18 (by decide) ?_
  have := mz_hi z0
  refine mv_icmp_geZ (tgt := 50) (a := z0.toInt) (b := 400) d_Reader_takeFour_21 (by decide) rfl (by decide) (fun b2 => absurd b2 (by omega)) (fun b2 => ?_)
  refine mv_aload_n d_Reader_takeFour_24 rfl rfl ?_
  obtain ⟨a4, q3, t_a4⟩ := tm_atR I0 h_o0 (k := 3) rfl
  refine tr_getK q3 d_Reader_takeFour_25 f_Reader_15_9 ?_
  refine mv_aload_n d_Reader_takeFour_28 rfl rfl ?_
  refine tr_getK (k := 0) yz0 d_Reader_takeFour_29 f_Reader_34_9 ?_
  refine mv_iload_n d_Reader_takeFour_32 rfl rfl ?_
  refine mv_iload_n d_Reader_takeFour_33 rfl rfl ?_
  refine mv_iushr (v := (x1.toUInt32 >>> ((24 : Int32).toUInt32 &&& Int32.toUInt32 31)).toInt32) d_Reader_takeFour_34 rfl ?_
  refine mv_sipush (v := 255) d_Reader_takeFour_35 (by decide) ?_
  have := mz_ub24 x1
  refine mv_iand d_Reader_takeFour_38 ?_
  refine tr_iast9 (o := o0) (k := 3) I0 (I0.up h_o0) rfl q3 t_a4 (by decide) (Or.inl (by decide)) d_Reader_takeFour_39 (vp_in_iff.mpr (by omega)) (fun M5 I6 K7 E8 A9 => ?_)
  refine mv_aload_n d_Reader_takeFour_40 rfl rfl ?_
  refine mv_dup d_Reader_takeFour_41 rfl ?_
  refine tr_getK (k := 0) (K7 _ 9 0 _ yz0) d_Reader_takeFour_42 f_Reader_34_9 ?_
  refine mv_iconst (v := 1) d_Reader_takeFour_45 (by decide) ?_
  refine mv_iadd d_Reader_takeFour_46 ?_
  obtain ⟨w10, h11, b12⟩ : ∃ w9 : Int32, (z0 + 1) = w9 ∧ w9.toInt = z0.toInt + 1 := ⟨_, rfl, mz_add2 rfl (by decide) (by omega) (by omega)⟩
  rw [h11]
  refine tr_putKM tm_okF I6 h_o0 (k := 0) rfl ⟨_, rfl⟩ (Or.inl (by decide)) d_Reader_takeFour_47 p_Reader_34_9 rfl rfl (fun M13 I14 q15 K16 K16M => ?_)
  have B17 : qB M13 o0 (p_u pb pn (x1.toInt / 16777216 % 256)) (pn + 1) := yB.put (u := (x1.toInt / 16777216 % 256)) (m := z0.toNatClampNeg) (fun j => (E8 j).trans (by rw [show (((x1.toUInt32 >>> ((24 : Int32).toUInt32 &&& Int32.toUInt32 31)).toInt32) &&& 255).toInt = (x1.toInt / 16777216 % 256) from by omega])) (fun j => ra_put9 I6 h_o0 rfl (by decide) K16 K16M j) ((tm_rv q15).trans (by omega)) (by have := mz_nat9 (i := z0) (by omega); omega) (by omega) (by omega)
  refine mv_iinc (v := 16) (lv' := [(2, .int 16), (0, .ref o0), (1, .int x1)]) d_Reader_takeFour_50 rfl (by decide) (by decide) rfl ?_
  refine mv_goto (tgt := 3) d_Reader_takeFour_53 (by decide) ?_
  refine mv_iload_n d_Reader_takeFour_3 rfl rfl ?_
  refine mv_if_lt_f (tgt := 56) d_Reader_takeFour_4 (by decide) (by decide) ?_
  refine mv_aload_n d_Reader_takeFour_7 rfl rfl ?_
  refine tr_getK (k := 0) q15 d_Reader_takeFour_8 f_Reader_34_9 ?_
  have := mz_hi w10
  refine mv_if_ltZ (tgt := 50) (a := w10.toInt) d_Reader_takeFour_11 (by decide) rfl (fun b18 => absurd b18 (by omega)) (fun b18 => ?_)
  refine mv_aload_n d_Reader_takeFour_14 rfl rfl ?_
  refine tr_getK (k := 0) q15 d_Reader_takeFour_15 f_Reader_34_9 ?_
  refine mv_sipush (v := 400) d_Reader_takeFour_18 (by decide) ?_
  have := mz_hi w10
  refine mv_icmp_geZ (tgt := 50) (a := w10.toInt) (b := 400) d_Reader_takeFour_21 (by decide) rfl (by decide) (fun b19 => absurd b19 (by omega)) (fun b19 => ?_)
  refine mv_aload_n d_Reader_takeFour_24 rfl rfl ?_
  refine tr_getK (k := 3) (K16 _ 9 3 _ rfl (K7 _ 9 3 _ q3)) d_Reader_takeFour_25 f_Reader_15_9 ?_
  refine mv_aload_n d_Reader_takeFour_28 rfl rfl ?_
  refine tr_getK (k := 0) q15 d_Reader_takeFour_29 f_Reader_34_9 ?_
  refine mv_iload_n d_Reader_takeFour_32 rfl rfl ?_
  refine mv_iload_n d_Reader_takeFour_33 rfl rfl ?_
  refine mv_iushr (v := (x1.toUInt32 >>> ((16 : Int32).toUInt32 &&& Int32.toUInt32 31)).toInt32) d_Reader_takeFour_34 rfl ?_
  refine mv_sipush (v := 255) d_Reader_takeFour_35 (by decide) ?_
  have := mz_ub16 x1
  refine mv_iand d_Reader_takeFour_38 ?_
  refine tr_iast9 (o := o0) (k := 3) I14 (I14.up h_o0) rfl (K16 _ 9 3 _ rfl (K7 _ 9 3 _ q3)) t_a4 (by decide) (Or.inl (by decide)) d_Reader_takeFour_39 (vp_in_iff.mpr (by omega)) (fun M20 I21 K22 E23 A24 => ?_)
  refine mv_aload_n d_Reader_takeFour_40 rfl rfl ?_
  refine mv_dup d_Reader_takeFour_41 rfl ?_
  refine tr_getK (k := 0) (K22 _ 9 0 _ q15) d_Reader_takeFour_42 f_Reader_34_9 ?_
  refine mv_iconst (v := 1) d_Reader_takeFour_45 (by decide) ?_
  refine mv_iadd d_Reader_takeFour_46 ?_
  obtain ⟨w25, h26, b27⟩ : ∃ w9 : Int32, (w10 + 1) = w9 ∧ w9.toInt = w10.toInt + 1 := ⟨_, rfl, mz_add2 rfl (by decide) (by omega) (by omega)⟩
  rw [h26]
  refine tr_putKM tm_okF I21 h_o0 (k := 0) rfl ⟨_, rfl⟩ (Or.inl (by decide)) d_Reader_takeFour_47 p_Reader_34_9 rfl rfl (fun M28 I29 q30 K31 K31M => ?_)
  have B32 : qB M28 o0 (p_u (p_u pb pn (x1.toInt / 16777216 % 256)) (pn + 1) (x1.toInt / 65536 % 256)) (pn + 2) := B17.put (u := (x1.toInt / 65536 % 256)) (m := w10.toNatClampNeg) (fun j => (E23 j).trans (by rw [show (((x1.toUInt32 >>> ((16 : Int32).toUInt32 &&& Int32.toUInt32 31)).toInt32) &&& 255).toInt = (x1.toInt / 65536 % 256) from by omega])) (fun j => ra_put9 I21 h_o0 rfl (by decide) K31 K31M j) ((tm_rv q30).trans (by omega)) (by have := mz_nat9 (i := w10) (by omega); omega) (by omega) (by omega)
  refine mv_iinc (v := 8) (lv' := [(2, .int 8), (0, .ref o0), (1, .int x1)]) d_Reader_takeFour_50 rfl (by decide) (by decide) rfl ?_
  refine mv_goto (tgt := 3) d_Reader_takeFour_53 (by decide) ?_
  refine mv_iload_n d_Reader_takeFour_3 rfl rfl ?_
  refine mv_if_lt_f (tgt := 56) d_Reader_takeFour_4 (by decide) (by decide) ?_
  refine mv_aload_n d_Reader_takeFour_7 rfl rfl ?_
  refine tr_getK (k := 0) q30 d_Reader_takeFour_8 f_Reader_34_9 ?_
  have := mz_hi w25
  refine mv_if_ltZ (tgt := 50) (a := w25.toInt) d_Reader_takeFour_11 (by decide) rfl (fun b33 => absurd b33 (by omega)) (fun b33 => ?_)
  refine mv_aload_n d_Reader_takeFour_14 rfl rfl ?_
  refine tr_getK (k := 0) q30 d_Reader_takeFour_15 f_Reader_34_9 ?_
  refine mv_sipush (v := 400) d_Reader_takeFour_18 (by decide) ?_
  have := mz_hi w25
  refine mv_icmp_geZ (tgt := 50) (a := w25.toInt) (b := 400) d_Reader_takeFour_21 (by decide) rfl (by decide) (fun b34 => absurd b34 (by omega)) (fun b34 => ?_)
  refine mv_aload_n d_Reader_takeFour_24 rfl rfl ?_
  refine tr_getK (k := 3) (K31 _ 9 3 _ rfl (K22 _ 9 3 _ (K16 _ 9 3 _ rfl (K7 _ 9 3 _ q3)))) d_Reader_takeFour_25 f_Reader_15_9 ?_
  refine mv_aload_n d_Reader_takeFour_28 rfl rfl ?_
  refine tr_getK (k := 0) q30 d_Reader_takeFour_29 f_Reader_34_9 ?_
  refine mv_iload_n d_Reader_takeFour_32 rfl rfl ?_
  refine mv_iload_n d_Reader_takeFour_33 rfl rfl ?_
  refine mv_iushr (v := (x1.toUInt32 >>> ((8 : Int32).toUInt32 &&& Int32.toUInt32 31)).toInt32) d_Reader_takeFour_34 rfl ?_
  refine mv_sipush (v := 255) d_Reader_takeFour_35 (by decide) ?_
  have := mz_ub8 x1
  refine mv_iand d_Reader_takeFour_38 ?_
  refine tr_iast9 (o := o0) (k := 3) I29 (I29.up h_o0) rfl (K31 _ 9 3 _ rfl (K22 _ 9 3 _ (K16 _ 9 3 _ rfl (K7 _ 9 3 _ q3)))) t_a4 (by decide) (Or.inl (by decide)) d_Reader_takeFour_39 (vp_in_iff.mpr (by omega)) (fun M35 I36 K37 E38 A39 => ?_)
  refine mv_aload_n d_Reader_takeFour_40 rfl rfl ?_
  refine mv_dup d_Reader_takeFour_41 rfl ?_
  refine tr_getK (k := 0) (K37 _ 9 0 _ q30) d_Reader_takeFour_42 f_Reader_34_9 ?_
  refine mv_iconst (v := 1) d_Reader_takeFour_45 (by decide) ?_
  refine mv_iadd d_Reader_takeFour_46 ?_
  obtain ⟨w40, h41, b42⟩ : ∃ w9 : Int32, (w25 + 1) = w9 ∧ w9.toInt = w25.toInt + 1 := ⟨_, rfl, mz_add2 rfl (by decide) (by omega) (by omega)⟩
  rw [h41]
  refine tr_putKM tm_okF I36 h_o0 (k := 0) rfl ⟨_, rfl⟩ (Or.inl (by decide)) d_Reader_takeFour_47 p_Reader_34_9 rfl rfl (fun M43 I44 q45 K46 K46M => ?_)
  have B47 : qB M43 o0 (p_u (p_u (p_u pb pn (x1.toInt / 16777216 % 256)) (pn + 1) (x1.toInt / 65536 % 256)) (pn + 2) (x1.toInt / 256 % 256)) (pn + 3) := B32.put (u := (x1.toInt / 256 % 256)) (m := w25.toNatClampNeg) (fun j => (E38 j).trans (by rw [show (((x1.toUInt32 >>> ((8 : Int32).toUInt32 &&& Int32.toUInt32 31)).toInt32) &&& 255).toInt = (x1.toInt / 256 % 256) from by omega])) (fun j => ra_put9 I36 h_o0 rfl (by decide) K46 K46M j) ((tm_rv q45).trans (by omega)) (by have := mz_nat9 (i := w25) (by omega); omega) (by omega) (by omega)
  refine mv_iinc (v := 0) (lv' := [(2, .int 0), (0, .ref o0), (1, .int x1)]) d_Reader_takeFour_50 rfl (by decide) (by decide) rfl ?_
  refine mv_goto (tgt := 3) d_Reader_takeFour_53 (by decide) ?_
  refine mv_iload_n d_Reader_takeFour_3 rfl rfl ?_
  refine mv_if_lt_f (tgt := 56) d_Reader_takeFour_4 (by decide) (by decide) ?_
  refine mv_aload_n d_Reader_takeFour_7 rfl rfl ?_
  refine tr_getK (k := 0) q45 d_Reader_takeFour_8 f_Reader_34_9 ?_
  have := mz_hi w40
  refine mv_if_ltZ (tgt := 50) (a := w40.toInt) d_Reader_takeFour_11 (by decide) rfl (fun b48 => absurd b48 (by omega)) (fun b48 => ?_)
  refine mv_aload_n d_Reader_takeFour_14 rfl rfl ?_
  refine tr_getK (k := 0) q45 d_Reader_takeFour_15 f_Reader_34_9 ?_
  refine mv_sipush (v := 400) d_Reader_takeFour_18 (by decide) ?_
  have := mz_hi w40
  refine mv_icmp_geZ (tgt := 50) (a := w40.toInt) (b := 400) d_Reader_takeFour_21 (by decide) rfl (by decide) (fun b49 => absurd b49 (by omega)) (fun b49 => ?_)
  refine mv_aload_n d_Reader_takeFour_24 rfl rfl ?_
  refine tr_getK (k := 3) (K46 _ 9 3 _ rfl (K37 _ 9 3 _ (K31 _ 9 3 _ rfl (K22 _ 9 3 _ (K16 _ 9 3 _ rfl (K7 _ 9 3 _ q3)))))) d_Reader_takeFour_25 f_Reader_15_9 ?_
  refine mv_aload_n d_Reader_takeFour_28 rfl rfl ?_
  refine tr_getK (k := 0) q45 d_Reader_takeFour_29 f_Reader_34_9 ?_
  refine mv_iload_n d_Reader_takeFour_32 rfl rfl ?_
  refine mv_iload_n d_Reader_takeFour_33 rfl rfl ?_
  refine mv_iushr (v := (x1.toUInt32 >>> ((0 : Int32).toUInt32 &&& Int32.toUInt32 31)).toInt32) d_Reader_takeFour_34 rfl ?_
  refine mv_sipush (v := 255) d_Reader_takeFour_35 (by decide) ?_
  have := mz_ub0 x1
  refine mv_iand d_Reader_takeFour_38 ?_
  refine tr_iast9 (o := o0) (k := 3) I44 (I44.up h_o0) rfl (K46 _ 9 3 _ rfl (K37 _ 9 3 _ (K31 _ 9 3 _ rfl (K22 _ 9 3 _ (K16 _ 9 3 _ rfl (K7 _ 9 3 _ q3)))))) t_a4 (by decide) (Or.inl (by decide)) d_Reader_takeFour_39 (vp_in_iff.mpr (by omega)) (fun M50 I51 K52 E53 A54 => ?_)
  refine mv_aload_n d_Reader_takeFour_40 rfl rfl ?_
  refine mv_dup d_Reader_takeFour_41 rfl ?_
  refine tr_getK (k := 0) (K52 _ 9 0 _ q45) d_Reader_takeFour_42 f_Reader_34_9 ?_
  refine mv_iconst (v := 1) d_Reader_takeFour_45 (by decide) ?_
  refine mv_iadd d_Reader_takeFour_46 ?_
  obtain ⟨w55, h56, b57⟩ : ∃ w9 : Int32, (w40 + 1) = w9 ∧ w9.toInt = w40.toInt + 1 := ⟨_, rfl, mz_add2 rfl (by decide) (by omega) (by omega)⟩
  rw [h56]
  refine tr_putKM tm_okF I51 h_o0 (k := 0) rfl ⟨_, rfl⟩ (Or.inl (by decide)) d_Reader_takeFour_47 p_Reader_34_9 rfl rfl (fun M58 I59 q60 K61 K61M => ?_)
  have B62 : qB M58 o0 (p_u (p_u (p_u (p_u pb pn (x1.toInt / 16777216 % 256)) (pn + 1) (x1.toInt / 65536 % 256)) (pn + 2) (x1.toInt / 256 % 256)) (pn + 3) (x1.toInt / 1 % 256)) (pn + 4) := B47.put (u := (x1.toInt / 1 % 256)) (m := w40.toNatClampNeg) (fun j => (E53 j).trans (by rw [show (((x1.toUInt32 >>> ((0 : Int32).toUInt32 &&& Int32.toUInt32 31)).toInt32) &&& 255).toInt = (x1.toInt / 1 % 256) from by omega])) (fun j => ra_put9 I51 h_o0 rfl (by decide) K61 K61M j) ((tm_rv q60).trans (by omega)) (by have := mz_nat9 (i := w40) (by omega); omega) (by omega) (by omega)
  refine mv_iinc (v := (-8)) (lv' := [(2, .int (-8)), (0, .ref o0), (1, .int x1)]) d_Reader_takeFour_50 rfl (by decide) (by decide) rfl ?_
  refine mv_goto (tgt := 3) d_Reader_takeFour_53 (by decide) ?_
  refine mv_iload_n d_Reader_takeFour_3 rfl rfl ?_
  refine mv_if_lt_t (tgt := 56) d_Reader_takeFour_4 (by decide) (by decide) ?_
  exact mv_vret d_Reader_takeFour_56 rfl ⟨_, I59, rfl, B62⟩
def w_TrustDesk_feed_r : List Nat := [900, 953]
set_option maxHeartbeats 100000000 in theorem tc_TrustDesk_feed_r {g : mj_G} {l : Launch} {d : Nat} {T0 : tm_H} {M0 : mj_M} {n0 x9 : Nat} {o0 : Nat} {x1 : Int32} {x2 : Int32} {x3 : Int32} {x4 : Int32} {x5 : Int32} (h_o0 : T0 o0 = some (0, 12, 0)) {Rd : Nat} (h_Rd : T0 Rd = some (0, 9, 0)) (q_Rd : tm_at M0 o0 12 1 (.ref Rd)) {pb : Nat → Int} {pn : Nat} (yB : qB M0 Rd pb pn) (I0 : tm_I tm_FT (tm_in w_TrustDesk_feed_r) x9 T0 M0 n0 T0 M0 n0) : mj_Met g l kY_TrustDesk_feed (d + 1) [.ref o0, .int x1, .int x2, .int x3, .int x4, .int x5] M0 n0 0 0 (tm_Q tm_FT (tm_in w_TrustDesk_feed_r) x9 T0 M0 n0 (fun r _ M => ∃ v : Int32, r = some (.int v) ∧ (v.toInt = -1 ∧ 380 < pn ∧ qB M Rd pb pn ∨ v.toInt = (pn : Int) + 20 ∧ pn ≤ 380 ∧ qB M Rd (p_f20 pb pn x1.toInt x2.toInt x3.toInt x4.toInt x5.toInt) (pn + 20)))) := by
  refine mj_enter (by decide) (Nat.le_of_ble_eq_true rfl) ?_
  refine mv_aload_n d_TrustDesk_feed_0 rfl rfl ?_
  refine tr_getK (k := 1) q_Rd d_TrustDesk_feed_1 f_TrustDesk_19_12 ?_
  obtain ⟨v2, q1⟩ := tm_atI I0 h_Rd (k := 0) rfl
  refine tr_getK q1 d_TrustDesk_feed_4 f_TrustDesk_88_9 ?_
  have := tm_rv q1
  have := yB.1
  refine mv_sipush (v := 380) d_TrustDesk_feed_7 (by decide) ?_
  have := mz_hi v2
  refine mv_icmp_leZ (tgt := 15) (a := v2.toInt) (b := 380) d_TrustDesk_feed_10 (by decide) rfl (by decide) (fun b3 => ?_) (fun b3 => ?_)
  · refine mv_aload_n d_TrustDesk_feed_15 rfl rfl ?_
    refine tr_getK (k := 1) q_Rd d_TrustDesk_feed_16 f_TrustDesk_19_12 ?_
    refine mv_iload_n d_TrustDesk_feed_19 rfl rfl ?_
    obtain ⟨_, b10, -⟩ := I0.1 _ _ h_Rd
    refine mv_callV (kc' := 0) (ks' := 0) (As := [.int x1]) (st9 := [.int x1, .ref Rd]) d_TrustDesk_feed_20 lV_TrustDesk_91 b10 rfl (tc_Reader_takeFour_r (d := d) (x9 := x9) (o0 := Rd) (x1 := x1) h_Rd yB (by omega) I0.start) rfl (Nat.le_of_ble_eq_true rfl) (Nat.le_of_ble_eq_true rfl) (Nat.le_of_ble_eq_true rfl) (hst := rfl) (fun b4r M5 n6 b4 => ?_)
    obtain ⟨T7, J8, rfl, B11⟩ := b4
    have I9 := I0.call J8 (tm_sub (by decide)) (Or.inl rfl)
    have t12 := J8.up h_o0
    have q13 := J8.keep h_o0 (by decide) q_Rd
    have t14 := J8.up h_Rd
    have := B11.1
    refine mv_aload_n d_TrustDesk_feed_23 rfl rfl ?_
    refine tr_getK (k := 1) q13 d_TrustDesk_feed_24 f_TrustDesk_19_12 ?_
    refine mv_iload_n d_TrustDesk_feed_27 rfl rfl ?_
    obtain ⟨_, b22, -⟩ := I9.1 _ _ t14
    refine mv_callV (kc' := 0) (ks' := 0) (As := [.int x2]) (st9 := [.int x2, .ref Rd]) d_TrustDesk_feed_28 lV_TrustDesk_91 b22 rfl (tc_Reader_takeFour_r (d := d) (x9 := x9) (o0 := Rd) (x1 := x2) t14 B11 (by omega) I9.start) rfl (Nat.le_of_ble_eq_true rfl) (Nat.le_of_ble_eq_true rfl) (Nat.le_of_ble_eq_true rfl) (hst := rfl) (fun b16r M17 n18 b16 => ?_)
    obtain ⟨T19, J20, rfl, B23⟩ := b16
    have I21 := I9.call J20 (tm_sub (by decide)) (Or.inl rfl)
    have t24 := J20.up t12
    have q25 := J20.keep t12 (by decide) q13
    have t26 := J20.up t14
    have := B23.1
    refine mv_aload_n d_TrustDesk_feed_31 rfl rfl ?_
    refine tr_getK (k := 1) q25 d_TrustDesk_feed_32 f_TrustDesk_19_12 ?_
    refine mv_iload_n d_TrustDesk_feed_35 rfl rfl ?_
    obtain ⟨_, b34, -⟩ := I21.1 _ _ t26
    refine mv_callV (kc' := 0) (ks' := 0) (As := [.int x3]) (st9 := [.int x3, .ref Rd]) d_TrustDesk_feed_36 lV_TrustDesk_91 b34 rfl (tc_Reader_takeFour_r (d := d) (x9 := x9) (o0 := Rd) (x1 := x3) t26 B23 (by omega) I21.start) rfl (Nat.le_of_ble_eq_true rfl) (Nat.le_of_ble_eq_true rfl) (Nat.le_of_ble_eq_true rfl) (hst := rfl) (fun b28r M29 n30 b28 => ?_)
    obtain ⟨T31, J32, rfl, B35⟩ := b28
    have I33 := I21.call J32 (tm_sub (by decide)) (Or.inl rfl)
    have t36 := J32.up t24
    have q37 := J32.keep t24 (by decide) q25
    have t38 := J32.up t26
    have := B35.1
    refine mv_aload_n d_TrustDesk_feed_39 rfl rfl ?_
    refine tr_getK (k := 1) q37 d_TrustDesk_feed_40 f_TrustDesk_19_12 ?_
    refine mv_iload d_TrustDesk_feed_43 rfl ?_
    obtain ⟨_, b46, -⟩ := I33.1 _ _ t38
    refine mv_callV (kc' := 0) (ks' := 0) (As := [.int x4]) (st9 := [.int x4, .ref Rd]) d_TrustDesk_feed_45 lV_TrustDesk_91 b46 rfl (tc_Reader_takeFour_r (d := d) (x9 := x9) (o0 := Rd) (x1 := x4) t38 B35 (by omega) I33.start) rfl (Nat.le_of_ble_eq_true rfl) (Nat.le_of_ble_eq_true rfl) (Nat.le_of_ble_eq_true rfl) (hst := rfl) (fun b40r M41 n42 b40 => ?_)
    obtain ⟨T43, J44, rfl, B47⟩ := b40
    have I45 := I33.call J44 (tm_sub (by decide)) (Or.inl rfl)
    have t48 := J44.up t36
    have q49 := J44.keep t36 (by decide) q37
    have t50 := J44.up t38
    have := B47.1
    refine mv_aload_n d_TrustDesk_feed_48 rfl rfl ?_
    refine tr_getK (k := 1) q49 d_TrustDesk_feed_49 f_TrustDesk_19_12 ?_
    refine mv_iload d_TrustDesk_feed_52 rfl ?_
    obtain ⟨_, b58, -⟩ := I45.1 _ _ t50
    refine mv_callV (kc' := 0) (ks' := 0) (As := [.int x5]) (st9 := [.int x5, .ref Rd]) d_TrustDesk_feed_54 lV_TrustDesk_91 b58 rfl (tc_Reader_takeFour_r (d := d) (x9 := x9) (o0 := Rd) (x1 := x5) t50 B47 (by omega) I45.start) rfl (Nat.le_of_ble_eq_true rfl) (Nat.le_of_ble_eq_true rfl) (Nat.le_of_ble_eq_true rfl) (hst := rfl) (fun b52r M53 n54 b52 => ?_)
    obtain ⟨T55, J56, rfl, B59⟩ := b52
    have I57 := I45.call J56 (tm_sub (by decide)) (Or.inl rfl)
    have t60 := J56.up t48
    have q61 := J56.keep t48 (by decide) q49
    have t62 := J56.up t50
    have := B59.1
    refine mv_aload_n d_TrustDesk_feed_57 rfl rfl ?_
    refine tr_getK (k := 1) q61 d_TrustDesk_feed_58 f_TrustDesk_19_12 ?_
    obtain ⟨v65, q64⟩ := tm_atI I57 t62 (k := 0) rfl
    refine tr_getK q64 d_TrustDesk_feed_61 f_TrustDesk_88_9 ?_
    have := tm_rv q64
    have := B59.1
    exact mv_iret d_TrustDesk_feed_64 rfl (by first | rfl | decide) ⟨_, I57, _, rfl, Or.inr ⟨by omega, by omega, B59⟩⟩
  · refine mv_iconst (v := (-1)) d_TrustDesk_feed_13 (by decide) ?_
    exact mv_iret d_TrustDesk_feed_14 rfl (by first | rfl | decide) ⟨_, I0, _, rfl, Or.inl ⟨by decide, by omega, yB⟩⟩
def w_TrustDesk_end_r : List Nat := [900]
theorem tc_TrustDesk_end_r {g : mj_G} {l : Launch} {d : Nat} {T0 : tm_H} {M0 : mj_M} {n0 x9 : Nat} {o0 : Nat} {x1 : Int32} (h_o0 : T0 o0 = some (0, 12, 0)) {Rd : Nat} (h_Rd : T0 Rd = some (0, 9, 0)) (q_Rd : tm_at M0 o0 12 1 (.ref Rd)) {z0 : Int32} {pn : Nat} (yz0 : tm_at M0 Rd 9 0 (.int z0)) (yz : z0.toInt = (pn : Int)) (I0 : tm_I tm_FT (tm_in w_TrustDesk_end_r) x9 T0 M0 n0 T0 M0 n0) : mj_Met g l kY_TrustDesk_end d [.ref o0, .int x1] M0 n0 0 0 (tm_Q tm_FT (tm_in w_TrustDesk_end_r) x9 T0 M0 n0 (fun r _ M => ∃ v : Int32, r = some (.int v) ∧ (v.toInt = -1 ∧ ¬ (0 ≤ x1.toInt ∧ x1.toInt ≤ (pn : Int)) ∧ tm_at M Rd 9 0 (.int z0) ∨ v.toInt = x1.toInt ∧ (0 ≤ x1.toInt ∧ x1.toInt ≤ (pn : Int)) ∧ tm_at M Rd 9 0 (.int x1)))) := by
  refine mj_enter (by decide) (Nat.le_of_ble_eq_true rfl) ?_
  refine mv_iload_n d_TrustDesk_end_0 rfl rfl ?_
  have := mz_hi x1
  refine mv_if_ltZ (tgt := 15) (a := x1.toInt) d_TrustDesk_end_1 (by decide) rfl (fun b1 => ?_) (fun b1 => ?_)
  · refine mv_iconst (v := (-1)) d_TrustDesk_end_15 (by decide) ?_
    exact mv_iret d_TrustDesk_end_16 rfl (by first | rfl | decide) ⟨_, I0, _, rfl, Or.inl ⟨by decide, by omega, yz0⟩⟩
  · refine mv_iload_n d_TrustDesk_end_4 rfl rfl ?_
    refine mv_aload_n d_TrustDesk_end_5 rfl rfl ?_
    refine tr_getK (k := 1) q_Rd d_TrustDesk_end_6 f_TrustDesk_19_12 ?_
    refine tr_getK (k := 0) yz0 d_TrustDesk_end_9 f_TrustDesk_88_9 ?_
    have := mz_hi x1
    have := mz_hi z0
    refine mv_icmp_leZ (tgt := 17) (a := x1.toInt) (b := z0.toInt) d_TrustDesk_end_12 (by decide) rfl rfl (fun b2 => ?_) (fun b2 => ?_)
    · refine mv_aload_n d_TrustDesk_end_17 rfl rfl ?_
      refine tr_getK (k := 1) q_Rd d_TrustDesk_end_18 f_TrustDesk_19_12 ?_
      refine mv_iload_n d_TrustDesk_end_21 rfl rfl ?_
      refine tr_putK tm_okF I0 h_Rd (k := 0) rfl ⟨_, rfl⟩ (Or.inl (by decide)) d_TrustDesk_end_22 p_TrustDesk_88_9 rfl rfl (fun M3 I4 q5 K6 => ?_)
      refine mv_iload_n d_TrustDesk_end_25 rfl rfl ?_
      exact mv_iret d_TrustDesk_end_26 rfl (by first | rfl | decide) ⟨_, I4, _, rfl, Or.inr ⟨rfl, by omega, q5⟩⟩
    · refine mv_iconst (v := (-1)) d_TrustDesk_end_15 (by decide) ?_
      exact mv_iret d_TrustDesk_end_16 rfl (by first | rfl | decide) ⟨_, I0, _, rfl, Or.inl ⟨by decide, by omega, yz0⟩⟩
def w_TrustDesk_place_r : List Nat := []
theorem tc_TrustDesk_place_r {g : mj_G} {l : Launch} {d : Nat} {T0 : tm_H} {M0 : mj_M} {n0 x9 : Nat} {o0 : Nat} (h_o0 : T0 o0 = some (0, 12, 0)) {Rd : Nat} (h_Rd : T0 Rd = some (0, 9, 0)) (q_Rd : tm_at M0 o0 12 1 (.ref Rd)) {vp0 : Int32} (yp : tm_at M0 Rd 9 2 (.int vp0)) (I0 : tm_I tm_FT (tm_in w_TrustDesk_place_r) x9 T0 M0 n0 T0 M0 n0) : mj_Met g l kY_TrustDesk_place d [.ref o0] M0 n0 0 0 (tm_Q tm_FT (tm_in w_TrustDesk_place_r) x9 T0 M0 n0 (fun r _ M => ∃ v : Int32, r = some (.int v) ∧ (v.toInt = vp0.toInt))) := by
  refine mj_enter (by decide) (Nat.le_of_ble_eq_true rfl) ?_
  refine mv_aload_n d_TrustDesk_place_0 rfl rfl ?_
  refine tr_getK (k := 1) q_Rd d_TrustDesk_place_1 f_TrustDesk_19_12 ?_
  refine tr_getK (k := 2) yp d_TrustDesk_place_4 f_TrustDesk_144_9 ?_
  exact mv_iret d_TrustDesk_place_7 rfl (by first | rfl | decide) ⟨_, I0, _, rfl, rfl⟩
def w_TrustDesk_lay_r : List Nat := [609]
set_option maxHeartbeats 100000000 in theorem tc_TrustDesk_lay_r {g : mj_G} {l : Launch} {d : Nat} {T0 : tm_H} {M0 : mj_M} {n0 x9 : Nat} {o0 : Nat} {x1 : Int32} {x2 : Int32} (h_o0 : T0 o0 = some (0, 12, 0))  {Lg : Nat} {kf : Int32} (h_Lg : T0 Lg = some (3, 6, o0)) (q_Lg : tm_at M0 o0 12 6 (.ref Lg)) (ykf : tm_at M0 Lg 0 2 (.int kf)) (I0 : tm_I tm_FT (tm_in w_TrustDesk_lay_r) x9 T0 M0 n0 T0 M0 n0) : mj_Met g l kY_TrustDesk_lay (d + 4) [.ref o0, .int x1, .int x2] M0 n0 0 0 (tm_Q tm_FT (tm_in w_TrustDesk_lay_r) x9 T0 M0 n0 (fun r _ M => ∃ v : Int32, r = some (.int v) ∧ 0 ≤ v.toInt ∧ v.toInt ≤ 1 ∧ ((v.toInt = 0 ∧ ¬ (0 ≤ x1.toInt ∧ x1.toInt < kf.toInt ∧ 0 ≤ x2.toInt ∧ x2.toInt ≤ 7)) ∨ (v.toInt = 1 ∧ (0 ≤ x1.toInt ∧ x1.toInt < kf.toInt ∧ 0 ≤ x2.toInt ∧ x2.toInt ≤ 7))))) := by
  refine mj_enter (by decide) (Nat.le_of_ble_eq_true rfl) ?_
  refine mv_aload_n d_TrustDesk_lay_0 rfl rfl ?_
  refine mv_iload_n d_TrustDesk_lay_1 rfl rfl ?_
  obtain ⟨_, b1, -⟩ := I0.1 _ _ h_o0
  refine mv_callV (kc1 := 0) (ks1 := 0) (kc' := 0) (ks' := 0) (As := [.int x1]) (st9 := [.int x1, .ref o0]) d_TrustDesk_lay_2 lV_TrustDesk_257 b1 rfl (mj_enter (by decide) (Nat.le_of_ble_eq_true rfl) ?_) rfl (Nat.le_of_ble_eq_true rfl) (Nat.le_of_ble_eq_true rfl) (Nat.le_of_ble_eq_true rfl) (hst := rfl) (fun _ _ _ h => h)
  refine mv_iload_n d_TrustDesk_fundAt_0 rfl rfl ?_
  have := mz_hi x1
  refine mv_if_ltZ (tgt := 29) (a := x1.toInt) d_TrustDesk_fundAt_1 (by decide) rfl (fun b2 => ?_) (fun b2 => ?_)
  · refine mv_null d_TrustDesk_fundAt_29 ?_
    refine mv_aret (r := none) d_TrustDesk_fundAt_30 rfl (by first | exact Or.inl ⟨_, rfl⟩ | exact Or.inr ⟨_, rfl⟩) ?_
    refine mv_astore_nN (lv' := [(3, .null), (0, .ref o0), (1, .int x1), (2, .int x2)]) d_TrustDesk_lay_5 rfl (by decide) rfl ?_
    refine mv_aload_nN d_TrustDesk_lay_6 rfl rfl ?_
    refine mv_ifnullN (tgt := 20) d_TrustDesk_lay_7 (by decide) ?_
    refine mv_iconst (v := 0) d_TrustDesk_lay_20 (by decide) ?_
    exact mv_iret d_TrustDesk_lay_21 rfl (by decide) ⟨_, I0, _, rfl, by decide, by decide, Or.inl ⟨by decide, by omega⟩⟩
  · refine mv_iload_n d_TrustDesk_fundAt_4 rfl rfl ?_
    refine mv_aload_n d_TrustDesk_fundAt_5 rfl rfl ?_
    refine tr_getK (k := 6) q_Lg d_TrustDesk_fundAt_6 f_TrustDesk_53_12 ?_
    obtain ⟨m4, e5, N6, f7, h3⟩ := tm_lsn I0 h_Lg ykf
    refine mv_callV_s (kc' := 0) (ks' := 0) [] [.ref Lg, .int x1] d_TrustDesk_fundAt_9 lV_TrustDesk_97 h3.1 rfl (tc_L_size (d := (d + 2)) h3.1) rfl (Nat.le_of_ble_eq_true rfl) (Nat.le_of_ble_eq_true rfl) (Nat.le_of_ble_eq_true rfl) rfl ?_
    have := mz_hi x1
    have := mz_hi kf
    refine mv_icmp_geZ (tgt := 29) (a := x1.toInt) (b := kf.toInt) d_TrustDesk_fundAt_12 (by decide) rfl rfl (fun b8 => ?_) (fun b8 => ?_)
    · refine mv_null d_TrustDesk_fundAt_29 ?_
      refine mv_aret (r := none) d_TrustDesk_fundAt_30 rfl (by first | exact Or.inl ⟨_, rfl⟩ | exact Or.inr ⟨_, rfl⟩) ?_
      refine mv_astore_nN (lv' := [(3, .null), (0, .ref o0), (1, .int x1), (2, .int x2)]) d_TrustDesk_lay_5 rfl (by decide) rfl ?_
      refine mv_aload_nN d_TrustDesk_lay_6 rfl rfl ?_
      refine mv_ifnullN (tgt := 20) d_TrustDesk_lay_7 (by decide) ?_
      refine mv_iconst (v := 0) d_TrustDesk_lay_20 (by decide) ?_
      exact mv_iret d_TrustDesk_lay_21 rfl (by decide) ⟨_, I0, _, rfl, by decide, by decide, Or.inl ⟨by decide, by omega⟩⟩
    · refine mv_aload_n d_TrustDesk_fundAt_15 rfl rfl ?_
      refine tr_getK (k := 6) q_Lg d_TrustDesk_fundAt_16 f_TrustDesk_53_12 ?_
      refine mv_iload_n d_TrustDesk_fundAt_19 rfl rfl ?_
      obtain ⟨m10, e11, N12, f13, h9⟩ := tm_lsn I0 h_Lg ykf
      obtain ⟨u14e, u14i, a15, u14f, u14t⟩ := tm_el (i := x1) h9 (by omega) (by omega)
      have t_a15 : T0 a15 = some (0, 6, 0) := u14t
      refine mv_callV_s (kc' := 0) (ks' := 0) [.int x1] [.int x1, .ref Lg] d_TrustDesk_fundAt_20 lV_TrustDesk_158 h9.1 rfl (tc_L_get (d := d) h9.1 u14e (by omega) (by omega) u14i u14f) rfl (Nat.le_of_ble_eq_true rfl) (Nat.le_of_ble_eq_true rfl) (Nat.le_of_ble_eq_true rfl) rfl ?_
      obtain ⟨_, b16, -⟩ := I0.1 _ _ t_a15
      refine mv_castS (T9 := kF_Fund) (N := 15) d_TrustDesk_fundAt_23 (mj_in1 (List.mem_of_getElem? (i := 655) (by decide +kernel)) rfl) b16 rfl ?_
      refine mv_goto (tgt := 30) d_TrustDesk_fundAt_26 (by decide) ?_
      refine mv_aret (r := (some a15)) d_TrustDesk_fundAt_30 rfl (by first | exact Or.inl ⟨_, rfl⟩ | exact Or.inr ⟨_, rfl⟩) ?_
      refine mv_astore_n (lv' := [(3, .ref a15), (0, .ref o0), (1, .int x1), (2, .int x2)]) d_TrustDesk_lay_5 rfl (by decide) rfl ?_
      refine mv_aload_n d_TrustDesk_lay_6 rfl rfl ?_
      refine mv_ifnull d_TrustDesk_lay_7 ?_
      refine mv_iload_n d_TrustDesk_lay_10 rfl rfl ?_
      have := mz_hi x2
      refine mv_if_ltZ (tgt := 20) (a := x2.toInt) d_TrustDesk_lay_11 (by decide) rfl (fun b17 => ?_) (fun b17 => ?_)
      · refine mv_iconst (v := 0) d_TrustDesk_lay_20 (by decide) ?_
        exact mv_iret d_TrustDesk_lay_21 rfl (by decide) ⟨_, I0, _, rfl, by decide, by decide, Or.inl ⟨by decide, by omega⟩⟩
      · refine mv_iload_n d_TrustDesk_lay_14 rfl rfl ?_
        refine mv_bipush (v := 8) d_TrustDesk_lay_15 (by decide) ?_
        have := mz_hi x2
        refine mv_icmp_ltZ (tgt := 22) (a := x2.toInt) (b := 8) d_TrustDesk_lay_17 (by decide) rfl (by decide) (fun b18 => ?_) (fun b18 => ?_)
        · refine mv_aload_n d_TrustDesk_lay_22 rfl rfl ?_
          refine mv_iload_n d_TrustDesk_lay_23 rfl rfl ?_
          refine tr_putK tm_okF I0 t_a15 (k := 9) rfl ⟨_, rfl⟩ (Or.inl (by decide)) d_TrustDesk_lay_24 p_TrustDesk_489_6 rfl rfl (fun M19 I20 q21 K22 => ?_)
          refine mv_iconst (v := 1) d_TrustDesk_lay_27 (by decide) ?_
          exact mv_iret d_TrustDesk_lay_28 rfl (by decide) ⟨_, I20, _, rfl, by decide, by decide, Or.inr ⟨by decide, by omega⟩⟩
        · refine mv_iconst (v := 0) d_TrustDesk_lay_20 (by decide) ?_
          exact mv_iret d_TrustDesk_lay_21 rfl (by decide) ⟨_, I0, _, rfl, by decide, by decide, Or.inl ⟨by decide, by omega⟩⟩
