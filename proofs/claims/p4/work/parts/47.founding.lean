theorem tc_TrustDesk_fund_y {g : mj_G} {l : Launch} {d : Nat} {T0 : tm_H} {M0 : mj_M} {n0 x9 : Nat} {o0 : Nat} {x1 : Int32} {x2 : Int32} (h_o0 : T0 o0 = some (0, 12, 0)) {Lf : Nat} (h_Lf : T0 Lf = some (3, 6, o0)) (q_Lf : tm_at M0 o0 12 6 (.ref Lf)) (I0 : tm_I tm_FT (tm_in w_TrustDesk_fund_x) x9 T0 M0 n0 T0 M0 n0) : mj_Met g l kY_TrustDesk_fund (d + 23) [.ref o0, .int x1, .int x2] M0 n0 104 13845 (tm_Q tm_FT (tm_in w_TrustDesk_fund_x) x9 T0 M0 n0 (fun r T M => ∃ v : Int32, r = some (.int v) ∧ tm_FS T0 M0 n0 T M Lf)) := by
  refine mj_enter (by decide) (Nat.le_of_ble_eq_true rfl) ?_
  have K0L : ∀ (a o : Nat) (w : Value), T0 a = some (3, 3, o) → o < n0 → tm_at M0 a 0 2 w → tm_at M0 a 0 2 w := fun a o w h hx q => q
  have K0J : ∀ (a : Nat) (w : Value), T0 a = some (0, 6, 0) → tm_at M0 a 6 8 w → tm_at M0 a 6 8 w := fun a w h q => q
  have K0G : ∀ (i b : Nat), tm_ge M0 Lf i b → tm_ge M0 Lf i b := fun i b q => q
  have K0S : ∀ (w : Value), tm_at M0 Lf 0 2 w → tm_at M0 Lf 0 2 w := fun w q => q
  refine mv_iload_n d_TrustDesk_fund_0 rfl rfl ?_
  have := mz_hi x1
  refine mv_if_ltZ (tgt := 33) (a := x1.toInt) d_TrustDesk_fund_1 (by decide) rfl (fun b1 => ?_) (fun b1 => ?_)
  · refine mv_iconst (v := (-1)) d_TrustDesk_fund_33 (by decide) ?_
    exact mv_iret d_TrustDesk_fund_34 rfl (by first | rfl | decide) ⟨_, I0, _, rfl, K0L, K0J, K0G, Or.inl K0S⟩
  · refine mv_iload_n d_TrustDesk_fund_4 rfl rfl ?_
    refine mv_sipush (v := 999) d_TrustDesk_fund_5 (by decide) ?_
    have := mz_hi x1
    refine mv_icmp_gtZ (tgt := 33) (a := x1.toInt) (b := 999) d_TrustDesk_fund_8 (by decide) rfl (by decide) (fun b2 => ?_) (fun b2 => ?_)
    · refine mv_iconst (v := (-1)) d_TrustDesk_fund_33 (by decide) ?_
      exact mv_iret d_TrustDesk_fund_34 rfl (by first | rfl | decide) ⟨_, I0, _, rfl, K0L, K0J, K0G, Or.inl K0S⟩
    · refine mv_iload_n d_TrustDesk_fund_11 rfl rfl ?_
      have := mz_hi x2
      refine mv_if_ltZ (tgt := 33) (a := x2.toInt) d_TrustDesk_fund_12 (by decide) rfl (fun b3 => ?_) (fun b3 => ?_)
      · refine mv_iconst (v := (-1)) d_TrustDesk_fund_33 (by decide) ?_
        exact mv_iret d_TrustDesk_fund_34 rfl (by first | rfl | decide) ⟨_, I0, _, rfl, K0L, K0J, K0G, Or.inl K0S⟩
      · refine mv_iload_n d_TrustDesk_fund_15 rfl rfl ?_
        refine mv_ldc d_TrustDesk_fund_16 k_TrustDesk_122 ?_
        have := mz_hi x2
        refine mv_icmp_gtZ (tgt := 33) (a := x2.toInt) (b := 99999) d_TrustDesk_fund_18 (by decide) rfl (by decide) (fun b4 => ?_) (fun b4 => ?_)
        · refine mv_iconst (v := (-1)) d_TrustDesk_fund_33 (by decide) ?_
          exact mv_iret d_TrustDesk_fund_34 rfl (by first | rfl | decide) ⟨_, I0, _, rfl, K0L, K0J, K0G, Or.inl K0S⟩
        · refine mv_aload_n d_TrustDesk_fund_21 rfl rfl ?_
          refine tr_getK (k := 6) q_Lf d_TrustDesk_fund_22 f_TrustDesk_53_12 ?_
          obtain ⟨m6, n10, e7, N8, f9, h5⟩ := I0.1 _ _ h_Lf
          have := h5.2.1
          have : n10.toInt ≤ 12 := h5.2.2.1
          have q11 : tm_at M0 Lf 0 2 (.int n10) := ⟨_, h5.1, rfl⟩
          refine mv_callV_s (kc' := 104) (ks' := 13845) [] [.ref Lf] d_TrustDesk_fund_25 lV_TrustDesk_97 h5.1 rfl (tc_L_size (d := (d + 22)) h5.1) rfl (Nat.le_of_ble_eq_true rfl) (Nat.le_of_ble_eq_true rfl) (Nat.le_of_ble_eq_true rfl) rfl ?_
          refine mv_bipush (v := 12) d_TrustDesk_fund_28 (by decide) ?_
          have := mz_hi n10
          refine mv_icmp_ltZ (tgt := 35) (a := n10.toInt) (b := 12) d_TrustDesk_fund_30 (by decide) rfl (by decide) (fun b12 => ?_) (fun b12 => ?_)
          · refine tr_new (kc' := 103) (ks' := 13830) tm_okF I0 d_TrustDesk_fund_35 n_TrustDesk_123 (Nat.le_of_ble_eq_true rfl) (Nat.le_of_ble_eq_true rfl) (fun T13 M14 I15 t_x16 m17 h18 u19 K20 => ?_)
            have K21 : ∀ (a o : Nat) (w : Value), T0 a = some (3, 3, o) → o < n0 → tm_at M0 a 0 2 w → tm_at M14 a 0 2 w := fun a o w h hx q => tm_at.eq (K20 _ _ (I0.up h)) (K0L a o w h hx q)
            have K22 : ∀ (a : Nat) (w : Value), T0 a = some (0, 6, 0) → tm_at M0 a 6 8 w → tm_at M14 a 6 8 w := fun a w h q => tm_at.eq (K20 _ _ (I0.up h)) (K0J a w h q)
            have K23 : ∀ (i b : Nat), tm_ge M0 Lf i b → tm_ge M14 Lf i b := fun i b q => tm_ge.mono I0.1 (I0.up h_Lf) (K20 _ _ (I0.up h_Lf)) (fun e te => K20 _ _ te) (K0G i b q)
            have K24 : ∀ (w : Value), tm_at M0 Lf 0 2 w → tm_at M14 Lf 0 2 w := fun w q => tm_at.eq (K20 _ _ (I0.up h_Lf)) (K0S w q)
            have q25 := tm_at.eq (K20 _ _ h_o0) q_Lf
            have t26 := u19 _ _ h_Lf
            have t27 := u19 _ _ h_o0
            have q28 := tm_at.eq (K20 _ _ h_Lf) q11
            refine mv_dup d_TrustDesk_fund_38 rfl ?_
            refine mv_aload_n d_TrustDesk_fund_39 rfl rfl ?_
            refine tr_getK (k := 6) q25 d_TrustDesk_fund_40 f_TrustDesk_53_12 ?_
            obtain ⟨m30, e31, N32, f33, h29⟩ := tm_lsn I15 t26 q28
            refine mv_callV_s (kc' := 103) (ks' := 13830) [] [.ref Lf, .ref n0, .ref n0] d_TrustDesk_fund_43 lV_TrustDesk_97 h29.1 rfl (tc_L_size (d := (d + 22)) h29.1) rfl (Nat.le_of_ble_eq_true rfl) (Nat.le_of_ble_eq_true rfl) (Nat.le_of_ble_eq_true rfl) rfl ?_
            refine mv_iload_n d_TrustDesk_fund_46 rfl rfl ?_
            refine mv_iload_n d_TrustDesk_fund_47 rfl rfl ?_
            refine mv_callI (kc' := 99) (ks' := 13614) (As := [.int n10, .int x1, .int x2]) (st9 := [.int x2, .int x1, .int n10, .ref n0, .ref n0]) d_TrustDesk_fund_48 lI_TrustDesk_125 (tc_Fund_init_x (d := (d + 18)) (o0 := n0) (x1 := n10) (x2 := x1) (x3 := x2) t_x16 m17 I15.start) rfl (Nat.le_of_ble_eq_true rfl) (Nat.le_of_ble_eq_true rfl) (Nat.le_of_ble_eq_true rfl) (hst := rfl) (fun b34r M35 n36 b34 => ?_)
            obtain ⟨T37, J38, rfl, a40, a41, a42, a43, m44, t_a40, t_a41, t_a42, t_a43, z45⟩ := b34
            have I39 := I15.call J38 (tm_sub (by decide)) (Or.inr h18)
            have t46 := J38.up t_x16
            have t47 := J38.up t27
            have K48 : ∀ (a o : Nat) (w : Value), T0 a = some (3, 3, o) → o < n0 → tm_at M0 a 0 2 w → tm_at M35 a 0 2 w := fun a o w h hx q => J38.keepL (I15.up h) (by decide) (K21 a o w h hx q)
            have K49 : ∀ (a : Nat) (w : Value), T0 a = some (0, 6, 0) → tm_at M0 a 6 8 w → tm_at M35 a 6 8 w := fun a w h q => J38.keep (I15.up h) (by decide) (K22 a w h q)
            have K50 : ∀ (i b : Nat), tm_ge M0 Lf i b → tm_ge M35 Lf i b := fun i b q => tm_I.keepG I15.1 J38 (I15.up h_Lf) (by decide) (K23 i b q)
            have K51 : ∀ (w : Value), tm_at M0 Lf 0 2 w → tm_at M35 Lf 0 2 w := fun w q => J38.keepL (I15.up h_Lf) (by decide) (K24 w q)
            have q52 := J38.keep t27 (by decide) q25
            have t53 := J38.up t26
            have q54 := J38.keepL t26 (by decide) q28
            obtain ⟨T55, I56, t_x57, u58⟩ := I39.sealO tm_okF t46 h18 m44 (fun _ z9 => (tm_fs_cons ⟨_, rfl⟩ (tm_fs_cons ⟨_, rfl⟩ (tm_fs_cons ⟨_, rfl⟩ (tm_fs_cons ⟨_, rfl⟩ (tm_fs_cons ⟨_, rfl⟩ (tm_fs_cons ⟨_, rfl⟩ (tm_fs_cons ⟨_, rfl⟩ (tm_fs_cons ⟨_, rfl⟩ (tm_fs_cons ⟨_, rfl⟩ (tm_fs_cons ⟨_, rfl⟩ (tm_fs_cons ⟨_, rfl⟩ (tm_fs_cons ⟨_, rfl, z9 _ _ t_a40 (Nat.le_of_ble_eq_true rfl)⟩ (tm_fs_cons ⟨_, rfl, z9 _ _ t_a41 (Nat.le_of_ble_eq_true rfl)⟩ (tm_fs_cons ⟨_, rfl, z9 _ _ t_a42 (Nat.le_of_ble_eq_true rfl)⟩ (tm_fs_cons ⟨_, rfl, z9 _ _ t_a43 (Nat.le_of_ble_eq_true rfl)⟩ tm_fs_nil))))))))))))))))
            have t59 := u58 _ _ t53 (tm_dif t53 t46 rfl)
            have t60 := u58 _ _ t47 (tm_dif t47 t46 rfl)
            have t61 := u58 _ _ t_a40 (tm_dif t_a40 t46 rfl)
            have q62 : tm_at M35 n0 6 0 (.int n10) := ⟨_, m44, rfl⟩
            have q63 : tm_at M35 n0 6 1 (.int x1) := ⟨_, m44, rfl⟩
            have q64 : tm_at M35 n0 6 2 (.int x2) := ⟨_, m44, rfl⟩
            have q65 : tm_at M35 n0 6 3 (.long 0) := ⟨_, m44, rfl⟩
            have q66 : tm_at M35 n0 6 4 (.int 0) := ⟨_, m44, rfl⟩
            have q67 : tm_at M35 n0 6 5 (.int 7) := ⟨_, m44, rfl⟩
            have q68 : tm_at M35 n0 6 6 (.int 1) := ⟨_, m44, rfl⟩
            have q69 : tm_at M35 n0 6 7 (.int 0) := ⟨_, m44, rfl⟩
            have q70 : tm_at M35 n0 6 8 (.int (-1)) := ⟨_, m44, rfl⟩
            have q71 : tm_at M35 n0 6 9 (.int 0) := ⟨_, m44, rfl⟩
            have q72 : tm_at M35 n0 6 10 (.long 0) := ⟨_, m44, rfl⟩
            have q73 : tm_at M35 n0 6 11 (.ref a40) := ⟨_, m44, rfl⟩
            have q74 : tm_at M35 n0 6 12 (.ref a41) := ⟨_, m44, rfl⟩
            have t75 := u58 _ _ t_a41 (tm_dif t_a41 t46 rfl)
            have q76 : tm_at M35 n0 6 13 (.ref a42) := ⟨_, m44, rfl⟩
            have t77 := u58 _ _ t_a42 (tm_dif t_a42 t46 rfl)
            have q78 : tm_at M35 n0 6 14 (.ref a43) := ⟨_, m44, rfl⟩
            have t79 := u58 _ _ t_a43 (tm_dif t_a43 t46 rfl)
            refine mv_astore_n (lv' := [(3, .ref n0), (0, .ref o0), (1, .int x1), (2, .int x2)]) d_TrustDesk_fund_51 rfl (by decide) rfl ?_
            refine mv_aload_n d_TrustDesk_fund_52 rfl rfl ?_
            obtain ⟨a81, q80, t_a81⟩ := tm_atR I56 t60 (k := 1) rfl
            refine tr_getK q80 d_TrustDesk_fund_53 f_TrustDesk_19_12 ?_
            refine mv_aload_n d_TrustDesk_fund_56 rfl rfl ?_
            obtain ⟨_, b88, -⟩ := I56.1 _ _ t_a81
            refine mv_callV (kc' := 1) (ks' := 34) (As := [.ref n0]) (st9 := [.ref n0, .ref a81]) d_TrustDesk_fund_57 lV_TrustDesk_128 b88 rfl (tc_Reader_readDeed_x (d := d) (x9 := x9) (o0 := a81) (o1 := n0) t_a81 t_x57 t61 q73 z45 (by first | omega | decide) I56.start) rfl (Nat.le_of_ble_eq_true rfl) (Nat.le_of_ble_eq_true rfl) (Nat.le_of_ble_eq_true rfl) (hst := rfl) (fun b82r M83 n84 b82 => ?_)
            obtain ⟨T85, J86, v89, rfl, b90, b91, ⟨s92, z93, h94⟩, K95⟩ := b82
            have I87 := I56.call J86 (tm_sub (by decide)) (Or.inl rfl)
            have t96 := J86.up t_x57
            have t97 := J86.up t60
            have K98 : ∀ (a o : Nat) (w : Value), T0 a = some (3, 3, o) → o < n0 → tm_at M0 a 0 2 w → tm_at M83 a 0 2 w := fun a o w h hx q => K95 _ _ _ (I56.up h) (Nat.ne_of_lt (Nat.lt_of_lt_of_le hx h18)) (K48 a o w h hx q)
            have K99 : ∀ (a : Nat) (w : Value), T0 a = some (0, 6, 0) → tm_at M0 a 6 8 w → tm_at M83 a 6 8 w := fun a w h q => J86.keep (I56.up h) (by decide) (K49 a w h q)
            have K100 : ∀ (i b : Nat), tm_ge M0 Lf i b → tm_ge M83 Lf i b := fun i b q => tm_I.keepG I56.1 J86 (I56.up h_Lf) (by decide) (K50 i b q)
            have K101 : ∀ (w : Value), tm_at M0 Lf 0 2 w → tm_at M83 Lf 0 2 w := fun w q => J86.keepL (I56.up h_Lf) (by decide) (K51 w q)
            have q102 := J86.keep t60 (by decide) q52
            have t103 := J86.up t59
            have q104 := J86.keepL t59 (by decide) q54
            have q105 := J86.keep t_x57 (by decide) q62
            have q106 := J86.keep t_x57 (by decide) q63
            have q107 := J86.keep t_x57 (by decide) q64
            have q108 := J86.keep t_x57 (by decide) q65
            have q109 := J86.keep t_x57 (by decide) q69
            have q110 := J86.keep t_x57 (by decide) q70
            have q111 := J86.keep t_x57 (by decide) q71
            have q112 := J86.keep t_x57 (by decide) q72
            have q113 := J86.keep t_x57 (by decide) q73
            have t114 := J86.up t61
            have q115 := J86.keep t_x57 (by decide) q74
            have t116 := J86.up t75
            have q117 := J86.keep t_x57 (by decide) q76
            have t118 := J86.up t77
            have q119 := J86.keep t_x57 (by decide) q78
            have t120 := J86.up t79
            have q121 := J86.keep t60 (by decide) q80
            have t122 := J86.up t_a81
            refine mv_istore (lv' := [(4, .int v89), (3, .ref n0), (0, .ref o0), (1, .int x1), (2, .int x2)]) d_TrustDesk_fund_60 (by decide) rfl ?_
            refine mv_aload_n d_TrustDesk_fund_62 rfl rfl ?_
            refine tr_getK (k := 1) q121 d_TrustDesk_fund_63 f_TrustDesk_19_12 ?_
            refine mv_iconst (v := 0) d_TrustDesk_fund_66 (by decide) ?_
            refine tr_putKM tm_okF I87 t122 (k := 0) rfl ⟨_, rfl⟩ (Or.inl (by decide)) d_TrustDesk_fund_67 p_TrustDesk_88_9 rfl rfl (fun M123 I124 q125 K126 K126M => ?_)
            have K127 : ∀ (a o : Nat) (w : Value), T0 a = some (3, 3, o) → o < n0 → tm_at M0 a 0 2 w → tm_at M123 a 0 2 w := fun a o w h hx q => K126 _ 0 2 _ rfl (K98 a o w h hx q)
            have K128 : ∀ (a : Nat) (w : Value), T0 a = some (0, 6, 0) → tm_at M0 a 6 8 w → tm_at M123 a 6 8 w := fun a w h q => K126 _ 6 8 _ rfl (K99 a w h q)
            have K129 : ∀ (i b : Nat), tm_ge M0 Lf i b → tm_ge M123 Lf i b := fun i b q => tm_ge.put I87.1 (I87.up h_Lf) t122 (by decide) K126M (K100 i b q)
            have K130 : ∀ (w : Value), tm_at M0 Lf 0 2 w → tm_at M123 Lf 0 2 w := fun w q => K126 _ 0 2 _ rfl (K101 w q)
            refine mv_iload d_TrustDesk_fund_70 rfl ?_
            have := mz_hi v89
            refine mv_if_neZ (tgt := 85) (a := v89.toInt) d_TrustDesk_fund_72 (by decide) rfl (fun b131 => ?_) (fun b131 => ?_)
            · refine mv_aload_n d_TrustDesk_fund_85 rfl rfl ?_
              refine tr_getK (k := 6) (K126 _ 12 6 _ rfl q102) d_TrustDesk_fund_86 f_TrustDesk_53_12 ?_
              refine mv_aload_n d_TrustDesk_fund_89 rfl rfl ?_
              have : tm_mx 6 = 12 := rfl
              obtain ⟨m133, e134, N135, f136, h132⟩ := tm_lsn I124 t103 (K126 _ 0 2 _ rfl q104)
              refine mv_callV (kc' := 0) (ks' := 0) (As := [.ref n0]) (st9 := [.ref n0, .ref Lf]) d_TrustDesk_fund_90 lV_TrustDesk_107 h132.1 rfl (tc_AL_addK (FT := tm_FT) (W := tm_in [5006]) (x := x9) (d := (d + 16)) tm_okF t103 t96 (K126 _ 0 2 _ rfl q104) (show _ < (12 : Int) by omega) rfl (C := "TrustDesk$Fund") (T9 := kF_Fund) (N9 := 15) rfl (mj_in1 (List.mem_of_getElem? (i := 2104) (by decide +kernel)) rfl) (by decide) (by decide) I124.start) rfl (Nat.le_of_ble_eq_true rfl) (Nat.le_of_ble_eq_true rfl) (Nat.le_of_ble_eq_true rfl) (hst := rfl) (fun b137r M138 n139 b137 => ?_)
              obtain ⟨T140, J141, rfl, q143, K144, K145, g146⟩ := b137
              have I142 := I124.call J141 (tm_sub (by decide)) (Or.inl rfl)
              have t147 := J141.up t103
              have t148 := J141.up t96
              have t149 := J141.up t97
              have q150 := J141.keep t97 (by decide) (K126 _ 12 6 _ rfl q102)
              have q151 := J141.keep t96 (by decide) (K126 _ 6 0 _ rfl q105)
              have q152 := J141.keep t96 (by decide) (K126 _ 6 1 _ rfl q106)
              have q153 := J141.keep t96 (by decide) (K126 _ 6 2 _ rfl q107)
              have q154 := J141.keep t96 (by decide) (K126 _ 6 3 _ rfl q108)
              have q155 := J141.keep t96 (by decide) (K126 _ 6 7 _ rfl q109)
              have q156 := J141.keep t96 (by decide) (K126 _ 6 8 _ rfl q110)
              have q157 := J141.keep t96 (by decide) (K126 _ 6 9 _ rfl q111)
              have q158 := J141.keep t96 (by decide) (K126 _ 6 10 _ rfl q112)
              have q159 := J141.keep t96 (by decide) (K126 _ 6 11 _ rfl q113)
              have t160 := J141.up t114
              have q161 := J141.keep t96 (by decide) (K126 _ 6 12 _ rfl q115)
              have t162 := J141.up t116
              have q163 := J141.keep t96 (by decide) (K126 _ 6 13 _ rfl q117)
              have t164 := J141.up t118
              have q165 := J141.keep t96 (by decide) (K126 _ 6 14 _ rfl q119)
              have t166 := J141.up t120
              have q167 := J141.keep t97 (by decide) (K126 _ 12 1 _ rfl q121)
              have t168 := J141.up t122
              have q169 := J141.keepL t114 (by decide) (K126 _ 0 2 _ rfl z93)
              have q170 := J141.keep t122 (by decide) q125
              have K171 : ∀ (a o : Nat) (w : Value), T0 a = some (3, 3, o) → o < n0 → tm_at M0 a 0 2 w → tm_at M138 a 0 2 w := fun a o w h hx q => tm_at.eq (K144 _ _ _ (tm_lnc (I124.up h) t103 (by decide)) (I124.up h)) (K127 a o w h hx q)
              have K172 : ∀ (a : Nat) (w : Value), T0 a = some (0, 6, 0) → tm_at M0 a 6 8 w → tm_at M138 a 6 8 w := fun a w h q => J141.keep (I124.up h) (by decide) (K128 a w h q)
              have K173 : ∀ (i b : Nat), tm_ge M0 Lf i b → tm_ge M138 Lf i b := fun i b q => K145 _ _ (K129 i b q)
              have b174 : (n10 + 1).toInt = n10.toInt + 1 := mz_addn 1 1 (by decide) (by have := mz_lo n10; omega) (by omega)
              refine mv_pop d_TrustDesk_fund_93 rfl ?_
              refine mv_aload_n d_TrustDesk_fund_94 rfl rfl ?_
              refine tr_getK (k := 0) q151 d_TrustDesk_fund_95 f_TrustDesk_132_6 ?_
              exact mv_iret d_TrustDesk_fund_98 rfl (by first | rfl | decide) ⟨_, I142, _, rfl, K171, K172, K173, Or.inr ⟨n0, a40, n10, s92, n10, q11, q143, g146, q151, by omega, q159, t160, q169, by omega, h18⟩⟩
            · refine mv_iconst (v := (-1)) d_TrustDesk_fund_75 (by decide) ?_
              refine mv_aload_n d_TrustDesk_fund_76 rfl rfl ?_
              refine tr_getK (k := 1) (K126 _ 12 1 _ rfl q121) d_TrustDesk_fund_77 f_TrustDesk_19_12 ?_
              obtain ⟨v176, q175⟩ := tm_atI I124 t122 (k := 1) rfl
              refine tr_getK q175 d_TrustDesk_fund_80 f_TrustDesk_104_9 ?_
              refine mv_isub d_TrustDesk_fund_83 ?_
              exact mv_iret d_TrustDesk_fund_84 rfl (by first | rfl | decide) ⟨_, I124, _, rfl, K127, K128, K129, Or.inl K130⟩
          · refine mv_iconst (v := (-1)) d_TrustDesk_fund_33 (by decide) ?_
            exact mv_iret d_TrustDesk_fund_34 rfl (by first | rfl | decide) ⟨_, I0, _, rfl, K0L, K0J, K0G, Or.inl K0S⟩
