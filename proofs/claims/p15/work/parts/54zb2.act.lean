def w_Act_init_a : List Nat := []
theorem tc_Act_init_a {g : mj_G} {l : Launch} {d : Nat} {T0 : tm_H} {M0 : mj_M} {n0 : Nat} {o0 : Nat} {x1 : Int32} (h_o0 : T0 o0 = some (5, 1, 0)) (m_o0 : M0 o0 = some (.inr (1, [.int 0, .int 0, .null, .null, .null])))  (I0 : tm_I tm_FT (tm_in w_Act_init_a) o0 T0 M0 n0 T0 M0 n0) : mj_Met g l kY_Act_init (d + 4) [.ref o0, .int x1] M0 n0 3 29 (tm_Q tm_FT (tm_in w_Act_init_a) o0 T0 M0 n0 (fun r T M => r = none ∧ ∃ c0 c1 c2 : Nat, M o0 = some (.inr (1, [.int x1, .int 0, .ref c0, .ref c1, .ref c2])) ∧ T c0 = some (3, 2, o0) ∧ T c1 = some (1, 1224, 6) ∧ T c2 = some (1, 1232, 20) ∧ tm_at M c0 0 2 (.int 0) ∧ n0 ≤ c1 ∧ M c1 = some (.inl (0, 6, .inl mj_rwf)))) := by
  refine mj_enter (by decide) (Nat.le_of_ble_eq_true rfl) ?_
  refine mv_aload_n d_Act_init_0 rfl rfl ?_
  refine mv_oinit d_Act_init_1 (mj_in1 (List.mem_of_getElem? (i := 210) (by decide +kernel)) rfl) (Nat.le_of_ble_eq_true rfl) ?_
  refine mv_aload_n d_Act_init_4 rfl rfl ?_
  refine tr_new (kc' := 2) (ks' := 26) tm_okF I0 d_Act_init_5 n_Act_9 (Nat.le_of_ble_eq_true rfl) (Nat.le_of_ble_eq_true rfl) (fun T1 M2 I3 t_x4 m5 h6 u7 K8 => ?_)
  have m9 := (K8 _ _ h_o0).trans m_o0
  have t10 := u7 _ _ h_o0
  have h11 := tm_ne I0 h_o0
  refine mv_dup d_Act_init_8 rfl ?_
  refine mv_callI (kc' := 2) (ks' := 26) (As := []) (st9 := [.ref n0, .ref n0, .ref o0]) d_Act_init_9 lI_Act_11 (tc_ArrayList_init (d := d) (o0 := n0) t_x4 m5 I3.start) rfl (Nat.le_of_ble_eq_true rfl) (Nat.le_of_ble_eq_true rfl) (Nat.le_of_ble_eq_true rfl) (hst := rfl) (fun b12r M13 n14 b12 => ?_)
  obtain ⟨T15, J16, rfl, m18⟩ := b12
  have I17 := I3.call J16 (tm_sub (by decide)) (Or.inr h6)
  have m19 := (J16.keepX t10 h11).trans m9
  have t20 := J16.up t_x4
  have t21 := J16.up t10
  obtain ⟨T22, I23, t_x24, u25⟩ := I17.sealL (o := o0) (c := 2) tm_okF t20 h6 m18
  have t26 := u25 _ _ t21 h11
  have q27 : tm_at M13 n0 0 2 (.int 0) := ⟨_, m18, rfl⟩
  refine tr_putXF (k := 2) (fs' := [.int 0, .int 0, .ref n0, .null, .null]) tm_okF I23 t26 (Or.inl rfl) m19 d_Act_init_12 p_Act_12_1 rfl (Nat.le_of_ble_eq_true rfl) rfl rfl rfl (fun M28 I29 m30 K31 => ?_)
  have q32 := tm_at.eq (K31 _ (tm_dif t_x24 t26 rfl)) q27
  refine mv_aload_n d_Act_init_15 rfl rfl ?_
  refine mv_gets1 d_Act_init_16 (mj_in1 (List.mem_of_getElem? (i := 237) (by decide +kernel)) rfl) ?_
  refine tr_cloneV (E := 1224) (kc' := 1) (ks' := 20) tm_okF I29 (by decide) d_Act_init_19 (mj_in1 (List.mem_of_getElem? (i := 239) (by decide +kernel)) rfl) (Nat.le_of_ble_eq_true rfl) (Nat.le_of_ble_eq_true rfl) (Nat.le_of_ble_eq_true rfl) (fun T33 M34 I35 t_x39 u36 K37 h38 => ?_)
  have q40 := tm_at.eq (K37 _ _ t_x24) q32
  have t41 := u36 _ _ t_x24
  have m42 := (K37 _ _ t26).trans m30
  have t43 := u36 _ _ t26
  refine tr_castA I35 t_x39 (by decide) d_Act_init_22 (mj_in1 (List.mem_of_getElem? (i := 245) (by decide +kernel)) rfl) ?_
  refine tr_putXF (k := 3) (fs' := [.int 0, .int 0, .ref n0, .ref n14, .null]) tm_okF I35 t43 (Or.inl rfl) m42 d_Act_init_25 p_Act_27_1 rfl (Nat.le_of_ble_eq_true rfl) rfl rfl rfl (fun M44 I45 m46 K47 => ?_)
  have q48 := tm_at.eq (K47 _ (tm_dif t41 t43 rfl)) q40
  have h49 := (K47 _ (tm_dif t_x39 t43 rfl)).trans h38
  refine mv_aload_n d_Act_init_28 rfl rfl ?_
  refine mv_bipush (v := 20) d_Act_init_29 (by decide) ?_
  refine tr_newi (E := 1232) (N := 20) (kc' := 0) (ks' := 0) tm_okF I45 (by decide) d_Act_init_31 (by decide) (by decide) (by decide) (Nat.le_of_ble_eq_true rfl) (Nat.le_of_ble_eq_true rfl) (fun T50 M51 I52 t_x53 u54 K55 => ?_)
  have h56 := (K55 _ _ t_x39).trans h49
  have q57 := tm_at.eq (K55 _ _ t41) q48
  have t58 := u54 _ _ t41
  have m59 := (K55 _ _ t43).trans m46
  have t60 := u54 _ _ t43
  have t61 := u54 _ _ t_x39
  refine tr_putXF (k := 4) (fs' := [.int 0, .int 0, .ref n0, .ref n14, .ref (n14 + 1)]) tm_okF I52 t60 (Or.inl rfl) m59 d_Act_init_33 p_Act_30_1 rfl (Nat.le_of_ble_eq_true rfl) rfl rfl rfl (fun M62 I63 m64 K65 => ?_)
  have q66 := tm_at.eq (K65 _ (tm_dif t58 t60 rfl)) q57
  have h67 := (K65 _ (tm_dif t61 t60 rfl)).trans h56
  refine mv_aload_n d_Act_init_36 rfl rfl ?_
  refine mv_iload_n d_Act_init_37 rfl rfl ?_
  refine tr_putXF (k := 0) (fs' := [.int x1, .int 0, .ref n0, .ref n14, .ref (n14 + 1)]) tm_okF I63 t60 (Or.inl rfl) m64 d_Act_init_38 p_Act_33_1 rfl (Nat.le_of_ble_eq_true rfl) rfl rfl rfl (fun M68 I69 m70 K71 => ?_)
  have q72 := tm_at.eq (K71 _ (tm_dif t58 t60 rfl)) q66
  have h73 := (K71 _ (tm_dif t61 t60 rfl)).trans h67
  exact mv_vret d_Act_init_41 rfl ⟨_, I69, rfl, _, _, _, m70, t58, t61, t_x53, q72, I29.2.2.2.1, h73⟩
def w_TrustDesk_act_a : List Nat := [101, 153, 154, 900, 901, 902, 908, 909, 910, 911, 912, 913, 914, 915, 916, 918, 954, 955, 956, 957, 967, 5001, 5002]
set_option maxHeartbeats 100000000 in theorem tc_TrustDesk_act_a {g : mj_G} {l : Launch} {d : Nat} {T0 : tm_H} {M0 : mj_M} {n0 x9 : Nat} {o0 : Nat} {x1 : Int32} (h_o0 : T0 o0 = some (0, 12, 0)) {Rd : Nat} {k vp0 : Int32} {pb : Nat → Int} {pn : Nat} (h_Rd : T0 Rd = some (0, 9, 0)) (q_Rd : tm_at M0 o0 12 1 (.ref Rd)) (yB : qB M0 Rd pb pn) (yp : tm_at M0 Rd 9 2 (.int vp0)) {Lx : Nat} (h_Lx : T0 Lx = some (3, 1, o0)) (q_Lx : tm_at M0 o0 12 5 (.ref Lx)) (yk : tm_at M0 Lx 0 2 (.int k)) (I0 : tm_I tm_FT (tm_in w_TrustDesk_act_a) x9 T0 M0 n0 T0 M0 n0) : mj_Met g l kY_TrustDesk_act (d + 23) [.ref o0, .int x1] M0 n0 71 10204 (tm_Q tm_FT (tm_in w_TrustDesk_act_a) x9 T0 M0 n0 (fun r _ M => ∃ v : Int32, r = some (.int v) ∧ ((v.toInt = -1 ∧ ¬ (0 ≤ x1.toInt ∧ x1.toInt ≤ 36000 ∧ k.toInt < 20) ∧ qB M Rd pb pn ∧ tm_at M Rd 9 2 (.int vp0) ∧ tm_at M Lx 0 2 (.int k)) ∨ ((0 ≤ x1.toInt ∧ x1.toInt ≤ 36000 ∧ k.toInt < 20) ∧ tm_at M Rd 9 0 (.int 0) ∧ ∃ vp k1 : Int32, tm_at M Rd 9 2 (.int vp) ∧ tm_at M Lx 0 2 (.int k1) ∧ ((p_act pb pn).2.1 = 0 ∧ v.toInt = ((p_act pb pn).1 : Int) ∧ vp.toInt = -1 ∧ k1.toInt = k.toInt + 1 ∨ (p_act pb pn).2.1 ≠ 0 ∧ v.toInt = -1 - (p_act pb pn).2.1 ∧ vp.toInt = ((p_act pb pn).2.2.1 : Int) ∧ k1.toInt = k.toInt))) ∧ (∀ R : Nat, T0 R = some (1, 1224, 6) → M R = M0 R) ∧ (∀ i b : Nat, tm_ge M0 Lx i b → tm_ge M Lx i b) ∧ ((0 ≤ x1.toInt ∧ x1.toInt ≤ 36000 ∧ k.toInt < 20) → (p_act pb pn).2.1 = 0 → ∃ a : Nat, tm_ge M Lx k.toNatClampNeg a ∧ qO M a x1.toInt (p_av pb pn).2))) := by
  refine mj_enter (by decide) (Nat.le_of_ble_eq_true rfl) ?_
  have U0 : ∀ R : Nat, T0 R = some (1, 1224, 6) → M0 R = M0 R := fun R _ => rfl
  have G0 : ∀ i b : Nat, tm_ge M0 Lx i b → tm_ge M0 Lx i b := fun _ _ h => h
  refine mv_iload_n d_TrustDesk_act_0 rfl rfl ?_
  refine mv_callS (kc1 := 0) (ks1 := 0) (kc' := 71) (ks' := 10204) (As := [.int x1]) (st9 := [.int x1]) d_TrustDesk_act_1 lS_TrustDesk_94 (mj_enter (by decide) (Nat.le_of_ble_eq_true rfl) ?_) rfl (Nat.le_of_ble_eq_true rfl) (Nat.le_of_ble_eq_true rfl) (Nat.le_of_ble_eq_true rfl) (hst := rfl) (fun _ _ _ h => h)
  refine mv_iload_n d_TrustDesk_isDay_0 rfl rfl ?_
  have := mz_hi x1
  refine mv_if_ltZ (tgt := 14) (a := x1.toInt) d_TrustDesk_isDay_1 (by decide) rfl (fun b1 => ?_) (fun b1 => ?_)
  · refine mv_iconst (v := 0) d_TrustDesk_isDay_14 (by decide) ?_
    refine mv_iret d_TrustDesk_isDay_15 rfl (by decide) ?_
    refine mv_if_eq_t (tgt := 19) d_TrustDesk_act_4 (by decide) (by decide) ?_
    refine mv_iconst (v := (-1)) d_TrustDesk_act_19 (by decide) ?_
    exact mv_iret d_TrustDesk_act_20 rfl (by first | rfl | decide) ⟨_, I0, _, rfl, (Or.inl ⟨by first | decide | omega, by omega, yB, yp, yk⟩), U0, G0, (fun h9 _ => absurd h9 (by omega))⟩
  · refine mv_iload_n d_TrustDesk_isDay_4 rfl rfl ?_
    refine mv_ldc d_TrustDesk_isDay_5 k_TrustDesk_147 ?_
    have := mz_hi x1
    refine mv_icmp_gtZ (tgt := 14) (a := x1.toInt) (b := 36000) d_TrustDesk_isDay_7 (by decide) rfl (by decide) (fun b2 => ?_) (fun b2 => ?_)
    · refine mv_iconst (v := 0) d_TrustDesk_isDay_14 (by decide) ?_
      refine mv_iret d_TrustDesk_isDay_15 rfl (by decide) ?_
      refine mv_if_eq_t (tgt := 19) d_TrustDesk_act_4 (by decide) (by decide) ?_
      refine mv_iconst (v := (-1)) d_TrustDesk_act_19 (by decide) ?_
      exact mv_iret d_TrustDesk_act_20 rfl (by first | rfl | decide) ⟨_, I0, _, rfl, (Or.inl ⟨by first | decide | omega, by omega, yB, yp, yk⟩), U0, G0, (fun h9 _ => absurd h9 (by omega))⟩
    · refine mv_iconst (v := 1) d_TrustDesk_isDay_10 (by decide) ?_
      refine mv_goto (tgt := 15) d_TrustDesk_isDay_11 (by decide) ?_
      refine mv_iret d_TrustDesk_isDay_15 rfl (by decide) ?_
      refine mv_if_eq_f (tgt := 19) d_TrustDesk_act_4 (by decide) (by decide) ?_
      refine mv_aload_n d_TrustDesk_act_7 rfl rfl ?_
      refine tr_getK (k := 5) q_Lx d_TrustDesk_act_8 f_TrustDesk_49_12 ?_
      obtain ⟨m4, e5, N6, f7, h3⟩ := tm_lsn I0 h_Lx yk
      refine mv_callV_s (kc' := 71) (ks' := 10204) [] [.ref Lx] d_TrustDesk_act_11 lV_TrustDesk_97 h3.1 rfl (tc_L_size (d := (d + 22)) h3.1) rfl (Nat.le_of_ble_eq_true rfl) (Nat.le_of_ble_eq_true rfl) (Nat.le_of_ble_eq_true rfl) rfl ?_
      refine mv_bipush (v := 20) d_TrustDesk_act_14 (by decide) ?_
      have := mz_hi k
      refine mv_icmp_ltZ (tgt := 21) (a := k.toInt) (b := 20) d_TrustDesk_act_16 (by decide) rfl (by decide) (fun b8 => ?_) (fun b8 => ?_)
      · refine tr_new (kc' := 70) (ks' := 10199) tm_okF I0 d_TrustDesk_act_21 n_TrustDesk_37 (Nat.le_of_ble_eq_true rfl) (Nat.le_of_ble_eq_true rfl) (fun T9 M10 I11 t_x12 m13 h14 u15 K16 => ?_)
        have B17 : qB M10 Rd pb pn := yB.made I0.1 (I0.up h_Rd) K16
        have K18 : ∀ R : Nat, T0 R = some (1, 1224, 6) → M10 R = M0 R := fun R h => (K16 _ _ (I0.up h)).trans (U0 R h)
        have K19 : ∀ i b : Nat, tm_ge M0 Lx i b → tm_ge M10 Lx i b := fun i b h => tm_ge.mono I0.1 (I0.up h_Lx) (K16 _ _ (I0.up h_Lx)) (fun e te => K16 _ _ te) (G0 i b h)
        have q20 := tm_at.eq (K16 _ _ h_o0) q_Rd
        have t21 := u15 _ _ h_Rd
        have t22 := u15 _ _ h_o0
        have q23 := tm_at.eq (K16 _ _ h_o0) q_Lx
        have t24 := u15 _ _ h_Lx
        have q25 := tm_at.eq (K16 _ _ h_Lx) yk
        have q26 := tm_at.eq (K16 _ _ h_Rd) yp
        refine mv_dup d_TrustDesk_act_24 rfl ?_
        refine mv_iload_n d_TrustDesk_act_25 rfl rfl ?_
        refine mv_callI (kc' := 67) (ks' := 10170) (As := [.int x1]) (st9 := [.int x1, .ref n0, .ref n0]) d_TrustDesk_act_26 lI_TrustDesk_39 (tc_Act_init_a (d := (d + 18)) (o0 := n0) (x1 := x1) t_x12 m13 I11.start) rfl (Nat.le_of_ble_eq_true rfl) (Nat.le_of_ble_eq_true rfl) (Nat.le_of_ble_eq_true rfl) (hst := rfl) (fun b27r M28 n29 b27 => ?_)
        obtain ⟨T30, J31, rfl, a33, a34, a35, m36, t_a33, t_a34, t_a35, z37, z38⟩ := b27
        have I32 := I11.call J31 (tm_sub (by decide)) (Or.inr h14)
        have t39 := J31.up t_x12
        have t40 := J31.up t22
        have B41 : qB M28 Rd pb pn := B17.keep I11.1 J31 (I11.up h_Rd) (by decide) (by decide) (by decide)
        have K42 : ∀ R : Nat, T0 R = some (1, 1224, 6) → M28 R = M0 R := fun R h => (tm_keepU J31 (I11.up h) (by decide)).trans (K18 R h)
        have K43 : ∀ i b : Nat, tm_ge M0 Lx i b → tm_ge M28 Lx i b := fun i b h => tm_I.keepG I11.1 J31 (I11.up h_Lx) (by decide) (K19 i b h)
        have q44 := J31.keep t22 (by decide) q20
        have t45 := J31.up t21
        have q46 := J31.keep t22 (by decide) q23
        have t47 := J31.up t24
        have q48 := J31.keepL t24 (by decide) q25
        have q49 := J31.keep t21 (by decide) q26
        obtain ⟨T50, I51, t_x52, u53⟩ := I32.sealO tm_okF t39 h14 m36 (fun _ z9 => (tm_fs_cons ⟨_, rfl⟩ (tm_fs_cons ⟨_, rfl⟩ (tm_fs_cons ⟨_, rfl, z9 _ _ t_a33 (Nat.le_of_ble_eq_true rfl)⟩ (tm_fs_cons ⟨_, rfl, z9 _ _ t_a34 (Nat.le_of_ble_eq_true rfl)⟩ (tm_fs_cons ⟨_, rfl, z9 _ _ t_a35 (Nat.le_of_ble_eq_true rfl)⟩ tm_fs_nil))))))
        have t54 := u53 _ _ t45 (tm_dif t45 t39 rfl)
        have t55 := u53 _ _ t40 (tm_dif t40 t39 rfl)
        have t56 := u53 _ _ t47 (tm_dif t47 t39 rfl)
        have t57 := u53 _ _ t_a33 (tm_dif t_a33 t39 rfl)
        have q58 : tm_at M28 n0 1 0 (.int x1) := ⟨_, m36, rfl⟩
        have q59 : tm_at M28 n0 1 1 (.int 0) := ⟨_, m36, rfl⟩
        have q60 : tm_at M28 n0 1 2 (.ref a33) := ⟨_, m36, rfl⟩
        have q61 : tm_at M28 n0 1 3 (.ref a34) := ⟨_, m36, rfl⟩
        have t62 := u53 _ _ t_a34 (tm_dif t_a34 t39 rfl)
        have q63 : tm_at M28 n0 1 4 (.ref a35) := ⟨_, m36, rfl⟩
        have t64 := u53 _ _ t_a35 (tm_dif t_a35 t39 rfl)
        have K65 : ∀ j : Nat, j < 6 → ra M28 n0 3 j = p_dv j := fun j hj => (ra_of q61 z38.2 j).trans (p_dv_r j hj)
        refine mv_astore_n (lv' := [(2, .ref n0), (0, .ref o0), (1, .int x1)]) d_TrustDesk_act_29 rfl (by decide) rfl ?_
        refine mv_aload_n d_TrustDesk_act_30 rfl rfl ?_
        refine tr_getK (k := 1) q44 d_TrustDesk_act_31 f_TrustDesk_19_12 ?_
        refine mv_aload_n d_TrustDesk_act_34 rfl rfl ?_
        obtain ⟨_, b72, -⟩ := I51.1 _ _ t54
        refine mv_callV (kc' := 1) (ks' := 50) (As := [.ref n0]) (st9 := [.ref n0, .ref Rd]) d_TrustDesk_act_35 lV_TrustDesk_100 b72 rfl (tc_Reader_readAct_a (d := d) (x9 := x9) (o0 := Rd) (o1 := n0) t54 t_x52 B41 q59 (by decide) t62 q61 K65 I51.start) rfl (Nat.le_of_ble_eq_true rfl) (Nat.le_of_ble_eq_true rfl) (Nat.le_of_ble_eq_true rfl) (hst := rfl) (fun b66r M67 n68 b66 => ?_)
        obtain ⟨T69, J70, v73, rfl, b74, b75, f76, f77, f78⟩ := b66
        have I71 := I51.call J70 (tm_sub (by decide)) (Or.inl rfl)
        have t79 := J70.up t_x52
        have t80 := J70.up t55
        have B81 : qB M67 Rd pb pn := B41.keep I51.1 J70 (I51.up h_Rd) (by decide) (by decide) (by decide)
        have K82 : ∀ R : Nat, T0 R = some (1, 1224, 6) → M67 R = M0 R := fun R h => (f78 R (I51.up h) (Nat.ne_of_lt (Nat.lt_of_lt_of_le (I0.2.2.2.2.1 R _ h) (Nat.le_trans I11.2.2.2.1 z38.1)))).trans (K42 R h)
        have K83 : (p_act pb pn).2.1 = 0 → ∀ j : Nat, j < 6 → ra M67 n0 3 j = (p_av pb pn).2 j := f77
        have K84 : ∀ i b : Nat, tm_ge M0 Lx i b → tm_ge M67 Lx i b := fun i b h => tm_I.keepG I51.1 J70 (I51.up h_Lx) (by decide) (K43 i b h)
        have q85 := J70.keep t55 (by decide) q44
        have t86 := J70.up t54
        have q87 := J70.keep t55 (by decide) q46
        have t88 := J70.up t56
        have q89 := J70.keepL t56 (by decide) q48
        have q90 := J70.keep t_x52 (by decide) q58
        have q91 := J70.keep t_x52 (by decide) q60
        have t92 := J70.up t57
        have q93 := J70.keep t_x52 (by decide) q61
        have t94 := J70.up t62
        have q95 := J70.keep t_x52 (by decide) q63
        have t96 := J70.up t64
        obtain ⟨v97, v98, v99, q100, q101, q102, h103, h104⟩ := f76
        refine mv_istore_n (lv' := [(3, .int v73), (2, .ref n0), (0, .ref o0), (1, .int x1)]) d_TrustDesk_act_38 rfl (by decide) rfl ?_
        refine mv_aload_n d_TrustDesk_act_39 rfl rfl ?_
        refine tr_getK (k := 1) q85 d_TrustDesk_act_40 f_TrustDesk_19_12 ?_
        refine mv_iconst (v := 0) d_TrustDesk_act_43 (by decide) ?_
        refine tr_putKM tm_okF I71 t86 (k := 0) rfl ⟨_, rfl⟩ (Or.inl (by decide)) d_TrustDesk_act_44 p_TrustDesk_88_9 rfl rfl (fun M105 I106 q107 K108 K108M => ?_)
        have K109 : ∀ R : Nat, T0 R = some (1, 1224, 6) → M105 R = M0 R := fun R h => (K108M _ (tm_dif (I71.up h) t86 rfl)).trans (K82 R h)
        have K110 : (p_act pb pn).2.1 = 0 → ∀ j : Nat, j < 6 → ra M105 n0 3 j = (p_av pb pn).2 j := fun h9 j hj => (ra_u q93 (K108 _ 1 3 _ rfl q93) (K108M _ (tm_dif t94 t86 rfl)) j).trans (K83 h9 j hj)
        have K111 : ∀ i b : Nat, tm_ge M0 Lx i b → tm_ge M105 Lx i b := fun i b h => tm_ge.put I71.1 (I71.up h_Lx) t86 (by decide) K108M (K84 i b h)
        refine mv_iload_n d_TrustDesk_act_47 rfl rfl ?_
        have := mz_hi v73
        refine mv_if_neZ (tgt := 61) (a := v73.toInt) d_TrustDesk_act_48 (by decide) rfl (fun b112 => ?_) (fun b112 => ?_)
        · refine mv_aload_n d_TrustDesk_act_61 rfl rfl ?_
          refine tr_getK (k := 5) (K108 _ 12 5 _ rfl q87) d_TrustDesk_act_62 f_TrustDesk_49_12 ?_
          refine mv_aload_n d_TrustDesk_act_65 rfl rfl ?_
          have : tm_mx 1 = 20 := rfl
          obtain ⟨m114, e115, N116, f117, h113⟩ := tm_lsn I106 t88 (K108 _ 0 2 _ rfl q89)
          refine mv_callV (kc' := 0) (ks' := 0) (As := [.ref n0]) (st9 := [.ref n0, .ref Lx]) d_TrustDesk_act_66 lV_TrustDesk_107 h113.1 rfl (tc_AL_addK (FT := tm_FT) (W := tm_in [5001]) (x := x9) (d := (d + 16)) tm_okF t88 t79 (K108 _ 0 2 _ rfl q89) (show _ < (20 : Int) by omega) rfl (C := "TrustDesk$Act") (T9 := kF_Act) (N9 := 5) rfl (mj_in1 (List.mem_of_getElem? (i := 2100) (by decide +kernel)) rfl) (by decide) (by decide) I106.start) rfl (Nat.le_of_ble_eq_true rfl) (Nat.le_of_ble_eq_true rfl) (Nat.le_of_ble_eq_true rfl) (hst := rfl) (fun b118r M119 n120 b118 => ?_)
          obtain ⟨T121, J122, rfl, q124, K125, K126, g127⟩ := b118
          have I123 := I106.call J122 (tm_sub (by decide)) (Or.inl rfl)
          have t128 := J122.up t88
          have t129 := J122.up t79
          have t130 := J122.up t80
          have q131 := J122.keep t80 (by decide) (K108 _ 12 1 _ rfl q85)
          have t132 := J122.up t86
          have q133 := J122.keep t80 (by decide) (K108 _ 12 5 _ rfl q87)
          have q134 := J122.keep t79 (by decide) (K108 _ 1 0 _ rfl q90)
          have q135 := J122.keep t79 (by decide) (K108 _ 1 2 _ rfl q91)
          have t136 := J122.up t92
          have q137 := J122.keep t79 (by decide) (K108 _ 1 3 _ rfl q93)
          have t138 := J122.up t94
          have q139 := J122.keep t79 (by decide) (K108 _ 1 4 _ rfl q95)
          have t140 := J122.up t96
          have q141 := J122.keep (J70.up t_x52) (by decide) (K108 _ 1 1 _ rfl q102)
          have q142 := J122.keep (I71.up h_Rd) (by decide) (K108 _ 9 1 _ rfl q100)
          have q143 := J122.keep (I71.up h_Rd) (by decide) (K108 _ 9 2 _ rfl q101)
          have q144 := J122.keep t86 (by decide) q107
          have K145 : ∀ R : Nat, T0 R = some (1, 1224, 6) → M119 R = M0 R := fun R h => (tm_keepU J122 (I106.up h) (by decide)).trans (K109 R h)
          have K146 : (p_act pb pn).2.1 = 0 → ∀ j : Nat, j < 6 → ra M119 n0 3 j = (p_av pb pn).2 j := fun h9 j hj => (ra_u (K108 _ 1 3 _ rfl q93) (J122.keep t79 (by decide) (K108 _ 1 3 _ rfl q93)) (tm_keepU J122 t94 (by decide)) j).trans (K110 h9 j hj)
          have K147 : ∀ i b : Nat, tm_ge M0 Lx i b → tm_ge M119 Lx i b := fun i b h => K126 _ _ (K111 i b h)
          have b148 : (k + 1).toInt = k.toInt + 1 := mz_addn 1 1 (by decide) (by have := mz_lo k; omega) (by omega)
          refine mv_pop d_TrustDesk_act_69 rfl ?_
          refine mv_aload_n d_TrustDesk_act_70 rfl rfl ?_
          refine tr_getK (k := 1) q141 d_TrustDesk_act_71 f_TrustDesk_111_1 ?_
          exact mv_iret d_TrustDesk_act_74 rfl (by first | rfl | decide) ⟨_, I123, _, rfl, (Or.inr ⟨by omega, q144, _, _, q143, q124, by omega⟩), K145, K147, (fun _ z9 => ⟨_, g127, _, _, q134, rfl, q137, fun j hj => K146 z9 j hj⟩)⟩
        · refine mv_iconst (v := (-1)) d_TrustDesk_act_51 (by decide) ?_
          refine mv_aload_n d_TrustDesk_act_52 rfl rfl ?_
          refine tr_getK (k := 1) (K108 _ 12 1 _ rfl q85) d_TrustDesk_act_53 f_TrustDesk_19_12 ?_
          refine tr_getK (k := 1) (K108 _ 9 1 _ rfl q100) d_TrustDesk_act_56 f_TrustDesk_104_9 ?_
          refine mv_isub d_TrustDesk_act_59 ?_
          have : (((-1) - v97) : Int32).toInt = -1 - v97.toInt := mz_sub2 (by decide) rfl (by have := mz_lo v97; have := mz_hi v97; omega) (by have := mz_lo v97; have := mz_hi v97; omega)
          exact mv_iret d_TrustDesk_act_60 rfl (by first | rfl | decide) ⟨_, I106, _, rfl, (Or.inr ⟨by omega, q107, _, _, (K108 _ 9 2 _ rfl q101), (K108 _ 0 2 _ rfl q89), by omega⟩), K109, K111, (fun _ h9 => absurd h9 (by omega))⟩
      · refine mv_iconst (v := (-1)) d_TrustDesk_act_19 (by decide) ?_
        exact mv_iret d_TrustDesk_act_20 rfl (by first | rfl | decide) ⟨_, I0, _, rfl, (Or.inl ⟨by first | decide | omega, by omega, yB, yp, yk⟩), U0, G0, (fun h9 _ => absurd h9 (by omega))⟩
