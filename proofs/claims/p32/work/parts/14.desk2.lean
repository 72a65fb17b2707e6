theorem d_Reader_bar_41 : decode kY_Reader_bar.2.1 41 = .ok (.ifCond .ne 5, 3) := by decide +kernel
theorem d_Reader_bar_46 : decode kY_Reader_bar.2.1 46 = .ok (.aload_n 1, 1) := by decide +kernel
theorem d_Reader_bar_47 : decode kY_Reader_bar.2.1 47 = .ok (.iload_n 2, 1) := by decide +kernel
theorem d_Reader_bar_48 : decode kY_Reader_bar.2.1 48 = .ok (.aload_n 0, 1) := by decide +kernel
theorem d_Reader_bar_49 : decode kY_Reader_bar.2.1 49 = .ok (.invokevirtual 128, 3) := by decide +kernel
abbrev kY_Reader_stepsTaken : mj_Y := (⟨"TrustDesk$Reader", "stepsTaken", "()LTrustDesk$Code;"⟩, prog_10_method_24_code, 2, (Option.some (Jvm.ClassFile.FieldType.object "TrustDesk$Code")))
theorem d_Reader_stepsTaken_0 : decode kY_Reader_stepsTaken.2.1 0 = .ok (.iconst 0, 1) := by decide +kernel
theorem d_Reader_stepsTaken_1 : decode kY_Reader_stepsTaken.2.1 1 = .ok (.aload_n 0, 1) := by decide +kernel
theorem d_Reader_stepsTaken_2 : decode kY_Reader_stepsTaken.2.1 2 = .ok (.getfield 118, 3) := by decide +kernel
theorem d_Reader_stepsTaken_5 : decode kY_Reader_stepsTaken.2.1 5 = .ok (.sipush 400, 3) := by decide +kernel
theorem d_Reader_stepsTaken_8 : decode kY_Reader_stepsTaken.2.1 8 = .ok (.invokestatic 224, 3) := by decide +kernel
theorem d_Reader_stepsTaken_11 : decode kY_Reader_stepsTaken.2.1 11 = .ok (.invokestatic 229, 3) := by decide +kernel
theorem d_Reader_stepsTaken_14 : decode kY_Reader_stepsTaken.2.1 14 = .ok (.istore_n 1, 1) := by decide +kernel
theorem d_Reader_stepsTaken_15 : decode kY_Reader_stepsTaken.2.1 15 = .ok (.new 201, 3) := by decide +kernel
theorem kg_2 : ∀ w ∈ u_ws kR_Code kF_Code 1, w ∈ mj_T := fun w h => mj_in1 (ki_Code w h) (List.all_eq_true.mp (show (u_ws kR_Code kF_Code 1).all mj_good = true by decide +kernel) w h)
theorem n_Reader_201 : mj_nw "TrustDesk$Reader" 201 2 [.null] := ⟨kR_Code, kF_Code, 1, kt_Code, rfl, kg_2, kto_Code, (mj_in1 (List.mem_of_getElem? (i := 533) (by decide +kernel)) rfl), (mj_in1 (List.mem_of_getElem? (i := 534) (by decide +kernel)) rfl), (mj_in1 (List.mem_of_getElem? (i := 16) (by decide +kernel)) rfl), by decide +kernel, rfl, fun _ => rfl⟩
theorem d_Reader_stepsTaken_18 : decode kY_Reader_stepsTaken.2.1 18 = .ok (.dup, 1) := by decide +kernel
theorem d_Reader_stepsTaken_19 : decode kY_Reader_stepsTaken.2.1 19 = .ok (.aload_n 0, 1) := by decide +kernel
theorem d_Reader_stepsTaken_20 : decode kY_Reader_stepsTaken.2.1 20 = .ok (.getfield 31, 3) := by decide +kernel
theorem d_Reader_stepsTaken_23 : decode kY_Reader_stepsTaken.2.1 23 = .ok (.iload_n 1, 1) := by decide +kernel
theorem d_Reader_stepsTaken_24 : decode kY_Reader_stepsTaken.2.1 24 = .ok (.invokestatic 232, 3) := by decide +kernel
theorem lS_Reader_232 : mj_lS "TrustDesk$Reader" 232 kY_Arrays_copyOf_0 2 := ⟨⟨(mj_in1 (List.mem_of_getElem? (i := 535) (by decide +kernel)) rfl), (mj_in1 (List.mem_of_getElem? (i := 17) (by decide +kernel)) rfl), (mj_in1 (List.mem_of_getElem? (i := 537) (by decide +kernel)) rfl), by decide, rfl, by decide⟩, (mj_in1 (List.mem_of_getElem? (i := 536) (by decide +kernel)) rfl)⟩
theorem d_Reader_stepsTaken_27 : decode kY_Reader_stepsTaken.2.1 27 = .ok (.invokespecial 238, 3) := by decide +kernel
abbrev kY_Code_init : mj_Y := (⟨"TrustDesk$Code", "<init>", "([I)V"⟩, prog_3_method_1_code, 2, (Option.none : Option Jvm.ClassFile.FieldType))
theorem d_Code_init_0 : decode kY_Code_init.2.1 0 = .ok (.aload_n 0, 1) := by decide +kernel
theorem d_Code_init_1 : decode kY_Code_init.2.1 1 = .ok (.invokespecial 1, 3) := by decide +kernel
theorem d_Code_init_4 : decode kY_Code_init.2.1 4 = .ok (.aload_n 0, 1) := by decide +kernel
theorem d_Code_init_5 : decode kY_Code_init.2.1 5 = .ok (.aload_n 1, 1) := by decide +kernel
theorem d_Code_init_6 : decode kY_Code_init.2.1 6 = .ok (.putfield 7, 3) := by decide +kernel
theorem p_Code_7_2 : mj_fp "TrustDesk$Code" 7 2 0 (kt_Code 0) true := ⟨kR_Code, kF_Code, 1, "TrustDesk$Code", kt_Code, rfl, kg_2, by decide, (mj_in1 (List.mem_of_getElem? (i := 548) (by decide +kernel)) rfl), Or.inl rfl, kto_Code, kn_Code, rfl, rfl, fun _ => rfl⟩
theorem d_Code_init_9 : decode kY_Code_init.2.1 9 = .ok (.return_, 1) := by decide +kernel
def w_Code_init : List Nat := []
theorem tc_Code_init {g : mj_G} {l : Launch} {d : Nat} {T0 : tm_H} {M0 : mj_M} {n0 : Nat} {o0 : Nat} {o1 : Nat} (h_o0 : T0 o0 = some (5, 2, 0)) (h_o1 : T0 o1 = some (2, 0, 0)) (m_o0 : M0 o0 = some (.inr (2, [.null]))) (I0 : tm_I tm_FT (tm_in w_Code_init) o0 T0 M0 n0 T0 M0 n0) : mj_Met g l kY_Code_init (d + 1) [.ref o0, .ref o1] M0 n0 0 0 (tm_Q tm_FT (tm_in w_Code_init) o0 T0 M0 n0 (fun r T M => r = none ∧ M o0 = some (.inr (2, [.ref o1])))) := by
  refine mj_enter (by decide) (Nat.le_of_ble_eq_true rfl) ?_
  refine mv_aload_n d_Code_init_0 rfl rfl ?_
  refine mv_oinit d_Code_init_1 (mj_in1 (List.mem_of_getElem? (i := 547) (by decide +kernel)) rfl) (Nat.le_of_ble_eq_true rfl) ?_
  refine mv_aload_n d_Code_init_4 rfl rfl ?_
  refine mv_aload_n d_Code_init_5 rfl rfl ?_
  refine tr_putXF (k := 0) (fs' := [.ref o1]) tm_okF I0 h_o0 (Or.inl rfl) m_o0 d_Code_init_6 p_Code_7_2 rfl (Nat.le_of_ble_eq_true rfl) rfl rfl rfl (fun M1 I2 m3 K4 => ?_)
  exact mv_vret d_Code_init_9 rfl ⟨_, I2, rfl, m3⟩
theorem lI_Reader_238 : mj_lI "TrustDesk$Reader" 238 kY_Code_init 1 := ⟨⟨(mj_in1 (List.mem_of_getElem? (i := 544) (by decide +kernel)) rfl), (mj_in1 (List.mem_of_getElem? (i := 16) (by decide +kernel)) rfl), (mj_in1 (List.mem_of_getElem? (i := 546) (by decide +kernel)) rfl), by decide, rfl, by decide⟩, rfl, (mj_in1 (List.mem_of_getElem? (i := 545) (by decide +kernel)) rfl), rfl⟩
theorem d_Reader_stepsTaken_30 : decode kY_Reader_stepsTaken.2.1 30 = .ok (.areturn, 1) := by decide +kernel
def w_Reader_stepsTaken : List Nat := []
theorem tc_Reader_stepsTaken {g : mj_G} {l : Launch} {d : Nat} {T0 : tm_H} {M0 : mj_M} {n0 x9 : Nat} {o0 : Nat} (h_o0 : T0 o0 = some (0, 9, 0)) (I0 : tm_I tm_FT (tm_in w_Reader_stepsTaken) x9 T0 M0 n0 T0 M0 n0) : mj_Met g l kY_Reader_stepsTaken (d + 2) [.ref o0] M0 n0 2 401 (tm_Q tm_FT (tm_in w_Reader_stepsTaken) x9 T0 M0 n0 (fun r T _ => ∃ b, r = some (.ref b) ∧ T b = some (0, 2, 0))) := by
  refine mj_enter (by decide) (Nat.le_of_ble_eq_true rfl) ?_
  refine mv_iconst (v := 0) d_Reader_stepsTaken_0 (by decide) ?_
  refine mv_aload_n d_Reader_stepsTaken_1 rfl rfl ?_
  obtain ⟨v2, q1⟩ := tm_atI I0 h_o0 (k := 18) rfl
  refine tr_getK q1 d_Reader_stepsTaken_2 f_Reader_118_9 ?_
  refine mv_sipush (v := 400) d_Reader_stepsTaken_5 (by decide) ?_
  obtain ⟨v3, b4, _, _, _⟩ := mz_min9 v2 400
  have : (400 : Int32).toInt = 400 := by decide
  refine mv_mmin (v := v3) d_Reader_stepsTaken_8 (mj_in1 (List.mem_of_getElem? (i := 527) (by decide +kernel)) rfl) (Nat.le_of_ble_eq_true rfl) b4 ?_
  obtain ⟨v5, b6, _, _, _⟩ := mz_max9 0 v3
  have : (0 : Int32).toInt = 0 := by decide
  refine mv_mmax (v := v5) d_Reader_stepsTaken_11 (mj_in1 (List.mem_of_getElem? (i := 530) (by decide +kernel)) rfl) (Nat.le_of_ble_eq_true rfl) b6 ?_
  refine mv_istore_n (lv' := [(1, .int v5), (0, .ref o0)]) d_Reader_stepsTaken_14 rfl (by decide) rfl ?_
  refine tr_new (kc' := 1) (ks' := 400) tm_okF I0 d_Reader_stepsTaken_15 n_Reader_201 (Nat.le_of_ble_eq_true rfl) (Nat.le_of_ble_eq_true rfl) (fun T7 M8 I9 t_x10 m11 h12 u13 K14 => ?_)
  have q15 := tm_at.eq (K14 _ _ h_o0) q1
  have t16 := u13 _ _ h_o0
  refine mv_dup d_Reader_stepsTaken_18 rfl ?_
  refine mv_aload_n d_Reader_stepsTaken_19 rfl rfl ?_
  obtain ⟨a18, q17, t_a18⟩ := tm_atR I9 t16 (k := 17) rfl
  refine tr_getK q17 d_Reader_stepsTaken_20 f_Reader_31_9 ?_
  refine mv_iload_n d_Reader_stepsTaken_23 rfl rfl ?_
  refine mv_callS (kc' := 0) (ks' := 0) (As := [.ref a18, .int v5]) (st9 := [.int v5, .ref a18, .ref n0, .ref n0]) d_Reader_stepsTaken_24 lS_Reader_232 (tc_A_copyi (FT := tm_FT) (W := tm_in []) (x := (n0 + 1)) (d := d) tm_okF t_a18 (by decide) (by omega) (by omega) I9.start) rfl (Nat.le_of_ble_eq_true rfl) (Nat.le_of_ble_eq_true rfl) (Nat.le_of_ble_eq_true rfl) (hst := rfl) (fun b19r M20 n21 b19 => ?_)
  obtain ⟨T22, J23, a25, rfl, t_a25⟩ := b19
  have I24 := I9.call J23 (tm_sub (by decide)) (Or.inr I9.2.2.2.1)
  have m26 := (J23.keepX t_x10 (tm_ne I9 t_x10)).trans m11
  have t27 := J23.up t_x10
  have t28 := J23.up t16
  have q29 := J23.keep t16 (by decide) q15
  have q30 := J23.keep t16 (by decide) q17
  have t31 := J23.up t_a18
  refine mv_callI (kc' := 0) (ks' := 0) (As := [.ref a25]) (st9 := [.ref a25, .ref n0, .ref n0]) d_Reader_stepsTaken_27 lI_Reader_238 (tc_Code_init (d := d) (o0 := n0) (o1 := a25) t27 t_a25 m26 I24.start) rfl (Nat.le_of_ble_eq_true rfl) (Nat.le_of_ble_eq_true rfl) (Nat.le_of_ble_eq_true rfl) (hst := rfl) (fun b32r M33 n34 b32 => ?_)
  obtain ⟨T35, J36, rfl, m38⟩ := b32
  have I37 := I24.call J36 (tm_sub (by decide)) (Or.inr h12)
  have t39 := J36.up t27
  have t40 := J36.up t28
  have t41 := J36.up t_a25
  have q42 := J36.keep t28 (by decide) q29
  have q43 := J36.keep t28 (by decide) q30
  have t44 := J36.up t31
  obtain ⟨T45, I46, t_x47, u48⟩ := I37.sealO tm_okF t39 h12 m38 (fun _ z9 => (tm_fs_cons ⟨_, rfl, z9 _ _ t41 (Nat.le_of_ble_eq_true rfl)⟩ tm_fs_nil))
  have t49 := u48 _ _ t40 (tm_dif t40 t39 rfl)
  have t50 := u48 _ _ t44 (tm_dif t44 t39 rfl)
  exact mv_aret (r := some n0) d_Reader_stepsTaken_30 rfl (by first | exact Or.inl ⟨_, rfl⟩ | exact Or.inr ⟨_, rfl⟩) ⟨_, I46, ⟨_, rfl, t_x47⟩⟩
theorem lV_Reader_128 : mj_lV "TrustDesk$Reader" 128 kY_Reader_stepsTaken 0 := ⟨⟨(mj_in1 (List.mem_of_getElem? (i := 523) (by decide +kernel)) rfl), (mj_in1 (List.mem_of_getElem? (i := 3) (by decide +kernel)) rfl), (mj_in1 (List.mem_of_getElem? (i := 526) (by decide +kernel)) rfl), by decide, rfl, by decide⟩, (mj_in1 (List.mem_of_getElem? (i := 525) (by decide +kernel)) rfl), (mj_in (List.mem_append_left _ (List.mem_of_getElem? (i := 29) (by decide +kernel))) rfl)⟩
theorem d_Reader_bar_52 : decode kY_Reader_bar.2.1 52 = .ok (.invokevirtual 132, 3) := by decide +kernel
abbrev kY_Act_addBar : mj_Y := (⟨"TrustDesk$Act", "addBar", "(ILTrustDesk$Code;)V"⟩, prog_2_method_5_code, 4, (Option.none : Option Jvm.ClassFile.FieldType))
theorem d_Act_addBar_0 : decode kY_Act_addBar.2.1 0 = .ok (.aload_n 0, 1) := by decide +kernel
theorem d_Act_addBar_1 : decode kY_Act_addBar.2.1 1 = .ok (.getfield 12, 3) := by decide +kernel
theorem f_Act_12_1 : mj_fl "TrustDesk$Act" 12 1 2 := ⟨kR_Act, kF_Act, 5, "TrustDesk$Act", rfl, kg_1, by decide, (mj_in1 (List.mem_of_getElem? (i := 250) (by decide +kernel)) rfl), Or.inl rfl⟩
theorem d_Act_addBar_4 : decode kY_Act_addBar.2.1 4 = .ok (.invokevirtual 37, 3) := by decide +kernel
theorem lV_Act_37 : mj_lV "TrustDesk$Act" 37 kY_ArrayList_size 0 := ⟨⟨(mj_in1 (List.mem_of_getElem? (i := 558) (by decide +kernel)) rfl), (mj_in1 (List.mem_of_getElem? (i := 9) (by decide +kernel)) rfl), (mj_in1 (List.mem_of_getElem? (i := 356) (by decide +kernel)) rfl), by decide, rfl, by decide⟩, (mj_in1 (List.mem_of_getElem? (i := 354) (by decide +kernel)) rfl), (mj_in1 (List.mem_of_getElem? (i := 355) (by decide +kernel)) rfl)⟩
theorem d_Act_addBar_7 : decode kY_Act_addBar.2.1 7 = .ok (.istore_n 3, 1) := by decide +kernel
theorem d_Act_addBar_8 : decode kY_Act_addBar.2.1 8 = .ok (.iload_n 3, 1) := by decide +kernel
theorem d_Act_addBar_9 : decode kY_Act_addBar.2.1 9 = .ok (.bipush 20, 2) := by decide +kernel
theorem d_Act_addBar_11 : decode kY_Act_addBar.2.1 11 = .ok (.if_icmp .ge 19, 3) := by decide +kernel
theorem d_Act_addBar_30 : decode kY_Act_addBar.2.1 30 = .ok (.return_, 1) := by decide +kernel
theorem d_Act_addBar_14 : decode kY_Act_addBar.2.1 14 = .ok (.aload_n 0, 1) := by decide +kernel
theorem d_Act_addBar_15 : decode kY_Act_addBar.2.1 15 = .ok (.getfield 30, 3) := by decide +kernel
theorem f_Act_30_1 : mj_fl "TrustDesk$Act" 30 1 4 := ⟨kR_Act, kF_Act, 5, "TrustDesk$Act", rfl, kg_1, by decide, (mj_in1 (List.mem_of_getElem? (i := 253) (by decide +kernel)) rfl), Or.inl rfl⟩
theorem d_Act_addBar_18 : decode kY_Act_addBar.2.1 18 = .ok (.iload_n 3, 1) := by decide +kernel
theorem d_Act_addBar_19 : decode kY_Act_addBar.2.1 19 = .ok (.iload_n 1, 1) := by decide +kernel
theorem d_Act_addBar_20 : decode kY_Act_addBar.2.1 20 = .ok (.iastore, 1) := by decide +kernel
theorem d_Act_addBar_21 : decode kY_Act_addBar.2.1 21 = .ok (.aload_n 0, 1) := by decide +kernel
theorem d_Act_addBar_22 : decode kY_Act_addBar.2.1 22 = .ok (.getfield 12, 3) := by decide +kernel
theorem d_Act_addBar_25 : decode kY_Act_addBar.2.1 25 = .ok (.aload_n 2, 1) := by decide +kernel
theorem d_Act_addBar_26 : decode kY_Act_addBar.2.1 26 = .ok (.invokevirtual 41, 3) := by decide +kernel
theorem lV_Act_41 : mj_lV "TrustDesk$Act" 41 kY_ArrayList_add_0 1 := ⟨⟨(mj_in1 (List.mem_of_getElem? (i := 559) (by decide +kernel)) rfl), (mj_in1 (List.mem_of_getElem? (i := 9) (by decide +kernel)) rfl), (mj_in1 (List.mem_of_getElem? (i := 562) (by decide +kernel)) rfl), by decide, rfl, by decide⟩, (mj_in1 (List.mem_of_getElem? (i := 560) (by decide +kernel)) rfl), (mj_in1 (List.mem_of_getElem? (i := 561) (by decide +kernel)) rfl)⟩
theorem d_Act_addBar_29 : decode kY_Act_addBar.2.1 29 = .ok (.pop, 1) := by decide +kernel
def w_Act_addBar : List Nat := [154, 5002]
theorem tc_Act_addBar {g : mj_G} {l : Launch} {d : Nat} {T0 : tm_H} {M0 : mj_M} {n0 x9 : Nat} {o0 : Nat} {x1 : Int32} {o2 : Nat} (h_o0 : T0 o0 = some (0, 1, 0)) (h_o2 : T0 o2 = some (0, 2, 0)) (I0 : tm_I tm_FT (tm_in w_Act_addBar) x9 T0 M0 n0 T0 M0 n0) : mj_Met g l kY_Act_addBar (d + 7) [.ref o0, .int x1, .ref o2] M0 n0 1 50 (tm_Q tm_FT (tm_in w_Act_addBar) x9 T0 M0 n0 (fun r _ _ => r = none)) := by
  refine mj_enter (by decide) (Nat.le_of_ble_eq_true rfl) ?_
  refine mv_aload_n d_Act_addBar_0 rfl rfl ?_
  obtain ⟨a2, q1, t_a2⟩ := tm_atO I0 h_o0 (k := 2) rfl
  refine tr_getK q1 d_Act_addBar_1 f_Act_12_1 ?_
  obtain ⟨m4, n8, e5, N6, f7, h3⟩ := I0.1 _ _ t_a2
  have := h3.2.1
  have : n8.toInt ≤ 20 := h3.2.2.1
  have q9 : tm_at M0 a2 0 2 (.int n8) := ⟨_, h3.1, rfl⟩
  refine mv_callV_s (kc' := 1) (ks' := 50) [] [.ref a2] d_Act_addBar_4 lV_Act_37 h3.1 rfl (tc_L_size (d := (d + 6)) h3.1) rfl (Nat.le_of_ble_eq_true rfl) (Nat.le_of_ble_eq_true rfl) (Nat.le_of_ble_eq_true rfl) rfl ?_
  refine mv_istore_n (lv' := [(3, .int n8), (0, .ref o0), (1, .int x1), (2, .ref o2)]) d_Act_addBar_7 rfl (by decide) rfl ?_
  refine mv_iload_n d_Act_addBar_8 rfl rfl ?_
  refine mv_bipush (v := 20) d_Act_addBar_9 (by decide) ?_
  have := mz_hi n8
  refine mv_icmp_geZ (tgt := 30) (a := n8.toInt) (b := 20) d_Act_addBar_11 (by decide) rfl (by decide) (fun b10 => ?_) (fun b10 => ?_)
  · exact mv_vret d_Act_addBar_30 rfl ⟨_, I0, rfl⟩
  · refine mv_aload_n d_Act_addBar_14 rfl rfl ?_
    obtain ⟨a12, q11, t_a12⟩ := tm_atR I0 h_o0 (k := 4) rfl
    refine tr_getK q11 d_Act_addBar_15 f_Act_30_1 ?_
    refine mv_iload_n d_Act_addBar_18 rfl rfl ?_
    refine mv_iload_n d_Act_addBar_19 rfl rfl ?_
    refine tr_iastK tm_okF I0 t_a12 (by decide) (Or.inl (by decide)) d_Act_addBar_20 (vp_in_iff.mpr (by omega)) (fun M13 I14 K15 => ?_)
    refine mv_aload_n d_Act_addBar_21 rfl rfl ?_
    refine tr_getK (k := 2) (K15 _ 1 2 _ q1) d_Act_addBar_22 f_Act_12_1 ?_
    refine mv_aload_n d_Act_addBar_25 rfl rfl ?_
    obtain ⟨m17, e18, N19, f20, h16⟩ := tm_lsn I14 t_a2 (K15 _ 0 2 _ q9)
    refine mv_callV (kc' := 0) (ks' := 0) (As := [.ref o2]) (st9 := [.ref o2, .ref a2]) d_Act_addBar_26 lV_Act_41 h16.1 rfl (tc_AL_addT (FT := tm_FT) (W := tm_in [5002]) (x := x9) (d := d) tm_okF t_a2 h_o2 (K15 _ 0 2 _ q9) (show _ < (20 : Int) by omega) rfl (C := "TrustDesk$Code") (T9 := kF_Code) (N9 := 1) rfl (mj_in1 (List.mem_of_getElem? (i := 2103) (by decide +kernel)) rfl) (by decide) (by decide) I14.start) rfl (Nat.le_of_ble_eq_true rfl) (Nat.le_of_ble_eq_true rfl) (Nat.le_of_ble_eq_true rfl) (hst := rfl) (fun b21r M22 n23 b21 => ?_)
    obtain ⟨T24, J25, rfl, q27⟩ := b21
    have I26 := I14.call J25 (tm_sub (by decide)) (Or.inl rfl)
    have t28 := J25.up t_a2
    have t29 := J25.up h_o0
    have t30 := J25.up h_o2
    have q31 := J25.keep h_o0 (by decide) (K15 _ 1 2 _ q1)
    have q32 := J25.keep h_o0 (by decide) (K15 _ 1 4 _ q11)
    have t33 := J25.up t_a12
    have b34 : (n8 + 1).toInt = n8.toInt + 1 := mz_addn 1 1 (by decide) (by have := mz_lo n8; omega) (by omega)
    refine mv_pop d_Act_addBar_29 rfl ?_
    exact mv_vret d_Act_addBar_30 rfl ⟨_, I26, rfl⟩
theorem lV_Reader_132 : mj_lV "TrustDesk$Reader" 132 kY_Act_addBar 2 := ⟨⟨(mj_in1 (List.mem_of_getElem? (i := 554) (by decide +kernel)) rfl), (mj_in1 (List.mem_of_getElem? (i := 6) (by decide +kernel)) rfl), (mj_in1 (List.mem_of_getElem? (i := 557) (by decide +kernel)) rfl), by decide, rfl, by decide⟩, (mj_in1 (List.mem_of_getElem? (i := 555) (by decide +kernel)) rfl), (mj_in1 (List.mem_of_getElem? (i := 556) (by decide +kernel)) rfl)⟩
theorem d_Reader_bar_55 : decode kY_Reader_bar.2.1 55 = .ok (.iconst 1, 1) := by decide +kernel
theorem d_Reader_bar_56 : decode kY_Reader_bar.2.1 56 = .ok (.ireturn, 1) := by decide +kernel
theorem d_Reader_bar_13 : decode kY_Reader_bar.2.1 13 = .ok (.aload_n 0, 1) := by decide +kernel
theorem d_Reader_bar_14 : decode kY_Reader_bar.2.1 14 = .ok (.iconst 1, 1) := by decide +kernel
theorem d_Reader_bar_15 : decode kY_Reader_bar.2.1 15 = .ok (.invokevirtual 56, 3) := by decide +kernel
theorem d_Reader_bar_18 : decode kY_Reader_bar.2.1 18 = .ok (.ireturn, 1) := by decide +kernel
theorem lV_Reader_94 : mj_lV "TrustDesk$Reader" 94 kY_Reader_bar 1 := ⟨⟨(mj_in1 (List.mem_of_getElem? (i := 467) (by decide +kernel)) rfl), (mj_in1 (List.mem_of_getElem? (i := 3) (by decide +kernel)) rfl), (mj_in1 (List.mem_of_getElem? (i := 470) (by decide +kernel)) rfl), by decide, rfl, by decide⟩, (mj_in1 (List.mem_of_getElem? (i := 469) (by decide +kernel)) rfl), (mj_in (List.mem_append_left _ (List.mem_of_getElem? (i := 15) (by decide +kernel))) rfl)⟩
theorem d_Reader_rule_69 : decode kY_Reader_rule.2.1 69 = .ok (.ifCond .eq 28, 3) := by decide +kernel
theorem d_Reader_rule_72 : decode kY_Reader_rule.2.1 72 = .ok (.goto 12, 3) := by decide +kernel
theorem d_Reader_rule_40 : decode kY_Reader_rule.2.1 40 = .ok (.aload_n 0, 1) := by decide +kernel
theorem d_Reader_rule_41 : decode kY_Reader_rule.2.1 41 = .ok (.iconst 4, 1) := by decide +kernel
theorem d_Reader_rule_42 : decode kY_Reader_rule.2.1 42 = .ok (.invokevirtual 56, 3) := by decide +kernel
theorem d_Reader_rule_45 : decode kY_Reader_rule.2.1 45 = .ok (.ireturn, 1) := by decide +kernel
theorem d_Reader_rule_21 : decode kY_Reader_rule.2.1 21 = .ok (.iload_n 3, 1) := by decide +kernel
theorem d_Reader_rule_22 : decode kY_Reader_rule.2.1 22 = .ok (.ifCond .ne 9, 3) := by decide +kernel
theorem d_Reader_rule_25 : decode kY_Reader_rule.2.1 25 = .ok (.aload_n 0, 1) := by decide +kernel
theorem d_Reader_rule_26 : decode kY_Reader_rule.2.1 26 = .ok (.iconst 1, 1) := by decide +kernel
theorem d_Reader_rule_27 : decode kY_Reader_rule.2.1 27 = .ok (.invokevirtual 56, 3) := by decide +kernel
theorem d_Reader_rule_30 : decode kY_Reader_rule.2.1 30 = .ok (.ireturn, 1) := by decide +kernel
theorem lV_Reader_44 : mj_lV "TrustDesk$Reader" 44 kY_Reader_rule 1 := ⟨⟨(mj_in1 (List.mem_of_getElem? (i := 451) (by decide +kernel)) rfl), (mj_in1 (List.mem_of_getElem? (i := 3) (by decide +kernel)) rfl), (mj_in1 (List.mem_of_getElem? (i := 454) (by decide +kernel)) rfl), by decide, rfl, by decide⟩, (mj_in1 (List.mem_of_getElem? (i := 453) (by decide +kernel)) rfl), (mj_in (List.mem_append_left _ (List.mem_of_getElem? (i := 11) (by decide +kernel))) rfl)⟩
theorem d_Reader_readAct_26 : decode kY_Reader_readAct.2.1 26 = .ok (.ifCond .ne 5, 3) := by decide +kernel
theorem d_Reader_readAct_31 : decode kY_Reader_readAct.2.1 31 = .ok (.iinc 2 1, 3) := by decide +kernel
theorem d_Reader_readAct_34 : decode kY_Reader_readAct.2.1 34 = .ok (.goto (-26), 3) := by decide +kernel
theorem d_Reader_readAct_29 : decode kY_Reader_readAct.2.1 29 = .ok (.iconst 0, 1) := by decide +kernel
theorem d_Reader_readAct_30 : decode kY_Reader_readAct.2.1 30 = .ok (.ireturn, 1) := by decide +kernel
theorem lV_TrustDesk_100 : mj_lV "TrustDesk" 100 kY_Reader_readAct 1 := ⟨⟨(mj_in1 (List.mem_of_getElem? (i := 357) (by decide +kernel)) rfl), (mj_in1 (List.mem_of_getElem? (i := 3) (by decide +kernel)) rfl), (mj_in1 (List.mem_of_getElem? (i := 360) (by decide +kernel)) rfl), by decide, rfl, by decide⟩, (mj_in1 (List.mem_of_getElem? (i := 358) (by decide +kernel)) rfl), (mj_in1 (List.mem_of_getElem? (i := 359) (by decide +kernel)) rfl)⟩
theorem d_TrustDesk_act_38 : decode kY_TrustDesk_act.2.1 38 = .ok (.istore_n 3, 1) := by decide +kernel
theorem d_TrustDesk_act_39 : decode kY_TrustDesk_act.2.1 39 = .ok (.aload_n 0, 1) := by decide +kernel
theorem d_TrustDesk_act_40 : decode kY_TrustDesk_act.2.1 40 = .ok (.getfield 19, 3) := by decide +kernel
theorem d_TrustDesk_act_43 : decode kY_TrustDesk_act.2.1 43 = .ok (.iconst 0, 1) := by decide +kernel
theorem d_TrustDesk_act_44 : decode kY_TrustDesk_act.2.1 44 = .ok (.putfield 88, 3) := by decide +kernel
theorem p_TrustDesk_88_9 : mj_fp "TrustDesk" 88 9 0 (kt_Reader 0) false := ⟨kR_Reader, kF_Reader, 19, "TrustDesk$Reader", kt_Reader, rfl, kg_9, by decide, (mj_in1 (List.mem_of_getElem? (i := 70) (by decide +kernel)) rfl), Or.inl rfl, kto_Reader, kn_Reader, rfl, rfl, fun h => by cases h⟩
theorem d_TrustDesk_act_47 : decode kY_TrustDesk_act.2.1 47 = .ok (.iload_n 3, 1) := by decide +kernel
theorem d_TrustDesk_act_48 : decode kY_TrustDesk_act.2.1 48 = .ok (.ifCond .ne 13, 3) := by decide +kernel
theorem d_TrustDesk_act_61 : decode kY_TrustDesk_act.2.1 61 = .ok (.aload_n 0, 1) := by decide +kernel
theorem d_TrustDesk_act_62 : decode kY_TrustDesk_act.2.1 62 = .ok (.getfield 49, 3) := by decide +kernel
theorem d_TrustDesk_act_65 : decode kY_TrustDesk_act.2.1 65 = .ok (.aload_n 2, 1) := by decide +kernel
theorem d_TrustDesk_act_66 : decode kY_TrustDesk_act.2.1 66 = .ok (.invokevirtual 107, 3) := by decide +kernel
theorem lV_TrustDesk_107 : mj_lV "TrustDesk" 107 kY_ArrayList_add_0 1 := ⟨⟨(mj_in1 (List.mem_of_getElem? (i := 625) (by decide +kernel)) rfl), (mj_in1 (List.mem_of_getElem? (i := 9) (by decide +kernel)) rfl), (mj_in1 (List.mem_of_getElem? (i := 562) (by decide +kernel)) rfl), by decide, rfl, by decide⟩, (mj_in1 (List.mem_of_getElem? (i := 560) (by decide +kernel)) rfl), (mj_in1 (List.mem_of_getElem? (i := 561) (by decide +kernel)) rfl)⟩
theorem d_TrustDesk_act_69 : decode kY_TrustDesk_act.2.1 69 = .ok (.pop, 1) := by decide +kernel
theorem d_TrustDesk_act_70 : decode kY_TrustDesk_act.2.1 70 = .ok (.aload_n 2, 1) := by decide +kernel
theorem d_TrustDesk_act_71 : decode kY_TrustDesk_act.2.1 71 = .ok (.getfield 111, 3) := by decide +kernel
theorem f_TrustDesk_111_1 : mj_fl "TrustDesk" 111 1 1 := ⟨kR_Act, kF_Act, 5, "TrustDesk$Act", rfl, kg_1, by decide, (mj_in1 (List.mem_of_getElem? (i := 248) (by decide +kernel)) rfl), Or.inl rfl⟩
theorem d_TrustDesk_act_74 : decode kY_TrustDesk_act.2.1 74 = .ok (.ireturn, 1) := by decide +kernel
theorem d_TrustDesk_act_51 : decode kY_TrustDesk_act.2.1 51 = .ok (.iconst (-1), 1) := by decide +kernel
theorem d_TrustDesk_act_52 : decode kY_TrustDesk_act.2.1 52 = .ok (.aload_n 0, 1) := by decide +kernel
theorem d_TrustDesk_act_53 : decode kY_TrustDesk_act.2.1 53 = .ok (.getfield 19, 3) := by decide +kernel
theorem d_TrustDesk_act_56 : decode kY_TrustDesk_act.2.1 56 = .ok (.getfield 104, 3) := by decide +kernel
theorem f_TrustDesk_104_9 : mj_fl "TrustDesk" 104 9 1 := ⟨kR_Reader, kF_Reader, 19, "TrustDesk$Reader", rfl, kg_9, by decide, (mj_in1 (List.mem_of_getElem? (i := 72) (by decide +kernel)) rfl), Or.inl rfl⟩
theorem d_TrustDesk_act_59 : decode kY_TrustDesk_act.2.1 59 = .ok (.isub, 1) := by decide +kernel
theorem d_TrustDesk_act_60 : decode kY_TrustDesk_act.2.1 60 = .ok (.ireturn, 1) := by decide +kernel
abbrev kY_TrustDesk_bringNear : mj_Y := (⟨"TrustDesk", "bringNear", "(LTrustDesk$Fund;LTrustDesk$NearEnd;)V"⟩, prog_1_method_32_code, 4, (Option.none : Option Jvm.ClassFile.FieldType))
theorem d_TrustDesk_bringNear_0 : decode kY_TrustDesk_bringNear.2.1 0 = .ok (.aload_n 1, 1) := by decide +kernel
theorem d_TrustDesk_bringNear_1 : decode kY_TrustDesk_bringNear.2.1 1 = .ok (.invokevirtual 348, 3) := by decide +kernel
abbrev kY_Fund_firstDead : mj_Y := (⟨"TrustDesk$Fund", "firstDead", "()LTrustDesk$End;"⟩, prog_7_method_8_code, 2, (Option.some (Jvm.ClassFile.FieldType.object "TrustDesk$End")))
theorem d_Fund_firstDead_0 : decode kY_Fund_firstDead.2.1 0 = .ok (.iconst 0, 1) := by decide +kernel
theorem d_Fund_firstDead_1 : decode kY_Fund_firstDead.2.1 1 = .ok (.istore_n 1, 1) := by decide +kernel
theorem d_Fund_firstDead_2 : decode kY_Fund_firstDead.2.1 2 = .ok (.iload_n 1, 1) := by decide +kernel
theorem d_Fund_firstDead_3 : decode kY_Fund_firstDead.2.1 3 = .ok (.aload_n 0, 1) := by decide +kernel
theorem d_Fund_firstDead_4 : decode kY_Fund_firstDead.2.1 4 = .ok (.getfield 24, 3) := by decide +kernel
theorem f_Fund_24_6 : mj_fl "TrustDesk$Fund" 24 6 11 := ⟨kR_Fund, kF_Fund, 15, "TrustDesk$Fund", rfl, kg_6, by decide, (mj_in1 (List.mem_of_getElem? (i := 688) (by decide +kernel)) rfl), Or.inl rfl⟩
theorem d_Fund_firstDead_7 : decode kY_Fund_firstDead.2.1 7 = .ok (.invokevirtual 61, 3) := by decide +kernel
theorem lV_Fund_61 : mj_lV "TrustDesk$Fund" 61 kY_ArrayList_size 0 := ⟨⟨(mj_in1 (List.mem_of_getElem? (i := 749) (by decide +kernel)) rfl), (mj_in1 (List.mem_of_getElem? (i := 9) (by decide +kernel)) rfl), (mj_in1 (List.mem_of_getElem? (i := 356) (by decide +kernel)) rfl), by decide, rfl, by decide⟩, (mj_in1 (List.mem_of_getElem? (i := 354) (by decide +kernel)) rfl), (mj_in1 (List.mem_of_getElem? (i := 355) (by decide +kernel)) rfl)⟩
theorem d_Fund_firstDead_10 : decode kY_Fund_firstDead.2.1 10 = .ok (.if_icmp .ge 39, 3) := by decide +kernel
theorem d_Fund_firstDead_49 : decode kY_Fund_firstDead.2.1 49 = .ok (.aconst_null, 1) := by decide +kernel
theorem d_Fund_firstDead_50 : decode kY_Fund_firstDead.2.1 50 = .ok (.areturn, 1) := by decide +kernel
theorem d_Fund_firstDead_13 : decode kY_Fund_firstDead.2.1 13 = .ok (.aload_n 0, 1) := by decide +kernel
theorem d_Fund_firstDead_14 : decode kY_Fund_firstDead.2.1 14 = .ok (.getfield 24, 3) := by decide +kernel
theorem d_Fund_firstDead_17 : decode kY_Fund_firstDead.2.1 17 = .ok (.iload_n 1, 1) := by decide +kernel
theorem d_Fund_firstDead_18 : decode kY_Fund_firstDead.2.1 18 = .ok (.invokevirtual 65, 3) := by decide +kernel
theorem lV_Fund_65 : mj_lV "TrustDesk$Fund" 65 kY_ArrayList_get 1 := ⟨⟨(mj_in1 (List.mem_of_getElem? (i := 750) (by decide +kernel)) rfl), (mj_in1 (List.mem_of_getElem? (i := 9) (by decide +kernel)) rfl), (mj_in1 (List.mem_of_getElem? (i := 637) (by decide +kernel)) rfl), by decide, rfl, by decide⟩, (mj_in1 (List.mem_of_getElem? (i := 635) (by decide +kernel)) rfl), (mj_in1 (List.mem_of_getElem? (i := 636) (by decide +kernel)) rfl)⟩
theorem d_Fund_firstDead_21 : decode kY_Fund_firstDead.2.1 21 = .ok (.checkcast 69, 3) := by decide +kernel
theorem d_Fund_firstDead_24 : decode kY_Fund_firstDead.2.1 24 = .ok (.getfield 80, 3) := by decide +kernel
theorem kg_3 : ∀ w ∈ u_ws kR_End kF_End 4, w ∈ mj_T := fun w h => mj_in1 (ki_End w h) (List.all_eq_true.mp (show (u_ws kR_End kF_End 4).all mj_good = true by decide +kernel) w h)
theorem f_Fund_80_3 : mj_fl "TrustDesk$Fund" 80 3 1 := ⟨kR_End, kF_End, 4, "TrustDesk$End", rfl, kg_3, by decide, (mj_in1 (List.mem_of_getElem? (i := 789) (by decide +kernel)) rfl), Or.inl rfl⟩
theorem d_Fund_firstDead_27 : decode kY_Fund_firstDead.2.1 27 = .ok (.iconst 1, 1) := by decide +kernel
theorem d_Fund_firstDead_28 : decode kY_Fund_firstDead.2.1 28 = .ok (.if_icmp .ne 15, 3) := by decide +kernel
theorem d_Fund_firstDead_43 : decode kY_Fund_firstDead.2.1 43 = .ok (.iinc 1 1, 3) := by decide +kernel
theorem d_Fund_firstDead_46 : decode kY_Fund_firstDead.2.1 46 = .ok (.goto (-44), 3) := by decide +kernel
theorem d_Fund_firstDead_31 : decode kY_Fund_firstDead.2.1 31 = .ok (.aload_n 0, 1) := by decide +kernel
theorem d_Fund_firstDead_32 : decode kY_Fund_firstDead.2.1 32 = .ok (.getfield 24, 3) := by decide +kernel
theorem d_Fund_firstDead_35 : decode kY_Fund_firstDead.2.1 35 = .ok (.iload_n 1, 1) := by decide +kernel
theorem d_Fund_firstDead_36 : decode kY_Fund_firstDead.2.1 36 = .ok (.invokevirtual 65, 3) := by decide +kernel
theorem d_Fund_firstDead_39 : decode kY_Fund_firstDead.2.1 39 = .ok (.checkcast 69, 3) := by decide +kernel
theorem d_Fund_firstDead_42 : decode kY_Fund_firstDead.2.1 42 = .ok (.areturn, 1) := by decide +kernel
def w_Fund_firstDead : List Nat := []
theorem tc_Fund_firstDead {g : mj_G} {l : Launch} {d : Nat} {T0 : tm_H} {M0 : mj_M} {n0 x9 : Nat} {o0 : Nat} (h_o0 : T0 o0 = some (0, 6, 0)) (I0 : tm_I tm_FT (tm_in w_Fund_firstDead) x9 T0 M0 n0 T0 M0 n0) : mj_Met g l kY_Fund_firstDead (d + 3) [.ref o0] M0 n0 0 0 (tm_Q tm_FT (tm_in w_Fund_firstDead) x9 T0 M0 n0 (fun r T _ => r = some .null ∨ ∃ b, r = some (.ref b) ∧ T b = some (0, 3, 0))) := by
  refine mj_enter (by decide) (Nat.le_of_ble_eq_true rfl) ?_
  refine mv_iconst (v := 0) d_Fund_firstDead_0 (by decide) ?_
  refine mv_istore_n (lv' := [(1, .int 0), (0, .ref o0)]) d_Fund_firstDead_1 rfl (by decide) rfl ?_
  have L2_1 : ∀ (k : Nat) (i1_1 : Int32) (T_1 : tm_H) (M_1 : mj_M) (n_1 : Nat), tm_I tm_FT (tm_in w_Fund_firstDead) x9 T0 M0 n0 T_1 M_1 n_1 → T_1 o0 = some (0, 6, 0) → 0 ≤ i1_1.toInt → 2147483647 - i1_1.toInt < (k : Int) → mj_V g l kY_Fund_firstDead (d + 3) 2 [(1, .int i1_1), (0, .ref o0)] [] M_1 n_1 0 0 (tm_Q tm_FT (tm_in w_Fund_firstDead) x9 T0 M0 n0 (fun r T _ => r = some .null ∨ ∃ b, r = some (.ref b) ∧ T b = some (0, 3, 0))) := by
    intro k1
    induction k1 with
    | zero =>
      intro i1_1 T_1 M_1 n_1 I_1 h_q0_1 iv0_1 hk1
      have := mz_hi i1_1
      omega
    | succ k1 ih1 =>
      intro i1_1 T_1 M_1 n_1 I_1 h_q0_1 iv0_1 hk1
      refine mv_iload_n d_Fund_firstDead_2 rfl rfl ?_
      refine mv_aload_n d_Fund_firstDead_3 rfl rfl ?_
      obtain ⟨a3, q2, t_a3⟩ := tm_atO I_1 h_q0_1 (k := 11) rfl
      refine tr_getK q2 d_Fund_firstDead_4 f_Fund_24_6 ?_
      obtain ⟨m5, n9, e6, N7, f8, h4⟩ := I_1.1 _ _ t_a3
      have := h4.2.1
      have : n9.toInt ≤ 72 := h4.2.2.1
      have q10 : tm_at M_1 a3 0 2 (.int n9) := ⟨_, h4.1, rfl⟩
      refine mv_callV_s (kc' := 0) (ks' := 0) [] [.ref a3, .int i1_1] d_Fund_firstDead_7 lV_Fund_61 h4.1 rfl (tc_L_size (d := (d + 2)) h4.1) rfl (Nat.le_of_ble_eq_true rfl) (Nat.le_of_ble_eq_true rfl) (Nat.le_of_ble_eq_true rfl) rfl ?_
      have := mz_hi i1_1
      have := mz_hi n9
      refine mv_icmp_geZ (tgt := 49) (a := i1_1.toInt) (b := n9.toInt) d_Fund_firstDead_10 (by decide) rfl rfl (fun b11 => ?_) (fun b11 => ?_)
      · refine mv_null d_Fund_firstDead_49 ?_
        exact mv_aret (r := none) d_Fund_firstDead_50 rfl (by first | exact Or.inl ⟨_, rfl⟩ | exact Or.inr ⟨_, rfl⟩) ⟨_, I_1, Or.inl rfl⟩
      · refine mv_aload_n d_Fund_firstDead_13 rfl rfl ?_
        refine tr_getK (k := 11) q2 d_Fund_firstDead_14 f_Fund_24_6 ?_
        refine mv_iload_n d_Fund_firstDead_17 rfl rfl ?_
        obtain ⟨m13, e14, N15, f16, h12⟩ := tm_lsn I_1 t_a3 q10
        obtain ⟨u17e, u17i, a18, u17f, u17t⟩ := tm_el (i := i1_1) h12 (by omega) (by omega)
        have t_a18 : T_1 a18 = some (0, 3, 0) := u17t
        refine mv_callV_s (kc' := 0) (ks' := 0) [.int i1_1] [.int i1_1, .ref a3] d_Fund_firstDead_18 lV_Fund_65 h12.1 rfl (tc_L_get (d := d) h12.1 u17e (by omega) (by omega) u17i u17f) rfl (Nat.le_of_ble_eq_true rfl) (Nat.le_of_ble_eq_true rfl) (Nat.le_of_ble_eq_true rfl) rfl ?_
        obtain ⟨_, b19, -⟩ := I_1.1 _ _ t_a18
        refine mv_castS (T9 := kF_End) (N := 4) d_Fund_firstDead_21 (mj_in1 (List.mem_of_getElem? (i := 751) (by decide +kernel)) rfl) b19 rfl ?_
        obtain ⟨v21, q20⟩ := tm_atI I_1 t_a18 (k := 1) rfl
        refine tr_getK q20 d_Fund_firstDead_24 f_Fund_80_3 ?_
        refine mv_iconst (v := 1) d_Fund_firstDead_27 (by decide) ?_
        have := mz_hi v21
        refine mv_icmp_neZ (tgt := 43) (a := v21.toInt) (b := 1) d_Fund_firstDead_28 (by decide) rfl (by decide) (fun b22 => ?_) (fun b22 => ?_)
        · refine mv_iinc (v := (i1_1 + 1)) (lv' := [(1, .int (i1_1 + 1)), (0, .ref o0)]) d_Fund_firstDead_43 rfl rfl (by decide) rfl ?_
          refine mv_goto (tgt := 2) d_Fund_firstDead_46 (by decide) ?_
          have b23 : (i1_1 + 1).toInt = i1_1.toInt + 1 := mz_addn 1 1 (by decide) (by have := mz_lo i1_1; omega) (by have := mz_hi i1_1; omega)
          exact (ih1 (i1_1 + 1) T_1 M_1 n_1 I_1 h_q0_1 (by first | omega | decide) (by omega))
        · refine mv_aload_n d_Fund_firstDead_31 rfl rfl ?_
          refine tr_getK (k := 11) q2 d_Fund_firstDead_32 f_Fund_24_6 ?_
          refine mv_iload_n d_Fund_firstDead_35 rfl rfl ?_
          obtain ⟨m25, e26, N27, f28, h24⟩ := tm_lsn I_1 t_a3 q10
          obtain ⟨u29e, u29i, a30, u29f, u29t⟩ := tm_el (i := i1_1) h24 (by omega) (by omega)
          have t_a30 : T_1 a30 = some (0, 3, 0) := u29t
          refine mv_callV_s (kc' := 0) (ks' := 0) [.int i1_1] [.int i1_1, .ref a3] d_Fund_firstDead_36 lV_Fund_65 h24.1 rfl (tc_L_get (d := d) h24.1 u29e (by omega) (by omega) u29i u29f) rfl (Nat.le_of_ble_eq_true rfl) (Nat.le_of_ble_eq_true rfl) (Nat.le_of_ble_eq_true rfl) rfl ?_
          obtain ⟨_, b31, -⟩ := I_1.1 _ _ t_a30
          refine mv_castS (T9 := kF_End) (N := 4) d_Fund_firstDead_39 (mj_in1 (List.mem_of_getElem? (i := 751) (by decide +kernel)) rfl) b31 rfl ?_
          exact mv_aret (r := some a30) d_Fund_firstDead_42 rfl (by first | exact Or.inl ⟨_, rfl⟩ | exact Or.inr ⟨_, rfl⟩) ⟨_, I_1, Or.inr ⟨_, rfl, t_a30⟩⟩
  exact mv_less (Nat.zero_le _) (Nat.zero_le _) (L2_1 4294967296 0 T0 M0 n0 I0 h_o0 (by first | omega | decide) (by show (2147483647 - (0 : Int) : Int) < _; decide))
theorem lV_TrustDesk_348 : mj_lV "TrustDesk" 348 kY_Fund_firstDead 0 := ⟨⟨(mj_in1 (List.mem_of_getElem? (i := 1061) (by decide +kernel)) rfl), (mj_in1 (List.mem_of_getElem? (i := 21) (by decide +kernel)) rfl), (mj_in1 (List.mem_of_getElem? (i := 1064) (by decide +kernel)) rfl), by decide, rfl, by decide⟩, (mj_in1 (List.mem_of_getElem? (i := 1062) (by decide +kernel)) rfl), (mj_in1 (List.mem_of_getElem? (i := 1063) (by decide +kernel)) rfl)⟩
theorem d_TrustDesk_bringNear_4 : decode kY_TrustDesk_bringNear.2.1 4 = .ok (.astore_n 3, 1) := by decide +kernel
theorem d_TrustDesk_bringNear_5 : decode kY_TrustDesk_bringNear.2.1 5 = .ok (.aload_n 3, 1) := by decide +kernel
theorem d_TrustDesk_bringNear_6 : decode kY_TrustDesk_bringNear.2.1 6 = .ok (.ifnull 7, 3) := by decide +kernel
theorem d_TrustDesk_bringNear_13 : decode kY_TrustDesk_bringNear.2.1 13 = .ok (.return_, 1) := by decide +kernel
theorem d_TrustDesk_bringNear_9 : decode kY_TrustDesk_bringNear.2.1 9 = .ok (.aload_n 2, 1) := by decide +kernel
theorem d_TrustDesk_bringNear_10 : decode kY_TrustDesk_bringNear.2.1 10 = .ok (.ifnonnull 4, 3) := by decide +kernel
theorem d_TrustDesk_bringNear_14 : decode kY_TrustDesk_bringNear.2.1 14 = .ok (.aload_n 3, 1) := by decide +kernel
theorem d_TrustDesk_bringNear_15 : decode kY_TrustDesk_bringNear.2.1 15 = .ok (.aload_n 2, 1) := by decide +kernel
theorem d_TrustDesk_bringNear_16 : decode kY_TrustDesk_bringNear.2.1 16 = .ok (.getfield 407, 3) := by decide +kernel
theorem kg_8 : ∀ w ∈ u_ws kR_NearEnd kF_NearEnd 2, w ∈ mj_T := fun w h => mj_in1 (ki_NearEnd w h) (List.all_eq_true.mp (show (u_ws kR_NearEnd kF_NearEnd 2).all mj_good = true by decide +kernel) w h)
theorem f_TrustDesk_407_8 : mj_fl "TrustDesk" 407 8 0 := ⟨kR_NearEnd, kF_NearEnd, 2, "TrustDesk$NearEnd", rfl, kg_8, by decide, (mj_in1 (List.mem_of_getElem? (i := 828) (by decide +kernel)) rfl), Or.inl rfl⟩
theorem d_TrustDesk_bringNear_19 : decode kY_TrustDesk_bringNear.2.1 19 = .ok (.invokevirtual 408, 3) := by decide +kernel
abbrev kY_End_becomes : mj_Y := (⟨"TrustDesk$End", "becomes", "(LTrustDesk$EndText;)V"⟩, prog_4_method_4_code, 2, (Option.none : Option Jvm.ClassFile.FieldType))
theorem d_End_becomes_0 : decode kY_End_becomes.2.1 0 = .ok (.aload_n 0, 1) := by decide +kernel
theorem d_End_becomes_1 : decode kY_End_becomes.2.1 1 = .ok (.aload_n 1, 1) := by decide +kernel
theorem d_End_becomes_2 : decode kY_End_becomes.2.1 2 = .ok (.putfield 18, 3) := by decide +kernel
theorem p_End_18_3 : mj_fp "TrustDesk$End" 18 3 0 (kt_End 0) false := ⟨kR_End, kF_End, 4, "TrustDesk$End", kt_End, rfl, kg_3, by decide, (mj_in1 (List.mem_of_getElem? (i := 785) (by decide +kernel)) rfl), Or.inl rfl, kto_End, kn_End, rfl, rfl, fun h => by cases h⟩
theorem d_End_becomes_5 : decode kY_End_becomes.2.1 5 = .ok (.aload_n 0, 1) := by decide +kernel
theorem d_End_becomes_6 : decode kY_End_becomes.2.1 6 = .ok (.iconst 0, 1) := by decide +kernel
theorem d_End_becomes_7 : decode kY_End_becomes.2.1 7 = .ok (.putfield 9, 3) := by decide +kernel
theorem p_End_9_3 : mj_fp "TrustDesk$End" 9 3 1 (kt_End 1) false := ⟨kR_End, kF_End, 4, "TrustDesk$End", kt_End, rfl, kg_3, by decide, (mj_in1 (List.mem_of_getElem? (i := 788) (by decide +kernel)) rfl), Or.inl rfl, kto_End, kn_End, rfl, rfl, fun h => by cases h⟩
theorem d_End_becomes_10 : decode kY_End_becomes.2.1 10 = .ok (.aload_n 0, 1) := by decide +kernel
theorem d_End_becomes_11 : decode kY_End_becomes.2.1 11 = .ok (.iconst 0, 1) := by decide +kernel
theorem d_End_becomes_12 : decode kY_End_becomes.2.1 12 = .ok (.putfield 25, 3) := by decide +kernel
theorem p_End_25_3 : mj_fp "TrustDesk$End" 25 3 2 (kt_End 2) false := ⟨kR_End, kF_End, 4, "TrustDesk$End", kt_End, rfl, kg_3, by decide, (mj_in1 (List.mem_of_getElem? (i := 791) (by decide +kernel)) rfl), Or.inl rfl, kto_End, kn_End, rfl, rfl, fun h => by cases h⟩
theorem d_End_becomes_15 : decode kY_End_becomes.2.1 15 = .ok (.aload_n 0, 1) := by decide +kernel
theorem d_End_becomes_16 : decode kY_End_becomes.2.1 16 = .ok (.iconst (-1), 1) := by decide +kernel
theorem d_End_becomes_17 : decode kY_End_becomes.2.1 17 = .ok (.putfield 15, 3) := by decide +kernel
theorem p_End_15_3 : mj_fp "TrustDesk$End" 15 3 3 (kt_End 3) false := ⟨kR_End, kF_End, 4, "TrustDesk$End", kt_End, rfl, kg_3, by decide, (mj_in1 (List.mem_of_getElem? (i := 793) (by decide +kernel)) rfl), Or.inl rfl, kto_End, kn_End, rfl, rfl, fun h => by cases h⟩
theorem d_End_becomes_20 : decode kY_End_becomes.2.1 20 = .ok (.return_, 1) := by decide +kernel
def w_End_becomes : List Nat := [300, 301, 302, 303]
theorem tc_End_becomes {g : mj_G} {l : Launch} {d : Nat} {T0 : tm_H} {M0 : mj_M} {n0 x9 : Nat} {o0 : Nat} {o1 : Nat} (h_o0 : T0 o0 = some (0, 3, 0)) (h_o1 : T0 o1 = some (0, 4, 0)) (I0 : tm_I tm_FT (tm_in w_End_becomes) x9 T0 M0 n0 T0 M0 n0) : mj_Met g l kY_End_becomes d [.ref o0, .ref o1] M0 n0 0 0 (tm_Q tm_FT (tm_in w_End_becomes) x9 T0 M0 n0 (fun r _ _ => r = none)) := by
  refine mj_enter (by decide) (Nat.le_of_ble_eq_true rfl) ?_
  refine mv_aload_n d_End_becomes_0 rfl rfl ?_
  refine mv_aload_n d_End_becomes_1 rfl rfl ?_
  refine tr_putK tm_okF I0 h_o0 (k := 0) rfl ⟨_, rfl, h_o1⟩ (Or.inl (by decide)) d_End_becomes_2 p_End_18_3 rfl rfl (fun M1 I2 q3 K4 => ?_)
  refine mv_aload_n d_End_becomes_5 rfl rfl ?_
  refine mv_iconst (v := 0) d_End_becomes_6 (by decide) ?_
  refine tr_putK tm_okF I2 h_o0 (k := 1) rfl ⟨_, rfl⟩ (Or.inl (by decide)) d_End_becomes_7 p_End_9_3 rfl rfl (fun M5 I6 q7 K8 => ?_)
  refine mv_aload_n d_End_becomes_10 rfl rfl ?_
  refine mv_iconst (v := 0) d_End_becomes_11 (by decide) ?_
  refine tr_putK tm_okF I6 h_o0 (k := 2) rfl ⟨_, rfl⟩ (Or.inl (by decide)) d_End_becomes_12 p_End_25_3 rfl rfl (fun M9 I10 q11 K12 => ?_)
  refine mv_aload_n d_End_becomes_15 rfl rfl ?_
  refine mv_iconst (v := (-1)) d_End_becomes_16 (by decide) ?_
  refine tr_putK tm_okF I10 h_o0 (k := 3) rfl ⟨_, rfl⟩ (Or.inl (by decide)) d_End_becomes_17 p_End_15_3 rfl rfl (fun M13 I14 q15 K16 => ?_)
  exact mv_vret d_End_becomes_20 rfl ⟨_, I14, rfl⟩
theorem lV_TrustDesk_408 : mj_lV "TrustDesk" 408 kY_End_becomes 1 := ⟨⟨(mj_in1 (List.mem_of_getElem? (i := 1121) (by decide +kernel)) rfl), (mj_in1 (List.mem_of_getElem? (i := 23) (by decide +kernel)) rfl), (mj_in1 (List.mem_of_getElem? (i := 1124) (by decide +kernel)) rfl), by decide, rfl, by decide⟩, (mj_in1 (List.mem_of_getElem? (i := 1122) (by decide +kernel)) rfl), (mj_in1 (List.mem_of_getElem? (i := 1123) (by decide +kernel)) rfl)⟩
theorem d_TrustDesk_bringNear_22 : decode kY_TrustDesk_bringNear.2.1 22 = .ok (.aload_n 1, 1) := by decide +kernel
theorem d_TrustDesk_bringNear_23 : decode kY_TrustDesk_bringNear.2.1 23 = .ok (.dup, 1) := by decide +kernel
theorem d_TrustDesk_bringNear_24 : decode kY_TrustDesk_bringNear.2.1 24 = .ok (.getfield 372, 3) := by decide +kernel
theorem f_TrustDesk_372_6 : mj_fl "TrustDesk" 372 6 4 := ⟨kR_Fund, kF_Fund, 15, "TrustDesk$Fund", rfl, kg_6, by decide, (mj_in1 (List.mem_of_getElem? (i := 675) (by decide +kernel)) rfl), Or.inl rfl⟩
theorem d_TrustDesk_bringNear_27 : decode kY_TrustDesk_bringNear.2.1 27 = .ok (.aload_n 2, 1) := by decide +kernel
theorem d_TrustDesk_bringNear_28 : decode kY_TrustDesk_bringNear.2.1 28 = .ok (.getfield 383, 3) := by decide +kernel
theorem f_TrustDesk_383_8 : mj_fl "TrustDesk" 383 8 1 := ⟨kR_NearEnd, kF_NearEnd, 2, "TrustDesk$NearEnd", rfl, kg_8, by decide, (mj_in1 (List.mem_of_getElem? (i := 830) (by decide +kernel)) rfl), Or.inl rfl⟩
theorem d_TrustDesk_bringNear_31 : decode kY_TrustDesk_bringNear.2.1 31 = .ok (.iand, 1) := by decide +kernel
theorem d_TrustDesk_bringNear_32 : decode kY_TrustDesk_bringNear.2.1 32 = .ok (.putfield 372, 3) := by decide +kernel
theorem p_TrustDesk_372_6 : mj_fp "TrustDesk" 372 6 4 (kt_Fund 4) false := ⟨kR_Fund, kF_Fund, 15, "TrustDesk$Fund", kt_Fund, rfl, kg_6, by decide, (mj_in1 (List.mem_of_getElem? (i := 675) (by decide +kernel)) rfl), Or.inl rfl, kto_Fund, kn_Fund, rfl, rfl, fun h => by cases h⟩
theorem d_TrustDesk_bringNear_35 : decode kY_TrustDesk_bringNear.2.1 35 = .ok (.return_, 1) := by decide +kernel
def w_TrustDesk_bringNear : List Nat := [300, 301, 302, 303, 604]
theorem tc_TrustDesk_bringNear {g : mj_G} {l : Launch} {d : Nat} {T0 : tm_H} {M0 : mj_M} {n0 x9 : Nat} {o0 : Nat} {o1 : Nat} {o2 : Nat} (h_o0 : T0 o0 = some (0, 12, 0)) (h_o1 : T0 o1 = some (0, 6, 0)) (h_o2 : T0 o2 = some (0, 8, 0)) (I0 : tm_I tm_FT (tm_in w_TrustDesk_bringNear) x9 T0 M0 n0 T0 M0 n0) : mj_Met g l kY_TrustDesk_bringNear (d + 4) [.ref o0, .ref o1, .ref o2] M0 n0 0 0 (tm_Q tm_FT (tm_in w_TrustDesk_bringNear) x9 T0 M0 n0 (fun r _ _ => r = none)) := by
  refine mj_enter (by decide) (Nat.le_of_ble_eq_true rfl) ?_
  refine mv_aload_n d_TrustDesk_bringNear_0 rfl rfl ?_
  obtain ⟨_, b7, -⟩ := I0.1 _ _ h_o1
  refine mv_callV (kc' := 0) (ks' := 0) (As := []) (st9 := [.ref o1]) d_TrustDesk_bringNear_1 lV_TrustDesk_348 b7 rfl (tc_Fund_firstDead (d := d) (x9 := x9) (o0 := o1) h_o1 I0.start) rfl (Nat.le_of_ble_eq_true rfl) (Nat.le_of_ble_eq_true rfl) (Nat.le_of_ble_eq_true rfl) (hst := rfl) (fun b1r M2 n3 b1 => ?_)
  obtain ⟨T4, J5, b9⟩ := b1
  have I6 := I0.call J5 (tm_sub (by decide)) (Or.inl rfl)
  have t10 := J5.up h_o0
  have t11 := J5.up h_o1
  have t12 := J5.up h_o2
  rcases b9 with rfl | ⟨a8, rfl, t_a8⟩
  · refine mv_astore_nN (lv' := [(3, .null), (0, .ref o0), (1, .ref o1), (2, .ref o2)]) d_TrustDesk_bringNear_4 rfl (by decide) rfl ?_
    refine mv_aload_nN d_TrustDesk_bringNear_5 rfl rfl ?_
    refine mv_ifnullN (tgt := 13) d_TrustDesk_bringNear_6 (by decide) ?_
    exact mv_vret d_TrustDesk_bringNear_13 rfl ⟨_, I6, rfl⟩
  · refine mv_astore_n (lv' := [(3, .ref a8), (0, .ref o0), (1, .ref o1), (2, .ref o2)]) d_TrustDesk_bringNear_4 rfl (by decide) rfl ?_
    refine mv_aload_n d_TrustDesk_bringNear_5 rfl rfl ?_
    refine mv_ifnull d_TrustDesk_bringNear_6 ?_
    refine mv_aload_n d_TrustDesk_bringNear_9 rfl rfl ?_
    refine mv_ifnonnull (tgt := 14) d_TrustDesk_bringNear_10 (by decide) ?_
    refine mv_aload_n d_TrustDesk_bringNear_14 rfl rfl ?_
    refine mv_aload_n d_TrustDesk_bringNear_15 rfl rfl ?_
    obtain ⟨a14, q13, t_a14⟩ := tm_atR I6 t12 (k := 0) rfl
    refine tr_getK q13 d_TrustDesk_bringNear_16 f_TrustDesk_407_8 ?_
    obtain ⟨_, b21, -⟩ := I6.1 _ _ t_a8
    refine mv_callV (kc' := 0) (ks' := 0) (As := [.ref a14]) (st9 := [.ref a14, .ref a8]) d_TrustDesk_bringNear_19 lV_TrustDesk_408 b21 rfl (tc_End_becomes (d := (d + 3)) (x9 := x9) (o0 := a8) (o1 := a14) t_a8 t_a14 I6.start) rfl (Nat.le_of_ble_eq_true rfl) (Nat.le_of_ble_eq_true rfl) (Nat.le_of_ble_eq_true rfl) (hst := rfl) (fun b15r M16 n17 b15 => ?_)
    obtain ⟨T18, J19, rfl⟩ := b15
    have I20 := I6.call J19 (tm_sub (by decide)) (Or.inl rfl)
    have t22 := J19.up t_a8
    have t23 := J19.up t10
    have t24 := J19.up t11
    have t25 := J19.up t12
    have q26 := J19.keep t12 (by decide) q13
    have t27 := J19.up t_a14
    refine mv_aload_n d_TrustDesk_bringNear_22 rfl rfl ?_
    refine mv_dup d_TrustDesk_bringNear_23 rfl ?_
    obtain ⟨v29, q28⟩ := tm_atI I20 t24 (k := 4) rfl
    refine tr_getK q28 d_TrustDesk_bringNear_24 f_TrustDesk_372_6 ?_
    refine mv_aload_n d_TrustDesk_bringNear_27 rfl rfl ?_
    obtain ⟨v31, q30⟩ := tm_atI I20 t25 (k := 1) rfl
    refine tr_getK q30 d_TrustDesk_bringNear_28 f_TrustDesk_383_8 ?_
    refine mv_iand d_TrustDesk_bringNear_31 ?_
    refine tr_putK tm_okF I20 t24 (k := 4) rfl ⟨_, rfl⟩ (Or.inl (by decide)) d_TrustDesk_bringNear_32 p_TrustDesk_372_6 rfl rfl (fun M32 I33 q34 K35 => ?_)
    exact mv_vret d_TrustDesk_bringNear_35 rfl ⟨_, I33, rfl⟩
abbrev kY_TrustDesk_canBe : mj_Y := (⟨"TrustDesk", "canBe", "(LTrustDesk$Scheme;LTrustDesk$Fund;)Z"⟩, prog_1_method_26_code, 4, (Option.some Jvm.ClassFile.FieldType.boolean))
theorem d_TrustDesk_canBe_0 : decode kY_TrustDesk_canBe.2.1 0 = .ok (.aload_n 2, 1) := by decide +kernel
theorem d_TrustDesk_canBe_1 : decode kY_TrustDesk_canBe.2.1 1 = .ok (.invokevirtual 162, 3) := by decide +kernel
abbrev kY_Fund_isJoined : mj_Y := (⟨"TrustDesk$Fund", "isJoined", "()Z"⟩, prog_7_method_2_code, 1, (Option.some Jvm.ClassFile.FieldType.boolean))
theorem d_Fund_isJoined_0 : decode kY_Fund_isJoined.2.1 0 = .ok (.aload_n 0, 1) := by decide +kernel
theorem d_Fund_isJoined_1 : decode kY_Fund_isJoined.2.1 1 = .ok (.getfield 18, 3) := by decide +kernel
theorem f_Fund_18_6 : mj_fl "TrustDesk$Fund" 18 6 8 := ⟨kR_Fund, kF_Fund, 15, "TrustDesk$Fund", rfl, kg_6, by decide, (mj_in1 (List.mem_of_getElem? (i := 684) (by decide +kernel)) rfl), Or.inl rfl⟩
theorem d_Fund_isJoined_4 : decode kY_Fund_isJoined.2.1 4 = .ok (.iconst (-1), 1) := by decide +kernel
theorem d_Fund_isJoined_5 : decode kY_Fund_isJoined.2.1 5 = .ok (.if_icmp .eq 7, 3) := by decide +kernel
theorem d_Fund_isJoined_12 : decode kY_Fund_isJoined.2.1 12 = .ok (.iconst 0, 1) := by decide +kernel
theorem d_Fund_isJoined_13 : decode kY_Fund_isJoined.2.1 13 = .ok (.ireturn, 1) := by decide +kernel
theorem d_Fund_isJoined_8 : decode kY_Fund_isJoined.2.1 8 = .ok (.iconst 1, 1) := by decide +kernel
theorem d_Fund_isJoined_9 : decode kY_Fund_isJoined.2.1 9 = .ok (.goto 4, 3) := by decide +kernel
def w_Fund_isJoined : List Nat := []
theorem tc_Fund_isJoined {g : mj_G} {l : Launch} {d : Nat} {T0 : tm_H} {M0 : mj_M} {n0 x9 : Nat} {o0 : Nat} (h_o0 : T0 o0 = some (0, 6, 0)) (I0 : tm_I tm_FT (tm_in w_Fund_isJoined) x9 T0 M0 n0 T0 M0 n0) : mj_Met g l kY_Fund_isJoined d [.ref o0] M0 n0 0 0 (tm_Q tm_FT (tm_in w_Fund_isJoined) x9 T0 M0 n0 (fun r _ _ => ∃ v : Int32, r = some (.int v) ∧ 0 ≤ v.toInt ∧ v.toInt ≤ 1)) := by
  refine mj_enter (by decide) (Nat.le_of_ble_eq_true rfl) ?_
  refine mv_aload_n d_Fund_isJoined_0 rfl rfl ?_
  obtain ⟨v2, q1⟩ := tm_atI I0 h_o0 (k := 8) rfl
  refine tr_getK q1 d_Fund_isJoined_1 f_Fund_18_6 ?_
  refine mv_iconst (v := (-1)) d_Fund_isJoined_4 (by decide) ?_
  have := mz_hi v2
  refine mv_icmp_eqZ (tgt := 12) (a := v2.toInt) (b := (-1)) d_Fund_isJoined_5 (by decide) rfl (by decide) (fun b3 => ?_) (fun b3 => ?_)
  · refine mv_iconst (v := 0) d_Fund_isJoined_12 (by decide) ?_
    exact mv_iret d_Fund_isJoined_13 rfl (by decide) ⟨_, I0, _, rfl, by decide, by decide⟩
  · refine mv_iconst (v := 1) d_Fund_isJoined_8 (by decide) ?_
    refine mv_goto (tgt := 13) d_Fund_isJoined_9 (by decide) ?_
    exact mv_iret d_Fund_isJoined_13 rfl (by decide) ⟨_, I0, _, rfl, by decide, by decide⟩
theorem lV_TrustDesk_162 : mj_lV "TrustDesk" 162 kY_Fund_isJoined 0 := ⟨⟨(mj_in1 (List.mem_of_getElem? (i := 856) (by decide +kernel)) rfl), (mj_in1 (List.mem_of_getElem? (i := 21) (by decide +kernel)) rfl), (mj_in1 (List.mem_of_getElem? (i := 859) (by decide +kernel)) rfl), by decide, rfl, by decide⟩, (mj_in1 (List.mem_of_getElem? (i := 857) (by decide +kernel)) rfl), (mj_in1 (List.mem_of_getElem? (i := 858) (by decide +kernel)) rfl)⟩
theorem d_TrustDesk_canBe_4 : decode kY_TrustDesk_canBe.2.1 4 = .ok (.ifCond .eq 5, 3) := by decide +kernel
theorem d_TrustDesk_canBe_9 : decode kY_TrustDesk_canBe.2.1 9 = .ok (.aload_n 1, 1) := by decide +kernel
theorem d_TrustDesk_canBe_10 : decode kY_TrustDesk_canBe.2.1 10 = .ok (.getfield 308, 3) := by decide +kernel
theorem kg_11 : ∀ w ∈ u_ws kR_Scheme kF_Scheme 12, w ∈ mj_T := fun w h => mj_in1 (ki_Scheme w h) (List.all_eq_true.mp (show (u_ws kR_Scheme kF_Scheme 12).all mj_good = true by decide +kernel) w h)
theorem f_TrustDesk_308_11 : mj_fl "TrustDesk" 308 11 0 := ⟨kR_Scheme, kF_Scheme, 12, "TrustDesk$Scheme", rfl, kg_11, by decide, (mj_in1 (List.mem_of_getElem? (i := 968) (by decide +kernel)) rfl), Or.inl rfl⟩
theorem d_TrustDesk_canBe_13 : decode kY_TrustDesk_canBe.2.1 13 = .ok (.tableswitch 71 0 2 #[27, 40, 54], 27) := by decide +kernel
theorem d_TrustDesk_canBe_84 : decode kY_TrustDesk_canBe.2.1 84 = .ok (.aload_n 2, 1) := by decide +kernel
theorem d_TrustDesk_canBe_85 : decode kY_TrustDesk_canBe.2.1 85 = .ok (.aload_n 1, 1) := by decide +kernel
theorem d_TrustDesk_canBe_86 : decode kY_TrustDesk_canBe.2.1 86 = .ok (.getfield 311, 3) := by decide +kernel
theorem f_TrustDesk_311_11 : mj_fl "TrustDesk" 311 11 2 := ⟨kR_Scheme, kF_Scheme, 12, "TrustDesk$Scheme", rfl, kg_11, by decide, (mj_in1 (List.mem_of_getElem? (i := 972) (by decide +kernel)) rfl), Or.inl rfl⟩
theorem d_TrustDesk_canBe_89 : decode kY_TrustDesk_canBe.2.1 89 = .ok (.invokevirtual 359, 3) := by decide +kernel
abbrev kY_Fund_endAt : mj_Y := (⟨"TrustDesk$Fund", "endAt", "(I)LTrustDesk$End;"⟩, prog_7_method_6_code, 2, (Option.some (Jvm.ClassFile.FieldType.object "TrustDesk$End")))
theorem d_Fund_endAt_0 : decode kY_Fund_endAt.2.1 0 = .ok (.iload_n 1, 1) := by decide +kernel
theorem d_Fund_endAt_1 : decode kY_Fund_endAt.2.1 1 = .ok (.ifCond .lt 28, 3) := by decide +kernel
theorem d_Fund_endAt_29 : decode kY_Fund_endAt.2.1 29 = .ok (.aconst_null, 1) := by decide +kernel
theorem d_Fund_endAt_30 : decode kY_Fund_endAt.2.1 30 = .ok (.areturn, 1) := by decide +kernel
theorem d_Fund_endAt_4 : decode kY_Fund_endAt.2.1 4 = .ok (.iload_n 1, 1) := by decide +kernel
theorem d_Fund_endAt_5 : decode kY_Fund_endAt.2.1 5 = .ok (.aload_n 0, 1) := by decide +kernel
theorem d_Fund_endAt_6 : decode kY_Fund_endAt.2.1 6 = .ok (.getfield 24, 3) := by decide +kernel
theorem d_Fund_endAt_9 : decode kY_Fund_endAt.2.1 9 = .ok (.invokevirtual 61, 3) := by decide +kernel
theorem d_Fund_endAt_12 : decode kY_Fund_endAt.2.1 12 = .ok (.if_icmp .ge 17, 3) := by decide +kernel
theorem d_Fund_endAt_15 : decode kY_Fund_endAt.2.1 15 = .ok (.aload_n 0, 1) := by decide +kernel
theorem d_Fund_endAt_16 : decode kY_Fund_endAt.2.1 16 = .ok (.getfield 24, 3) := by decide +kernel
theorem d_Fund_endAt_19 : decode kY_Fund_endAt.2.1 19 = .ok (.iload_n 1, 1) := by decide +kernel
theorem d_Fund_endAt_20 : decode kY_Fund_endAt.2.1 20 = .ok (.invokevirtual 65, 3) := by decide +kernel
theorem d_Fund_endAt_23 : decode kY_Fund_endAt.2.1 23 = .ok (.checkcast 69, 3) := by decide +kernel
theorem d_Fund_endAt_26 : decode kY_Fund_endAt.2.1 26 = .ok (.goto 4, 3) := by decide +kernel
def w_Fund_endAt : List Nat := []
theorem tc_Fund_endAt {g : mj_G} {l : Launch} {d : Nat} {T0 : tm_H} {M0 : mj_M} {n0 x9 : Nat} {o0 : Nat} {x1 : Int32} (h_o0 : T0 o0 = some (0, 6, 0)) (I0 : tm_I tm_FT (tm_in w_Fund_endAt) x9 T0 M0 n0 T0 M0 n0) : mj_Met g l kY_Fund_endAt (d + 3) [.ref o0, .int x1] M0 n0 0 0 (tm_Q tm_FT (tm_in w_Fund_endAt) x9 T0 M0 n0 (fun r T _ => r = some .null ∨ ∃ b, r = some (.ref b) ∧ T b = some (0, 3, 0))) := by
  refine mj_enter (by decide) (Nat.le_of_ble_eq_true rfl) ?_
  refine mv_iload_n d_Fund_endAt_0 rfl rfl ?_
  have := mz_hi x1
  refine mv_if_ltZ (tgt := 29) (a := x1.toInt) d_Fund_endAt_1 (by decide) rfl (fun b1 => ?_) (fun b1 => ?_)
  · refine mv_null d_Fund_endAt_29 ?_
    exact mv_aret (r := none) d_Fund_endAt_30 rfl (by first | exact Or.inl ⟨_, rfl⟩ | exact Or.inr ⟨_, rfl⟩) ⟨_, I0, Or.inl rfl⟩
  · refine mv_iload_n d_Fund_endAt_4 rfl rfl ?_
    refine mv_aload_n d_Fund_endAt_5 rfl rfl ?_
    obtain ⟨a3, q2, t_a3⟩ := tm_atO I0 h_o0 (k := 11) rfl
    refine tr_getK q2 d_Fund_endAt_6 f_Fund_24_6 ?_
    obtain ⟨m5, n9, e6, N7, f8, h4⟩ := I0.1 _ _ t_a3
    have := h4.2.1
    have : n9.toInt ≤ 72 := h4.2.2.1
    have q10 : tm_at M0 a3 0 2 (.int n9) := ⟨_, h4.1, rfl⟩
    refine mv_callV_s (kc' := 0) (ks' := 0) [] [.ref a3, .int x1] d_Fund_endAt_9 lV_Fund_61 h4.1 rfl (tc_L_size (d := (d + 2)) h4.1) rfl (Nat.le_of_ble_eq_true rfl) (Nat.le_of_ble_eq_true rfl) (Nat.le_of_ble_eq_true rfl) rfl ?_
    have := mz_hi x1
    have := mz_hi n9
    refine mv_icmp_geZ (tgt := 29) (a := x1.toInt) (b := n9.toInt) d_Fund_endAt_12 (by decide) rfl rfl (fun b11 => ?_) (fun b11 => ?_)
    · refine mv_null d_Fund_endAt_29 ?_
      exact mv_aret (r := none) d_Fund_endAt_30 rfl (by first | exact Or.inl ⟨_, rfl⟩ | exact Or.inr ⟨_, rfl⟩) ⟨_, I0, Or.inl rfl⟩
    · refine mv_aload_n d_Fund_endAt_15 rfl rfl ?_
      refine tr_getK (k := 11) q2 d_Fund_endAt_16 f_Fund_24_6 ?_
      refine mv_iload_n d_Fund_endAt_19 rfl rfl ?_
      obtain ⟨m13, e14, N15, f16, h12⟩ := tm_lsn I0 t_a3 q10
      obtain ⟨u17e, u17i, a18, u17f, u17t⟩ := tm_el (i := x1) h12 (by omega) (by omega)
      have t_a18 : T0 a18 = some (0, 3, 0) := u17t
      refine mv_callV_s (kc' := 0) (ks' := 0) [.int x1] [.int x1, .ref a3] d_Fund_endAt_20 lV_Fund_65 h12.1 rfl (tc_L_get (d := d) h12.1 u17e (by omega) (by omega) u17i u17f) rfl (Nat.le_of_ble_eq_true rfl) (Nat.le_of_ble_eq_true rfl) (Nat.le_of_ble_eq_true rfl) rfl ?_
      obtain ⟨_, b19, -⟩ := I0.1 _ _ t_a18
      refine mv_castS (T9 := kF_End) (N := 4) d_Fund_endAt_23 (mj_in1 (List.mem_of_getElem? (i := 751) (by decide +kernel)) rfl) b19 rfl ?_
      refine mv_goto (tgt := 30) d_Fund_endAt_26 (by decide) ?_
      exact mv_aret (r := some a18) d_Fund_endAt_30 rfl (by first | exact Or.inl ⟨_, rfl⟩ | exact Or.inr ⟨_, rfl⟩) ⟨_, I0, Or.inr ⟨_, rfl, t_a18⟩⟩
theorem lV_TrustDesk_359 : mj_lV "TrustDesk" 359 kY_Fund_endAt 1 := ⟨⟨(mj_in1 (List.mem_of_getElem? (i := 1077) (by decide +kernel)) rfl), (mj_in1 (List.mem_of_getElem? (i := 21) (by decide +kernel)) rfl), (mj_in1 (List.mem_of_getElem? (i := 1080) (by decide +kernel)) rfl), by decide, rfl, by decide⟩, (mj_in1 (List.mem_of_getElem? (i := 1078) (by decide +kernel)) rfl), (mj_in1 (List.mem_of_getElem? (i := 1079) (by decide +kernel)) rfl)⟩
theorem d_TrustDesk_canBe_92 : decode kY_TrustDesk_canBe.2.1 92 = .ok (.astore_n 3, 1) := by decide +kernel
theorem d_TrustDesk_canBe_93 : decode kY_TrustDesk_canBe.2.1 93 = .ok (.aload_n 3, 1) := by decide +kernel
theorem d_TrustDesk_canBe_94 : decode kY_TrustDesk_canBe.2.1 94 = .ok (.ifnull 15, 3) := by decide +kernel
theorem d_TrustDesk_canBe_109 : decode kY_TrustDesk_canBe.2.1 109 = .ok (.iconst 0, 1) := by decide +kernel
theorem d_TrustDesk_canBe_110 : decode kY_TrustDesk_canBe.2.1 110 = .ok (.ireturn, 1) := by decide +kernel
theorem d_TrustDesk_canBe_97 : decode kY_TrustDesk_canBe.2.1 97 = .ok (.aload_n 3, 1) := by decide +kernel
theorem d_TrustDesk_canBe_98 : decode kY_TrustDesk_canBe.2.1 98 = .ok (.getfield 193, 3) := by decide +kernel
theorem f_TrustDesk_193_3 : mj_fl "TrustDesk" 193 3 1 := ⟨kR_End, kF_End, 4, "TrustDesk$End", rfl, kg_3, by decide, (mj_in1 (List.mem_of_getElem? (i := 790) (by decide +kernel)) rfl), Or.inl rfl⟩
theorem d_TrustDesk_canBe_101 : decode kY_TrustDesk_canBe.2.1 101 = .ok (.iconst 2, 1) := by decide +kernel
theorem d_TrustDesk_canBe_102 : decode kY_TrustDesk_canBe.2.1 102 = .ok (.if_icmp .eq 7, 3) := by decide +kernel
theorem d_TrustDesk_canBe_105 : decode kY_TrustDesk_canBe.2.1 105 = .ok (.iconst 1, 1) := by decide +kernel
theorem d_TrustDesk_canBe_106 : decode kY_TrustDesk_canBe.2.1 106 = .ok (.goto 4, 3) := by decide +kernel
theorem d_TrustDesk_canBe_40 : decode kY_TrustDesk_canBe.2.1 40 = .ok (.aload_n 2, 1) := by decide +kernel
theorem d_TrustDesk_canBe_41 : decode kY_TrustDesk_canBe.2.1 41 = .ok (.invokevirtual 348, 3) := by decide +kernel
theorem d_TrustDesk_canBe_44 : decode kY_TrustDesk_canBe.2.1 44 = .ok (.ifnull 7, 3) := by decide +kernel
theorem d_TrustDesk_canBe_51 : decode kY_TrustDesk_canBe.2.1 51 = .ok (.iconst 0, 1) := by decide +kernel
theorem d_TrustDesk_canBe_52 : decode kY_TrustDesk_canBe.2.1 52 = .ok (.ireturn, 1) := by decide +kernel
theorem d_TrustDesk_canBe_47 : decode kY_TrustDesk_canBe.2.1 47 = .ok (.iconst 1, 1) := by decide +kernel
theorem d_TrustDesk_canBe_48 : decode kY_TrustDesk_canBe.2.1 48 = .ok (.goto 4, 3) := by decide +kernel
theorem d_TrustDesk_canBe_53 : decode kY_TrustDesk_canBe.2.1 53 = .ok (.aload_n 0, 1) := by decide +kernel
theorem d_TrustDesk_canBe_54 : decode kY_TrustDesk_canBe.2.1 54 = .ok (.aload_n 2, 1) := by decide +kernel
theorem d_TrustDesk_canBe_55 : decode kY_TrustDesk_canBe.2.1 55 = .ok (.aload_n 0, 1) := by decide +kernel
theorem d_TrustDesk_canBe_56 : decode kY_TrustDesk_canBe.2.1 56 = .ok (.aload_n 1, 1) := by decide +kernel
theorem d_TrustDesk_canBe_57 : decode kY_TrustDesk_canBe.2.1 57 = .ok (.getfield 311, 3) := by decide +kernel
theorem d_TrustDesk_canBe_60 : decode kY_TrustDesk_canBe.2.1 60 = .ok (.invokevirtual 257, 3) := by decide +kernel
theorem d_TrustDesk_canBe_63 : decode kY_TrustDesk_canBe.2.1 63 = .ok (.invokevirtual 352, 3) := by decide +kernel
abbrev kY_TrustDesk_canJoin : mj_Y := (⟨"TrustDesk", "canJoin", "(LTrustDesk$Fund;LTrustDesk$Fund;)Z"⟩, prog_1_method_27_code, 3, (Option.some Jvm.ClassFile.FieldType.boolean))
theorem d_TrustDesk_canJoin_0 : decode kY_TrustDesk_canJoin.2.1 0 = .ok (.aload_n 2, 1) := by decide +kernel
theorem d_TrustDesk_canJoin_1 : decode kY_TrustDesk_canJoin.2.1 1 = .ok (.ifnull 15, 3) := by decide +kernel
theorem d_TrustDesk_canJoin_16 : decode kY_TrustDesk_canJoin.2.1 16 = .ok (.iconst 0, 1) := by decide +kernel
theorem d_TrustDesk_canJoin_17 : decode kY_TrustDesk_canJoin.2.1 17 = .ok (.ireturn, 1) := by decide +kernel
theorem lV_TrustDesk_352 : mj_lV "TrustDesk" 352 kY_TrustDesk_canJoin 2 := ⟨⟨(mj_in1 (List.mem_of_getElem? (i := 1065) (by decide +kernel)) rfl), (mj_in1 (List.mem_of_getElem? (i := 1) (by decide +kernel)) rfl), (mj_in1 (List.mem_of_getElem? (i := 1068) (by decide +kernel)) rfl), by decide, rfl, by decide⟩, (mj_in1 (List.mem_of_getElem? (i := 1067) (by decide +kernel)) rfl), (mj_in (List.mem_append_left _ (List.mem_of_getElem? (i := 56) (by decide +kernel))) rfl)⟩
theorem d_TrustDesk_canBe_66 : decode kY_TrustDesk_canBe.2.1 66 = .ok (.ireturn, 1) := by decide +kernel
theorem d_TrustDesk_canJoin_4 : decode kY_TrustDesk_canJoin.2.1 4 = .ok (.aload_n 2, 1) := by decide +kernel
theorem d_TrustDesk_canJoin_5 : decode kY_TrustDesk_canJoin.2.1 5 = .ok (.aload_n 1, 1) := by decide +kernel
theorem d_TrustDesk_canJoin_6 : decode kY_TrustDesk_canJoin.2.1 6 = .ok (.if_acmp .eq 10, 3) := by decide +kernel
theorem d_TrustDesk_canJoin_9 : decode kY_TrustDesk_canJoin.2.1 9 = .ok (.aload_n 2, 1) := by decide +kernel
theorem d_TrustDesk_canJoin_10 : decode kY_TrustDesk_canJoin.2.1 10 = .ok (.invokevirtual 162, 3) := by decide +kernel
theorem d_TrustDesk_canJoin_13 : decode kY_TrustDesk_canJoin.2.1 13 = .ok (.ifCond .eq 5, 3) := by decide +kernel
theorem d_TrustDesk_canJoin_18 : decode kY_TrustDesk_canJoin.2.1 18 = .ok (.aload_n 1, 1) := by decide +kernel
theorem d_TrustDesk_canJoin_19 : decode kY_TrustDesk_canJoin.2.1 19 = .ok (.invokevirtual 363, 3) := by decide +kernel
abbrev kY_Fund_endsThatStand : mj_Y := (⟨"TrustDesk$Fund", "endsThatStand", "()I"⟩, prog_7_method_10_code, 1, (Option.some Jvm.ClassFile.FieldType.int))
theorem d_Fund_endsThatStand_0 : decode kY_Fund_endsThatStand.2.1 0 = .ok (.aload_n 0, 1) := by decide +kernel
theorem d_Fund_endsThatStand_1 : decode kY_Fund_endsThatStand.2.1 1 = .ok (.getfield 24, 3) := by decide +kernel
theorem d_Fund_endsThatStand_4 : decode kY_Fund_endsThatStand.2.1 4 = .ok (.invokevirtual 61, 3) := by decide +kernel
theorem d_Fund_endsThatStand_7 : decode kY_Fund_endsThatStand.2.1 7 = .ok (.aload_n 0, 1) := by decide +kernel
theorem d_Fund_endsThatStand_8 : decode kY_Fund_endsThatStand.2.1 8 = .ok (.iconst 2, 1) := by decide +kernel
theorem d_Fund_endsThatStand_9 : decode kY_Fund_endsThatStand.2.1 9 = .ok (.invokevirtual 83, 3) := by decide +kernel
abbrev kY_Fund_endsIn : mj_Y := (⟨"TrustDesk$Fund", "endsIn", "(I)I"⟩, prog_7_method_9_code, 4, (Option.some Jvm.ClassFile.FieldType.int))
theorem d_Fund_endsIn_0 : decode kY_Fund_endsIn.2.1 0 = .ok (.iconst 0, 1) := by decide +kernel
theorem d_Fund_endsIn_1 : decode kY_Fund_endsIn.2.1 1 = .ok (.istore_n 2, 1) := by decide +kernel
theorem d_Fund_endsIn_2 : decode kY_Fund_endsIn.2.1 2 = .ok (.iconst 0, 1) := by decide +kernel
theorem d_Fund_endsIn_3 : decode kY_Fund_endsIn.2.1 3 = .ok (.istore_n 3, 1) := by decide +kernel
theorem d_Fund_endsIn_4 : decode kY_Fund_endsIn.2.1 4 = .ok (.iload_n 3, 1) := by decide +kernel
theorem d_Fund_endsIn_5 : decode kY_Fund_endsIn.2.1 5 = .ok (.aload_n 0, 1) := by decide +kernel
theorem d_Fund_endsIn_6 : decode kY_Fund_endsIn.2.1 6 = .ok (.getfield 24, 3) := by decide +kernel
theorem d_Fund_endsIn_9 : decode kY_Fund_endsIn.2.1 9 = .ok (.invokevirtual 61, 3) := by decide +kernel
theorem d_Fund_endsIn_12 : decode kY_Fund_endsIn.2.1 12 = .ok (.if_icmp .ge 30, 3) := by decide +kernel
theorem d_Fund_endsIn_42 : decode kY_Fund_endsIn.2.1 42 = .ok (.iload_n 2, 1) := by decide +kernel
theorem d_Fund_endsIn_43 : decode kY_Fund_endsIn.2.1 43 = .ok (.ireturn, 1) := by decide +kernel
theorem d_Fund_endsIn_15 : decode kY_Fund_endsIn.2.1 15 = .ok (.aload_n 0, 1) := by decide +kernel
theorem d_Fund_endsIn_16 : decode kY_Fund_endsIn.2.1 16 = .ok (.getfield 24, 3) := by decide +kernel
theorem d_Fund_endsIn_19 : decode kY_Fund_endsIn.2.1 19 = .ok (.iload_n 3, 1) := by decide +kernel
theorem d_Fund_endsIn_20 : decode kY_Fund_endsIn.2.1 20 = .ok (.invokevirtual 65, 3) := by decide +kernel
theorem d_Fund_endsIn_23 : decode kY_Fund_endsIn.2.1 23 = .ok (.checkcast 69, 3) := by decide +kernel
theorem d_Fund_endsIn_26 : decode kY_Fund_endsIn.2.1 26 = .ok (.getfield 80, 3) := by decide +kernel
theorem d_Fund_endsIn_29 : decode kY_Fund_endsIn.2.1 29 = .ok (.iload_n 1, 1) := by decide +kernel
theorem d_Fund_endsIn_30 : decode kY_Fund_endsIn.2.1 30 = .ok (.if_icmp .ne 6, 3) := by decide +kernel
theorem d_Fund_endsIn_36 : decode kY_Fund_endsIn.2.1 36 = .ok (.iinc 3 1, 3) := by decide +kernel
theorem d_Fund_endsIn_39 : decode kY_Fund_endsIn.2.1 39 = .ok (.goto (-35), 3) := by decide +kernel
theorem d_Fund_endsIn_33 : decode kY_Fund_endsIn.2.1 33 = .ok (.iinc 2 1, 3) := by decide +kernel
def w_Fund_endsIn : List Nat := []
theorem tc_Fund_endsIn {g : mj_G} {l : Launch} {d : Nat} {T0 : tm_H} {M0 : mj_M} {n0 x9 : Nat} {o0 : Nat} {x1 : Int32} (h_o0 : T0 o0 = some (0, 6, 0)) (I0 : tm_I tm_FT (tm_in w_Fund_endsIn) x9 T0 M0 n0 T0 M0 n0) : mj_Met g l kY_Fund_endsIn (d + 3) [.ref o0, .int x1] M0 n0 0 0 (tm_Q tm_FT (tm_in w_Fund_endsIn) x9 T0 M0 n0 (fun r _ _ => ∃ v : Int32, r = some (.int v))) := by
  refine mj_enter (by decide) (Nat.le_of_ble_eq_true rfl) ?_
  refine mv_iconst (v := 0) d_Fund_endsIn_0 (by decide) ?_
  refine mv_istore_n (lv' := [(2, .int 0), (0, .ref o0), (1, .int x1)]) d_Fund_endsIn_1 rfl (by decide) rfl ?_
  refine mv_iconst (v := 0) d_Fund_endsIn_2 (by decide) ?_
  refine mv_istore_n (lv' := [(3, .int 0), (2, .int 0), (0, .ref o0), (1, .int x1)]) d_Fund_endsIn_3 rfl (by decide) rfl ?_
  have L4_1 : ∀ (k : Nat) (i3_1 : Int32) (i2_1 : Int32) (T_1 : tm_H) (M_1 : mj_M) (n_1 : Nat), tm_I tm_FT (tm_in w_Fund_endsIn) x9 T0 M0 n0 T_1 M_1 n_1 → T_1 o0 = some (0, 6, 0) → 0 ≤ i3_1.toInt → 2147483647 - i3_1.toInt < (k : Int) → mj_V g l kY_Fund_endsIn (d + 3) 4 [(3, .int i3_1), (2, .int i2_1), (0, .ref o0), (1, .int x1)] [] M_1 n_1 0 0 (tm_Q tm_FT (tm_in w_Fund_endsIn) x9 T0 M0 n0 (fun r _ _ => ∃ v : Int32, r = some (.int v))) := by
    intro k1
    induction k1 with
    | zero =>
      intro i3_1 i2_1 T_1 M_1 n_1 I_1 h_q0_1 iv0_1 hk1
      have := mz_hi i3_1
      omega
    | succ k1 ih1 =>
      intro i3_1 i2_1 T_1 M_1 n_1 I_1 h_q0_1 iv0_1 hk1
      refine mv_iload_n d_Fund_endsIn_4 rfl rfl ?_
      refine mv_aload_n d_Fund_endsIn_5 rfl rfl ?_
      obtain ⟨a3, q2, t_a3⟩ := tm_atO I_1 h_q0_1 (k := 11) rfl
      refine tr_getK q2 d_Fund_endsIn_6 f_Fund_24_6 ?_
      obtain ⟨m5, n9, e6, N7, f8, h4⟩ := I_1.1 _ _ t_a3
      have := h4.2.1
      have : n9.toInt ≤ 72 := h4.2.2.1
      have q10 : tm_at M_1 a3 0 2 (.int n9) := ⟨_, h4.1, rfl⟩
      refine mv_callV_s (kc' := 0) (ks' := 0) [] [.ref a3, .int i3_1] d_Fund_endsIn_9 lV_Fund_61 h4.1 rfl (tc_L_size (d := (d + 2)) h4.1) rfl (Nat.le_of_ble_eq_true rfl) (Nat.le_of_ble_eq_true rfl) (Nat.le_of_ble_eq_true rfl) rfl ?_
      have := mz_hi i3_1
      have := mz_hi n9
      refine mv_icmp_geZ (tgt := 42) (a := i3_1.toInt) (b := n9.toInt) d_Fund_endsIn_12 (by decide) rfl rfl (fun b11 => ?_) (fun b11 => ?_)
      · refine mv_iload_n d_Fund_endsIn_42 rfl rfl ?_
        exact mv_iret d_Fund_endsIn_43 rfl (by first | rfl | decide) ⟨_, I_1, _, rfl⟩
      · refine mv_aload_n d_Fund_endsIn_15 rfl rfl ?_
        refine tr_getK (k := 11) q2 d_Fund_endsIn_16 f_Fund_24_6 ?_
        refine mv_iload_n d_Fund_endsIn_19 rfl rfl ?_
        obtain ⟨m13, e14, N15, f16, h12⟩ := tm_lsn I_1 t_a3 q10
        obtain ⟨u17e, u17i, a18, u17f, u17t⟩ := tm_el (i := i3_1) h12 (by omega) (by omega)
        have t_a18 : T_1 a18 = some (0, 3, 0) := u17t
        refine mv_callV_s (kc' := 0) (ks' := 0) [.int i3_1] [.int i3_1, .ref a3] d_Fund_endsIn_20 lV_Fund_65 h12.1 rfl (tc_L_get (d := d) h12.1 u17e (by omega) (by omega) u17i u17f) rfl (Nat.le_of_ble_eq_true rfl) (Nat.le_of_ble_eq_true rfl) (Nat.le_of_ble_eq_true rfl) rfl ?_
        obtain ⟨_, b19, -⟩ := I_1.1 _ _ t_a18
        refine mv_castS (T9 := kF_End) (N := 4) d_Fund_endsIn_23 (mj_in1 (List.mem_of_getElem? (i := 751) (by decide +kernel)) rfl) b19 rfl ?_
        obtain ⟨v21, q20⟩ := tm_atI I_1 t_a18 (k := 1) rfl
        refine tr_getK q20 d_Fund_endsIn_26 f_Fund_80_3 ?_
        refine mv_iload_n d_Fund_endsIn_29 rfl rfl ?_
        have := mz_hi v21
        have := mz_hi x1
        refine mv_icmp_neZ (tgt := 36) (a := v21.toInt) (b := x1.toInt) d_Fund_endsIn_30 (by decide) rfl rfl (fun b22 => ?_) (fun b22 => ?_)
        · refine mv_iinc (v := (i3_1 + 1)) (lv' := [(3, .int (i3_1 + 1)), (2, .int i2_1), (0, .ref o0), (1, .int x1)]) d_Fund_endsIn_36 rfl rfl (by decide) rfl ?_
          refine mv_goto (tgt := 4) d_Fund_endsIn_39 (by decide) ?_
          have b23 : (i3_1 + 1).toInt = i3_1.toInt + 1 := mz_addn 1 1 (by decide) (by have := mz_lo i3_1; omega) (by have := mz_hi i3_1; omega)
          exact (ih1 (i3_1 + 1) i2_1 T_1 M_1 n_1 I_1 h_q0_1 (by first | omega | decide) (by omega))
        · refine mv_iinc (v := (i2_1 + 1)) (lv' := [(2, .int (i2_1 + 1)), (3, .int i3_1), (0, .ref o0), (1, .int x1)]) d_Fund_endsIn_33 rfl rfl (by decide) rfl ?_
          refine mv_iinc (v := (i3_1 + 1)) (lv' := [(3, .int (i3_1 + 1)), (2, .int (i2_1 + 1)), (0, .ref o0), (1, .int x1)]) d_Fund_endsIn_36 rfl rfl (by decide) rfl ?_
          refine mv_goto (tgt := 4) d_Fund_endsIn_39 (by decide) ?_
          have b24 : (i3_1 + 1).toInt = i3_1.toInt + 1 := mz_addn 1 1 (by decide) (by have := mz_lo i3_1; omega) (by have := mz_hi i3_1; omega)
          exact (ih1 (i3_1 + 1) (i2_1 + 1) T_1 M_1 n_1 I_1 h_q0_1 (by first | omega | decide) (by omega))
  exact mv_less (Nat.zero_le _) (Nat.zero_le _) (L4_1 4294967296 0 0 T0 M0 n0 I0 h_o0 (by first | omega | decide) (by show (2147483647 - (0 : Int) : Int) < _; decide))
theorem lV_Fund_83 : mj_lV "TrustDesk$Fund" 83 kY_Fund_endsIn 1 := ⟨⟨(mj_in1 (List.mem_of_getElem? (i := 1073) (by decide +kernel)) rfl), (mj_in1 (List.mem_of_getElem? (i := 21) (by decide +kernel)) rfl), (mj_in1 (List.mem_of_getElem? (i := 1076) (by decide +kernel)) rfl), by decide, rfl, by decide⟩, (mj_in1 (List.mem_of_getElem? (i := 1074) (by decide +kernel)) rfl), (mj_in1 (List.mem_of_getElem? (i := 1075) (by decide +kernel)) rfl)⟩
theorem d_Fund_endsThatStand_12 : decode kY_Fund_endsThatStand.2.1 12 = .ok (.isub, 1) := by decide +kernel
theorem d_Fund_endsThatStand_13 : decode kY_Fund_endsThatStand.2.1 13 = .ok (.ireturn, 1) := by decide +kernel
def w_Fund_endsThatStand : List Nat := []
theorem tc_Fund_endsThatStand {g : mj_G} {l : Launch} {d : Nat} {T0 : tm_H} {M0 : mj_M} {n0 x9 : Nat} {o0 : Nat} (h_o0 : T0 o0 = some (0, 6, 0)) (I0 : tm_I tm_FT (tm_in w_Fund_endsThatStand) x9 T0 M0 n0 T0 M0 n0) : mj_Met g l kY_Fund_endsThatStand (d + 4) [.ref o0] M0 n0 0 0 (tm_Q tm_FT (tm_in w_Fund_endsThatStand) x9 T0 M0 n0 (fun r _ _ => ∃ v : Int32, r = some (.int v))) := by
  refine mj_enter (by decide) (Nat.le_of_ble_eq_true rfl) ?_
  refine mv_aload_n d_Fund_endsThatStand_0 rfl rfl ?_
  obtain ⟨a2, q1, t_a2⟩ := tm_atO I0 h_o0 (k := 11) rfl
  refine tr_getK q1 d_Fund_endsThatStand_1 f_Fund_24_6 ?_
  obtain ⟨m4, n8, e5, N6, f7, h3⟩ := I0.1 _ _ t_a2
  have := h3.2.1
  have : n8.toInt ≤ 72 := h3.2.2.1
  have q9 : tm_at M0 a2 0 2 (.int n8) := ⟨_, h3.1, rfl⟩
  refine mv_callV_s (kc' := 0) (ks' := 0) [] [.ref a2] d_Fund_endsThatStand_4 lV_Fund_61 h3.1 rfl (tc_L_size (d := (d + 3)) h3.1) rfl (Nat.le_of_ble_eq_true rfl) (Nat.le_of_ble_eq_true rfl) (Nat.le_of_ble_eq_true rfl) rfl ?_
  refine mv_aload_n d_Fund_endsThatStand_7 rfl rfl ?_
  refine mv_iconst (v := 2) d_Fund_endsThatStand_8 (by decide) ?_
  obtain ⟨_, b16, -⟩ := I0.1 _ _ h_o0
  refine mv_callV (kc' := 0) (ks' := 0) (As := [.int 2]) (st9 := [.int 2, .ref o0, .int n8]) d_Fund_endsThatStand_9 lV_Fund_83 b16 rfl (tc_Fund_endsIn (d := d) (x9 := x9) (o0 := o0) (x1 := 2) h_o0 I0.start) rfl (Nat.le_of_ble_eq_true rfl) (Nat.le_of_ble_eq_true rfl) (Nat.le_of_ble_eq_true rfl) (hst := rfl) (fun b10r M11 n12 b10 => ?_)
  obtain ⟨T13, J14, v17, rfl⟩ := b10
  have I15 := I0.call J14 (tm_sub (by decide)) (Or.inl rfl)
  have t18 := J14.up h_o0
  have q19 := J14.keep h_o0 (by decide) q1
  have t20 := J14.up t_a2
  have q21 := J14.keepL t_a2 (by decide) q9
  refine mv_isub d_Fund_endsThatStand_12 ?_
  exact mv_iret d_Fund_endsThatStand_13 rfl (by first | rfl | decide) ⟨_, I15, _, rfl⟩
theorem lV_TrustDesk_363 : mj_lV "TrustDesk" 363 kY_Fund_endsThatStand 0 := ⟨⟨(mj_in1 (List.mem_of_getElem? (i := 1069) (by decide +kernel)) rfl), (mj_in1 (List.mem_of_getElem? (i := 21) (by decide +kernel)) rfl), (mj_in1 (List.mem_of_getElem? (i := 1072) (by decide +kernel)) rfl), by decide, rfl, by decide⟩, (mj_in1 (List.mem_of_getElem? (i := 1070) (by decide +kernel)) rfl), (mj_in1 (List.mem_of_getElem? (i := 1071) (by decide +kernel)) rfl)⟩
theorem d_TrustDesk_canJoin_22 : decode kY_TrustDesk_canJoin.2.1 22 = .ok (.aload_n 2, 1) := by decide +kernel
theorem d_TrustDesk_canJoin_23 : decode kY_TrustDesk_canJoin.2.1 23 = .ok (.invokevirtual 363, 3) := by decide +kernel
theorem d_TrustDesk_canJoin_26 : decode kY_TrustDesk_canJoin.2.1 26 = .ok (.iadd, 1) := by decide +kernel
theorem d_TrustDesk_canJoin_27 : decode kY_TrustDesk_canJoin.2.1 27 = .ok (.bipush 12, 2) := by decide +kernel
theorem d_TrustDesk_canJoin_29 : decode kY_TrustDesk_canJoin.2.1 29 = .ok (.if_icmp .gt 7, 3) := by decide +kernel
theorem d_TrustDesk_canJoin_36 : decode kY_TrustDesk_canJoin.2.1 36 = .ok (.iconst 0, 1) := by decide +kernel
theorem d_TrustDesk_canJoin_37 : decode kY_TrustDesk_canJoin.2.1 37 = .ok (.ireturn, 1) := by decide +kernel
theorem d_TrustDesk_canJoin_32 : decode kY_TrustDesk_canJoin.2.1 32 = .ok (.iconst 1, 1) := by decide +kernel
theorem d_TrustDesk_canJoin_33 : decode kY_TrustDesk_canJoin.2.1 33 = .ok (.goto 4, 3) := by decide +kernel
theorem d_TrustDesk_canBe_67 : decode kY_TrustDesk_canBe.2.1 67 = .ok (.aload_n 2, 1) := by decide +kernel
theorem d_TrustDesk_canBe_68 : decode kY_TrustDesk_canBe.2.1 68 = .ok (.getfield 356, 3) := by decide +kernel
theorem f_TrustDesk_356_6 : mj_fl "TrustDesk" 356 6 1 := ⟨kR_Fund, kF_Fund, 15, "TrustDesk$Fund", rfl, kg_6, by decide, (mj_in1 (List.mem_of_getElem? (i := 667) (by decide +kernel)) rfl), Or.inl rfl⟩
theorem d_TrustDesk_canBe_71 : decode kY_TrustDesk_canBe.2.1 71 = .ok (.aload_n 1, 1) := by decide +kernel
theorem d_TrustDesk_canBe_72 : decode kY_TrustDesk_canBe.2.1 72 = .ok (.getfield 311, 3) := by decide +kernel
theorem d_TrustDesk_canBe_75 : decode kY_TrustDesk_canBe.2.1 75 = .ok (.if_icmp .lt 7, 3) := by decide +kernel
theorem d_TrustDesk_canBe_82 : decode kY_TrustDesk_canBe.2.1 82 = .ok (.iconst 0, 1) := by decide +kernel
theorem d_TrustDesk_canBe_83 : decode kY_TrustDesk_canBe.2.1 83 = .ok (.ireturn, 1) := by decide +kernel
theorem d_TrustDesk_canBe_78 : decode kY_TrustDesk_canBe.2.1 78 = .ok (.iconst 1, 1) := by decide +kernel
theorem d_TrustDesk_canBe_79 : decode kY_TrustDesk_canBe.2.1 79 = .ok (.goto 4, 3) := by decide +kernel
theorem d_TrustDesk_canBe_7 : decode kY_TrustDesk_canBe.2.1 7 = .ok (.iconst 0, 1) := by decide +kernel
theorem d_TrustDesk_canBe_8 : decode kY_TrustDesk_canBe.2.1 8 = .ok (.ireturn, 1) := by decide +kernel
abbrev kY_TrustDesk_canGather : mj_Y := (⟨"TrustDesk", "canGather", "(I)Z"⟩, prog_1_method_54_code, 4, (Option.some Jvm.ClassFile.FieldType.boolean))
theorem d_TrustDesk_canGather_0 : decode kY_TrustDesk_canGather.2.1 0 = .ok (.iload_n 1, 1) := by decide +kernel
theorem d_TrustDesk_canGather_1 : decode kY_TrustDesk_canGather.2.1 1 = .ok (.invokestatic 337, 3) := by decide +kernel
abbrev kY_Integer_bitCount : mj_Y := (⟨"java/lang/Integer", "bitCount", "(I)I"⟩, prog_20_method_49_code, 1, (Option.some Jvm.ClassFile.FieldType.int))
theorem d_Integer_bitCount_0 : decode kY_Integer_bitCount.2.1 0 = .ok (.iload_n 0, 1) := by decide +kernel
theorem d_Integer_bitCount_1 : decode kY_Integer_bitCount.2.1 1 = .ok (.iload_n 0, 1) := by decide +kernel
theorem d_Integer_bitCount_2 : decode kY_Integer_bitCount.2.1 2 = .ok (.iconst 1, 1) := by decide +kernel
theorem d_Integer_bitCount_3 : decode kY_Integer_bitCount.2.1 3 = .ok (.iushr, 1) := by decide +kernel
theorem d_Integer_bitCount_4 : decode kY_Integer_bitCount.2.1 4 = .ok (.ldc_w 265, 3) := by decide +kernel
theorem k_Integer_265 : Cond.constant "java/lang/Integer" 265 1431655765 ∈ mj_T := (mj_in1 (List.mem_of_getElem? (i := 1092) (by decide +kernel)) rfl)
theorem d_Integer_bitCount_7 : decode kY_Integer_bitCount.2.1 7 = .ok (.iand, 1) := by decide +kernel
theorem d_Integer_bitCount_8 : decode kY_Integer_bitCount.2.1 8 = .ok (.isub, 1) := by decide +kernel
theorem d_Integer_bitCount_9 : decode kY_Integer_bitCount.2.1 9 = .ok (.istore_n 0, 1) := by decide +kernel
theorem d_Integer_bitCount_10 : decode kY_Integer_bitCount.2.1 10 = .ok (.iload_n 0, 1) := by decide +kernel
theorem d_Integer_bitCount_11 : decode kY_Integer_bitCount.2.1 11 = .ok (.ldc_w 266, 3) := by decide +kernel
theorem k_Integer_266 : Cond.constant "java/lang/Integer" 266 858993459 ∈ mj_T := (mj_in1 (List.mem_of_getElem? (i := 1093) (by decide +kernel)) rfl)
theorem d_Integer_bitCount_14 : decode kY_Integer_bitCount.2.1 14 = .ok (.iand, 1) := by decide +kernel
theorem d_Integer_bitCount_15 : decode kY_Integer_bitCount.2.1 15 = .ok (.iload_n 0, 1) := by decide +kernel
theorem d_Integer_bitCount_16 : decode kY_Integer_bitCount.2.1 16 = .ok (.iconst 2, 1) := by decide +kernel
theorem d_Integer_bitCount_17 : decode kY_Integer_bitCount.2.1 17 = .ok (.iushr, 1) := by decide +kernel
theorem d_Integer_bitCount_18 : decode kY_Integer_bitCount.2.1 18 = .ok (.ldc_w 266, 3) := by decide +kernel
theorem d_Integer_bitCount_21 : decode kY_Integer_bitCount.2.1 21 = .ok (.iand, 1) := by decide +kernel
theorem d_Integer_bitCount_22 : decode kY_Integer_bitCount.2.1 22 = .ok (.iadd, 1) := by decide +kernel
theorem d_Integer_bitCount_23 : decode kY_Integer_bitCount.2.1 23 = .ok (.istore_n 0, 1) := by decide +kernel
theorem d_Integer_bitCount_24 : decode kY_Integer_bitCount.2.1 24 = .ok (.iload_n 0, 1) := by decide +kernel
theorem d_Integer_bitCount_25 : decode kY_Integer_bitCount.2.1 25 = .ok (.iload_n 0, 1) := by decide +kernel
theorem d_Integer_bitCount_26 : decode kY_Integer_bitCount.2.1 26 = .ok (.iconst 4, 1) := by decide +kernel
theorem d_Integer_bitCount_27 : decode kY_Integer_bitCount.2.1 27 = .ok (.iushr, 1) := by decide +kernel
theorem d_Integer_bitCount_28 : decode kY_Integer_bitCount.2.1 28 = .ok (.iadd, 1) := by decide +kernel
theorem d_Integer_bitCount_29 : decode kY_Integer_bitCount.2.1 29 = .ok (.ldc_w 267, 3) := by decide +kernel
theorem k_Integer_267 : Cond.constant "java/lang/Integer" 267 252645135 ∈ mj_T := (mj_in1 (List.mem_of_getElem? (i := 1094) (by decide +kernel)) rfl)
theorem d_Integer_bitCount_32 : decode kY_Integer_bitCount.2.1 32 = .ok (.iand, 1) := by decide +kernel
theorem d_Integer_bitCount_33 : decode kY_Integer_bitCount.2.1 33 = .ok (.istore_n 0, 1) := by decide +kernel
theorem d_Integer_bitCount_34 : decode kY_Integer_bitCount.2.1 34 = .ok (.iload_n 0, 1) := by decide +kernel
theorem d_Integer_bitCount_35 : decode kY_Integer_bitCount.2.1 35 = .ok (.iload_n 0, 1) := by decide +kernel
theorem d_Integer_bitCount_36 : decode kY_Integer_bitCount.2.1 36 = .ok (.bipush 8, 2) := by decide +kernel
theorem d_Integer_bitCount_38 : decode kY_Integer_bitCount.2.1 38 = .ok (.iushr, 1) := by decide +kernel
theorem d_Integer_bitCount_39 : decode kY_Integer_bitCount.2.1 39 = .ok (.iadd, 1) := by decide +kernel
theorem d_Integer_bitCount_40 : decode kY_Integer_bitCount.2.1 40 = .ok (.istore_n 0, 1) := by decide +kernel
theorem d_Integer_bitCount_41 : decode kY_Integer_bitCount.2.1 41 = .ok (.iload_n 0, 1) := by decide +kernel
theorem d_Integer_bitCount_42 : decode kY_Integer_bitCount.2.1 42 = .ok (.iload_n 0, 1) := by decide +kernel
theorem d_Integer_bitCount_43 : decode kY_Integer_bitCount.2.1 43 = .ok (.bipush 16, 2) := by decide +kernel
theorem d_Integer_bitCount_45 : decode kY_Integer_bitCount.2.1 45 = .ok (.iushr, 1) := by decide +kernel
theorem d_Integer_bitCount_46 : decode kY_Integer_bitCount.2.1 46 = .ok (.iadd, 1) := by decide +kernel
theorem d_Integer_bitCount_47 : decode kY_Integer_bitCount.2.1 47 = .ok (.istore_n 0, 1) := by decide +kernel
theorem d_Integer_bitCount_48 : decode kY_Integer_bitCount.2.1 48 = .ok (.iload_n 0, 1) := by decide +kernel
theorem d_Integer_bitCount_49 : decode kY_Integer_bitCount.2.1 49 = .ok (.bipush 63, 2) := by decide +kernel
theorem d_Integer_bitCount_51 : decode kY_Integer_bitCount.2.1 51 = .ok (.iand, 1) := by decide +kernel
theorem d_Integer_bitCount_52 : decode kY_Integer_bitCount.2.1 52 = .ok (.ireturn, 1) := by decide +kernel
def w_Integer_bitCount : List Nat := []
theorem tc_Integer_bitCount {g : mj_G} {l : Launch} {d : Nat} {T0 : tm_H} {M0 : mj_M} {n0 x9 : Nat} {x1 : Int32} (I0 : tm_I tm_FT (tm_in w_Integer_bitCount) x9 T0 M0 n0 T0 M0 n0) : mj_Met g l kY_Integer_bitCount d [.int x1] M0 n0 0 0 (tm_Q tm_FT (tm_in w_Integer_bitCount) x9 T0 M0 n0 (fun r _ _ => ∃ v : Int32, r = some (.int v))) := by
  refine mj_enter (by decide) (Nat.le_of_ble_eq_true rfl) ?_
  refine mv_iload_n d_Integer_bitCount_0 rfl rfl ?_
  refine mv_iload_n d_Integer_bitCount_1 rfl rfl ?_
  refine mv_iconst (v := 1) d_Integer_bitCount_2 (by decide) ?_
  refine mv_iushr (v := (x1.toUInt32 >>> ((1 : Int32).toUInt32 &&& Int32.toUInt32 31)).toInt32) d_Integer_bitCount_3 rfl ?_
  refine mv_ldcw d_Integer_bitCount_4 k_Integer_265 ?_
  refine mv_iand d_Integer_bitCount_7 ?_
  refine mv_isub d_Integer_bitCount_8 ?_
  refine mv_istore_n (lv' := [(0, .int (x1 - (((x1.toUInt32 >>> ((1 : Int32).toUInt32 &&& Int32.toUInt32 31)).toInt32) &&& 1431655765)))]) d_Integer_bitCount_9 rfl (by decide) rfl ?_
  refine mv_iload_n d_Integer_bitCount_10 rfl rfl ?_
  refine mv_ldcw d_Integer_bitCount_11 k_Integer_266 ?_
  refine mv_iand d_Integer_bitCount_14 ?_
  refine mv_iload_n d_Integer_bitCount_15 rfl rfl ?_
  refine mv_iconst (v := 2) d_Integer_bitCount_16 (by decide) ?_
  refine mv_iushr (v := ((x1 - (((x1.toUInt32 >>> ((1 : Int32).toUInt32 &&& Int32.toUInt32 31)).toInt32) &&& 1431655765)).toUInt32 >>> ((2 : Int32).toUInt32 &&& Int32.toUInt32 31)).toInt32) d_Integer_bitCount_17 rfl ?_
  refine mv_ldcw d_Integer_bitCount_18 k_Integer_266 ?_
  refine mv_iand d_Integer_bitCount_21 ?_
  refine mv_iadd d_Integer_bitCount_22 ?_
  refine mv_istore_n (lv' := [(0, .int (((x1 - (((x1.toUInt32 >>> ((1 : Int32).toUInt32 &&& Int32.toUInt32 31)).toInt32) &&& 1431655765)) &&& 858993459) + ((((x1 - (((x1.toUInt32 >>> ((1 : Int32).toUInt32 &&& Int32.toUInt32 31)).toInt32) &&& 1431655765)).toUInt32 >>> ((2 : Int32).toUInt32 &&& Int32.toUInt32 31)).toInt32) &&& 858993459)))]) d_Integer_bitCount_23 rfl (by decide) rfl ?_
  refine mv_iload_n d_Integer_bitCount_24 rfl rfl ?_
  refine mv_iload_n d_Integer_bitCount_25 rfl rfl ?_
  refine mv_iconst (v := 4) d_Integer_bitCount_26 (by decide) ?_
  refine mv_iushr (v := ((((x1 - (((x1.toUInt32 >>> ((1 : Int32).toUInt32 &&& Int32.toUInt32 31)).toInt32) &&& 1431655765)) &&& 858993459) + ((((x1 - (((x1.toUInt32 >>> ((1 : Int32).toUInt32 &&& Int32.toUInt32 31)).toInt32) &&& 1431655765)).toUInt32 >>> ((2 : Int32).toUInt32 &&& Int32.toUInt32 31)).toInt32) &&& 858993459)).toUInt32 >>> ((4 : Int32).toUInt32 &&& Int32.toUInt32 31)).toInt32) d_Integer_bitCount_27 rfl ?_
  refine mv_iadd d_Integer_bitCount_28 ?_
  refine mv_ldcw d_Integer_bitCount_29 k_Integer_267 ?_
  refine mv_iand d_Integer_bitCount_32 ?_
  refine mv_istore_n (lv' := [(0, .int (((((x1 - (((x1.toUInt32 >>> ((1 : Int32).toUInt32 &&& Int32.toUInt32 31)).toInt32) &&& 1431655765)) &&& 858993459) + ((((x1 - (((x1.toUInt32 >>> ((1 : Int32).toUInt32 &&& Int32.toUInt32 31)).toInt32) &&& 1431655765)).toUInt32 >>> ((2 : Int32).toUInt32 &&& Int32.toUInt32 31)).toInt32) &&& 858993459)) + (((((x1 - (((x1.toUInt32 >>> ((1 : Int32).toUInt32 &&& Int32.toUInt32 31)).toInt32) &&& 1431655765)) &&& 858993459) + ((((x1 - (((x1.toUInt32 >>> ((1 : Int32).toUInt32 &&& Int32.toUInt32 31)).toInt32) &&& 1431655765)).toUInt32 >>> ((2 : Int32).toUInt32 &&& Int32.toUInt32 31)).toInt32) &&& 858993459)).toUInt32 >>> ((4 : Int32).toUInt32 &&& Int32.toUInt32 31)).toInt32)) &&& 252645135))]) d_Integer_bitCount_33 rfl (by decide) rfl ?_
  refine mv_iload_n d_Integer_bitCount_34 rfl rfl ?_
  refine mv_iload_n d_Integer_bitCount_35 rfl rfl ?_
  refine mv_bipush (v := 8) d_Integer_bitCount_36 (by decide) ?_
  refine mv_iushr (v := ((((((x1 - (((x1.toUInt32 >>> ((1 : Int32).toUInt32 &&& Int32.toUInt32 31)).toInt32) &&& 1431655765)) &&& 858993459) + ((((x1 - (((x1.toUInt32 >>> ((1 : Int32).toUInt32 &&& Int32.toUInt32 31)).toInt32) &&& 1431655765)).toUInt32 >>> ((2 : Int32).toUInt32 &&& Int32.toUInt32 31)).toInt32) &&& 858993459)) + (((((x1 - (((x1.toUInt32 >>> ((1 : Int32).toUInt32 &&& Int32.toUInt32 31)).toInt32) &&& 1431655765)) &&& 858993459) + ((((x1 - (((x1.toUInt32 >>> ((1 : Int32).toUInt32 &&& Int32.toUInt32 31)).toInt32) &&& 1431655765)).toUInt32 >>> ((2 : Int32).toUInt32 &&& Int32.toUInt32 31)).toInt32) &&& 858993459)).toUInt32 >>> ((4 : Int32).toUInt32 &&& Int32.toUInt32 31)).toInt32)) &&& 252645135).toUInt32 >>> ((8 : Int32).toUInt32 &&& Int32.toUInt32 31)).toInt32) d_Integer_bitCount_38 rfl ?_
  refine mv_iadd d_Integer_bitCount_39 ?_
  refine mv_istore_n (lv' := [(0, .int ((((((x1 - (((x1.toUInt32 >>> ((1 : Int32).toUInt32 &&& Int32.toUInt32 31)).toInt32) &&& 1431655765)) &&& 858993459) + ((((x1 - (((x1.toUInt32 >>> ((1 : Int32).toUInt32 &&& Int32.toUInt32 31)).toInt32) &&& 1431655765)).toUInt32 >>> ((2 : Int32).toUInt32 &&& Int32.toUInt32 31)).toInt32) &&& 858993459)) + (((((x1 - (((x1.toUInt32 >>> ((1 : Int32).toUInt32 &&& Int32.toUInt32 31)).toInt32) &&& 1431655765)) &&& 858993459) + ((((x1 - (((x1.toUInt32 >>> ((1 : Int32).toUInt32 &&& Int32.toUInt32 31)).toInt32) &&& 1431655765)).toUInt32 >>> ((2 : Int32).toUInt32 &&& Int32.toUInt32 31)).toInt32) &&& 858993459)).toUInt32 >>> ((4 : Int32).toUInt32 &&& Int32.toUInt32 31)).toInt32)) &&& 252645135) + (((((((x1 - (((x1.toUInt32 >>> ((1 : Int32).toUInt32 &&& Int32.toUInt32 31)).toInt32) &&& 1431655765)) &&& 858993459) + ((((x1 - (((x1.toUInt32 >>> ((1 : Int32).toUInt32 &&& Int32.toUInt32 31)).toInt32) &&& 1431655765)).toUInt32 >>> ((2 : Int32).toUInt32 &&& Int32.toUInt32 31)).toInt32) &&& 858993459)) + (((((x1 - (((x1.toUInt32 >>> ((1 : Int32).toUInt32 &&& Int32.toUInt32 31)).toInt32) &&& 1431655765)) &&& 858993459) + ((((x1 - (((x1.toUInt32 >>> ((1 : Int32).toUInt32 &&& Int32.toUInt32 31)).toInt32) &&& 1431655765)).toUInt32 >>> ((2 : Int32).toUInt32 &&& Int32.toUInt32 31)).toInt32) &&& 858993459)).toUInt32 >>> ((4 : Int32).toUInt32 &&& Int32.toUInt32 31)).toInt32)) &&& 252645135).toUInt32 >>> ((8 : Int32).toUInt32 &&& Int32.toUInt32 31)).toInt32)))]) d_Integer_bitCount_40 rfl (by decide) rfl ?_
  refine mv_iload_n d_Integer_bitCount_41 rfl rfl ?_
  refine mv_iload_n d_Integer_bitCount_42 rfl rfl ?_
  refine mv_bipush (v := 16) d_Integer_bitCount_43 (by decide) ?_
  refine mv_iushr (v := (((((((x1 - (((x1.toUInt32 >>> ((1 : Int32).toUInt32 &&& Int32.toUInt32 31)).toInt32) &&& 1431655765)) &&& 858993459) + ((((x1 - (((x1.toUInt32 >>> ((1 : Int32).toUInt32 &&& Int32.toUInt32 31)).toInt32) &&& 1431655765)).toUInt32 >>> ((2 : Int32).toUInt32 &&& Int32.toUInt32 31)).toInt32) &&& 858993459)) + (((((x1 - (((x1.toUInt32 >>> ((1 : Int32).toUInt32 &&& Int32.toUInt32 31)).toInt32) &&& 1431655765)) &&& 858993459) + ((((x1 - (((x1.toUInt32 >>> ((1 : Int32).toUInt32 &&& Int32.toUInt32 31)).toInt32) &&& 1431655765)).toUInt32 >>> ((2 : Int32).toUInt32 &&& Int32.toUInt32 31)).toInt32) &&& 858993459)).toUInt32 >>> ((4 : Int32).toUInt32 &&& Int32.toUInt32 31)).toInt32)) &&& 252645135) + (((((((x1 - (((x1.toUInt32 >>> ((1 : Int32).toUInt32 &&& Int32.toUInt32 31)).toInt32) &&& 1431655765)) &&& 858993459) + ((((x1 - (((x1.toUInt32 >>> ((1 : Int32).toUInt32 &&& Int32.toUInt32 31)).toInt32) &&& 1431655765)).toUInt32 >>> ((2 : Int32).toUInt32 &&& Int32.toUInt32 31)).toInt32) &&& 858993459)) + (((((x1 - (((x1.toUInt32 >>> ((1 : Int32).toUInt32 &&& Int32.toUInt32 31)).toInt32) &&& 1431655765)) &&& 858993459) + ((((x1 - (((x1.toUInt32 >>> ((1 : Int32).toUInt32 &&& Int32.toUInt32 31)).toInt32) &&& 1431655765)).toUInt32 >>> ((2 : Int32).toUInt32 &&& Int32.toUInt32 31)).toInt32) &&& 858993459)).toUInt32 >>> ((4 : Int32).toUInt32 &&& Int32.toUInt32 31)).toInt32)) &&& 252645135).toUInt32 >>> ((8 : Int32).toUInt32 &&& Int32.toUInt32 31)).toInt32)).toUInt32 >>> ((16 : Int32).toUInt32 &&& Int32.toUInt32 31)).toInt32) d_Integer_bitCount_45 rfl ?_
  refine mv_iadd d_Integer_bitCount_46 ?_
  refine mv_istore_n (lv' := [(0, .int (((((((x1 - (((x1.toUInt32 >>> ((1 : Int32).toUInt32 &&& Int32.toUInt32 31)).toInt32) &&& 1431655765)) &&& 858993459) + ((((x1 - (((x1.toUInt32 >>> ((1 : Int32).toUInt32 &&& Int32.toUInt32 31)).toInt32) &&& 1431655765)).toUInt32 >>> ((2 : Int32).toUInt32 &&& Int32.toUInt32 31)).toInt32) &&& 858993459)) + (((((x1 - (((x1.toUInt32 >>> ((1 : Int32).toUInt32 &&& Int32.toUInt32 31)).toInt32) &&& 1431655765)) &&& 858993459) + ((((x1 - (((x1.toUInt32 >>> ((1 : Int32).toUInt32 &&& Int32.toUInt32 31)).toInt32) &&& 1431655765)).toUInt32 >>> ((2 : Int32).toUInt32 &&& Int32.toUInt32 31)).toInt32) &&& 858993459)).toUInt32 >>> ((4 : Int32).toUInt32 &&& Int32.toUInt32 31)).toInt32)) &&& 252645135) + (((((((x1 - (((x1.toUInt32 >>> ((1 : Int32).toUInt32 &&& Int32.toUInt32 31)).toInt32) &&& 1431655765)) &&& 858993459) + ((((x1 - (((x1.toUInt32 >>> ((1 : Int32).toUInt32 &&& Int32.toUInt32 31)).toInt32) &&& 1431655765)).toUInt32 >>> ((2 : Int32).toUInt32 &&& Int32.toUInt32 31)).toInt32) &&& 858993459)) + (((((x1 - (((x1.toUInt32 >>> ((1 : Int32).toUInt32 &&& Int32.toUInt32 31)).toInt32) &&& 1431655765)) &&& 858993459) + ((((x1 - (((x1.toUInt32 >>> ((1 : Int32).toUInt32 &&& Int32.toUInt32 31)).toInt32) &&& 1431655765)).toUInt32 >>> ((2 : Int32).toUInt32 &&& Int32.toUInt32 31)).toInt32) &&& 858993459)).toUInt32 >>> ((4 : Int32).toUInt32 &&& Int32.toUInt32 31)).toInt32)) &&& 252645135).toUInt32 >>> ((8 : Int32).toUInt32 &&& Int32.toUInt32 31)).toInt32)) + ((((((((x1 - (((x1.toUInt32 >>> ((1 : Int32).toUInt32 &&& Int32.toUInt32 31)).toInt32) &&& 1431655765)) &&& 858993459) + ((((x1 - (((x1.toUInt32 >>> ((1 : Int32).toUInt32 &&& Int32.toUInt32 31)).toInt32) &&& 1431655765)).toUInt32 >>> ((2 : Int32).toUInt32 &&& Int32.toUInt32 31)).toInt32) &&& 858993459)) + (((((x1 - (((x1.toUInt32 >>> ((1 : Int32).toUInt32 &&& Int32.toUInt32 31)).toInt32) &&& 1431655765)) &&& 858993459) + ((((x1 - (((x1.toUInt32 >>> ((1 : Int32).toUInt32 &&& Int32.toUInt32 31)).toInt32) &&& 1431655765)).toUInt32 >>> ((2 : Int32).toUInt32 &&& Int32.toUInt32 31)).toInt32) &&& 858993459)).toUInt32 >>> ((4 : Int32).toUInt32 &&& Int32.toUInt32 31)).toInt32)) &&& 252645135) + (((((((x1 - (((x1.toUInt32 >>> ((1 : Int32).toUInt32 &&& Int32.toUInt32 31)).toInt32) &&& 1431655765)) &&& 858993459) + ((((x1 - (((x1.toUInt32 >>> ((1 : Int32).toUInt32 &&& Int32.toUInt32 31)).toInt32) &&& 1431655765)).toUInt32 >>> ((2 : Int32).toUInt32 &&& Int32.toUInt32 31)).toInt32) &&& 858993459)) + (((((x1 - (((x1.toUInt32 >>> ((1 : Int32).toUInt32 &&& Int32.toUInt32 31)).toInt32) &&& 1431655765)) &&& 858993459) + ((((x1 - (((x1.toUInt32 >>> ((1 : Int32).toUInt32 &&& Int32.toUInt32 31)).toInt32) &&& 1431655765)).toUInt32 >>> ((2 : Int32).toUInt32 &&& Int32.toUInt32 31)).toInt32) &&& 858993459)).toUInt32 >>> ((4 : Int32).toUInt32 &&& Int32.toUInt32 31)).toInt32)) &&& 252645135).toUInt32 >>> ((8 : Int32).toUInt32 &&& Int32.toUInt32 31)).toInt32)).toUInt32 >>> ((16 : Int32).toUInt32 &&& Int32.toUInt32 31)).toInt32)))]) d_Integer_bitCount_47 rfl (by decide) rfl ?_
  refine mv_iload_n d_Integer_bitCount_48 rfl rfl ?_
  refine mv_bipush (v := 63) d_Integer_bitCount_49 (by decide) ?_
  refine mv_iand d_Integer_bitCount_51 ?_
  exact mv_iret d_Integer_bitCount_52 rfl (by first | rfl | decide) ⟨_, I0, _, rfl⟩
theorem lS_TrustDesk_337 : mj_lS "TrustDesk" 337 kY_Integer_bitCount 1 := ⟨⟨(mj_in1 (List.mem_of_getElem? (i := 1089) (by decide +kernel)) rfl), (mj_in1 (List.mem_of_getElem? (i := 26) (by decide +kernel)) rfl), (mj_in1 (List.mem_of_getElem? (i := 1091) (by decide +kernel)) rfl), by decide, rfl, by decide⟩, (mj_in1 (List.mem_of_getElem? (i := 1090) (by decide +kernel)) rfl)⟩
theorem d_TrustDesk_canGather_4 : decode kY_TrustDesk_canGather.2.1 4 = .ok (.istore_n 2, 1) := by decide +kernel
theorem d_TrustDesk_canGather_5 : decode kY_TrustDesk_canGather.2.1 5 = .ok (.iload_n 2, 1) := by decide +kernel
theorem d_TrustDesk_canGather_6 : decode kY_TrustDesk_canGather.2.1 6 = .ok (.iconst 1, 1) := by decide +kernel
theorem d_TrustDesk_canGather_7 : decode kY_TrustDesk_canGather.2.1 7 = .ok (.if_icmp .lt 21, 3) := by decide +kernel
theorem d_TrustDesk_canGather_28 : decode kY_TrustDesk_canGather.2.1 28 = .ok (.iconst 0, 1) := by decide +kernel
theorem d_TrustDesk_canGather_29 : decode kY_TrustDesk_canGather.2.1 29 = .ok (.ireturn, 1) := by decide +kernel
theorem d_TrustDesk_canGather_10 : decode kY_TrustDesk_canGather.2.1 10 = .ok (.iload_n 2, 1) := by decide +kernel
theorem d_TrustDesk_canGather_11 : decode kY_TrustDesk_canGather.2.1 11 = .ok (.bipush 8, 2) := by decide +kernel
theorem d_TrustDesk_canGather_13 : decode kY_TrustDesk_canGather.2.1 13 = .ok (.if_icmp .gt 15, 3) := by decide +kernel
theorem d_TrustDesk_canGather_16 : decode kY_TrustDesk_canGather.2.1 16 = .ok (.iload_n 1, 1) := by decide +kernel
theorem d_TrustDesk_canGather_17 : decode kY_TrustDesk_canGather.2.1 17 = .ok (.aload_n 0, 1) := by decide +kernel
theorem d_TrustDesk_canGather_18 : decode kY_TrustDesk_canGather.2.1 18 = .ok (.getfield 53, 3) := by decide +kernel
theorem d_TrustDesk_canGather_21 : decode kY_TrustDesk_canGather.2.1 21 = .ok (.invokevirtual 97, 3) := by decide +kernel
theorem d_TrustDesk_canGather_24 : decode kY_TrustDesk_canGather.2.1 24 = .ok (.ishr, 1) := by decide +kernel
theorem d_TrustDesk_canGather_25 : decode kY_TrustDesk_canGather.2.1 25 = .ok (.ifCond .eq 5, 3) := by decide +kernel
theorem d_TrustDesk_canGather_30 : decode kY_TrustDesk_canGather.2.1 30 = .ok (.iconst 0, 1) := by decide +kernel
theorem d_TrustDesk_canGather_31 : decode kY_TrustDesk_canGather.2.1 31 = .ok (.istore_n 3, 1) := by decide +kernel
theorem d_TrustDesk_canGather_32 : decode kY_TrustDesk_canGather.2.1 32 = .ok (.iload_n 3, 1) := by decide +kernel
theorem d_TrustDesk_canGather_33 : decode kY_TrustDesk_canGather.2.1 33 = .ok (.aload_n 0, 1) := by decide +kernel
theorem d_TrustDesk_canGather_34 : decode kY_TrustDesk_canGather.2.1 34 = .ok (.getfield 53, 3) := by decide +kernel
theorem d_TrustDesk_canGather_37 : decode kY_TrustDesk_canGather.2.1 37 = .ok (.invokevirtual 97, 3) := by decide +kernel
theorem d_TrustDesk_canGather_40 : decode kY_TrustDesk_canGather.2.1 40 = .ok (.if_icmp .ge 36, 3) := by decide +kernel
theorem d_TrustDesk_canGather_76 : decode kY_TrustDesk_canGather.2.1 76 = .ok (.iconst 1, 1) := by decide +kernel
theorem d_TrustDesk_canGather_77 : decode kY_TrustDesk_canGather.2.1 77 = .ok (.ireturn, 1) := by decide +kernel
theorem d_TrustDesk_canGather_43 : decode kY_TrustDesk_canGather.2.1 43 = .ok (.iload_n 1, 1) := by decide +kernel
theorem d_TrustDesk_canGather_44 : decode kY_TrustDesk_canGather.2.1 44 = .ok (.iload_n 3, 1) := by decide +kernel
theorem d_TrustDesk_canGather_45 : decode kY_TrustDesk_canGather.2.1 45 = .ok (.ishr, 1) := by decide +kernel
theorem d_TrustDesk_canGather_46 : decode kY_TrustDesk_canGather.2.1 46 = .ok (.iconst 1, 1) := by decide +kernel
theorem d_TrustDesk_canGather_47 : decode kY_TrustDesk_canGather.2.1 47 = .ok (.iand, 1) := by decide +kernel
theorem d_TrustDesk_canGather_48 : decode kY_TrustDesk_canGather.2.1 48 = .ok (.ifCond .eq 22, 3) := by decide +kernel
theorem d_TrustDesk_canGather_70 : decode kY_TrustDesk_canGather.2.1 70 = .ok (.iinc 3 1, 3) := by decide +kernel
theorem d_TrustDesk_canGather_73 : decode kY_TrustDesk_canGather.2.1 73 = .ok (.goto (-41), 3) := by decide +kernel
theorem d_TrustDesk_canGather_51 : decode kY_TrustDesk_canGather.2.1 51 = .ok (.aload_n 0, 1) := by decide +kernel
theorem d_TrustDesk_canGather_52 : decode kY_TrustDesk_canGather.2.1 52 = .ok (.getfield 53, 3) := by decide +kernel
theorem d_TrustDesk_canGather_55 : decode kY_TrustDesk_canGather.2.1 55 = .ok (.iload_n 3, 1) := by decide +kernel
theorem d_TrustDesk_canGather_56 : decode kY_TrustDesk_canGather.2.1 56 = .ok (.invokevirtual 158, 3) := by decide +kernel
theorem d_TrustDesk_canGather_59 : decode kY_TrustDesk_canGather.2.1 59 = .ok (.checkcast 123, 3) := by decide +kernel
theorem d_TrustDesk_canGather_62 : decode kY_TrustDesk_canGather.2.1 62 = .ok (.invokevirtual 162, 3) := by decide +kernel
theorem d_TrustDesk_canGather_65 : decode kY_TrustDesk_canGather.2.1 65 = .ok (.ifCond .eq 5, 3) := by decide +kernel
theorem d_TrustDesk_canGather_68 : decode kY_TrustDesk_canGather.2.1 68 = .ok (.iconst 0, 1) := by decide +kernel
theorem d_TrustDesk_canGather_69 : decode kY_TrustDesk_canGather.2.1 69 = .ok (.ireturn, 1) := by decide +kernel
def w_TrustDesk_canGather : List Nat := []
theorem tc_TrustDesk_canGather {g : mj_G} {l : Launch} {d : Nat} {T0 : tm_H} {M0 : mj_M} {n0 x9 : Nat} {o0 : Nat} {x1 : Int32} (h_o0 : T0 o0 = some (0, 12, 0)) (I0 : tm_I tm_FT (tm_in w_TrustDesk_canGather) x9 T0 M0 n0 T0 M0 n0) : mj_Met g l kY_TrustDesk_canGather (d + 3) [.ref o0, .int x1] M0 n0 0 0 (tm_Q tm_FT (tm_in w_TrustDesk_canGather) x9 T0 M0 n0 (fun r _ _ => ∃ v : Int32, r = some (.int v) ∧ 0 ≤ v.toInt ∧ v.toInt ≤ 1)) := by
  refine mj_enter (by decide) (Nat.le_of_ble_eq_true rfl) ?_
  refine mv_iload_n d_TrustDesk_canGather_0 rfl rfl ?_
  refine mv_callS (kc' := 0) (ks' := 0) (As := [.int x1]) (st9 := [.int x1]) d_TrustDesk_canGather_1 lS_TrustDesk_337 (tc_Integer_bitCount (d := (d + 2)) (x9 := x9) (x1 := x1)  I0.start) rfl (Nat.le_of_ble_eq_true rfl) (Nat.le_of_ble_eq_true rfl) (Nat.le_of_ble_eq_true rfl) (hst := rfl) (fun b1r M2 n3 b1 => ?_)
  obtain ⟨T4, J5, v7, rfl⟩ := b1
  have I6 := I0.call J5 (tm_sub (by decide)) (Or.inl rfl)
  have t8 := J5.up h_o0
  refine mv_istore_n (lv' := [(2, .int v7), (0, .ref o0), (1, .int x1)]) d_TrustDesk_canGather_4 rfl (by decide) rfl ?_
  refine mv_iload_n d_TrustDesk_canGather_5 rfl rfl ?_
  refine mv_iconst (v := 1) d_TrustDesk_canGather_6 (by decide) ?_
  have := mz_hi v7
  refine mv_icmp_ltZ (tgt := 28) (a := v7.toInt) (b := 1) d_TrustDesk_canGather_7 (by decide) rfl (by decide) (fun b9 => ?_) (fun b9 => ?_)
  · refine mv_iconst (v := 0) d_TrustDesk_canGather_28 (by decide) ?_
    exact mv_iret d_TrustDesk_canGather_29 rfl (by decide) ⟨_, I6, _, rfl, by decide, by decide⟩
  · refine mv_iload_n d_TrustDesk_canGather_10 rfl rfl ?_
    refine mv_bipush (v := 8) d_TrustDesk_canGather_11 (by decide) ?_
    have := mz_hi v7
    refine mv_icmp_gtZ (tgt := 28) (a := v7.toInt) (b := 8) d_TrustDesk_canGather_13 (by decide) rfl (by decide) (fun b10 => ?_) (fun b10 => ?_)
    · refine mv_iconst (v := 0) d_TrustDesk_canGather_28 (by decide) ?_
      exact mv_iret d_TrustDesk_canGather_29 rfl (by decide) ⟨_, I6, _, rfl, by decide, by decide⟩
    · refine mv_iload_n d_TrustDesk_canGather_16 rfl rfl ?_
      refine mv_aload_n d_TrustDesk_canGather_17 rfl rfl ?_
      obtain ⟨a12, q11, t_a12⟩ := tm_atO I6 t8 (k := 6) rfl
      refine tr_getK q11 d_TrustDesk_canGather_18 f_TrustDesk_53_12 ?_
      obtain ⟨m14, n18, e15, N16, f17, h13⟩ := I6.1 _ _ t_a12
      have := h13.2.1
      have : n18.toInt ≤ 12 := h13.2.2.1
      have q19 : tm_at M2 a12 0 2 (.int n18) := ⟨_, h13.1, rfl⟩
      refine mv_callV_s (kc' := 0) (ks' := 0) [] [.ref a12, .int x1] d_TrustDesk_canGather_21 lV_TrustDesk_97 h13.1 rfl (tc_L_size (d := (d + 2)) h13.1) rfl (Nat.le_of_ble_eq_true rfl) (Nat.le_of_ble_eq_true rfl) (Nat.le_of_ble_eq_true rfl) rfl ?_
      refine mv_ishr d_TrustDesk_canGather_24 ?_
      have := mz_hi (x1 >>> (n18 &&& 31))
      refine mv_if_eqZ (tgt := 30) (a := (x1 >>> (n18 &&& 31)).toInt) d_TrustDesk_canGather_25 (by decide) rfl (fun b20 => ?_) (fun b20 => ?_)
      · refine mv_iconst (v := 0) d_TrustDesk_canGather_30 (by decide) ?_
        refine mv_istore_n (lv' := [(3, .int 0), (2, .int v7), (0, .ref o0), (1, .int x1)]) d_TrustDesk_canGather_31 rfl (by decide) rfl ?_
        have L32_21 : ∀ (k : Nat) (i3_21 : Int32) (T_21 : tm_H) (M_21 : mj_M) (n_21 : Nat), tm_I tm_FT (tm_in w_TrustDesk_canGather) x9 T0 M0 n0 T_21 M_21 n_21 → T_21 o0 = some (0, 12, 0) → 0 ≤ i3_21.toInt → 2147483647 - i3_21.toInt < (k : Int) → mj_V g l kY_TrustDesk_canGather (d + 3) 32 [(3, .int i3_21), (2, .int v7), (0, .ref o0), (1, .int x1)] [] M_21 n_21 0 0 (tm_Q tm_FT (tm_in w_TrustDesk_canGather) x9 T0 M0 n0 (fun r _ _ => ∃ v : Int32, r = some (.int v) ∧ 0 ≤ v.toInt ∧ v.toInt ≤ 1)) := by
          intro k21
          induction k21 with
          | zero =>
            intro i3_21 T_21 M_21 n_21 I_21 h_q0_21 iv0_21 hk21
            have := mz_hi i3_21
            omega
          | succ k21 ih21 =>
            intro i3_21 T_21 M_21 n_21 I_21 h_q0_21 iv0_21 hk21
            refine mv_iload_n d_TrustDesk_canGather_32 rfl rfl ?_
            refine mv_aload_n d_TrustDesk_canGather_33 rfl rfl ?_
            obtain ⟨a23, q22, t_a23⟩ := tm_atO I_21 h_q0_21 (k := 6) rfl
            refine tr_getK q22 d_TrustDesk_canGather_34 f_TrustDesk_53_12 ?_
            obtain ⟨m25, n29, e26, N27, f28, h24⟩ := I_21.1 _ _ t_a23
            have := h24.2.1
            have : n29.toInt ≤ 12 := h24.2.2.1
            have q30 : tm_at M_21 a23 0 2 (.int n29) := ⟨_, h24.1, rfl⟩
            refine mv_callV_s (kc' := 0) (ks' := 0) [] [.ref a23, .int i3_21] d_TrustDesk_canGather_37 lV_TrustDesk_97 h24.1 rfl (tc_L_size (d := (d + 2)) h24.1) rfl (Nat.le_of_ble_eq_true rfl) (Nat.le_of_ble_eq_true rfl) (Nat.le_of_ble_eq_true rfl) rfl ?_
            have := mz_hi i3_21
            have := mz_hi n29
            refine mv_icmp_geZ (tgt := 76) (a := i3_21.toInt) (b := n29.toInt) d_TrustDesk_canGather_40 (by decide) rfl rfl (fun b31 => ?_) (fun b31 => ?_)
            · refine mv_iconst (v := 1) d_TrustDesk_canGather_76 (by decide) ?_
              exact mv_iret d_TrustDesk_canGather_77 rfl (by decide) ⟨_, I_21, _, rfl, by decide, by decide⟩
            · refine mv_iload_n d_TrustDesk_canGather_43 rfl rfl ?_
              refine mv_iload_n d_TrustDesk_canGather_44 rfl rfl ?_
              refine mv_ishr d_TrustDesk_canGather_45 ?_
              refine mv_iconst (v := 1) d_TrustDesk_canGather_46 (by decide) ?_
              refine mv_iand d_TrustDesk_canGather_47 ?_
              have := mz_hi ((x1 >>> (i3_21 &&& 31)) &&& 1)
              refine mv_if_eqZ (tgt := 70) (a := ((x1 >>> (i3_21 &&& 31)) &&& 1).toInt) d_TrustDesk_canGather_48 (by decide) rfl (fun b32 => ?_) (fun b32 => ?_)
              · refine mv_iinc (v := (i3_21 + 1)) (lv' := [(3, .int (i3_21 + 1)), (2, .int v7), (0, .ref o0), (1, .int x1)]) d_TrustDesk_canGather_70 rfl rfl (by decide) rfl ?_
                refine mv_goto (tgt := 32) d_TrustDesk_canGather_73 (by decide) ?_
                have b33 : (i3_21 + 1).toInt = i3_21.toInt + 1 := mz_addn 1 1 (by decide) (by have := mz_lo i3_21; omega) (by have := mz_hi i3_21; omega)
                exact (ih21 (i3_21 + 1) T_21 M_21 n_21 I_21 h_q0_21 (by first | omega | decide) (by omega))
              · refine mv_aload_n d_TrustDesk_canGather_51 rfl rfl ?_
                refine tr_getK (k := 6) q22 d_TrustDesk_canGather_52 f_TrustDesk_53_12 ?_
                refine mv_iload_n d_TrustDesk_canGather_55 rfl rfl ?_
                obtain ⟨m35, e36, N37, f38, h34⟩ := tm_lsn I_21 t_a23 q30
                obtain ⟨u39e, u39i, a40, u39f, u39t⟩ := tm_el (i := i3_21) h34 (by omega) (by omega)
                have t_a40 : T_21 a40 = some (0, 6, 0) := u39t
                refine mv_callV_s (kc' := 0) (ks' := 0) [.int i3_21] [.int i3_21, .ref a23] d_TrustDesk_canGather_56 lV_TrustDesk_158 h34.1 rfl (tc_L_get (d := d) h34.1 u39e (by omega) (by omega) u39i u39f) rfl (Nat.le_of_ble_eq_true rfl) (Nat.le_of_ble_eq_true rfl) (Nat.le_of_ble_eq_true rfl) rfl ?_
                obtain ⟨_, b41, -⟩ := I_21.1 _ _ t_a40
                refine mv_castS (T9 := kF_Fund) (N := 15) d_TrustDesk_canGather_59 (mj_in1 (List.mem_of_getElem? (i := 655) (by decide +kernel)) rfl) b41 rfl ?_
                obtain ⟨_, b48, -⟩ := I_21.1 _ _ t_a40
                refine mv_callV (kc' := 0) (ks' := 0) (As := []) (st9 := [.ref a40]) d_TrustDesk_canGather_62 lV_TrustDesk_162 b48 rfl (tc_Fund_isJoined (d := (d + 2)) (x9 := x9) (o0 := a40) t_a40 I_21.start) rfl (Nat.le_of_ble_eq_true rfl) (Nat.le_of_ble_eq_true rfl) (Nat.le_of_ble_eq_true rfl) (hst := rfl) (fun b42r M43 n44 b42 => ?_)
                obtain ⟨T45, J46, v49, rfl, b50, b51⟩ := b42
                have I47 := I_21.call J46 (tm_sub (by decide)) (Or.inl rfl)
                have t52 := J46.up h_q0_21
                have q53 := J46.keep h_q0_21 (by decide) q22
                have t54 := J46.up t_a23
                have q55 := J46.keepL t_a23 (by decide) q30
                have := mz_hi v49
                refine mv_if_eqZ (tgt := 70) (a := v49.toInt) d_TrustDesk_canGather_65 (by decide) rfl (fun b56 => ?_) (fun b56 => ?_)
                · refine mv_iinc (v := (i3_21 + 1)) (lv' := [(3, .int (i3_21 + 1)), (2, .int v7), (0, .ref o0), (1, .int x1)]) d_TrustDesk_canGather_70 rfl rfl (by decide) rfl ?_
                  refine mv_goto (tgt := 32) d_TrustDesk_canGather_73 (by decide) ?_
                  have b57 : (i3_21 + 1).toInt = i3_21.toInt + 1 := mz_addn 1 1 (by decide) (by have := mz_lo i3_21; omega) (by have := mz_hi i3_21; omega)
                  exact (ih21 (i3_21 + 1) T45 M43 n44 I47 t52 (by first | omega | decide) (by omega))
                · refine mv_iconst (v := 0) d_TrustDesk_canGather_68 (by decide) ?_
                  exact mv_iret d_TrustDesk_canGather_69 rfl (by decide) ⟨_, I47, _, rfl, by decide, by decide⟩
        exact mv_less (Nat.zero_le _) (Nat.zero_le _) (L32_21 4294967296 0 T4 M2 n3 I6 t8 (by first | omega | decide) (by show (2147483647 - (0 : Int) : Int) < _; decide))
      · refine mv_iconst (v := 0) d_TrustDesk_canGather_28 (by decide) ?_
        exact mv_iret d_TrustDesk_canGather_29 rfl (by decide) ⟨_, I6, _, rfl, by decide, by decide⟩
abbrev kY_TrustDesk_closeEnd : mj_Y := (⟨"TrustDesk", "closeEnd", "(LTrustDesk$Fund;ILTrustDesk$End;II)V"⟩, prog_1_method_14_code, 10, (Option.none : Option Jvm.ClassFile.FieldType))
theorem d_TrustDesk_closeEnd_0 : decode kY_TrustDesk_closeEnd.2.1 0 = .ok (.aload_n 0, 1) := by decide +kernel
theorem d_TrustDesk_closeEnd_1 : decode kY_TrustDesk_closeEnd.2.1 1 = .ok (.getfield 26, 3) := by decide +kernel
theorem f_TrustDesk_26_12 : mj_fl "TrustDesk" 26 12 2 := ⟨kR_TrustDesk, kF_TrustDesk, 13, "TrustDesk", rfl, kg_12, by decide, (mj_in1 (List.mem_of_getElem? (i := 269) (by decide +kernel)) rfl), Or.inl rfl⟩
theorem d_TrustDesk_closeEnd_4 : decode kY_TrustDesk_closeEnd.2.1 4 = .ok (.aload_n 1, 1) := by decide +kernel
theorem d_TrustDesk_closeEnd_5 : decode kY_TrustDesk_closeEnd.2.1 5 = .ok (.invokevirtual 200, 3) := by decide +kernel
abbrev kY_Reckoner_knowFund : mj_Y := (⟨"TrustDesk$Reckoner", "knowFund", "(LTrustDesk$Fund;)V"⟩, prog_11_method_3_code, 2, (Option.none : Option Jvm.ClassFile.FieldType))
theorem d_Reckoner_knowFund_0 : decode kY_Reckoner_knowFund.2.1 0 = .ok (.aload_n 1, 1) := by decide +kernel
theorem d_Reckoner_knowFund_1 : decode kY_Reckoner_knowFund.2.1 1 = .ok (.ifnonnull 4, 3) := by decide +kernel
theorem d_Reckoner_knowFund_5 : decode kY_Reckoner_knowFund.2.1 5 = .ok (.aload_n 0, 1) := by decide +kernel
theorem d_Reckoner_knowFund_6 : decode kY_Reckoner_knowFund.2.1 6 = .ok (.getfield 9, 3) := by decide +kernel
theorem f_Reckoner_9_10 : mj_fl "TrustDesk$Reckoner" 9 10 0 := ⟨kR_Reckoner, kF_Reckoner, 5, "TrustDesk$Reckoner", rfl, kg_10, by decide, (mj_in1 (List.mem_of_getElem? (i := 136) (by decide +kernel)) rfl), Or.inl rfl⟩
theorem d_Reckoner_knowFund_9 : decode kY_Reckoner_knowFund.2.1 9 = .ok (.bipush 8, 2) := by decide +kernel
theorem d_Reckoner_knowFund_11 : decode kY_Reckoner_knowFund.2.1 11 = .ok (.aload_n 1, 1) := by decide +kernel
theorem d_Reckoner_knowFund_12 : decode kY_Reckoner_knowFund.2.1 12 = .ok (.aload_n 0, 1) := by decide +kernel
theorem d_Reckoner_knowFund_13 : decode kY_Reckoner_knowFund.2.1 13 = .ok (.getfield 9, 3) := by decide +kernel
theorem d_Reckoner_knowFund_16 : decode kY_Reckoner_knowFund.2.1 16 = .ok (.bipush 6, 2) := by decide +kernel
theorem d_Reckoner_knowFund_18 : decode kY_Reckoner_knowFund.2.1 18 = .ok (.laload, 1) := by decide +kernel
theorem d_Reckoner_knowFund_19 : decode kY_Reckoner_knowFund.2.1 19 = .ok (.invokevirtual 28, 3) := by decide +kernel
abbrev kY_Fund_incomeAt : mj_Y := (⟨"TrustDesk$Fund", "incomeAt", "(J)J"⟩, prog_7_method_3_code, 3, (Option.some Jvm.ClassFile.FieldType.long))
theorem d_Fund_incomeAt_0 : decode kY_Fund_incomeAt.2.1 0 = .ok (.aload_n 0, 1) := by decide +kernel
theorem d_Fund_incomeAt_1 : decode kY_Fund_incomeAt.2.1 1 = .ok (.getfield 42, 3) := by decide +kernel
theorem f_Fund_42_6 : mj_fl "TrustDesk$Fund" 42 6 1 := ⟨kR_Fund, kF_Fund, 15, "TrustDesk$Fund", rfl, kg_6, by decide, (mj_in1 (List.mem_of_getElem? (i := 666) (by decide +kernel)) rfl), Or.inl rfl⟩
theorem d_Fund_incomeAt_4 : decode kY_Fund_incomeAt.2.1 4 = .ok (.i2l, 1) := by decide +kernel
theorem d_Fund_incomeAt_5 : decode kY_Fund_incomeAt.2.1 5 = .ok (.lload_n 1, 1) := by decide +kernel
theorem d_Fund_incomeAt_6 : decode kY_Fund_incomeAt.2.1 6 = .ok (.lmul, 1) := by decide +kernel
theorem d_Fund_incomeAt_7 : decode kY_Fund_incomeAt.2.1 7 = .ok (.aload_n 0, 1) := by decide +kernel
theorem d_Fund_incomeAt_8 : decode kY_Fund_incomeAt.2.1 8 = .ok (.getfield 45, 3) := by decide +kernel
theorem f_Fund_45_6 : mj_fl "TrustDesk$Fund" 45 6 2 := ⟨kR_Fund, kF_Fund, 15, "TrustDesk$Fund", rfl, kg_6, by decide, (mj_in1 (List.mem_of_getElem? (i := 668) (by decide +kernel)) rfl), Or.inl rfl⟩
theorem d_Fund_incomeAt_11 : decode kY_Fund_incomeAt.2.1 11 = .ok (.i2l, 1) := by decide +kernel
theorem d_Fund_incomeAt_12 : decode kY_Fund_incomeAt.2.1 12 = .ok (.ladd, 1) := by decide +kernel
theorem d_Fund_incomeAt_13 : decode kY_Fund_incomeAt.2.1 13 = .ok (.lreturn, 1) := by decide +kernel
def w_Fund_incomeAt : List Nat := []
theorem tc_Fund_incomeAt {g : mj_G} {l : Launch} {d : Nat} {T0 : tm_H} {M0 : mj_M} {n0 x9 : Nat} {o0 : Nat} {x1 : Int64} (h_o0 : T0 o0 = some (0, 6, 0)) (I0 : tm_I tm_FT (tm_in w_Fund_incomeAt) x9 T0 M0 n0 T0 M0 n0) : mj_Met g l kY_Fund_incomeAt d [.ref o0, .long x1] M0 n0 0 0 (tm_Q tm_FT (tm_in w_Fund_incomeAt) x9 T0 M0 n0 (fun r _ _ => ∃ v : Int64, r = some (.long v))) := by
  refine mj_enter (by decide) (Nat.le_of_ble_eq_true rfl) ?_
  refine mv_aload_n d_Fund_incomeAt_0 rfl rfl ?_
  obtain ⟨v2, q1⟩ := tm_atI I0 h_o0 (k := 1) rfl
  refine tr_getK q1 d_Fund_incomeAt_1 f_Fund_42_6 ?_
  refine mv_i2l (v := v2.toInt64) d_Fund_incomeAt_4 rfl ?_
  refine mv_lload_n d_Fund_incomeAt_5 rfl rfl ?_
  refine mv_lmul d_Fund_incomeAt_6 ?_
  refine mv_aload_n d_Fund_incomeAt_7 rfl rfl ?_
  obtain ⟨v4, q3⟩ := tm_atI I0 h_o0 (k := 2) rfl
  refine tr_getK q3 d_Fund_incomeAt_8 f_Fund_45_6 ?_
  refine mv_i2l (v := v4.toInt64) d_Fund_incomeAt_11 rfl ?_
  refine mv_ladd d_Fund_incomeAt_12 ?_
  exact mv_lret d_Fund_incomeAt_13 rfl ⟨_, I0, _, rfl⟩
theorem lV_Reckoner_28 : mj_lV "TrustDesk$Reckoner" 28 kY_Fund_incomeAt 1 := ⟨⟨(mj_in1 (List.mem_of_getElem? (i := 886) (by decide +kernel)) rfl), (mj_in1 (List.mem_of_getElem? (i := 21) (by decide +kernel)) rfl), (mj_in1 (List.mem_of_getElem? (i := 876) (by decide +kernel)) rfl), by decide, rfl, by decide⟩, (mj_in1 (List.mem_of_getElem? (i := 874) (by decide +kernel)) rfl), (mj_in1 (List.mem_of_getElem? (i := 875) (by decide +kernel)) rfl)⟩
theorem d_Reckoner_knowFund_22 : decode kY_Reckoner_knowFund.2.1 22 = .ok (.ldc2_w 34, 3) := by decide +kernel
theorem k_Reckoner_34 : Cond.constantLong "TrustDesk$Reckoner" 34 1000000000 ∈ mj_T := (mj_in1 (List.mem_of_getElem? (i := 887) (by decide +kernel)) rfl)
theorem d_Reckoner_knowFund_25 : decode kY_Reckoner_knowFund.2.1 25 = .ok (.invokestatic 36, 3) := by decide +kernel
theorem d_Reckoner_knowFund_28 : decode kY_Reckoner_knowFund.2.1 28 = .ok (.lastore, 1) := by decide +kernel
theorem d_Reckoner_knowFund_29 : decode kY_Reckoner_knowFund.2.1 29 = .ok (.aload_n 0, 1) := by decide +kernel
theorem d_Reckoner_knowFund_30 : decode kY_Reckoner_knowFund.2.1 30 = .ok (.getfield 9, 3) := by decide +kernel
theorem d_Reckoner_knowFund_33 : decode kY_Reckoner_knowFund.2.1 33 = .ok (.bipush 9, 2) := by decide +kernel
theorem d_Reckoner_knowFund_35 : decode kY_Reckoner_knowFund.2.1 35 = .ok (.aload_n 1, 1) := by decide +kernel
theorem d_Reckoner_knowFund_36 : decode kY_Reckoner_knowFund.2.1 36 = .ok (.getfield 42, 3) := by decide +kernel
theorem f_Reckoner_42_6 : mj_fl "TrustDesk$Reckoner" 42 6 3 := ⟨kR_Fund, kF_Fund, 15, "TrustDesk$Fund", rfl, kg_6, by decide, (mj_in1 (List.mem_of_getElem? (i := 670) (by decide +kernel)) rfl), Or.inl rfl⟩
theorem d_Reckoner_knowFund_39 : decode kY_Reckoner_knowFund.2.1 39 = .ok (.ldc2_w 34, 3) := by decide +kernel
theorem d_Reckoner_knowFund_42 : decode kY_Reckoner_knowFund.2.1 42 = .ok (.invokestatic 36, 3) := by decide +kernel
theorem d_Reckoner_knowFund_45 : decode kY_Reckoner_knowFund.2.1 45 = .ok (.lastore, 1) := by decide +kernel
theorem d_Reckoner_knowFund_46 : decode kY_Reckoner_knowFund.2.1 46 = .ok (.return_, 1) := by decide +kernel
def w_Reckoner_knowFund : List Nat := [1050]
theorem tc_Reckoner_knowFund {g : mj_G} {l : Launch} {d : Nat} {T0 : tm_H} {M0 : mj_M} {n0 x9 : Nat} {o0 : Nat} {o1 : Nat} (h_o0 : T0 o0 = some (0, 10, 0)) (h_o1 : T0 o1 = some (0, 6, 0)) (I0 : tm_I tm_FT (tm_in w_Reckoner_knowFund) x9 T0 M0 n0 T0 M0 n0) : mj_Met g l kY_Reckoner_knowFund (d + 1) [.ref o0, .ref o1] M0 n0 0 0 (tm_Q tm_FT (tm_in w_Reckoner_knowFund) x9 T0 M0 n0 (fun r _ _ => r = none)) := by
  refine mj_enter (by decide) (Nat.le_of_ble_eq_true rfl) ?_
  refine mv_aload_n d_Reckoner_knowFund_0 rfl rfl ?_
  refine mv_ifnonnull (tgt := 5) d_Reckoner_knowFund_1 (by decide) ?_
  refine mv_aload_n d_Reckoner_knowFund_5 rfl rfl ?_
  obtain ⟨a2, q1, t_a2⟩ := tm_atR I0 h_o0 (k := 0) rfl
  refine tr_getK q1 d_Reckoner_knowFund_6 f_Reckoner_9_10 ?_
  refine mv_bipush (v := 8) d_Reckoner_knowFund_9 (by decide) ?_
  refine mv_aload_n d_Reckoner_knowFund_11 rfl rfl ?_
  refine mv_aload_n d_Reckoner_knowFund_12 rfl rfl ?_
  refine tr_getK (k := 0) q1 d_Reckoner_knowFund_13 f_Reckoner_9_10 ?_
  refine mv_bipush (v := 6) d_Reckoner_knowFund_16 (by decide) ?_
  refine tr_lald I0 t_a2 (by decide) d_Reckoner_knowFund_18 (by unfold vp_in; decide) (fun v3 => ?_)
  obtain ⟨_, b10, -⟩ := I0.1 _ _ h_o1
  refine mv_callV (kc' := 0) (ks' := 0) (As := [.long v3]) (st9 := [.long v3, .ref o1, .int 8, .ref a2]) d_Reckoner_knowFund_19 lV_Reckoner_28 b10 rfl (tc_Fund_incomeAt (d := d) (x9 := x9) (o0 := o1) (x1 := v3) h_o1 I0.start) rfl (Nat.le_of_ble_eq_true rfl) (Nat.le_of_ble_eq_true rfl) (Nat.le_of_ble_eq_true rfl) (hst := rfl) (fun b4r M5 n6 b4 => ?_)
  obtain ⟨T7, J8, v11, rfl⟩ := b4
  have I9 := I0.call J8 (tm_sub (by decide)) (Or.inl rfl)
  have t12 := J8.up h_o0
  have t13 := J8.up h_o1
  have t14 := J8.up t_a2
  have q15 := J8.keep h_o0 (by decide) q1
  refine mv_ldc2 d_Reckoner_knowFund_22 k_Reckoner_34 ?_
  refine mv_mmin_long (v := (if 1000000000 < v11 then 1000000000 else v11)) d_Reckoner_knowFund_25 (mj_in1 (List.mem_of_getElem? (i := 888) (by decide +kernel)) rfl) (Nat.le_of_ble_eq_true rfl) rfl ?_
  refine tr_lastK tm_okF I9 t14 (by decide) (Or.inl (by decide)) d_Reckoner_knowFund_28 (by unfold vp_in; decide) (fun M16 I17 K18 => ?_)
  refine mv_aload_n d_Reckoner_knowFund_29 rfl rfl ?_
  refine tr_getK (k := 0) (K18 _ 10 0 _ q15) d_Reckoner_knowFund_30 f_Reckoner_9_10 ?_
  refine mv_bipush (v := 9) d_Reckoner_knowFund_33 (by decide) ?_
  refine mv_aload_n d_Reckoner_knowFund_35 rfl rfl ?_
  obtain ⟨v20, q19⟩ := tm_atL I17 t13 (k := 3) rfl
  refine tr_getK q19 d_Reckoner_knowFund_36 f_Reckoner_42_6 ?_
  refine mv_ldc2 d_Reckoner_knowFund_39 k_Reckoner_34 ?_
  refine mv_mmin_long (v := (if 1000000000 < v20 then 1000000000 else v20)) d_Reckoner_knowFund_42 (mj_in1 (List.mem_of_getElem? (i := 888) (by decide +kernel)) rfl) (Nat.le_of_ble_eq_true rfl) rfl ?_
  refine tr_lastK tm_okF I17 t14 (by decide) (Or.inl (by decide)) d_Reckoner_knowFund_45 (by unfold vp_in; decide) (fun M21 I22 K23 => ?_)
  exact mv_vret d_Reckoner_knowFund_46 rfl ⟨_, I22, rfl⟩
theorem lV_TrustDesk_200 : mj_lV "TrustDesk" 200 kY_Reckoner_knowFund 1 := ⟨⟨(mj_in1 (List.mem_of_getElem? (i := 882) (by decide +kernel)) rfl), (mj_in1 (List.mem_of_getElem? (i := 4) (by decide +kernel)) rfl), (mj_in1 (List.mem_of_getElem? (i := 885) (by decide +kernel)) rfl), by decide, rfl, by decide⟩, (mj_in1 (List.mem_of_getElem? (i := 883) (by decide +kernel)) rfl), (mj_in1 (List.mem_of_getElem? (i := 884) (by decide +kernel)) rfl)⟩
theorem d_TrustDesk_closeEnd_8 : decode kY_TrustDesk_closeEnd.2.1 8 = .ok (.aload_n 0, 1) := by decide +kernel
theorem d_TrustDesk_closeEnd_9 : decode kY_TrustDesk_closeEnd.2.1 9 = .ok (.getfield 26, 3) := by decide +kernel
theorem d_TrustDesk_closeEnd_12 : decode kY_TrustDesk_closeEnd.2.1 12 = .ok (.aload_n 3, 1) := by decide +kernel
theorem d_TrustDesk_closeEnd_13 : decode kY_TrustDesk_closeEnd.2.1 13 = .ok (.getfield 204, 3) := by decide +kernel
theorem f_TrustDesk_204_3 : mj_fl "TrustDesk" 204 3 0 := ⟨kR_End, kF_End, 4, "TrustDesk$End", rfl, kg_3, by decide, (mj_in1 (List.mem_of_getElem? (i := 787) (by decide +kernel)) rfl), Or.inl rfl⟩
theorem d_TrustDesk_closeEnd_16 : decode kY_TrustDesk_closeEnd.2.1 16 = .ok (.getfield 208, 3) := by decide +kernel
theorem kg_4 : ∀ w ∈ u_ws kR_EndText kF_EndText 5, w ∈ mj_T := fun w h => mj_in1 (ki_EndText w h) (List.all_eq_true.mp (show (u_ws kR_EndText kF_EndText 5).all mj_good = true by decide +kernel) w h)
theorem f_TrustDesk_208_4 : mj_fl "TrustDesk" 208 4 3 := ⟨kR_EndText, kF_EndText, 5, "TrustDesk$EndText", rfl, kg_4, by decide, (mj_in1 (List.mem_of_getElem? (i := 765) (by decide +kernel)) rfl), Or.inl rfl⟩
theorem d_TrustDesk_closeEnd_19 : decode kY_TrustDesk_closeEnd.2.1 19 = .ok (.invokevirtual 214, 3) := by decide +kernel
abbrev kY_Reckoner_run : mj_Y := (⟨"TrustDesk$Reckoner", "run", "(LTrustDesk$Code;)J"⟩, prog_11_method_4_code, 7, (Option.some Jvm.ClassFile.FieldType.long))
theorem d_Reckoner_run_0 : decode kY_Reckoner_run.2.1 0 = .ok (.aload_n 0, 1) := by decide +kernel
theorem d_Reckoner_run_1 : decode kY_Reckoner_run.2.1 1 = .ok (.iconst 0, 1) := by decide +kernel
theorem d_Reckoner_run_2 : decode kY_Reckoner_run.2.1 2 = .ok (.putfield 46, 3) := by decide +kernel
theorem p_Reckoner_46_10 : mj_fp "TrustDesk$Reckoner" 46 10 3 (kt_Reckoner 3) false := ⟨kR_Reckoner, kF_Reckoner, 5, "TrustDesk$Reckoner", kt_Reckoner, rfl, kg_10, by decide, (mj_in1 (List.mem_of_getElem? (i := 141) (by decide +kernel)) rfl), Or.inl rfl, kto_Reckoner, kn_Reckoner, rfl, rfl, fun h => by cases h⟩
theorem d_Reckoner_run_5 : decode kY_Reckoner_run.2.1 5 = .ok (.aload_n 0, 1) := by decide +kernel
theorem d_Reckoner_run_6 : decode kY_Reckoner_run.2.1 6 = .ok (.iconst 0, 1) := by decide +kernel
theorem d_Reckoner_run_7 : decode kY_Reckoner_run.2.1 7 = .ok (.putfield 49, 3) := by decide +kernel
theorem p_Reckoner_49_10 : mj_fp "TrustDesk$Reckoner" 49 10 4 (kt_Reckoner 4) false := ⟨kR_Reckoner, kF_Reckoner, 5, "TrustDesk$Reckoner", kt_Reckoner, rfl, kg_10, by decide, (mj_in1 (List.mem_of_getElem? (i := 142) (by decide +kernel)) rfl), Or.inl rfl, kto_Reckoner, kn_Reckoner, rfl, rfl, fun h => by cases h⟩
theorem d_Reckoner_run_10 : decode kY_Reckoner_run.2.1 10 = .ok (.aload_n 0, 1) := by decide +kernel
theorem d_Reckoner_run_11 : decode kY_Reckoner_run.2.1 11 = .ok (.iconst (-1), 1) := by decide +kernel
theorem d_Reckoner_run_12 : decode kY_Reckoner_run.2.1 12 = .ok (.putfield 15, 3) := by decide +kernel
theorem d_Reckoner_run_15 : decode kY_Reckoner_run.2.1 15 = .ok (.iconst 0, 1) := by decide +kernel
theorem d_Reckoner_run_16 : decode kY_Reckoner_run.2.1 16 = .ok (.istore_n 2, 1) := by decide +kernel
theorem d_Reckoner_run_17 : decode kY_Reckoner_run.2.1 17 = .ok (.iload_n 2, 1) := by decide +kernel
theorem d_Reckoner_run_18 : decode kY_Reckoner_run.2.1 18 = .ok (.aload_n 1, 1) := by decide +kernel
theorem d_Reckoner_run_19 : decode kY_Reckoner_run.2.1 19 = .ok (.getfield 52, 3) := by decide +kernel
theorem f_Reckoner_52_2 : mj_fl "TrustDesk$Reckoner" 52 2 0 := ⟨kR_Code, kF_Code, 1, "TrustDesk$Code", rfl, kg_2, by decide, (mj_in1 (List.mem_of_getElem? (i := 549) (by decide +kernel)) rfl), Or.inl rfl⟩
theorem d_Reckoner_run_22 : decode kY_Reckoner_run.2.1 22 = .ok (.arraylength, 1) := by decide +kernel
theorem d_Reckoner_run_23 : decode kY_Reckoner_run.2.1 23 = .ok (.if_icmp .ge 119, 3) := by decide +kernel
theorem d_Reckoner_run_142 : decode kY_Reckoner_run.2.1 142 = .ok (.aload_n 0, 1) := by decide +kernel
theorem d_Reckoner_run_143 : decode kY_Reckoner_run.2.1 143 = .ok (.invokevirtual 62, 3) := by decide +kernel
abbrev kY_Reckoner_pop : mj_Y := (⟨"TrustDesk$Reckoner", "pop", "()J"⟩, prog_11_method_9_code, 1, (Option.some Jvm.ClassFile.FieldType.long))
theorem d_Reckoner_pop_0 : decode kY_Reckoner_pop.2.1 0 = .ok (.aload_n 0, 1) := by decide +kernel
theorem d_Reckoner_pop_1 : decode kY_Reckoner_pop.2.1 1 = .ok (.getfield 46, 3) := by decide +kernel
theorem f_Reckoner_46_10 : mj_fl "TrustDesk$Reckoner" 46 10 3 := ⟨kR_Reckoner, kF_Reckoner, 5, "TrustDesk$Reckoner", rfl, kg_10, by decide, (mj_in1 (List.mem_of_getElem? (i := 141) (by decide +kernel)) rfl), Or.inl rfl⟩
theorem d_Reckoner_pop_4 : decode kY_Reckoner_pop.2.1 4 = .ok (.iconst 1, 1) := by decide +kernel
theorem d_Reckoner_pop_5 : decode kY_Reckoner_pop.2.1 5 = .ok (.if_icmp .lt 12, 3) := by decide +kernel
theorem d_Reckoner_pop_17 : decode kY_Reckoner_pop.2.1 17 = .ok (.lconst 0, 1) := by decide +kernel
theorem d_Reckoner_pop_18 : decode kY_Reckoner_pop.2.1 18 = .ok (.lreturn, 1) := by decide +kernel
theorem d_Reckoner_pop_8 : decode kY_Reckoner_pop.2.1 8 = .ok (.aload_n 0, 1) := by decide +kernel
theorem d_Reckoner_pop_9 : decode kY_Reckoner_pop.2.1 9 = .ok (.getfield 46, 3) := by decide +kernel
theorem d_Reckoner_pop_12 : decode kY_Reckoner_pop.2.1 12 = .ok (.bipush 64, 2) := by decide +kernel
theorem d_Reckoner_pop_14 : decode kY_Reckoner_pop.2.1 14 = .ok (.if_icmp .le 5, 3) := by decide +kernel
theorem d_Reckoner_pop_19 : decode kY_Reckoner_pop.2.1 19 = .ok (.aload_n 0, 1) := by decide +kernel
theorem d_Reckoner_pop_20 : decode kY_Reckoner_pop.2.1 20 = .ok (.dup, 1) := by decide +kernel
theorem d_Reckoner_pop_21 : decode kY_Reckoner_pop.2.1 21 = .ok (.getfield 46, 3) := by decide +kernel
theorem d_Reckoner_pop_24 : decode kY_Reckoner_pop.2.1 24 = .ok (.iconst 1, 1) := by decide +kernel
theorem d_Reckoner_pop_25 : decode kY_Reckoner_pop.2.1 25 = .ok (.isub, 1) := by decide +kernel
theorem d_Reckoner_pop_26 : decode kY_Reckoner_pop.2.1 26 = .ok (.putfield 46, 3) := by decide +kernel
theorem d_Reckoner_pop_29 : decode kY_Reckoner_pop.2.1 29 = .ok (.aload_n 0, 1) := by decide +kernel
theorem d_Reckoner_pop_30 : decode kY_Reckoner_pop.2.1 30 = .ok (.getfield 19, 3) := by decide +kernel
theorem f_Reckoner_19_10 : mj_fl "TrustDesk$Reckoner" 19 10 2 := ⟨kR_Reckoner, kF_Reckoner, 5, "TrustDesk$Reckoner", rfl, kg_10, by decide, (mj_in1 (List.mem_of_getElem? (i := 140) (by decide +kernel)) rfl), Or.inl rfl⟩
theorem d_Reckoner_pop_33 : decode kY_Reckoner_pop.2.1 33 = .ok (.aload_n 0, 1) := by decide +kernel
theorem d_Reckoner_pop_34 : decode kY_Reckoner_pop.2.1 34 = .ok (.getfield 46, 3) := by decide +kernel
theorem d_Reckoner_pop_37 : decode kY_Reckoner_pop.2.1 37 = .ok (.laload, 1) := by decide +kernel
theorem d_Reckoner_pop_38 : decode kY_Reckoner_pop.2.1 38 = .ok (.lreturn, 1) := by decide +kernel
def w_Reckoner_pop : List Nat := [1003]
theorem tc_Reckoner_pop {g : mj_G} {l : Launch} {d : Nat} {T0 : tm_H} {M0 : mj_M} {n0 x9 : Nat} {o0 : Nat} (h_o0 : T0 o0 = some (0, 10, 0)) (I0 : tm_I tm_FT (tm_in w_Reckoner_pop) x9 T0 M0 n0 T0 M0 n0) : mj_Met g l kY_Reckoner_pop d [.ref o0] M0 n0 0 0 (tm_Q tm_FT (tm_in w_Reckoner_pop) x9 T0 M0 n0 (fun r _ _ => ∃ v : Int64, r = some (.long v))) := by
  refine mj_enter (by decide) (Nat.le_of_ble_eq_true rfl) ?_
  refine mv_aload_n d_Reckoner_pop_0 rfl rfl ?_
  obtain ⟨v2, q1⟩ := tm_atI I0 h_o0 (k := 3) rfl
  refine tr_getK q1 d_Reckoner_pop_1 f_Reckoner_46_10 ?_
  refine mv_iconst (v := 1) d_Reckoner_pop_4 (by decide) ?_
  have := mz_hi v2
  refine mv_icmp_ltZ (tgt := 17) (a := v2.toInt) (b := 1) d_Reckoner_pop_5 (by decide) rfl (by decide) (fun b3 => ?_) (fun b3 => ?_)
  · refine mv_lconst (v := 0) d_Reckoner_pop_17 (by decide) ?_
    exact mv_lret d_Reckoner_pop_18 rfl ⟨_, I0, _, rfl⟩
  · refine mv_aload_n d_Reckoner_pop_8 rfl rfl ?_
    refine tr_getK (k := 3) q1 d_Reckoner_pop_9 f_Reckoner_46_10 ?_
    refine mv_bipush (v := 64) d_Reckoner_pop_12 (by decide) ?_
    have := mz_hi v2
    refine mv_icmp_leZ (tgt := 19) (a := v2.toInt) (b := 64) d_Reckoner_pop_14 (by decide) rfl (by decide) (fun b4 => ?_) (fun b4 => ?_)
    · refine mv_aload_n d_Reckoner_pop_19 rfl rfl ?_
      refine mv_dup d_Reckoner_pop_20 rfl ?_
      refine tr_getK (k := 3) q1 d_Reckoner_pop_21 f_Reckoner_46_10 ?_
      refine mv_iconst (v := 1) d_Reckoner_pop_24 (by decide) ?_
      refine mv_isub d_Reckoner_pop_25 ?_
      refine tr_putK tm_okF I0 h_o0 (k := 3) rfl ⟨_, rfl⟩ (Or.inl (by decide)) d_Reckoner_pop_26 p_Reckoner_46_10 rfl rfl (fun M5 I6 q7 K8 => ?_)
      refine mv_aload_n d_Reckoner_pop_29 rfl rfl ?_
      obtain ⟨a10, q9, t_a10⟩ := tm_atR I6 h_o0 (k := 2) rfl
      refine tr_getK q9 d_Reckoner_pop_30 f_Reckoner_19_10 ?_
      refine mv_aload_n d_Reckoner_pop_33 rfl rfl ?_
      refine tr_getK (k := 3) q7 d_Reckoner_pop_34 f_Reckoner_46_10 ?_
      have b11 : (v2 - 1).toInt = v2.toInt - 1 := mz_subn 1 1 (by decide) (by omega) (by omega)
      refine tr_lald I6 t_a10 (by decide) d_Reckoner_pop_37 (vp_in_iff.mpr (by omega)) (fun v12 => ?_)
      exact mv_lret d_Reckoner_pop_38 rfl ⟨_, I6, _, rfl⟩
    · refine mv_lconst (v := 0) d_Reckoner_pop_17 (by decide) ?_
      exact mv_lret d_Reckoner_pop_18 rfl ⟨_, I0, _, rfl⟩
theorem lV_Reckoner_62 : mj_lV "TrustDesk$Reckoner" 62 kY_Reckoner_pop 0 := ⟨⟨(mj_in1 (List.mem_of_getElem? (i := 897) (by decide +kernel)) rfl), (mj_in1 (List.mem_of_getElem? (i := 4) (by decide +kernel)) rfl), (mj_in1 (List.mem_of_getElem? (i := 900) (by decide +kernel)) rfl), by decide, rfl, by decide⟩, (mj_in1 (List.mem_of_getElem? (i := 899) (by decide +kernel)) rfl), (mj_in (List.mem_append_left _ (List.mem_of_getElem? (i := 44) (by decide +kernel))) rfl)⟩
theorem d_Reckoner_run_146 : decode kY_Reckoner_run.2.1 146 = .ok (.lreturn, 1) := by decide +kernel
theorem d_Reckoner_run_26 : decode kY_Reckoner_run.2.1 26 = .ok (.aload_n 1, 1) := by decide +kernel
theorem d_Reckoner_run_27 : decode kY_Reckoner_run.2.1 27 = .ok (.getfield 52, 3) := by decide +kernel
theorem d_Reckoner_run_30 : decode kY_Reckoner_run.2.1 30 = .ok (.iload_n 2, 1) := by decide +kernel
theorem d_Reckoner_run_31 : decode kY_Reckoner_run.2.1 31 = .ok (.iaload, 1) := by decide +kernel
theorem d_Reckoner_run_32 : decode kY_Reckoner_run.2.1 32 = .ok (.bipush 16, 2) := by decide +kernel
theorem d_Reckoner_run_34 : decode kY_Reckoner_run.2.1 34 = .ok (.irem, 1) := by decide +kernel
theorem d_Reckoner_run_35 : decode kY_Reckoner_run.2.1 35 = .ok (.istore_n 3, 1) := by decide +kernel
theorem d_Reckoner_run_36 : decode kY_Reckoner_run.2.1 36 = .ok (.aload_n 1, 1) := by decide +kernel
theorem d_Reckoner_run_37 : decode kY_Reckoner_run.2.1 37 = .ok (.getfield 52, 3) := by decide +kernel
theorem d_Reckoner_run_40 : decode kY_Reckoner_run.2.1 40 = .ok (.iload_n 2, 1) := by decide +kernel
theorem d_Reckoner_run_41 : decode kY_Reckoner_run.2.1 41 = .ok (.iaload, 1) := by decide +kernel
theorem d_Reckoner_run_42 : decode kY_Reckoner_run.2.1 42 = .ok (.bipush 16, 2) := by decide +kernel
theorem d_Reckoner_run_44 : decode kY_Reckoner_run.2.1 44 = .ok (.idiv, 1) := by decide +kernel
theorem d_Reckoner_run_45 : decode kY_Reckoner_run.2.1 45 = .ok (.istore 4, 2) := by decide +kernel
theorem d_Reckoner_run_47 : decode kY_Reckoner_run.2.1 47 = .ok (.iload_n 3, 1) := by decide +kernel
theorem d_Reckoner_run_48 : decode kY_Reckoner_run.2.1 48 = .ok (.ifCond .ne 13, 3) := by decide +kernel
theorem d_Reckoner_run_61 : decode kY_Reckoner_run.2.1 61 = .ok (.iload_n 3, 1) := by decide +kernel
theorem d_Reckoner_run_62 : decode kY_Reckoner_run.2.1 62 = .ok (.iconst 1, 1) := by decide +kernel
theorem d_Reckoner_run_63 : decode kY_Reckoner_run.2.1 63 = .ok (.if_icmp .ne 33, 3) := by decide +kernel
theorem d_Reckoner_run_96 : decode kY_Reckoner_run.2.1 96 = .ok (.iload_n 3, 1) := by decide +kernel
theorem d_Reckoner_run_97 : decode kY_Reckoner_run.2.1 97 = .ok (.bipush 8, 2) := by decide +kernel
theorem d_Reckoner_run_99 : decode kY_Reckoner_run.2.1 99 = .ok (.if_icmp .ne 16, 3) := by decide +kernel
theorem d_Reckoner_run_115 : decode kY_Reckoner_run.2.1 115 = .ok (.aload_n 0, 1) := by decide +kernel
theorem d_Reckoner_run_116 : decode kY_Reckoner_run.2.1 116 = .ok (.invokevirtual 62, 3) := by decide +kernel
theorem d_Reckoner_run_119 : decode kY_Reckoner_run.2.1 119 = .ok (.lstore 5, 2) := by decide +kernel
theorem d_Reckoner_run_121 : decode kY_Reckoner_run.2.1 121 = .ok (.aload_n 0, 1) := by decide +kernel
theorem d_Reckoner_run_122 : decode kY_Reckoner_run.2.1 122 = .ok (.aload_n 0, 1) := by decide +kernel
theorem d_Reckoner_run_123 : decode kY_Reckoner_run.2.1 123 = .ok (.iload_n 3, 1) := by decide +kernel
theorem d_Reckoner_run_124 : decode kY_Reckoner_run.2.1 124 = .ok (.aload_n 0, 1) := by decide +kernel
theorem d_Reckoner_run_125 : decode kY_Reckoner_run.2.1 125 = .ok (.invokevirtual 62, 3) := by decide +kernel
theorem d_Reckoner_run_128 : decode kY_Reckoner_run.2.1 128 = .ok (.lload 5, 2) := by decide +kernel
theorem d_Reckoner_run_130 : decode kY_Reckoner_run.2.1 130 = .ok (.invokevirtual 66, 3) := by decide +kernel
abbrev kY_Reckoner_worked : mj_Y := (⟨"TrustDesk$Reckoner", "worked", "(IJJ)J"⟩, prog_11_method_5_code, 6, (Option.some Jvm.ClassFile.FieldType.long))
theorem d_Reckoner_worked_0 : decode kY_Reckoner_worked.2.1 0 = .ok (.iload_n 1, 1) := by decide +kernel
theorem d_Reckoner_worked_1 : decode kY_Reckoner_worked.2.1 1 = .ok (.tableswitch 127 2 9 #[47, 55, 63, 71, 88, 105, 127, 122], 47) := by decide +kernel
theorem d_Reckoner_worked_128 : decode kY_Reckoner_worked.2.1 128 = .ok (.lload_n 2, 1) := by decide +kernel
theorem d_Reckoner_worked_129 : decode kY_Reckoner_worked.2.1 129 = .ok (.lload 4, 2) := by decide +kernel
theorem d_Reckoner_worked_131 : decode kY_Reckoner_worked.2.1 131 = .ok (.lor, 1) := by decide +kernel
theorem d_Reckoner_worked_132 : decode kY_Reckoner_worked.2.1 132 = .ok (.lreturn, 1) := by decide +kernel
theorem d_Reckoner_worked_48 : decode kY_Reckoner_worked.2.1 48 = .ok (.lload_n 2, 1) := by decide +kernel
theorem d_Reckoner_worked_49 : decode kY_Reckoner_worked.2.1 49 = .ok (.lload 4, 2) := by decide +kernel
theorem d_Reckoner_worked_51 : decode kY_Reckoner_worked.2.1 51 = .ok (.ladd, 1) := by decide +kernel
theorem d_Reckoner_worked_52 : decode kY_Reckoner_worked.2.1 52 = .ok (.invokestatic 70, 3) := by decide +kernel
abbrev kY_Reckoner_bounded : mj_Y := (⟨"TrustDesk$Reckoner", "bounded", "(J)J"⟩, prog_11_method_7_code, 2, (Option.some Jvm.ClassFile.FieldType.long))
theorem d_Reckoner_bounded_0 : decode kY_Reckoner_bounded.2.1 0 = .ok (.ldc2_w 77, 3) := by decide +kernel
theorem k_Reckoner_77 : Cond.constantLong "TrustDesk$Reckoner" 77 (-1000000000) ∈ mj_T := (mj_in1 (List.mem_of_getElem? (i := 908) (by decide +kernel)) rfl)
theorem d_Reckoner_bounded_3 : decode kY_Reckoner_bounded.2.1 3 = .ok (.ldc2_w 34, 3) := by decide +kernel
theorem d_Reckoner_bounded_6 : decode kY_Reckoner_bounded.2.1 6 = .ok (.lload_n 0, 1) := by decide +kernel
theorem d_Reckoner_bounded_7 : decode kY_Reckoner_bounded.2.1 7 = .ok (.invokestatic 36, 3) := by decide +kernel
theorem d_Reckoner_bounded_10 : decode kY_Reckoner_bounded.2.1 10 = .ok (.invokestatic 79, 3) := by decide +kernel
theorem d_Reckoner_bounded_13 : decode kY_Reckoner_bounded.2.1 13 = .ok (.lreturn, 1) := by decide +kernel
def w_Reckoner_bounded : List Nat := []
theorem tc_Reckoner_bounded {g : mj_G} {l : Launch} {d : Nat} {T0 : tm_H} {M0 : mj_M} {n0 x9 : Nat} {x1 : Int64} (I0 : tm_I tm_FT (tm_in w_Reckoner_bounded) x9 T0 M0 n0 T0 M0 n0) : mj_Met g l kY_Reckoner_bounded (d + 1) [.long x1] M0 n0 0 0 (tm_Q tm_FT (tm_in w_Reckoner_bounded) x9 T0 M0 n0 (fun r _ _ => ∃ v : Int64, r = some (.long v))) := by
  refine mj_enter (by decide) (Nat.le_of_ble_eq_true rfl) ?_
  refine mv_ldc2 d_Reckoner_bounded_0 k_Reckoner_77 ?_
  refine mv_ldc2 d_Reckoner_bounded_3 k_Reckoner_34 ?_
  refine mv_lload_n d_Reckoner_bounded_6 rfl rfl ?_
  refine mv_mmin_long (v := (if x1 < 1000000000 then x1 else 1000000000)) d_Reckoner_bounded_7 (mj_in1 (List.mem_of_getElem? (i := 888) (by decide +kernel)) rfl) (Nat.le_of_ble_eq_true rfl) rfl ?_
  refine mv_mmax_long (v := (if (if x1 < 1000000000 then x1 else 1000000000) < (-1000000000) then (-1000000000) else (if x1 < 1000000000 then x1 else 1000000000))) d_Reckoner_bounded_10 (mj_in1 (List.mem_of_getElem? (i := 909) (by decide +kernel)) rfl) (Nat.le_of_ble_eq_true rfl) rfl ?_
  exact mv_lret d_Reckoner_bounded_13 rfl ⟨_, I0, _, rfl⟩
theorem lS_Reckoner_70 : mj_lS "TrustDesk$Reckoner" 70 kY_Reckoner_bounded 1 := ⟨⟨(mj_in1 (List.mem_of_getElem? (i := 905) (by decide +kernel)) rfl), (mj_in1 (List.mem_of_getElem? (i := 4) (by decide +kernel)) rfl), (mj_in1 (List.mem_of_getElem? (i := 907) (by decide +kernel)) rfl), by decide, rfl, by decide⟩, (mj_in1 (List.mem_of_getElem? (i := 906) (by decide +kernel)) rfl)⟩
theorem d_Reckoner_worked_55 : decode kY_Reckoner_worked.2.1 55 = .ok (.lreturn, 1) := by decide +kernel
theorem d_Reckoner_worked_56 : decode kY_Reckoner_worked.2.1 56 = .ok (.lload_n 2, 1) := by decide +kernel
theorem d_Reckoner_worked_57 : decode kY_Reckoner_worked.2.1 57 = .ok (.lload 4, 2) := by decide +kernel
theorem d_Reckoner_worked_59 : decode kY_Reckoner_worked.2.1 59 = .ok (.lsub, 1) := by decide +kernel
theorem d_Reckoner_worked_60 : decode kY_Reckoner_worked.2.1 60 = .ok (.invokestatic 70, 3) := by decide +kernel
theorem d_Reckoner_worked_63 : decode kY_Reckoner_worked.2.1 63 = .ok (.lreturn, 1) := by decide +kernel
theorem d_Reckoner_worked_64 : decode kY_Reckoner_worked.2.1 64 = .ok (.lload_n 2, 1) := by decide +kernel
theorem d_Reckoner_worked_65 : decode kY_Reckoner_worked.2.1 65 = .ok (.lload 4, 2) := by decide +kernel
theorem d_Reckoner_worked_67 : decode kY_Reckoner_worked.2.1 67 = .ok (.lmul, 1) := by decide +kernel
theorem d_Reckoner_worked_68 : decode kY_Reckoner_worked.2.1 68 = .ok (.invokestatic 70, 3) := by decide +kernel
theorem d_Reckoner_worked_71 : decode kY_Reckoner_worked.2.1 71 = .ok (.lreturn, 1) := by decide +kernel
theorem d_Reckoner_worked_72 : decode kY_Reckoner_worked.2.1 72 = .ok (.aload_n 0, 1) := by decide +kernel
theorem d_Reckoner_worked_73 : decode kY_Reckoner_worked.2.1 73 = .ok (.lload_n 2, 1) := by decide +kernel
theorem d_Reckoner_worked_74 : decode kY_Reckoner_worked.2.1 74 = .ok (.lload 4, 2) := by decide +kernel
theorem d_Reckoner_worked_76 : decode kY_Reckoner_worked.2.1 76 = .ok (.lcmp, 1) := by decide +kernel
theorem d_Reckoner_worked_77 : decode kY_Reckoner_worked.2.1 77 = .ok (.ifCond .ge 7, 3) := by decide +kernel
theorem d_Reckoner_worked_84 : decode kY_Reckoner_worked.2.1 84 = .ok (.iconst 0, 1) := by decide +kernel
theorem d_Reckoner_worked_85 : decode kY_Reckoner_worked.2.1 85 = .ok (.invokevirtual 73, 3) := by decide +kernel
abbrev kY_Reckoner_compared : mj_Y := (⟨"TrustDesk$Reckoner", "compared", "(Z)J"⟩, prog_11_method_6_code, 2, (Option.some Jvm.ClassFile.FieldType.long))
theorem d_Reckoner_compared_0 : decode kY_Reckoner_compared.2.1 0 = .ok (.iload_n 1, 1) := by decide +kernel
theorem d_Reckoner_compared_1 : decode kY_Reckoner_compared.2.1 1 = .ok (.ifCond .ne 19, 3) := by decide +kernel
theorem d_Reckoner_compared_20 : decode kY_Reckoner_compared.2.1 20 = .ok (.aload_n 0, 1) := by decide +kernel
theorem d_Reckoner_compared_21 : decode kY_Reckoner_compared.2.1 21 = .ok (.dup, 1) := by decide +kernel
theorem d_Reckoner_compared_22 : decode kY_Reckoner_compared.2.1 22 = .ok (.getfield 49, 3) := by decide +kernel
theorem f_Reckoner_49_10 : mj_fl "TrustDesk$Reckoner" 49 10 4 := ⟨kR_Reckoner, kF_Reckoner, 5, "TrustDesk$Reckoner", rfl, kg_10, by decide, (mj_in1 (List.mem_of_getElem? (i := 142) (by decide +kernel)) rfl), Or.inl rfl⟩
theorem d_Reckoner_compared_25 : decode kY_Reckoner_compared.2.1 25 = .ok (.iconst 1, 1) := by decide +kernel
theorem d_Reckoner_compared_26 : decode kY_Reckoner_compared.2.1 26 = .ok (.iadd, 1) := by decide +kernel
theorem d_Reckoner_compared_27 : decode kY_Reckoner_compared.2.1 27 = .ok (.putfield 49, 3) := by decide +kernel
theorem d_Reckoner_compared_30 : decode kY_Reckoner_compared.2.1 30 = .ok (.iload_n 1, 1) := by decide +kernel
theorem d_Reckoner_compared_31 : decode kY_Reckoner_compared.2.1 31 = .ok (.ifCond .eq 7, 3) := by decide +kernel
theorem d_Reckoner_compared_38 : decode kY_Reckoner_compared.2.1 38 = .ok (.lconst 0, 1) := by decide +kernel
theorem d_Reckoner_compared_39 : decode kY_Reckoner_compared.2.1 39 = .ok (.lreturn, 1) := by decide +kernel
theorem d_Reckoner_compared_34 : decode kY_Reckoner_compared.2.1 34 = .ok (.lconst 1, 1) := by decide +kernel
theorem d_Reckoner_compared_35 : decode kY_Reckoner_compared.2.1 35 = .ok (.goto 4, 3) := by decide +kernel
theorem d_Reckoner_compared_4 : decode kY_Reckoner_compared.2.1 4 = .ok (.aload_n 0, 1) := by decide +kernel
theorem d_Reckoner_compared_5 : decode kY_Reckoner_compared.2.1 5 = .ok (.getfield 15, 3) := by decide +kernel
theorem f_Reckoner_15_10 : mj_fl "TrustDesk$Reckoner" 15 10 1 := ⟨kR_Reckoner, kF_Reckoner, 5, "TrustDesk$Reckoner", rfl, kg_10, by decide, (mj_in1 (List.mem_of_getElem? (i := 138) (by decide +kernel)) rfl), Or.inl rfl⟩
theorem d_Reckoner_compared_8 : decode kY_Reckoner_compared.2.1 8 = .ok (.iconst (-1), 1) := by decide +kernel
theorem d_Reckoner_compared_9 : decode kY_Reckoner_compared.2.1 9 = .ok (.if_icmp .ne 11, 3) := by decide +kernel
theorem d_Reckoner_compared_12 : decode kY_Reckoner_compared.2.1 12 = .ok (.aload_n 0, 1) := by decide +kernel
theorem d_Reckoner_compared_13 : decode kY_Reckoner_compared.2.1 13 = .ok (.aload_n 0, 1) := by decide +kernel
theorem d_Reckoner_compared_14 : decode kY_Reckoner_compared.2.1 14 = .ok (.getfield 49, 3) := by decide +kernel
theorem d_Reckoner_compared_17 : decode kY_Reckoner_compared.2.1 17 = .ok (.putfield 15, 3) := by decide +kernel
def w_Reckoner_compared : List Nat := [1001, 1004]
theorem tc_Reckoner_compared {g : mj_G} {l : Launch} {d : Nat} {T0 : tm_H} {M0 : mj_M} {n0 x9 : Nat} {o0 : Nat} {x1 : Int32} (h_o0 : T0 o0 = some (0, 10, 0)) (I0 : tm_I tm_FT (tm_in w_Reckoner_compared) x9 T0 M0 n0 T0 M0 n0) : mj_Met g l kY_Reckoner_compared d [.ref o0, .int x1] M0 n0 0 0 (tm_Q tm_FT (tm_in w_Reckoner_compared) x9 T0 M0 n0 (fun r _ _ => ∃ v : Int64, r = some (.long v))) := by
  refine mj_enter (by decide) (Nat.le_of_ble_eq_true rfl) ?_
  refine mv_iload_n d_Reckoner_compared_0 rfl rfl ?_
  have := mz_hi x1
  refine mv_if_neZ (tgt := 20) (a := x1.toInt) d_Reckoner_compared_1 (by decide) rfl (fun b1 => ?_) (fun b1 => ?_)
  · refine mv_aload_n d_Reckoner_compared_20 rfl rfl ?_
    refine mv_dup d_Reckoner_compared_21 rfl ?_
    obtain ⟨v3, q2⟩ := tm_atI I0 h_o0 (k := 4) rfl
    refine tr_getK q2 d_Reckoner_compared_22 f_Reckoner_49_10 ?_
    refine mv_iconst (v := 1) d_Reckoner_compared_25 (by decide) ?_
    refine mv_iadd d_Reckoner_compared_26 ?_
    refine tr_putK tm_okF I0 h_o0 (k := 4) rfl ⟨_, rfl⟩ (Or.inl (by decide)) d_Reckoner_compared_27 p_Reckoner_49_10 rfl rfl (fun M4 I5 q6 K7 => ?_)
    refine mv_iload_n d_Reckoner_compared_30 rfl rfl ?_
    have := mz_hi x1
    refine mv_if_eqZ (tgt := 38) (a := x1.toInt) d_Reckoner_compared_31 (by decide) rfl (fun b8 => ?_) (fun b8 => ?_)
    · refine mv_lconst (v := 0) d_Reckoner_compared_38 (by decide) ?_
      exact mv_lret d_Reckoner_compared_39 rfl ⟨_, I5, _, rfl⟩
    · refine mv_lconst (v := 1) d_Reckoner_compared_34 (by decide) ?_
      refine mv_goto (tgt := 39) d_Reckoner_compared_35 (by decide) ?_
      exact mv_lret d_Reckoner_compared_39 rfl ⟨_, I5, _, rfl⟩
  · refine mv_aload_n d_Reckoner_compared_4 rfl rfl ?_
    obtain ⟨v10, q9⟩ := tm_atI I0 h_o0 (k := 1) rfl
    refine tr_getK q9 d_Reckoner_compared_5 f_Reckoner_15_10 ?_
    refine mv_iconst (v := (-1)) d_Reckoner_compared_8 (by decide) ?_
    have := mz_hi v10
    refine mv_icmp_neZ (tgt := 20) (a := v10.toInt) (b := (-1)) d_Reckoner_compared_9 (by decide) rfl (by decide) (fun b11 => ?_) (fun b11 => ?_)
    · refine mv_aload_n d_Reckoner_compared_20 rfl rfl ?_
      refine mv_dup d_Reckoner_compared_21 rfl ?_
      obtain ⟨v13, q12⟩ := tm_atI I0 h_o0 (k := 4) rfl
      refine tr_getK q12 d_Reckoner_compared_22 f_Reckoner_49_10 ?_
      refine mv_iconst (v := 1) d_Reckoner_compared_25 (by decide) ?_
      refine mv_iadd d_Reckoner_compared_26 ?_
      refine tr_putK tm_okF I0 h_o0 (k := 4) rfl ⟨_, rfl⟩ (Or.inl (by decide)) d_Reckoner_compared_27 p_Reckoner_49_10 rfl rfl (fun M14 I15 q16 K17 => ?_)
      refine mv_iload_n d_Reckoner_compared_30 rfl rfl ?_
      have := mz_hi x1
      refine mv_if_eqZ (tgt := 38) (a := x1.toInt) d_Reckoner_compared_31 (by decide) rfl (fun b18 => ?_) (fun b18 => absurd b18 (by omega))
      refine mv_lconst (v := 0) d_Reckoner_compared_38 (by decide) ?_
      exact mv_lret d_Reckoner_compared_39 rfl ⟨_, I15, _, rfl⟩
    · refine mv_aload_n d_Reckoner_compared_12 rfl rfl ?_
      refine mv_aload_n d_Reckoner_compared_13 rfl rfl ?_
      obtain ⟨v20, q19⟩ := tm_atI I0 h_o0 (k := 4) rfl
      refine tr_getK q19 d_Reckoner_compared_14 f_Reckoner_49_10 ?_
      refine tr_putK tm_okF I0 h_o0 (k := 1) rfl ⟨_, rfl⟩ (Or.inl (by decide)) d_Reckoner_compared_17 p_Reckoner_15_10 rfl rfl (fun M21 I22 q23 K24 => ?_)
      refine mv_aload_n d_Reckoner_compared_20 rfl rfl ?_
      refine mv_dup d_Reckoner_compared_21 rfl ?_
      refine tr_getK (k := 4) (K24 _ 10 4 _ rfl q19) d_Reckoner_compared_22 f_Reckoner_49_10 ?_
      refine mv_iconst (v := 1) d_Reckoner_compared_25 (by decide) ?_
      refine mv_iadd d_Reckoner_compared_26 ?_
      refine tr_putK tm_okF I22 h_o0 (k := 4) rfl ⟨_, rfl⟩ (Or.inl (by decide)) d_Reckoner_compared_27 p_Reckoner_49_10 rfl rfl (fun M25 I26 q27 K28 => ?_)
      refine mv_iload_n d_Reckoner_compared_30 rfl rfl ?_
      have := mz_hi x1
      refine mv_if_eqZ (tgt := 38) (a := x1.toInt) d_Reckoner_compared_31 (by decide) rfl (fun b29 => ?_) (fun b29 => absurd b29 (by omega))
      refine mv_lconst (v := 0) d_Reckoner_compared_38 (by decide) ?_
      exact mv_lret d_Reckoner_compared_39 rfl ⟨_, I26, _, rfl⟩
theorem lV_Reckoner_73 : mj_lV "TrustDesk$Reckoner" 73 kY_Reckoner_compared 1 := ⟨⟨(mj_in1 (List.mem_of_getElem? (i := 912) (by decide +kernel)) rfl), (mj_in1 (List.mem_of_getElem? (i := 4) (by decide +kernel)) rfl), (mj_in1 (List.mem_of_getElem? (i := 915) (by decide +kernel)) rfl), by decide, rfl, by decide⟩, (mj_in1 (List.mem_of_getElem? (i := 914) (by decide +kernel)) rfl), (mj_in (List.mem_append_left _ (List.mem_of_getElem? (i := 46) (by decide +kernel))) rfl)⟩
theorem d_Reckoner_worked_88 : decode kY_Reckoner_worked.2.1 88 = .ok (.lreturn, 1) := by decide +kernel
theorem d_Reckoner_worked_80 : decode kY_Reckoner_worked.2.1 80 = .ok (.iconst 1, 1) := by decide +kernel
theorem d_Reckoner_worked_81 : decode kY_Reckoner_worked.2.1 81 = .ok (.goto 4, 3) := by decide +kernel
theorem d_Reckoner_worked_89 : decode kY_Reckoner_worked.2.1 89 = .ok (.aload_n 0, 1) := by decide +kernel
theorem d_Reckoner_worked_90 : decode kY_Reckoner_worked.2.1 90 = .ok (.lload_n 2, 1) := by decide +kernel
theorem d_Reckoner_worked_91 : decode kY_Reckoner_worked.2.1 91 = .ok (.lload 4, 2) := by decide +kernel
theorem d_Reckoner_worked_93 : decode kY_Reckoner_worked.2.1 93 = .ok (.lcmp, 1) := by decide +kernel
theorem d_Reckoner_worked_94 : decode kY_Reckoner_worked.2.1 94 = .ok (.ifCond .le 7, 3) := by decide +kernel
theorem d_Reckoner_worked_101 : decode kY_Reckoner_worked.2.1 101 = .ok (.iconst 0, 1) := by decide +kernel
theorem d_Reckoner_worked_102 : decode kY_Reckoner_worked.2.1 102 = .ok (.invokevirtual 73, 3) := by decide +kernel
theorem d_Reckoner_worked_105 : decode kY_Reckoner_worked.2.1 105 = .ok (.lreturn, 1) := by decide +kernel
theorem d_Reckoner_worked_97 : decode kY_Reckoner_worked.2.1 97 = .ok (.iconst 1, 1) := by decide +kernel
theorem d_Reckoner_worked_98 : decode kY_Reckoner_worked.2.1 98 = .ok (.goto 4, 3) := by decide +kernel
theorem d_Reckoner_worked_106 : decode kY_Reckoner_worked.2.1 106 = .ok (.aload_n 0, 1) := by decide +kernel
theorem d_Reckoner_worked_107 : decode kY_Reckoner_worked.2.1 107 = .ok (.lload_n 2, 1) := by decide +kernel
theorem d_Reckoner_worked_108 : decode kY_Reckoner_worked.2.1 108 = .ok (.lload 4, 2) := by decide +kernel
theorem d_Reckoner_worked_110 : decode kY_Reckoner_worked.2.1 110 = .ok (.lcmp, 1) := by decide +kernel
theorem d_Reckoner_worked_111 : decode kY_Reckoner_worked.2.1 111 = .ok (.ifCond .ne 7, 3) := by decide +kernel
theorem d_Reckoner_worked_118 : decode kY_Reckoner_worked.2.1 118 = .ok (.iconst 0, 1) := by decide +kernel
theorem d_Reckoner_worked_119 : decode kY_Reckoner_worked.2.1 119 = .ok (.invokevirtual 73, 3) := by decide +kernel
theorem d_Reckoner_worked_122 : decode kY_Reckoner_worked.2.1 122 = .ok (.lreturn, 1) := by decide +kernel
theorem d_Reckoner_worked_114 : decode kY_Reckoner_worked.2.1 114 = .ok (.iconst 1, 1) := by decide +kernel
theorem d_Reckoner_worked_115 : decode kY_Reckoner_worked.2.1 115 = .ok (.goto 4, 3) := by decide +kernel
theorem d_Reckoner_worked_123 : decode kY_Reckoner_worked.2.1 123 = .ok (.lload_n 2, 1) := by decide +kernel
theorem d_Reckoner_worked_124 : decode kY_Reckoner_worked.2.1 124 = .ok (.lload 4, 2) := by decide +kernel
theorem d_Reckoner_worked_126 : decode kY_Reckoner_worked.2.1 126 = .ok (.land, 1) := by decide +kernel
theorem d_Reckoner_worked_127 : decode kY_Reckoner_worked.2.1 127 = .ok (.lreturn, 1) := by decide +kernel
def w_Reckoner_worked : List Nat := [1001, 1004]
theorem tc_Reckoner_worked {g : mj_G} {l : Launch} {d : Nat} {T0 : tm_H} {M0 : mj_M} {n0 x9 : Nat} {o0 : Nat} {x1 : Int32} {x2 : Int64} {x3 : Int64} (h_o0 : T0 o0 = some (0, 10, 0)) (I0 : tm_I tm_FT (tm_in w_Reckoner_worked) x9 T0 M0 n0 T0 M0 n0) : mj_Met g l kY_Reckoner_worked (d + 2) [.ref o0, .int x1, .long x2, .long x3] M0 n0 0 0 (tm_Q tm_FT (tm_in w_Reckoner_worked) x9 T0 M0 n0 (fun r _ _ => ∃ v : Int64, r = some (.long v))) := by
  refine mj_enter (by decide) (Nat.le_of_ble_eq_true rfl) ?_
  refine mv_iload_n d_Reckoner_worked_0 rfl rfl ?_
  rcases (show (x1.toInt < 2 ∨ 9 < x1.toInt) ∨ x1.toInt = 2 ∨ x1.toInt = 3 ∨ x1.toInt = 4 ∨ x1.toInt = 5 ∨ x1.toInt = 6 ∨ x1.toInt = 7 ∨ x1.toInt = 8 ∨ x1.toInt = 9 by omega) with b1 | b1 | b1 | b1 | b1 | b1 | b1 | b1 | b1
  · refine mv_tableOut (tgt := 128) d_Reckoner_worked_1 b1 (by decide) ?_
    refine mv_lload_n d_Reckoner_worked_128 rfl rfl ?_
    refine mv_lload d_Reckoner_worked_129 rfl ?_
    refine mv_lor d_Reckoner_worked_131 ?_
    exact mv_lret d_Reckoner_worked_132 rfl ⟨_, I0, _, rfl⟩
  · refine mv_tableIn (tgt := 48) (off := 47) d_Reckoner_worked_1 (by omega) (by omega) (by rw [b1]; rfl) (by decide) ?_
    refine mv_lload_n d_Reckoner_worked_48 rfl rfl ?_
    refine mv_lload d_Reckoner_worked_49 rfl ?_
    refine mv_ladd d_Reckoner_worked_51 ?_
    refine mv_callS (kc' := 0) (ks' := 0) (As := [.long (x2 + x3)]) (st9 := [.long (x2 + x3)]) d_Reckoner_worked_52 lS_Reckoner_70 (tc_Reckoner_bounded (d := d) (x9 := x9) (x1 := (x2 + x3))  I0.start) rfl (Nat.le_of_ble_eq_true rfl) (Nat.le_of_ble_eq_true rfl) (Nat.le_of_ble_eq_true rfl) (hst := rfl) (fun b2r M3 n4 b2 => ?_)
    obtain ⟨T5, J6, v8, rfl⟩ := b2
    have I7 := I0.call J6 (tm_sub (by decide)) (Or.inl rfl)
    have t9 := J6.up h_o0
    exact mv_lret d_Reckoner_worked_55 rfl ⟨_, I7, _, rfl⟩
  · refine mv_tableIn (tgt := 56) (off := 55) d_Reckoner_worked_1 (by omega) (by omega) (by rw [b1]; rfl) (by decide) ?_
    refine mv_lload_n d_Reckoner_worked_56 rfl rfl ?_
    refine mv_lload d_Reckoner_worked_57 rfl ?_
    refine mv_lsub d_Reckoner_worked_59 ?_
    refine mv_callS (kc' := 0) (ks' := 0) (As := [.long (x2 - x3)]) (st9 := [.long (x2 - x3)]) d_Reckoner_worked_60 lS_Reckoner_70 (tc_Reckoner_bounded (d := d) (x9 := x9) (x1 := (x2 - x3))  I0.start) rfl (Nat.le_of_ble_eq_true rfl) (Nat.le_of_ble_eq_true rfl) (Nat.le_of_ble_eq_true rfl) (hst := rfl) (fun b10r M11 n12 b10 => ?_)
    obtain ⟨T13, J14, v16, rfl⟩ := b10
    have I15 := I0.call J14 (tm_sub (by decide)) (Or.inl rfl)
    have t17 := J14.up h_o0
    exact mv_lret d_Reckoner_worked_63 rfl ⟨_, I15, _, rfl⟩
  · refine mv_tableIn (tgt := 64) (off := 63) d_Reckoner_worked_1 (by omega) (by omega) (by rw [b1]; rfl) (by decide) ?_
    refine mv_lload_n d_Reckoner_worked_64 rfl rfl ?_
    refine mv_lload d_Reckoner_worked_65 rfl ?_
    refine mv_lmul d_Reckoner_worked_67 ?_
    refine mv_callS (kc' := 0) (ks' := 0) (As := [.long (x2 * x3)]) (st9 := [.long (x2 * x3)]) d_Reckoner_worked_68 lS_Reckoner_70 (tc_Reckoner_bounded (d := d) (x9 := x9) (x1 := (x2 * x3))  I0.start) rfl (Nat.le_of_ble_eq_true rfl) (Nat.le_of_ble_eq_true rfl) (Nat.le_of_ble_eq_true rfl) (hst := rfl) (fun b18r M19 n20 b18 => ?_)
    obtain ⟨T21, J22, v24, rfl⟩ := b18
    have I23 := I0.call J22 (tm_sub (by decide)) (Or.inl rfl)
    have t25 := J22.up h_o0
    exact mv_lret d_Reckoner_worked_71 rfl ⟨_, I23, _, rfl⟩
  · refine mv_tableIn (tgt := 72) (off := 71) d_Reckoner_worked_1 (by omega) (by omega) (by rw [b1]; rfl) (by decide) ?_
    refine mv_aload_n d_Reckoner_worked_72 rfl rfl ?_
    refine mv_lload_n d_Reckoner_worked_73 rfl rfl ?_
    refine mv_lload d_Reckoner_worked_74 rfl ?_
    refine mv_lgeZ (tgt := 84) (a := x2.toInt) (b := x3.toInt) d_Reckoner_worked_76 d_Reckoner_worked_77 (by decide) rfl rfl (fun b26 => ?_) (fun b26 => ?_)
    · refine mv_iconst (v := 0) d_Reckoner_worked_84 (by decide) ?_
      obtain ⟨_, b33, -⟩ := I0.1 _ _ h_o0
      refine mv_callV (kc' := 0) (ks' := 0) (As := [.int 0]) (st9 := [.int 0, .ref o0]) d_Reckoner_worked_85 lV_Reckoner_73 b33 rfl (tc_Reckoner_compared (d := (d + 1)) (x9 := x9) (o0 := o0) (x1 := 0) h_o0 I0.start) rfl (Nat.le_of_ble_eq_true rfl) (Nat.le_of_ble_eq_true rfl) (Nat.le_of_ble_eq_true rfl) (hst := rfl) (fun b27r M28 n29 b27 => ?_)
      obtain ⟨T30, J31, v34, rfl⟩ := b27
      have I32 := I0.call J31 (tm_sub (by decide)) (Or.inl rfl)
      have t35 := J31.up h_o0
      exact mv_lret d_Reckoner_worked_88 rfl ⟨_, I32, _, rfl⟩
    · refine mv_iconst (v := 1) d_Reckoner_worked_80 (by decide) ?_
      refine mv_goto (tgt := 85) d_Reckoner_worked_81 (by decide) ?_
      obtain ⟨_, b42, -⟩ := I0.1 _ _ h_o0
      refine mv_callV (kc' := 0) (ks' := 0) (As := [.int 1]) (st9 := [.int 1, .ref o0]) d_Reckoner_worked_85 lV_Reckoner_73 b42 rfl (tc_Reckoner_compared (d := (d + 1)) (x9 := x9) (o0 := o0) (x1 := 1) h_o0 I0.start) rfl (Nat.le_of_ble_eq_true rfl) (Nat.le_of_ble_eq_true rfl) (Nat.le_of_ble_eq_true rfl) (hst := rfl) (fun b36r M37 n38 b36 => ?_)
      obtain ⟨T39, J40, v43, rfl⟩ := b36
      have I41 := I0.call J40 (tm_sub (by decide)) (Or.inl rfl)
      have t44 := J40.up h_o0
      exact mv_lret d_Reckoner_worked_88 rfl ⟨_, I41, _, rfl⟩
  · refine mv_tableIn (tgt := 89) (off := 88) d_Reckoner_worked_1 (by omega) (by omega) (by rw [b1]; rfl) (by decide) ?_
    refine mv_aload_n d_Reckoner_worked_89 rfl rfl ?_
    refine mv_lload_n d_Reckoner_worked_90 rfl rfl ?_
    refine mv_lload d_Reckoner_worked_91 rfl ?_
    refine mv_lleZ (tgt := 101) (a := x2.toInt) (b := x3.toInt) d_Reckoner_worked_93 d_Reckoner_worked_94 (by decide) rfl rfl (fun b45 => ?_) (fun b45 => ?_)
    · refine mv_iconst (v := 0) d_Reckoner_worked_101 (by decide) ?_
      obtain ⟨_, b52, -⟩ := I0.1 _ _ h_o0
      refine mv_callV (kc' := 0) (ks' := 0) (As := [.int 0]) (st9 := [.int 0, .ref o0]) d_Reckoner_worked_102 lV_Reckoner_73 b52 rfl (tc_Reckoner_compared (d := (d + 1)) (x9 := x9) (o0 := o0) (x1 := 0) h_o0 I0.start) rfl (Nat.le_of_ble_eq_true rfl) (Nat.le_of_ble_eq_true rfl) (Nat.le_of_ble_eq_true rfl) (hst := rfl) (fun b46r M47 n48 b46 => ?_)
      obtain ⟨T49, J50, v53, rfl⟩ := b46
      have I51 := I0.call J50 (tm_sub (by decide)) (Or.inl rfl)
      have t54 := J50.up h_o0
      exact mv_lret d_Reckoner_worked_105 rfl ⟨_, I51, _, rfl⟩
    · refine mv_iconst (v := 1) d_Reckoner_worked_97 (by decide) ?_
      refine mv_goto (tgt := 102) d_Reckoner_worked_98 (by decide) ?_
      obtain ⟨_, b61, -⟩ := I0.1 _ _ h_o0
      refine mv_callV (kc' := 0) (ks' := 0) (As := [.int 1]) (st9 := [.int 1, .ref o0]) d_Reckoner_worked_102 lV_Reckoner_73 b61 rfl (tc_Reckoner_compared (d := (d + 1)) (x9 := x9) (o0 := o0) (x1 := 1) h_o0 I0.start) rfl (Nat.le_of_ble_eq_true rfl) (Nat.le_of_ble_eq_true rfl) (Nat.le_of_ble_eq_true rfl) (hst := rfl) (fun b55r M56 n57 b55 => ?_)
      obtain ⟨T58, J59, v62, rfl⟩ := b55
      have I60 := I0.call J59 (tm_sub (by decide)) (Or.inl rfl)
      have t63 := J59.up h_o0
      exact mv_lret d_Reckoner_worked_105 rfl ⟨_, I60, _, rfl⟩
  · refine mv_tableIn (tgt := 106) (off := 105) d_Reckoner_worked_1 (by omega) (by omega) (by rw [b1]; rfl) (by decide) ?_
    refine mv_aload_n d_Reckoner_worked_106 rfl rfl ?_
    refine mv_lload_n d_Reckoner_worked_107 rfl rfl ?_
    refine mv_lload d_Reckoner_worked_108 rfl ?_
    refine mv_lneZ (tgt := 118) (a := x2.toInt) (b := x3.toInt) d_Reckoner_worked_110 d_Reckoner_worked_111 (by decide) rfl rfl (fun b64 => ?_) (fun b64 => ?_)
    · refine mv_iconst (v := 0) d_Reckoner_worked_118 (by decide) ?_
      obtain ⟨_, b71, -⟩ := I0.1 _ _ h_o0
      refine mv_callV (kc' := 0) (ks' := 0) (As := [.int 0]) (st9 := [.int 0, .ref o0]) d_Reckoner_worked_119 lV_Reckoner_73 b71 rfl (tc_Reckoner_compared (d := (d + 1)) (x9 := x9) (o0 := o0) (x1 := 0) h_o0 I0.start) rfl (Nat.le_of_ble_eq_true rfl) (Nat.le_of_ble_eq_true rfl) (Nat.le_of_ble_eq_true rfl) (hst := rfl) (fun b65r M66 n67 b65 => ?_)
      obtain ⟨T68, J69, v72, rfl⟩ := b65
      have I70 := I0.call J69 (tm_sub (by decide)) (Or.inl rfl)
      have t73 := J69.up h_o0
      exact mv_lret d_Reckoner_worked_122 rfl ⟨_, I70, _, rfl⟩
    · refine mv_iconst (v := 1) d_Reckoner_worked_114 (by decide) ?_
      refine mv_goto (tgt := 119) d_Reckoner_worked_115 (by decide) ?_
      obtain ⟨_, b80, -⟩ := I0.1 _ _ h_o0
      refine mv_callV (kc' := 0) (ks' := 0) (As := [.int 1]) (st9 := [.int 1, .ref o0]) d_Reckoner_worked_119 lV_Reckoner_73 b80 rfl (tc_Reckoner_compared (d := (d + 1)) (x9 := x9) (o0 := o0) (x1 := 1) h_o0 I0.start) rfl (Nat.le_of_ble_eq_true rfl) (Nat.le_of_ble_eq_true rfl) (Nat.le_of_ble_eq_true rfl) (hst := rfl) (fun b74r M75 n76 b74 => ?_)
      obtain ⟨T77, J78, v81, rfl⟩ := b74
      have I79 := I0.call J78 (tm_sub (by decide)) (Or.inl rfl)
      have t82 := J78.up h_o0
      exact mv_lret d_Reckoner_worked_122 rfl ⟨_, I79, _, rfl⟩
  · refine mv_tableIn (tgt := 128) (off := 127) d_Reckoner_worked_1 (by omega) (by omega) (by rw [b1]; rfl) (by decide) ?_
    refine mv_lload_n d_Reckoner_worked_128 rfl rfl ?_
    refine mv_lload d_Reckoner_worked_129 rfl ?_
    refine mv_lor d_Reckoner_worked_131 ?_
    exact mv_lret d_Reckoner_worked_132 rfl ⟨_, I0, _, rfl⟩
  · refine mv_tableIn (tgt := 123) (off := 122) d_Reckoner_worked_1 (by omega) (by omega) (by rw [b1]; rfl) (by decide) ?_
    refine mv_lload_n d_Reckoner_worked_123 rfl rfl ?_
    refine mv_lload d_Reckoner_worked_124 rfl ?_
    refine mv_land d_Reckoner_worked_126 ?_
    exact mv_lret d_Reckoner_worked_127 rfl ⟨_, I0, _, rfl⟩
theorem lV_Reckoner_66 : mj_lV "TrustDesk$Reckoner" 66 kY_Reckoner_worked 3 := ⟨⟨(mj_in1 (List.mem_of_getElem? (i := 901) (by decide +kernel)) rfl), (mj_in1 (List.mem_of_getElem? (i := 4) (by decide +kernel)) rfl), (mj_in1 (List.mem_of_getElem? (i := 904) (by decide +kernel)) rfl), by decide, rfl, by decide⟩, (mj_in1 (List.mem_of_getElem? (i := 903) (by decide +kernel)) rfl), (mj_in (List.mem_append_left _ (List.mem_of_getElem? (i := 45) (by decide +kernel))) rfl)⟩
theorem d_Reckoner_run_133 : decode kY_Reckoner_run.2.1 133 = .ok (.invokevirtual 58, 3) := by decide +kernel
abbrev kY_Reckoner_push : mj_Y := (⟨"TrustDesk$Reckoner", "push", "(J)V"⟩, prog_11_method_8_code, 3, (Option.none : Option Jvm.ClassFile.FieldType))
theorem d_Reckoner_push_0 : decode kY_Reckoner_push.2.1 0 = .ok (.aload_n 0, 1) := by decide +kernel
theorem d_Reckoner_push_1 : decode kY_Reckoner_push.2.1 1 = .ok (.getfield 46, 3) := by decide +kernel
theorem d_Reckoner_push_4 : decode kY_Reckoner_push.2.1 4 = .ok (.ifCond .lt 32, 3) := by decide +kernel
theorem d_Reckoner_push_36 : decode kY_Reckoner_push.2.1 36 = .ok (.return_, 1) := by decide +kernel
theorem d_Reckoner_push_7 : decode kY_Reckoner_push.2.1 7 = .ok (.aload_n 0, 1) := by decide +kernel
theorem d_Reckoner_push_8 : decode kY_Reckoner_push.2.1 8 = .ok (.getfield 46, 3) := by decide +kernel
theorem d_Reckoner_push_11 : decode kY_Reckoner_push.2.1 11 = .ok (.bipush 64, 2) := by decide +kernel
theorem d_Reckoner_push_13 : decode kY_Reckoner_push.2.1 13 = .ok (.if_icmp .ge 23, 3) := by decide +kernel
theorem d_Reckoner_push_16 : decode kY_Reckoner_push.2.1 16 = .ok (.aload_n 0, 1) := by decide +kernel
theorem d_Reckoner_push_17 : decode kY_Reckoner_push.2.1 17 = .ok (.getfield 19, 3) := by decide +kernel
theorem d_Reckoner_push_20 : decode kY_Reckoner_push.2.1 20 = .ok (.aload_n 0, 1) := by decide +kernel
theorem d_Reckoner_push_21 : decode kY_Reckoner_push.2.1 21 = .ok (.getfield 46, 3) := by decide +kernel
theorem d_Reckoner_push_24 : decode kY_Reckoner_push.2.1 24 = .ok (.lload_n 1, 1) := by decide +kernel
theorem d_Reckoner_push_25 : decode kY_Reckoner_push.2.1 25 = .ok (.lastore, 1) := by decide +kernel
theorem d_Reckoner_push_26 : decode kY_Reckoner_push.2.1 26 = .ok (.aload_n 0, 1) := by decide +kernel
theorem d_Reckoner_push_27 : decode kY_Reckoner_push.2.1 27 = .ok (.dup, 1) := by decide +kernel
theorem d_Reckoner_push_28 : decode kY_Reckoner_push.2.1 28 = .ok (.getfield 46, 3) := by decide +kernel
theorem d_Reckoner_push_31 : decode kY_Reckoner_push.2.1 31 = .ok (.iconst 1, 1) := by decide +kernel
theorem d_Reckoner_push_32 : decode kY_Reckoner_push.2.1 32 = .ok (.iadd, 1) := by decide +kernel
theorem d_Reckoner_push_33 : decode kY_Reckoner_push.2.1 33 = .ok (.putfield 46, 3) := by decide +kernel
def w_Reckoner_push : List Nat := [1003, 1052]
theorem tc_Reckoner_push {g : mj_G} {l : Launch} {d : Nat} {T0 : tm_H} {M0 : mj_M} {n0 x9 : Nat} {o0 : Nat} {x1 : Int64} (h_o0 : T0 o0 = some (0, 10, 0)) (I0 : tm_I tm_FT (tm_in w_Reckoner_push) x9 T0 M0 n0 T0 M0 n0) : mj_Met g l kY_Reckoner_push d [.ref o0, .long x1] M0 n0 0 0 (tm_Q tm_FT (tm_in w_Reckoner_push) x9 T0 M0 n0 (fun r _ _ => r = none)) := by
  refine mj_enter (by decide) (Nat.le_of_ble_eq_true rfl) ?_
  refine mv_aload_n d_Reckoner_push_0 rfl rfl ?_
  obtain ⟨v2, q1⟩ := tm_atI I0 h_o0 (k := 3) rfl
  refine tr_getK q1 d_Reckoner_push_1 f_Reckoner_46_10 ?_
  have := mz_hi v2
  refine mv_if_ltZ (tgt := 36) (a := v2.toInt) d_Reckoner_push_4 (by decide) rfl (fun b3 => ?_) (fun b3 => ?_)
  · exact mv_vret d_Reckoner_push_36 rfl ⟨_, I0, rfl⟩
  · refine mv_aload_n d_Reckoner_push_7 rfl rfl ?_
    refine tr_getK (k := 3) q1 d_Reckoner_push_8 f_Reckoner_46_10 ?_
    refine mv_bipush (v := 64) d_Reckoner_push_11 (by decide) ?_
    have := mz_hi v2
    refine mv_icmp_geZ (tgt := 36) (a := v2.toInt) (b := 64) d_Reckoner_push_13 (by decide) rfl (by decide) (fun b4 => ?_) (fun b4 => ?_)
    · exact mv_vret d_Reckoner_push_36 rfl ⟨_, I0, rfl⟩
    · refine mv_aload_n d_Reckoner_push_16 rfl rfl ?_
      obtain ⟨a6, q5, t_a6⟩ := tm_atR I0 h_o0 (k := 2) rfl
      refine tr_getK q5 d_Reckoner_push_17 f_Reckoner_19_10 ?_
      refine mv_aload_n d_Reckoner_push_20 rfl rfl ?_
      refine tr_getK (k := 3) q1 d_Reckoner_push_21 f_Reckoner_46_10 ?_
      refine mv_lload_n d_Reckoner_push_24 rfl rfl ?_
      refine tr_lastK tm_okF I0 t_a6 (by decide) (Or.inl (by decide)) d_Reckoner_push_25 (vp_in_iff.mpr (by omega)) (fun M7 I8 K9 => ?_)
      refine mv_aload_n d_Reckoner_push_26 rfl rfl ?_
      refine mv_dup d_Reckoner_push_27 rfl ?_
      refine tr_getK (k := 3) (K9 _ 10 3 _ q1) d_Reckoner_push_28 f_Reckoner_46_10 ?_
      refine mv_iconst (v := 1) d_Reckoner_push_31 (by decide) ?_
      refine mv_iadd d_Reckoner_push_32 ?_
      refine tr_putK tm_okF I8 h_o0 (k := 3) rfl ⟨_, rfl⟩ (Or.inl (by decide)) d_Reckoner_push_33 p_Reckoner_46_10 rfl rfl (fun M10 I11 q12 K13 => ?_)
      exact mv_vret d_Reckoner_push_36 rfl ⟨_, I11, rfl⟩
theorem lV_Reckoner_58 : mj_lV "TrustDesk$Reckoner" 58 kY_Reckoner_push 1 := ⟨⟨(mj_in1 (List.mem_of_getElem? (i := 893) (by decide +kernel)) rfl), (mj_in1 (List.mem_of_getElem? (i := 4) (by decide +kernel)) rfl), (mj_in1 (List.mem_of_getElem? (i := 896) (by decide +kernel)) rfl), by decide, rfl, by decide⟩, (mj_in1 (List.mem_of_getElem? (i := 895) (by decide +kernel)) rfl), (mj_in (List.mem_append_left _ (List.mem_of_getElem? (i := 43) (by decide +kernel))) rfl)⟩
theorem d_Reckoner_run_136 : decode kY_Reckoner_run.2.1 136 = .ok (.iinc 2 1, 3) := by decide +kernel
theorem d_Reckoner_run_139 : decode kY_Reckoner_run.2.1 139 = .ok (.goto (-122), 3) := by decide +kernel
theorem d_Reckoner_run_102 : decode kY_Reckoner_run.2.1 102 = .ok (.aload_n 0, 1) := by decide +kernel
theorem d_Reckoner_run_103 : decode kY_Reckoner_run.2.1 103 = .ok (.lconst 1, 1) := by decide +kernel
theorem d_Reckoner_run_104 : decode kY_Reckoner_run.2.1 104 = .ok (.aload_n 0, 1) := by decide +kernel
theorem d_Reckoner_run_105 : decode kY_Reckoner_run.2.1 105 = .ok (.invokevirtual 62, 3) := by decide +kernel
theorem d_Reckoner_run_108 : decode kY_Reckoner_run.2.1 108 = .ok (.lsub, 1) := by decide +kernel
theorem d_Reckoner_run_109 : decode kY_Reckoner_run.2.1 109 = .ok (.invokevirtual 58, 3) := by decide +kernel
theorem d_Reckoner_run_112 : decode kY_Reckoner_run.2.1 112 = .ok (.goto 24, 3) := by decide +kernel
theorem d_Reckoner_run_66 : decode kY_Reckoner_run.2.1 66 = .ok (.aload_n 0, 1) := by decide +kernel
theorem d_Reckoner_run_67 : decode kY_Reckoner_run.2.1 67 = .ok (.iload 4, 2) := by decide +kernel
theorem d_Reckoner_run_69 : decode kY_Reckoner_run.2.1 69 = .ok (.ifCond .lt 20, 3) := by decide +kernel
theorem d_Reckoner_run_89 : decode kY_Reckoner_run.2.1 89 = .ok (.lconst 0, 1) := by decide +kernel
theorem d_Reckoner_run_90 : decode kY_Reckoner_run.2.1 90 = .ok (.invokevirtual 58, 3) := by decide +kernel
theorem d_Reckoner_run_93 : decode kY_Reckoner_run.2.1 93 = .ok (.goto 43, 3) := by decide +kernel
theorem d_Reckoner_run_72 : decode kY_Reckoner_run.2.1 72 = .ok (.iload 4, 2) := by decide +kernel
theorem d_Reckoner_run_74 : decode kY_Reckoner_run.2.1 74 = .ok (.bipush 13, 2) := by decide +kernel
theorem d_Reckoner_run_76 : decode kY_Reckoner_run.2.1 76 = .ok (.if_icmp .ge 13, 3) := by decide +kernel
theorem d_Reckoner_run_79 : decode kY_Reckoner_run.2.1 79 = .ok (.aload_n 0, 1) := by decide +kernel
theorem d_Reckoner_run_80 : decode kY_Reckoner_run.2.1 80 = .ok (.getfield 9, 3) := by decide +kernel
theorem d_Reckoner_run_83 : decode kY_Reckoner_run.2.1 83 = .ok (.iload 4, 2) := by decide +kernel
theorem d_Reckoner_run_85 : decode kY_Reckoner_run.2.1 85 = .ok (.laload, 1) := by decide +kernel
theorem d_Reckoner_run_86 : decode kY_Reckoner_run.2.1 86 = .ok (.goto 4, 3) := by decide +kernel
theorem d_Reckoner_run_51 : decode kY_Reckoner_run.2.1 51 = .ok (.aload_n 0, 1) := by decide +kernel
theorem d_Reckoner_run_52 : decode kY_Reckoner_run.2.1 52 = .ok (.iload 4, 2) := by decide +kernel
theorem d_Reckoner_run_54 : decode kY_Reckoner_run.2.1 54 = .ok (.i2l, 1) := by decide +kernel
theorem d_Reckoner_run_55 : decode kY_Reckoner_run.2.1 55 = .ok (.invokevirtual 58, 3) := by decide +kernel
theorem d_Reckoner_run_58 : decode kY_Reckoner_run.2.1 58 = .ok (.goto 78, 3) := by decide +kernel
def w_Reckoner_run : List Nat := [1001, 1003, 1004, 1052]
theorem tc_Reckoner_run {g : mj_G} {l : Launch} {d : Nat} {T0 : tm_H} {M0 : mj_M} {n0 x9 : Nat} {o0 : Nat} {o1 : Nat} (h_o0 : T0 o0 = some (0, 10, 0)) (h_o1 : T0 o1 = some (0, 2, 0)) (I0 : tm_I tm_FT (tm_in w_Reckoner_run) x9 T0 M0 n0 T0 M0 n0) : mj_Met g l kY_Reckoner_run (d + 3) [.ref o0, .ref o1] M0 n0 0 0 (tm_Q tm_FT (tm_in w_Reckoner_run) x9 T0 M0 n0 (fun r _ _ => ∃ v : Int64, r = some (.long v))) := by
  refine mj_enter (by decide) (Nat.le_of_ble_eq_true rfl) ?_
  refine mv_aload_n d_Reckoner_run_0 rfl rfl ?_
  refine mv_iconst (v := 0) d_Reckoner_run_1 (by decide) ?_
  refine tr_putK tm_okF I0 h_o0 (k := 3) rfl ⟨_, rfl⟩ (Or.inl (by decide)) d_Reckoner_run_2 p_Reckoner_46_10 rfl rfl (fun M1 I2 q3 K4 => ?_)
  refine mv_aload_n d_Reckoner_run_5 rfl rfl ?_
  refine mv_iconst (v := 0) d_Reckoner_run_6 (by decide) ?_
  refine tr_putK tm_okF I2 h_o0 (k := 4) rfl ⟨_, rfl⟩ (Or.inl (by decide)) d_Reckoner_run_7 p_Reckoner_49_10 rfl rfl (fun M5 I6 q7 K8 => ?_)
  refine mv_aload_n d_Reckoner_run_10 rfl rfl ?_
  refine mv_iconst (v := (-1)) d_Reckoner_run_11 (by decide) ?_
  refine tr_putK tm_okF I6 h_o0 (k := 1) rfl ⟨_, rfl⟩ (Or.inl (by decide)) d_Reckoner_run_12 p_Reckoner_15_10 rfl rfl (fun M9 I10 q11 K12 => ?_)
  refine mv_iconst (v := 0) d_Reckoner_run_15 (by decide) ?_
  refine mv_istore_n (lv' := [(2, .int 0), (0, .ref o0), (1, .ref o1)]) d_Reckoner_run_16 rfl (by decide) rfl ?_
  have L17_13 : ∀ (k : Nat) (i2_13 : Int32) (T_13 : tm_H) (M_13 : mj_M) (n_13 : Nat), tm_I tm_FT (tm_in w_Reckoner_run) x9 T0 M0 n0 T_13 M_13 n_13 → T_13 o0 = some (0, 10, 0) → T_13 o1 = some (0, 2, 0) → 0 ≤ i2_13.toInt → 2147483647 - i2_13.toInt < (k : Int) → mj_V g l kY_Reckoner_run (d + 3) 17 [(2, .int i2_13), (0, .ref o0), (1, .ref o1)] [] M_13 n_13 0 0 (tm_Q tm_FT (tm_in w_Reckoner_run) x9 T0 M0 n0 (fun r _ _ => ∃ v : Int64, r = some (.long v))) := by
    intro k13
    induction k13 with
    | zero =>
      intro i2_13 T_13 M_13 n_13 I_13 h_q0_13 h_q1_13 iv0_13 hk13
      have := mz_hi i2_13
      omega
    | succ k13 ih13 =>
      intro i2_13 T_13 M_13 n_13 I_13 h_q0_13 h_q1_13 iv0_13 hk13
      refine mv_iload_n d_Reckoner_run_17 rfl rfl ?_
      refine mv_aload_n d_Reckoner_run_18 rfl rfl ?_
      obtain ⟨a15, q14, t_a15⟩ := tm_atR I_13 h_q1_13 (k := 0) rfl
      refine tr_getK q14 d_Reckoner_run_19 f_Reckoner_52_2 ?_
      obtain ⟨N16, f17, b18, m19⟩ := I_13.1 _ _ t_a15
      have b20 : (nI N16).toInt = (N16 : Int) := nI_toInt (by omega)
      refine mv_alen (v := nI N16) d_Reckoner_run_22 m19 (by decide) rfl ?_
      have := mz_hi i2_13
      have := mz_hi (nI N16)
      refine mv_icmp_geZ (tgt := 142) (a := i2_13.toInt) (b := (nI N16).toInt) d_Reckoner_run_23 (by decide) rfl rfl (fun b21 => ?_) (fun b21 => ?_)
      · refine mv_aload_n d_Reckoner_run_142 rfl rfl ?_
        obtain ⟨_, b28, -⟩ := I_13.1 _ _ h_q0_13
        refine mv_callV (kc' := 0) (ks' := 0) (As := []) (st9 := [.ref o0]) d_Reckoner_run_143 lV_Reckoner_62 b28 rfl (tc_Reckoner_pop (d := (d + 2)) (x9 := x9) (o0 := o0) h_q0_13 I_13.start) rfl (Nat.le_of_ble_eq_true rfl) (Nat.le_of_ble_eq_true rfl) (Nat.le_of_ble_eq_true rfl) (hst := rfl) (fun b22r M23 n24 b22 => ?_)
        obtain ⟨T25, J26, v29, rfl⟩ := b22
        have I27 := I_13.call J26 (tm_sub (by decide)) (Or.inl rfl)
        have t30 := J26.up h_q0_13
        have t31 := J26.up h_q1_13
        have q32 := J26.keep h_q1_13 (by decide) q14
        have t33 := J26.up t_a15
        exact mv_lret d_Reckoner_run_146 rfl ⟨_, I27, _, rfl⟩
      · refine mv_aload_n d_Reckoner_run_26 rfl rfl ?_
        refine tr_getK (k := 0) q14 d_Reckoner_run_27 f_Reckoner_52_2 ?_
        refine mv_iload_n d_Reckoner_run_30 rfl rfl ?_
        obtain ⟨v34, b35⟩ : ∃ v9, f17 i2_13.toNatClampNeg = v9 := ⟨_, rfl⟩
        refine mv_iald (v := v34) d_Reckoner_run_31 m19 (vp_in_iff.mpr (by omega)) b35 ?_
        refine mv_bipush (v := 16) d_Reckoner_run_32 (by decide) ?_
        refine mv_irem d_Reckoner_run_34 (by decide) ?_
        refine mv_istore_n (lv' := [(3, .int (v34 - v34 / 16 * 16)), (2, .int i2_13), (0, .ref o0), (1, .ref o1)]) d_Reckoner_run_35 rfl (by decide) rfl ?_
        refine mv_aload_n d_Reckoner_run_36 rfl rfl ?_
        refine tr_getK (k := 0) q14 d_Reckoner_run_37 f_Reckoner_52_2 ?_
        refine mv_iload_n d_Reckoner_run_40 rfl rfl ?_
        obtain ⟨v36, b37⟩ : ∃ v9, f17 i2_13.toNatClampNeg = v9 := ⟨_, rfl⟩
        refine mv_iald (v := v36) d_Reckoner_run_41 m19 (vp_in_iff.mpr (by omega)) b37 ?_
        refine mv_bipush (v := 16) d_Reckoner_run_42 (by decide) ?_
        refine mv_idiv d_Reckoner_run_44 (by decide) ?_
        refine mv_istore (lv' := [(4, .int (v36 / 16)), (3, .int (v34 - v34 / 16 * 16)), (2, .int i2_13), (0, .ref o0), (1, .ref o1)]) d_Reckoner_run_45 (by decide) rfl ?_
        refine mv_iload_n d_Reckoner_run_47 rfl rfl ?_
        have := mz_hi (v34 - v34 / 16 * 16)
        refine mv_if_neZ (tgt := 61) (a := (v34 - v34 / 16 * 16).toInt) d_Reckoner_run_48 (by decide) rfl (fun b38 => ?_) (fun b38 => ?_)
        · refine mv_iload_n d_Reckoner_run_61 rfl rfl ?_
          refine mv_iconst (v := 1) d_Reckoner_run_62 (by decide) ?_
          have := mz_hi (v34 - v34 / 16 * 16)
          refine mv_icmp_neZ (tgt := 96) (a := (v34 - v34 / 16 * 16).toInt) (b := 1) d_Reckoner_run_63 (by decide) rfl (by decide) (fun b39 => ?_) (fun b39 => ?_)
          · refine mv_iload_n d_Reckoner_run_96 rfl rfl ?_
            refine mv_bipush (v := 8) d_Reckoner_run_97 (by decide) ?_
            have := mz_hi (v34 - v34 / 16 * 16)
            refine mv_icmp_neZ (tgt := 115) (a := (v34 - v34 / 16 * 16).toInt) (b := 8) d_Reckoner_run_99 (by decide) rfl (by decide) (fun b40 => ?_) (fun b40 => ?_)
            · refine mv_aload_n d_Reckoner_run_115 rfl rfl ?_
              obtain ⟨_, b47, -⟩ := I_13.1 _ _ h_q0_13
              refine mv_callV (kc' := 0) (ks' := 0) (As := []) (st9 := [.ref o0]) d_Reckoner_run_116 lV_Reckoner_62 b47 rfl (tc_Reckoner_pop (d := (d + 2)) (x9 := x9) (o0 := o0) h_q0_13 I_13.start) rfl (Nat.le_of_ble_eq_true rfl) (Nat.le_of_ble_eq_true rfl) (Nat.le_of_ble_eq_true rfl) (hst := rfl) (fun b41r M42 n43 b41 => ?_)
              obtain ⟨T44, J45, v48, rfl⟩ := b41
              have I46 := I_13.call J45 (tm_sub (by decide)) (Or.inl rfl)
              have t49 := J45.up h_q0_13
              have t50 := J45.up h_q1_13
              have q51 := J45.keep h_q1_13 (by decide) q14
              have t52 := J45.up t_a15
              refine mv_lstore (lv' := [(5, .long v48), (4, .int (v36 / 16)), (3, .int (v34 - v34 / 16 * 16)), (2, .int i2_13), (0, .ref o0), (1, .ref o1)]) d_Reckoner_run_119 (by decide) rfl ?_
              refine mv_aload_n d_Reckoner_run_121 rfl rfl ?_
              refine mv_aload_n d_Reckoner_run_122 rfl rfl ?_
              refine mv_iload_n d_Reckoner_run_123 rfl rfl ?_
              refine mv_aload_n d_Reckoner_run_124 rfl rfl ?_
              obtain ⟨_, b59, -⟩ := I46.1 _ _ t49
              refine mv_callV (kc' := 0) (ks' := 0) (As := []) (st9 := [.ref o0, .int (v34 - v34 / 16 * 16), .ref o0, .ref o0]) d_Reckoner_run_125 lV_Reckoner_62 b59 rfl (tc_Reckoner_pop (d := (d + 2)) (x9 := x9) (o0 := o0) t49 I46.start) rfl (Nat.le_of_ble_eq_true rfl) (Nat.le_of_ble_eq_true rfl) (Nat.le_of_ble_eq_true rfl) (hst := rfl) (fun b53r M54 n55 b53 => ?_)
              obtain ⟨T56, J57, v60, rfl⟩ := b53
              have I58 := I46.call J57 (tm_sub (by decide)) (Or.inl rfl)
              have t61 := J57.up t49
              have t62 := J57.up t50
              have q63 := J57.keep t50 (by decide) q51
              have t64 := J57.up t52
              refine mv_lload d_Reckoner_run_128 rfl ?_
              obtain ⟨_, b71, -⟩ := I58.1 _ _ t61
              refine mv_callV (kc' := 0) (ks' := 0) (As := [.int (v34 - v34 / 16 * 16), .long v60, .long v48]) (st9 := [.long v48, .long v60, .int (v34 - v34 / 16 * 16), .ref o0, .ref o0]) d_Reckoner_run_130 lV_Reckoner_66 b71 rfl (tc_Reckoner_worked (d := d) (x9 := x9) (o0 := o0) (x1 := (v34 - v34 / 16 * 16)) (x2 := v60) (x3 := v48) t61 I58.start) rfl (Nat.le_of_ble_eq_true rfl) (Nat.le_of_ble_eq_true rfl) (Nat.le_of_ble_eq_true rfl) (hst := rfl) (fun b65r M66 n67 b65 => ?_)
              obtain ⟨T68, J69, v72, rfl⟩ := b65
              have I70 := I58.call J69 (tm_sub (by decide)) (Or.inl rfl)
              have t73 := J69.up t61
              have t74 := J69.up t62
              have q75 := J69.keep t62 (by decide) q63
              have t76 := J69.up t64
              obtain ⟨_, b83, -⟩ := I70.1 _ _ t73
              refine mv_callV (kc' := 0) (ks' := 0) (As := [.long v72]) (st9 := [.long v72, .ref o0]) d_Reckoner_run_133 lV_Reckoner_58 b83 rfl (tc_Reckoner_push (d := (d + 2)) (x9 := x9) (o0 := o0) (x1 := v72) t73 I70.start) rfl (Nat.le_of_ble_eq_true rfl) (Nat.le_of_ble_eq_true rfl) (Nat.le_of_ble_eq_true rfl) (hst := rfl) (fun b77r M78 n79 b77 => ?_)
              obtain ⟨T80, J81, rfl⟩ := b77
              have I82 := I70.call J81 (tm_sub (by decide)) (Or.inl rfl)
              have t84 := J81.up t73
              have t85 := J81.up t74
              have q86 := J81.keep t74 (by decide) q75
              have t87 := J81.up t76
              refine mv_iinc (v := (i2_13 + 1)) (lv' := [(2, .int (i2_13 + 1)), (5, .long v48), (4, .int (v36 / 16)), (3, .int (v34 - v34 / 16 * 16)), (0, .ref o0), (1, .ref o1)]) d_Reckoner_run_136 rfl rfl (by decide) rfl ?_
              refine mv_goto (tgt := 17) d_Reckoner_run_139 (by decide) ?_
              refine mv_locals (lv' := [(2, .int (i2_13 + 1)), (0, .ref o0), (1, .ref o1)]) (by intro q hq; simp only [List.mem_cons, List.not_mem_nil, or_false] at hq; rcases hq with rfl | rfl | rfl <;> rfl) ?_
              have b88 : (i2_13 + 1).toInt = i2_13.toInt + 1 := mz_addn 1 1 (by decide) (by have := mz_lo i2_13; omega) (by have := mz_hi i2_13; omega)
              exact (ih13 (i2_13 + 1) T80 M78 n79 I82 t84 t85 (by first | omega | decide) (by omega))
            · refine mv_aload_n d_Reckoner_run_102 rfl rfl ?_
              refine mv_lconst (v := 1) d_Reckoner_run_103 (by decide) ?_
              refine mv_aload_n d_Reckoner_run_104 rfl rfl ?_
              obtain ⟨_, b95, -⟩ := I_13.1 _ _ h_q0_13
              refine mv_callV (kc' := 0) (ks' := 0) (As := []) (st9 := [.ref o0, .long 1, .ref o0]) d_Reckoner_run_105 lV_Reckoner_62 b95 rfl (tc_Reckoner_pop (d := (d + 2)) (x9 := x9) (o0 := o0) h_q0_13 I_13.start) rfl (Nat.le_of_ble_eq_true rfl) (Nat.le_of_ble_eq_true rfl) (Nat.le_of_ble_eq_true rfl) (hst := rfl) (fun b89r M90 n91 b89 => ?_)
              obtain ⟨T92, J93, v96, rfl⟩ := b89
              have I94 := I_13.call J93 (tm_sub (by decide)) (Or.inl rfl)
              have t97 := J93.up h_q0_13
              have t98 := J93.up h_q1_13
              have q99 := J93.keep h_q1_13 (by decide) q14
              have t100 := J93.up t_a15
              refine mv_lsub d_Reckoner_run_108 ?_
              obtain ⟨_, b107, -⟩ := I94.1 _ _ t97
              refine mv_callV (kc' := 0) (ks' := 0) (As := [.long (1 - v96)]) (st9 := [.long (1 - v96), .ref o0]) d_Reckoner_run_109 lV_Reckoner_58 b107 rfl (tc_Reckoner_push (d := (d + 2)) (x9 := x9) (o0 := o0) (x1 := (1 - v96)) t97 I94.start) rfl (Nat.le_of_ble_eq_true rfl) (Nat.le_of_ble_eq_true rfl) (Nat.le_of_ble_eq_true rfl) (hst := rfl) (fun b101r M102 n103 b101 => ?_)
              obtain ⟨T104, J105, rfl⟩ := b101
              have I106 := I94.call J105 (tm_sub (by decide)) (Or.inl rfl)
              have t108 := J105.up t97
              have t109 := J105.up t98
              have q110 := J105.keep t98 (by decide) q99
              have t111 := J105.up t100
              refine mv_goto (tgt := 136) d_Reckoner_run_112 (by decide) ?_
              refine mv_iinc (v := (i2_13 + 1)) (lv' := [(2, .int (i2_13 + 1)), (4, .int (v36 / 16)), (3, .int (v34 - v34 / 16 * 16)), (0, .ref o0), (1, .ref o1)]) d_Reckoner_run_136 rfl rfl (by decide) rfl ?_
              refine mv_goto (tgt := 17) d_Reckoner_run_139 (by decide) ?_
              refine mv_locals (lv' := [(2, .int (i2_13 + 1)), (0, .ref o0), (1, .ref o1)]) (by intro q hq; simp only [List.mem_cons, List.not_mem_nil, or_false] at hq; rcases hq with rfl | rfl | rfl <;> rfl) ?_
              have b112 : (i2_13 + 1).toInt = i2_13.toInt + 1 := mz_addn 1 1 (by decide) (by have := mz_lo i2_13; omega) (by have := mz_hi i2_13; omega)
              exact (ih13 (i2_13 + 1) T104 M102 n103 I106 t108 t109 (by first | omega | decide) (by omega))
          · refine mv_aload_n d_Reckoner_run_66 rfl rfl ?_
            refine mv_iload d_Reckoner_run_67 rfl ?_
            have := mz_hi (v36 / 16)
            refine mv_if_ltZ (tgt := 89) (a := (v36 / 16).toInt) d_Reckoner_run_69 (by decide) rfl (fun b113 => ?_) (fun b113 => ?_)
            · refine mv_lconst (v := 0) d_Reckoner_run_89 (by decide) ?_
              obtain ⟨_, b120, -⟩ := I_13.1 _ _ h_q0_13
              refine mv_callV (kc' := 0) (ks' := 0) (As := [.long 0]) (st9 := [.long 0, .ref o0]) d_Reckoner_run_90 lV_Reckoner_58 b120 rfl (tc_Reckoner_push (d := (d + 2)) (x9 := x9) (o0 := o0) (x1 := 0) h_q0_13 I_13.start) rfl (Nat.le_of_ble_eq_true rfl) (Nat.le_of_ble_eq_true rfl) (Nat.le_of_ble_eq_true rfl) (hst := rfl) (fun b114r M115 n116 b114 => ?_)
              obtain ⟨T117, J118, rfl⟩ := b114
              have I119 := I_13.call J118 (tm_sub (by decide)) (Or.inl rfl)
              have t121 := J118.up h_q0_13
              have t122 := J118.up h_q1_13
              have q123 := J118.keep h_q1_13 (by decide) q14
              have t124 := J118.up t_a15
              refine mv_goto (tgt := 136) d_Reckoner_run_93 (by decide) ?_
              refine mv_iinc (v := (i2_13 + 1)) (lv' := [(2, .int (i2_13 + 1)), (4, .int (v36 / 16)), (3, .int (v34 - v34 / 16 * 16)), (0, .ref o0), (1, .ref o1)]) d_Reckoner_run_136 rfl rfl (by decide) rfl ?_
              refine mv_goto (tgt := 17) d_Reckoner_run_139 (by decide) ?_
              refine mv_locals (lv' := [(2, .int (i2_13 + 1)), (0, .ref o0), (1, .ref o1)]) (by intro q hq; simp only [List.mem_cons, List.not_mem_nil, or_false] at hq; rcases hq with rfl | rfl | rfl <;> rfl) ?_
              have b125 : (i2_13 + 1).toInt = i2_13.toInt + 1 := mz_addn 1 1 (by decide) (by have := mz_lo i2_13; omega) (by have := mz_hi i2_13; omega)
              exact (ih13 (i2_13 + 1) T117 M115 n116 I119 t121 t122 (by first | omega | decide) (by omega))
            · refine mv_iload d_Reckoner_run_72 rfl ?_
              refine mv_bipush (v := 13) d_Reckoner_run_74 (by decide) ?_
              have := mz_hi (v36 / 16)
              refine mv_icmp_geZ (tgt := 89) (a := (v36 / 16).toInt) (b := 13) d_Reckoner_run_76 (by decide) rfl (by decide) (fun b126 => ?_) (fun b126 => ?_)
              · refine mv_lconst (v := 0) d_Reckoner_run_89 (by decide) ?_
                obtain ⟨_, b133, -⟩ := I_13.1 _ _ h_q0_13
                refine mv_callV (kc' := 0) (ks' := 0) (As := [.long 0]) (st9 := [.long 0, .ref o0]) d_Reckoner_run_90 lV_Reckoner_58 b133 rfl (tc_Reckoner_push (d := (d + 2)) (x9 := x9) (o0 := o0) (x1 := 0) h_q0_13 I_13.start) rfl (Nat.le_of_ble_eq_true rfl) (Nat.le_of_ble_eq_true rfl) (Nat.le_of_ble_eq_true rfl) (hst := rfl) (fun b127r M128 n129 b127 => ?_)
                obtain ⟨T130, J131, rfl⟩ := b127
                have I132 := I_13.call J131 (tm_sub (by decide)) (Or.inl rfl)
                have t134 := J131.up h_q0_13
                have t135 := J131.up h_q1_13
                have q136 := J131.keep h_q1_13 (by decide) q14
                have t137 := J131.up t_a15
                refine mv_goto (tgt := 136) d_Reckoner_run_93 (by decide) ?_
                refine mv_iinc (v := (i2_13 + 1)) (lv' := [(2, .int (i2_13 + 1)), (4, .int (v36 / 16)), (3, .int (v34 - v34 / 16 * 16)), (0, .ref o0), (1, .ref o1)]) d_Reckoner_run_136 rfl rfl (by decide) rfl ?_
                refine mv_goto (tgt := 17) d_Reckoner_run_139 (by decide) ?_
                refine mv_locals (lv' := [(2, .int (i2_13 + 1)), (0, .ref o0), (1, .ref o1)]) (by intro q hq; simp only [List.mem_cons, List.not_mem_nil, or_false] at hq; rcases hq with rfl | rfl | rfl <;> rfl) ?_
                have b138 : (i2_13 + 1).toInt = i2_13.toInt + 1 := mz_addn 1 1 (by decide) (by have := mz_lo i2_13; omega) (by have := mz_hi i2_13; omega)
                exact (ih13 (i2_13 + 1) T130 M128 n129 I132 t134 t135 (by first | omega | decide) (by omega))
              · refine mv_aload_n d_Reckoner_run_79 rfl rfl ?_
                obtain ⟨a140, q139, t_a140⟩ := tm_atR I_13 h_q0_13 (k := 0) rfl
                refine tr_getK q139 d_Reckoner_run_80 f_Reckoner_9_10 ?_
                refine mv_iload d_Reckoner_run_83 rfl ?_
                refine tr_lald I_13 t_a140 (by decide) d_Reckoner_run_85 (vp_in_iff.mpr (by omega)) (fun v141 => ?_)
                refine mv_goto (tgt := 90) d_Reckoner_run_86 (by decide) ?_
                obtain ⟨_, b148, -⟩ := I_13.1 _ _ h_q0_13
                refine mv_callV (kc' := 0) (ks' := 0) (As := [.long v141]) (st9 := [.long v141, .ref o0]) d_Reckoner_run_90 lV_Reckoner_58 b148 rfl (tc_Reckoner_push (d := (d + 2)) (x9 := x9) (o0 := o0) (x1 := v141) h_q0_13 I_13.start) rfl (Nat.le_of_ble_eq_true rfl) (Nat.le_of_ble_eq_true rfl) (Nat.le_of_ble_eq_true rfl) (hst := rfl) (fun b142r M143 n144 b142 => ?_)
                obtain ⟨T145, J146, rfl⟩ := b142
                have I147 := I_13.call J146 (tm_sub (by decide)) (Or.inl rfl)
                have t149 := J146.up h_q0_13
                have t150 := J146.up h_q1_13
                have q151 := J146.keep h_q1_13 (by decide) q14
                have t152 := J146.up t_a15
                have q153 := J146.keep h_q0_13 (by decide) q139
                have t154 := J146.up t_a140
                refine mv_goto (tgt := 136) d_Reckoner_run_93 (by decide) ?_
                refine mv_iinc (v := (i2_13 + 1)) (lv' := [(2, .int (i2_13 + 1)), (4, .int (v36 / 16)), (3, .int (v34 - v34 / 16 * 16)), (0, .ref o0), (1, .ref o1)]) d_Reckoner_run_136 rfl rfl (by decide) rfl ?_
                refine mv_goto (tgt := 17) d_Reckoner_run_139 (by decide) ?_
                refine mv_locals (lv' := [(2, .int (i2_13 + 1)), (0, .ref o0), (1, .ref o1)]) (by intro q hq; simp only [List.mem_cons, List.not_mem_nil, or_false] at hq; rcases hq with rfl | rfl | rfl <;> rfl) ?_
                have b155 : (i2_13 + 1).toInt = i2_13.toInt + 1 := mz_addn 1 1 (by decide) (by have := mz_lo i2_13; omega) (by have := mz_hi i2_13; omega)
                exact (ih13 (i2_13 + 1) T145 M143 n144 I147 t149 t150 (by first | omega | decide) (by omega))
        · refine mv_aload_n d_Reckoner_run_51 rfl rfl ?_
          refine mv_iload d_Reckoner_run_52 rfl ?_
          refine mv_i2l (v := (v36 / 16).toInt64) d_Reckoner_run_54 rfl ?_
          obtain ⟨_, b162, -⟩ := I_13.1 _ _ h_q0_13
          refine mv_callV (kc' := 0) (ks' := 0) (As := [.long ((v36 / 16).toInt64)]) (st9 := [.long ((v36 / 16).toInt64), .ref o0]) d_Reckoner_run_55 lV_Reckoner_58 b162 rfl (tc_Reckoner_push (d := (d + 2)) (x9 := x9) (o0 := o0) (x1 := (v36 / 16).toInt64) h_q0_13 I_13.start) rfl (Nat.le_of_ble_eq_true rfl) (Nat.le_of_ble_eq_true rfl) (Nat.le_of_ble_eq_true rfl) (hst := rfl) (fun b156r M157 n158 b156 => ?_)
          obtain ⟨T159, J160, rfl⟩ := b156
          have I161 := I_13.call J160 (tm_sub (by decide)) (Or.inl rfl)
          have t163 := J160.up h_q0_13
          have t164 := J160.up h_q1_13
          have q165 := J160.keep h_q1_13 (by decide) q14
          have t166 := J160.up t_a15
          refine mv_goto (tgt := 136) d_Reckoner_run_58 (by decide) ?_
          refine mv_iinc (v := (i2_13 + 1)) (lv' := [(2, .int (i2_13 + 1)), (4, .int (v36 / 16)), (3, .int (v34 - v34 / 16 * 16)), (0, .ref o0), (1, .ref o1)]) d_Reckoner_run_136 rfl rfl (by decide) rfl ?_
          refine mv_goto (tgt := 17) d_Reckoner_run_139 (by decide) ?_
          refine mv_locals (lv' := [(2, .int (i2_13 + 1)), (0, .ref o0), (1, .ref o1)]) (by intro q hq; simp only [List.mem_cons, List.not_mem_nil, or_false] at hq; rcases hq with rfl | rfl | rfl <;> rfl) ?_
          have b167 : (i2_13 + 1).toInt = i2_13.toInt + 1 := mz_addn 1 1 (by decide) (by have := mz_lo i2_13; omega) (by have := mz_hi i2_13; omega)
          exact (ih13 (i2_13 + 1) T159 M157 n158 I161 t163 t164 (by first | omega | decide) (by omega))
  exact mv_less (Nat.zero_le _) (Nat.zero_le _) (L17_13 4294967296 0 T0 M9 n0 I10 h_o0 h_o1 (by first | omega | decide) (by show (2147483647 - (0 : Int) : Int) < _; decide))
theorem lV_TrustDesk_214 : mj_lV "TrustDesk" 214 kY_Reckoner_run 1 := ⟨⟨(mj_in1 (List.mem_of_getElem? (i := 889) (by decide +kernel)) rfl), (mj_in1 (List.mem_of_getElem? (i := 4) (by decide +kernel)) rfl), (mj_in1 (List.mem_of_getElem? (i := 892) (by decide +kernel)) rfl), by decide, rfl, by decide⟩, (mj_in1 (List.mem_of_getElem? (i := 890) (by decide +kernel)) rfl), (mj_in1 (List.mem_of_getElem? (i := 891) (by decide +kernel)) rfl)⟩
theorem d_TrustDesk_closeEnd_22 : decode kY_TrustDesk_closeEnd.2.1 22 = .ok (.lconst 0, 1) := by decide +kernel
theorem d_TrustDesk_closeEnd_23 : decode kY_TrustDesk_closeEnd.2.1 23 = .ok (.lcmp, 1) := by decide +kernel
theorem d_TrustDesk_closeEnd_24 : decode kY_TrustDesk_closeEnd.2.1 24 = .ok (.ifCond .ne 12, 3) := by decide +kernel
theorem d_TrustDesk_closeEnd_36 : decode kY_TrustDesk_closeEnd.2.1 36 = .ok (.aload_n 3, 1) := by decide +kernel
theorem d_TrustDesk_closeEnd_37 : decode kY_TrustDesk_closeEnd.2.1 37 = .ok (.iconst 0, 1) := by decide +kernel
theorem d_TrustDesk_closeEnd_38 : decode kY_TrustDesk_closeEnd.2.1 38 = .ok (.putfield 222, 3) := by decide +kernel
theorem p_TrustDesk_222_3 : mj_fp "TrustDesk" 222 3 2 (kt_End 2) false := ⟨kR_End, kF_End, 4, "TrustDesk$End", kt_End, rfl, kg_3, by decide, (mj_in1 (List.mem_of_getElem? (i := 792) (by decide +kernel)) rfl), Or.inl rfl, kto_End, kn_End, rfl, rfl, fun h => by cases h⟩
theorem d_TrustDesk_closeEnd_41 : decode kY_TrustDesk_closeEnd.2.1 41 = .ok (.lconst 0, 1) := by decide +kernel
theorem d_TrustDesk_closeEnd_42 : decode kY_TrustDesk_closeEnd.2.1 42 = .ok (.aload_n 0, 1) := by decide +kernel
theorem d_TrustDesk_closeEnd_43 : decode kY_TrustDesk_closeEnd.2.1 43 = .ok (.getfield 26, 3) := by decide +kernel
theorem d_TrustDesk_closeEnd_46 : decode kY_TrustDesk_closeEnd.2.1 46 = .ok (.aload_n 3, 1) := by decide +kernel
theorem d_TrustDesk_closeEnd_47 : decode kY_TrustDesk_closeEnd.2.1 47 = .ok (.getfield 204, 3) := by decide +kernel
theorem d_TrustDesk_closeEnd_50 : decode kY_TrustDesk_closeEnd.2.1 50 = .ok (.getfield 225, 3) := by decide +kernel
theorem f_TrustDesk_225_4 : mj_fl "TrustDesk" 225 4 2 := ⟨kR_EndText, kF_EndText, 5, "TrustDesk$EndText", rfl, kg_4, by decide, (mj_in1 (List.mem_of_getElem? (i := 763) (by decide +kernel)) rfl), Or.inl rfl⟩
theorem d_TrustDesk_closeEnd_53 : decode kY_TrustDesk_closeEnd.2.1 53 = .ok (.invokevirtual 214, 3) := by decide +kernel
theorem d_TrustDesk_closeEnd_56 : decode kY_TrustDesk_closeEnd.2.1 56 = .ok (.invokestatic 228, 3) := by decide +kernel
theorem d_TrustDesk_closeEnd_59 : decode kY_TrustDesk_closeEnd.2.1 59 = .ok (.lstore 6, 2) := by decide +kernel
theorem d_TrustDesk_closeEnd_61 : decode kY_TrustDesk_closeEnd.2.1 61 = .ok (.aload_n 1, 1) := by decide +kernel
theorem d_TrustDesk_closeEnd_62 : decode kY_TrustDesk_closeEnd.2.1 62 = .ok (.getfield 170, 3) := by decide +kernel
theorem f_TrustDesk_170_6 : mj_fl "TrustDesk" 170 6 3 := ⟨kR_Fund, kF_Fund, 15, "TrustDesk$Fund", rfl, kg_6, by decide, (mj_in1 (List.mem_of_getElem? (i := 672) (by decide +kernel)) rfl), Or.inl rfl⟩
theorem d_TrustDesk_closeEnd_65 : decode kY_TrustDesk_closeEnd.2.1 65 = .ok (.lload 6, 2) := by decide +kernel
theorem d_TrustDesk_closeEnd_67 : decode kY_TrustDesk_closeEnd.2.1 67 = .ok (.lcmp, 1) := by decide +kernel
theorem d_TrustDesk_closeEnd_68 : decode kY_TrustDesk_closeEnd.2.1 68 = .ok (.ifCond .lt 8, 3) := by decide +kernel
theorem d_TrustDesk_closeEnd_76 : decode kY_TrustDesk_closeEnd.2.1 76 = .ok (.aload_n 3, 1) := by decide +kernel
theorem d_TrustDesk_closeEnd_77 : decode kY_TrustDesk_closeEnd.2.1 77 = .ok (.getfield 204, 3) := by decide +kernel
theorem d_TrustDesk_closeEnd_80 : decode kY_TrustDesk_closeEnd.2.1 80 = .ok (.getfield 234, 3) := by decide +kernel
theorem f_TrustDesk_234_4 : mj_fl "TrustDesk" 234 4 4 := ⟨kR_EndText, kF_EndText, 5, "TrustDesk$EndText", rfl, kg_4, by decide, (mj_in1 (List.mem_of_getElem? (i := 767) (by decide +kernel)) rfl), Or.inl rfl⟩
theorem d_TrustDesk_closeEnd_83 : decode kY_TrustDesk_closeEnd.2.1 83 = .ok (.ifCond .eq 10, 3) := by decide +kernel
theorem d_TrustDesk_closeEnd_93 : decode kY_TrustDesk_closeEnd.2.1 93 = .ok (.lconst 0, 1) := by decide +kernel
theorem d_TrustDesk_closeEnd_94 : decode kY_TrustDesk_closeEnd.2.1 94 = .ok (.lstore 8, 2) := by decide +kernel
theorem d_TrustDesk_closeEnd_96 : decode kY_TrustDesk_closeEnd.2.1 96 = .ok (.lload 8, 2) := by decide +kernel
theorem d_TrustDesk_closeEnd_98 : decode kY_TrustDesk_closeEnd.2.1 98 = .ok (.lconst 0, 1) := by decide +kernel
theorem d_TrustDesk_closeEnd_99 : decode kY_TrustDesk_closeEnd.2.1 99 = .ok (.lcmp, 1) := by decide +kernel
theorem d_TrustDesk_closeEnd_100 : decode kY_TrustDesk_closeEnd.2.1 100 = .ok (.ifCond .le 35, 3) := by decide +kernel
theorem d_TrustDesk_closeEnd_135 : decode kY_TrustDesk_closeEnd.2.1 135 = .ok (.return_, 1) := by decide +kernel
theorem d_TrustDesk_closeEnd_103 : decode kY_TrustDesk_closeEnd.2.1 103 = .ok (.aload_n 1, 1) := by decide +kernel
theorem d_TrustDesk_closeEnd_104 : decode kY_TrustDesk_closeEnd.2.1 104 = .ok (.dup, 1) := by decide +kernel
theorem d_TrustDesk_closeEnd_105 : decode kY_TrustDesk_closeEnd.2.1 105 = .ok (.getfield 170, 3) := by decide +kernel
theorem d_TrustDesk_closeEnd_108 : decode kY_TrustDesk_closeEnd.2.1 108 = .ok (.lload 8, 2) := by decide +kernel
theorem d_TrustDesk_closeEnd_110 : decode kY_TrustDesk_closeEnd.2.1 110 = .ok (.lsub, 1) := by decide +kernel
theorem d_TrustDesk_closeEnd_111 : decode kY_TrustDesk_closeEnd.2.1 111 = .ok (.putfield 170, 3) := by decide +kernel
theorem p_TrustDesk_170_6 : mj_fp "TrustDesk" 170 6 3 (kt_Fund 3) false := ⟨kR_Fund, kF_Fund, 15, "TrustDesk$Fund", kt_Fund, rfl, kg_6, by decide, (mj_in1 (List.mem_of_getElem? (i := 672) (by decide +kernel)) rfl), Or.inl rfl, kto_Fund, kn_Fund, rfl, rfl, fun h => by cases h⟩
theorem d_TrustDesk_closeEnd_114 : decode kY_TrustDesk_closeEnd.2.1 114 = .ok (.aload_n 0, 1) := by decide +kernel
theorem d_TrustDesk_closeEnd_115 : decode kY_TrustDesk_closeEnd.2.1 115 = .ok (.aload_n 1, 1) := by decide +kernel
theorem d_TrustDesk_closeEnd_116 : decode kY_TrustDesk_closeEnd.2.1 116 = .ok (.lload 8, 2) := by decide +kernel
theorem d_TrustDesk_closeEnd_118 : decode kY_TrustDesk_closeEnd.2.1 118 = .ok (.invokevirtual 238, 3) := by decide +kernel
abbrev kY_TrustDesk_leadBack : mj_Y := (⟨"TrustDesk", "leadBack", "(LTrustDesk$Fund;J)V"⟩, prog_1_method_15_code, 9, (Option.none : Option Jvm.ClassFile.FieldType))
theorem d_TrustDesk_leadBack_0 : decode kY_TrustDesk_leadBack.2.1 0 = .ok (.lload_n 2, 1) := by decide +kernel
theorem d_TrustDesk_leadBack_1 : decode kY_TrustDesk_leadBack.2.1 1 = .ok (.lstore 4, 2) := by decide +kernel
theorem d_TrustDesk_leadBack_3 : decode kY_TrustDesk_leadBack.2.1 3 = .ok (.iconst 0, 1) := by decide +kernel
theorem d_TrustDesk_leadBack_4 : decode kY_TrustDesk_leadBack.2.1 4 = .ok (.istore 6, 2) := by decide +kernel
theorem d_TrustDesk_leadBack_6 : decode kY_TrustDesk_leadBack.2.1 6 = .ok (.iload 6, 2) := by decide +kernel
theorem d_TrustDesk_leadBack_8 : decode kY_TrustDesk_leadBack.2.1 8 = .ok (.aload_n 0, 1) := by decide +kernel
theorem d_TrustDesk_leadBack_9 : decode kY_TrustDesk_leadBack.2.1 9 = .ok (.getfield 53, 3) := by decide +kernel
theorem d_TrustDesk_leadBack_12 : decode kY_TrustDesk_leadBack.2.1 12 = .ok (.invokevirtual 97, 3) := by decide +kernel
theorem d_TrustDesk_leadBack_15 : decode kY_TrustDesk_leadBack.2.1 15 = .ok (.if_icmp .ge 53, 3) := by decide +kernel
theorem d_TrustDesk_leadBack_68 : decode kY_TrustDesk_leadBack.2.1 68 = .ok (.iconst 0, 1) := by decide +kernel
theorem d_TrustDesk_leadBack_69 : decode kY_TrustDesk_leadBack.2.1 69 = .ok (.istore 6, 2) := by decide +kernel
theorem d_TrustDesk_leadBack_71 : decode kY_TrustDesk_leadBack.2.1 71 = .ok (.iload 6, 2) := by decide +kernel
theorem d_TrustDesk_leadBack_73 : decode kY_TrustDesk_leadBack.2.1 73 = .ok (.aload_n 0, 1) := by decide +kernel
theorem d_TrustDesk_leadBack_74 : decode kY_TrustDesk_leadBack.2.1 74 = .ok (.getfield 53, 3) := by decide +kernel
theorem d_TrustDesk_leadBack_77 : decode kY_TrustDesk_leadBack.2.1 77 = .ok (.invokevirtual 97, 3) := by decide +kernel
theorem d_TrustDesk_leadBack_80 : decode kY_TrustDesk_leadBack.2.1 80 = .ok (.if_icmp .ge 52, 3) := by decide +kernel
theorem d_TrustDesk_leadBack_132 : decode kY_TrustDesk_leadBack.2.1 132 = .ok (.return_, 1) := by decide +kernel
theorem d_TrustDesk_leadBack_83 : decode kY_TrustDesk_leadBack.2.1 83 = .ok (.lload 4, 2) := by decide +kernel
theorem d_TrustDesk_leadBack_85 : decode kY_TrustDesk_leadBack.2.1 85 = .ok (.lconst 0, 1) := by decide +kernel
theorem d_TrustDesk_leadBack_86 : decode kY_TrustDesk_leadBack.2.1 86 = .ok (.lcmp, 1) := by decide +kernel
theorem d_TrustDesk_leadBack_87 : decode kY_TrustDesk_leadBack.2.1 87 = .ok (.ifCond .le 45, 3) := by decide +kernel
theorem d_TrustDesk_leadBack_90 : decode kY_TrustDesk_leadBack.2.1 90 = .ok (.aload_n 1, 1) := by decide +kernel
theorem d_TrustDesk_leadBack_91 : decode kY_TrustDesk_leadBack.2.1 91 = .ok (.iload 6, 2) := by decide +kernel
theorem d_TrustDesk_leadBack_93 : decode kY_TrustDesk_leadBack.2.1 93 = .ok (.invokevirtual 246, 3) := by decide +kernel
abbrev kY_Fund_partOf : mj_Y := (⟨"TrustDesk$Fund", "partOf", "(I)I"⟩, prog_7_method_5_code, 2, (Option.some Jvm.ClassFile.FieldType.int))
theorem d_Fund_partOf_0 : decode kY_Fund_partOf.2.1 0 = .ok (.iload_n 1, 1) := by decide +kernel
theorem d_Fund_partOf_1 : decode kY_Fund_partOf.2.1 1 = .ok (.ifCond .lt 18, 3) := by decide +kernel
theorem d_Fund_partOf_19 : decode kY_Fund_partOf.2.1 19 = .ok (.iconst 0, 1) := by decide +kernel
theorem d_Fund_partOf_20 : decode kY_Fund_partOf.2.1 20 = .ok (.ireturn, 1) := by decide +kernel
theorem d_Fund_partOf_4 : decode kY_Fund_partOf.2.1 4 = .ok (.iload_n 1, 1) := by decide +kernel
theorem d_Fund_partOf_5 : decode kY_Fund_partOf.2.1 5 = .ok (.bipush 12, 2) := by decide +kernel
theorem d_Fund_partOf_7 : decode kY_Fund_partOf.2.1 7 = .ok (.if_icmp .ge 12, 3) := by decide +kernel
theorem d_Fund_partOf_10 : decode kY_Fund_partOf.2.1 10 = .ok (.aload_n 0, 1) := by decide +kernel
theorem d_Fund_partOf_11 : decode kY_Fund_partOf.2.1 11 = .ok (.getfield 28, 3) := by decide +kernel
theorem f_Fund_28_6 : mj_fl "TrustDesk$Fund" 28 6 12 := ⟨kR_Fund, kF_Fund, 15, "TrustDesk$Fund", rfl, kg_6, by decide, (mj_in1 (List.mem_of_getElem? (i := 691) (by decide +kernel)) rfl), Or.inl rfl⟩
theorem d_Fund_partOf_14 : decode kY_Fund_partOf.2.1 14 = .ok (.iload_n 1, 1) := by decide +kernel
theorem d_Fund_partOf_15 : decode kY_Fund_partOf.2.1 15 = .ok (.iaload, 1) := by decide +kernel
theorem d_Fund_partOf_16 : decode kY_Fund_partOf.2.1 16 = .ok (.goto 4, 3) := by decide +kernel
def w_Fund_partOf : List Nat := []
theorem tc_Fund_partOf {g : mj_G} {l : Launch} {d : Nat} {T0 : tm_H} {M0 : mj_M} {n0 x9 : Nat} {o0 : Nat} {x1 : Int32} (h_o0 : T0 o0 = some (0, 6, 0)) (I0 : tm_I tm_FT (tm_in w_Fund_partOf) x9 T0 M0 n0 T0 M0 n0) : mj_Met g l kY_Fund_partOf d [.ref o0, .int x1] M0 n0 0 0 (tm_Q tm_FT (tm_in w_Fund_partOf) x9 T0 M0 n0 (fun r _ _ => ∃ v : Int32, r = some (.int v))) := by
  refine mj_enter (by decide) (Nat.le_of_ble_eq_true rfl) ?_
  refine mv_iload_n d_Fund_partOf_0 rfl rfl ?_
  have := mz_hi x1
  refine mv_if_ltZ (tgt := 19) (a := x1.toInt) d_Fund_partOf_1 (by decide) rfl (fun b1 => ?_) (fun b1 => ?_)
  · refine mv_iconst (v := 0) d_Fund_partOf_19 (by decide) ?_
    exact mv_iret d_Fund_partOf_20 rfl (by first | rfl | decide) ⟨_, I0, _, rfl⟩
  · refine mv_iload_n d_Fund_partOf_4 rfl rfl ?_
    refine mv_bipush (v := 12) d_Fund_partOf_5 (by decide) ?_
    have := mz_hi x1
    refine mv_icmp_geZ (tgt := 19) (a := x1.toInt) (b := 12) d_Fund_partOf_7 (by decide) rfl (by decide) (fun b2 => ?_) (fun b2 => ?_)
    · refine mv_iconst (v := 0) d_Fund_partOf_19 (by decide) ?_
      exact mv_iret d_Fund_partOf_20 rfl (by first | rfl | decide) ⟨_, I0, _, rfl⟩
    · refine mv_aload_n d_Fund_partOf_10 rfl rfl ?_
      obtain ⟨a4, q3, t_a4⟩ := tm_atR I0 h_o0 (k := 12) rfl
      refine tr_getK q3 d_Fund_partOf_11 f_Fund_28_6 ?_
      refine mv_iload_n d_Fund_partOf_14 rfl rfl ?_
      refine tr_iald I0 t_a4 (by decide) d_Fund_partOf_15 (vp_in_iff.mpr (by omega)) (fun v5 => ?_)
      refine mv_goto (tgt := 20) d_Fund_partOf_16 (by decide) ?_
      exact mv_iret d_Fund_partOf_20 rfl (by first | rfl | decide) ⟨_, I0, _, rfl⟩
theorem lV_TrustDesk_246 : mj_lV "TrustDesk" 246 kY_Fund_partOf 1 := ⟨⟨(mj_in1 (List.mem_of_getElem? (i := 925) (by decide +kernel)) rfl), (mj_in1 (List.mem_of_getElem? (i := 21) (by decide +kernel)) rfl), (mj_in1 (List.mem_of_getElem? (i := 928) (by decide +kernel)) rfl), by decide, rfl, by decide⟩, (mj_in1 (List.mem_of_getElem? (i := 926) (by decide +kernel)) rfl), (mj_in1 (List.mem_of_getElem? (i := 927) (by decide +kernel)) rfl)⟩
theorem d_TrustDesk_leadBack_96 : decode kY_TrustDesk_leadBack.2.1 96 = .ok (.ifCond .le 30, 3) := by decide +kernel
theorem d_TrustDesk_leadBack_126 : decode kY_TrustDesk_leadBack.2.1 126 = .ok (.iinc 6 1, 3) := by decide +kernel
theorem d_TrustDesk_leadBack_129 : decode kY_TrustDesk_leadBack.2.1 129 = .ok (.goto (-58), 3) := by decide +kernel
theorem d_TrustDesk_leadBack_99 : decode kY_TrustDesk_leadBack.2.1 99 = .ok (.aload_n 0, 1) := by decide +kernel
theorem d_TrustDesk_leadBack_100 : decode kY_TrustDesk_leadBack.2.1 100 = .ok (.getfield 53, 3) := by decide +kernel
theorem d_TrustDesk_leadBack_103 : decode kY_TrustDesk_leadBack.2.1 103 = .ok (.iload 6, 2) := by decide +kernel
theorem d_TrustDesk_leadBack_105 : decode kY_TrustDesk_leadBack.2.1 105 = .ok (.invokevirtual 158, 3) := by decide +kernel
theorem d_TrustDesk_leadBack_108 : decode kY_TrustDesk_leadBack.2.1 108 = .ok (.checkcast 123, 3) := by decide +kernel
theorem d_TrustDesk_leadBack_111 : decode kY_TrustDesk_leadBack.2.1 111 = .ok (.dup, 1) := by decide +kernel
theorem d_TrustDesk_leadBack_112 : decode kY_TrustDesk_leadBack.2.1 112 = .ok (.getfield 251, 3) := by decide +kernel
theorem f_TrustDesk_251_6 : mj_fl "TrustDesk" 251 6 10 := ⟨kR_Fund, kF_Fund, 15, "TrustDesk$Fund", rfl, kg_6, by decide, (mj_in1 (List.mem_of_getElem? (i := 687) (by decide +kernel)) rfl), Or.inl rfl⟩
theorem d_TrustDesk_leadBack_115 : decode kY_TrustDesk_leadBack.2.1 115 = .ok (.lconst 1, 1) := by decide +kernel
theorem d_TrustDesk_leadBack_116 : decode kY_TrustDesk_leadBack.2.1 116 = .ok (.ladd, 1) := by decide +kernel
theorem d_TrustDesk_leadBack_117 : decode kY_TrustDesk_leadBack.2.1 117 = .ok (.putfield 251, 3) := by decide +kernel
theorem p_TrustDesk_251_6 : mj_fp "TrustDesk" 251 6 10 (kt_Fund 10) false := ⟨kR_Fund, kF_Fund, 15, "TrustDesk$Fund", kt_Fund, rfl, kg_6, by decide, (mj_in1 (List.mem_of_getElem? (i := 687) (by decide +kernel)) rfl), Or.inl rfl, kto_Fund, kn_Fund, rfl, rfl, fun h => by cases h⟩
theorem d_TrustDesk_leadBack_120 : decode kY_TrustDesk_leadBack.2.1 120 = .ok (.lload 4, 2) := by decide +kernel
theorem d_TrustDesk_leadBack_122 : decode kY_TrustDesk_leadBack.2.1 122 = .ok (.lconst 1, 1) := by decide +kernel
theorem d_TrustDesk_leadBack_123 : decode kY_TrustDesk_leadBack.2.1 123 = .ok (.lsub, 1) := by decide +kernel
theorem d_TrustDesk_leadBack_124 : decode kY_TrustDesk_leadBack.2.1 124 = .ok (.lstore 4, 2) := by decide +kernel
theorem d_TrustDesk_leadBack_18 : decode kY_TrustDesk_leadBack.2.1 18 = .ok (.lload_n 2, 1) := by decide +kernel
theorem d_TrustDesk_leadBack_19 : decode kY_TrustDesk_leadBack.2.1 19 = .ok (.aload_n 1, 1) := by decide +kernel
theorem d_TrustDesk_leadBack_20 : decode kY_TrustDesk_leadBack.2.1 20 = .ok (.iload 6, 2) := by decide +kernel
theorem d_TrustDesk_leadBack_22 : decode kY_TrustDesk_leadBack.2.1 22 = .ok (.invokevirtual 246, 3) := by decide +kernel
theorem d_TrustDesk_leadBack_25 : decode kY_TrustDesk_leadBack.2.1 25 = .ok (.i2l, 1) := by decide +kernel
theorem d_TrustDesk_leadBack_26 : decode kY_TrustDesk_leadBack.2.1 26 = .ok (.lmul, 1) := by decide +kernel
theorem d_TrustDesk_leadBack_27 : decode kY_TrustDesk_leadBack.2.1 27 = .ok (.ldc2_w 249, 3) := by decide +kernel
theorem k_TrustDesk_249 : Cond.constantLong "TrustDesk" 249 1000000 ∈ mj_T := (mj_in1 (List.mem_of_getElem? (i := 929) (by decide +kernel)) rfl)
theorem d_TrustDesk_leadBack_30 : decode kY_TrustDesk_leadBack.2.1 30 = .ok (.ldiv, 1) := by decide +kernel
theorem d_TrustDesk_leadBack_31 : decode kY_TrustDesk_leadBack.2.1 31 = .ok (.lstore 7, 2) := by decide +kernel
theorem d_TrustDesk_leadBack_33 : decode kY_TrustDesk_leadBack.2.1 33 = .ok (.aload_n 0, 1) := by decide +kernel
theorem d_TrustDesk_leadBack_34 : decode kY_TrustDesk_leadBack.2.1 34 = .ok (.getfield 53, 3) := by decide +kernel
theorem d_TrustDesk_leadBack_37 : decode kY_TrustDesk_leadBack.2.1 37 = .ok (.iload 6, 2) := by decide +kernel
theorem d_TrustDesk_leadBack_39 : decode kY_TrustDesk_leadBack.2.1 39 = .ok (.invokevirtual 158, 3) := by decide +kernel
theorem d_TrustDesk_leadBack_42 : decode kY_TrustDesk_leadBack.2.1 42 = .ok (.checkcast 123, 3) := by decide +kernel
theorem d_TrustDesk_leadBack_45 : decode kY_TrustDesk_leadBack.2.1 45 = .ok (.dup, 1) := by decide +kernel
theorem d_TrustDesk_leadBack_46 : decode kY_TrustDesk_leadBack.2.1 46 = .ok (.getfield 251, 3) := by decide +kernel
theorem d_TrustDesk_leadBack_49 : decode kY_TrustDesk_leadBack.2.1 49 = .ok (.lload 7, 2) := by decide +kernel
theorem d_TrustDesk_leadBack_51 : decode kY_TrustDesk_leadBack.2.1 51 = .ok (.ladd, 1) := by decide +kernel
theorem d_TrustDesk_leadBack_52 : decode kY_TrustDesk_leadBack.2.1 52 = .ok (.putfield 251, 3) := by decide +kernel
theorem d_TrustDesk_leadBack_55 : decode kY_TrustDesk_leadBack.2.1 55 = .ok (.lload 4, 2) := by decide +kernel
theorem d_TrustDesk_leadBack_57 : decode kY_TrustDesk_leadBack.2.1 57 = .ok (.lload 7, 2) := by decide +kernel
theorem d_TrustDesk_leadBack_59 : decode kY_TrustDesk_leadBack.2.1 59 = .ok (.lsub, 1) := by decide +kernel
theorem d_TrustDesk_leadBack_60 : decode kY_TrustDesk_leadBack.2.1 60 = .ok (.lstore 4, 2) := by decide +kernel
theorem d_TrustDesk_leadBack_62 : decode kY_TrustDesk_leadBack.2.1 62 = .ok (.iinc 6 1, 3) := by decide +kernel
theorem d_TrustDesk_leadBack_65 : decode kY_TrustDesk_leadBack.2.1 65 = .ok (.goto (-59), 3) := by decide +kernel
def w_TrustDesk_leadBack : List Nat := [610]
theorem tc_TrustDesk_leadBack {g : mj_G} {l : Launch} {d : Nat} {T0 : tm_H} {M0 : mj_M} {n0 x9 : Nat} {o0 : Nat} {o1 : Nat} {x2 : Int64} (h_o0 : T0 o0 = some (0, 12, 0)) (h_o1 : T0 o1 = some (0, 6, 0)) (I0 : tm_I tm_FT (tm_in w_TrustDesk_leadBack) x9 T0 M0 n0 T0 M0 n0) : mj_Met g l kY_TrustDesk_leadBack (d + 3) [.ref o0, .ref o1, .long x2] M0 n0 0 0 (tm_Q tm_FT (tm_in w_TrustDesk_leadBack) x9 T0 M0 n0 (fun r _ _ => r = none)) := by
  refine mj_enter (by decide) (Nat.le_of_ble_eq_true rfl) ?_
  refine mv_lload_n d_TrustDesk_leadBack_0 rfl rfl ?_
  refine mv_lstore (lv' := [(4, .long x2), (0, .ref o0), (1, .ref o1), (2, .long x2)]) d_TrustDesk_leadBack_1 (by decide) rfl ?_
  refine mv_iconst (v := 0) d_TrustDesk_leadBack_3 (by decide) ?_
  refine mv_istore (lv' := [(6, .int 0), (4, .long x2), (0, .ref o0), (1, .ref o1), (2, .long x2)]) d_TrustDesk_leadBack_4 (by decide) rfl ?_
  have L6_1 : ∀ (k : Nat) (i6_1 : Int32) (l4_1 : Int64) (T_1 : tm_H) (M_1 : mj_M) (n_1 : Nat), tm_I tm_FT (tm_in w_TrustDesk_leadBack) x9 T0 M0 n0 T_1 M_1 n_1 → T_1 o0 = some (0, 12, 0) → T_1 o1 = some (0, 6, 0) → 0 ≤ i6_1.toInt → 2147483647 - i6_1.toInt < (k : Int) → mj_V g l kY_TrustDesk_leadBack (d + 3) 6 [(6, .int i6_1), (4, .long l4_1), (0, .ref o0), (1, .ref o1), (2, .long x2)] [] M_1 n_1 0 0 (tm_Q tm_FT (tm_in w_TrustDesk_leadBack) x9 T0 M0 n0 (fun r _ _ => r = none)) := by
    intro k1
    induction k1 with
    | zero =>
      intro i6_1 l4_1 T_1 M_1 n_1 I_1 h_q0_1 h_q1_1 iv0_1 hk1
      have := mz_hi i6_1
      omega
    | succ k1 ih1 =>
      intro i6_1 l4_1 T_1 M_1 n_1 I_1 h_q0_1 h_q1_1 iv0_1 hk1
      refine mv_iload d_TrustDesk_leadBack_6 rfl ?_
      refine mv_aload_n d_TrustDesk_leadBack_8 rfl rfl ?_
      obtain ⟨a3, q2, t_a3⟩ := tm_atO I_1 h_q0_1 (k := 6) rfl
      refine tr_getK q2 d_TrustDesk_leadBack_9 f_TrustDesk_53_12 ?_
      obtain ⟨m5, n9, e6, N7, f8, h4⟩ := I_1.1 _ _ t_a3
      have := h4.2.1
      have : n9.toInt ≤ 12 := h4.2.2.1
      have q10 : tm_at M_1 a3 0 2 (.int n9) := ⟨_, h4.1, rfl⟩
      refine mv_callV_s (kc' := 0) (ks' := 0) [] [.ref a3, .int i6_1] d_TrustDesk_leadBack_12 lV_TrustDesk_97 h4.1 rfl (tc_L_size (d := (d + 2)) h4.1) rfl (Nat.le_of_ble_eq_true rfl) (Nat.le_of_ble_eq_true rfl) (Nat.le_of_ble_eq_true rfl) rfl ?_
      have := mz_hi i6_1
      have := mz_hi n9
      refine mv_icmp_geZ (tgt := 68) (a := i6_1.toInt) (b := n9.toInt) d_TrustDesk_leadBack_15 (by decide) rfl rfl (fun b11 => ?_) (fun b11 => ?_)
      · refine mv_iconst (v := 0) d_TrustDesk_leadBack_68 (by decide) ?_
        refine mv_istore (lv' := [(6, .int 0), (4, .long l4_1), (0, .ref o0), (1, .ref o1), (2, .long x2)]) d_TrustDesk_leadBack_69 (by decide) rfl ?_
        have L71_12 : ∀ (k : Nat) (i6_12 : Int32) (l4_12 : Int64) (T_12 : tm_H) (M_12 : mj_M) (n_12 : Nat), tm_I tm_FT (tm_in w_TrustDesk_leadBack) x9 T0 M0 n0 T_12 M_12 n_12 → T_12 o0 = some (0, 12, 0) → T_12 o1 = some (0, 6, 0) → 0 ≤ i6_12.toInt → 2147483647 - i6_12.toInt < (k : Int) → mj_V g l kY_TrustDesk_leadBack (d + 3) 71 [(6, .int i6_12), (4, .long l4_12), (0, .ref o0), (1, .ref o1), (2, .long x2)] [] M_12 n_12 0 0 (tm_Q tm_FT (tm_in w_TrustDesk_leadBack) x9 T0 M0 n0 (fun r _ _ => r = none)) := by
          intro k12
          induction k12 with
          | zero =>
            intro i6_12 l4_12 T_12 M_12 n_12 I_12 h_q0_12 h_q1_12 iv0_12 hk12
            have := mz_hi i6_12
            omega
          | succ k12 ih12 =>
            intro i6_12 l4_12 T_12 M_12 n_12 I_12 h_q0_12 h_q1_12 iv0_12 hk12
            refine mv_iload d_TrustDesk_leadBack_71 rfl ?_
            refine mv_aload_n d_TrustDesk_leadBack_73 rfl rfl ?_
            obtain ⟨a14, q13, t_a14⟩ := tm_atO I_12 h_q0_12 (k := 6) rfl
            refine tr_getK q13 d_TrustDesk_leadBack_74 f_TrustDesk_53_12 ?_
            obtain ⟨m16, n20, e17, N18, f19, h15⟩ := I_12.1 _ _ t_a14
            have := h15.2.1
            have : n20.toInt ≤ 12 := h15.2.2.1
            have q21 : tm_at M_12 a14 0 2 (.int n20) := ⟨_, h15.1, rfl⟩
            refine mv_callV_s (kc' := 0) (ks' := 0) [] [.ref a14, .int i6_12] d_TrustDesk_leadBack_77 lV_TrustDesk_97 h15.1 rfl (tc_L_size (d := (d + 2)) h15.1) rfl (Nat.le_of_ble_eq_true rfl) (Nat.le_of_ble_eq_true rfl) (Nat.le_of_ble_eq_true rfl) rfl ?_
            have := mz_hi i6_12
            have := mz_hi n20
            refine mv_icmp_geZ (tgt := 132) (a := i6_12.toInt) (b := n20.toInt) d_TrustDesk_leadBack_80 (by decide) rfl rfl (fun b22 => ?_) (fun b22 => ?_)
            · exact mv_vret d_TrustDesk_leadBack_132 rfl ⟨_, I_12, rfl⟩
            · refine mv_lload d_TrustDesk_leadBack_83 rfl ?_
              refine mv_lconst (v := 0) d_TrustDesk_leadBack_85 (by decide) ?_
              refine mv_lleZ (tgt := 132) (a := l4_12.toInt) (b := 0) d_TrustDesk_leadBack_86 d_TrustDesk_leadBack_87 (by decide) rfl (by decide) (fun b23 => ?_) (fun b23 => ?_)
              · exact mv_vret d_TrustDesk_leadBack_132 rfl ⟨_, I_12, rfl⟩
              · refine mv_aload_n d_TrustDesk_leadBack_90 rfl rfl ?_
                refine mv_iload d_TrustDesk_leadBack_91 rfl ?_
                obtain ⟨_, b30, -⟩ := I_12.1 _ _ h_q1_12
                refine mv_callV (kc' := 0) (ks' := 0) (As := [.int i6_12]) (st9 := [.int i6_12, .ref o1]) d_TrustDesk_leadBack_93 lV_TrustDesk_246 b30 rfl (tc_Fund_partOf (d := (d + 2)) (x9 := x9) (o0 := o1) (x1 := i6_12) h_q1_12 I_12.start) rfl (Nat.le_of_ble_eq_true rfl) (Nat.le_of_ble_eq_true rfl) (Nat.le_of_ble_eq_true rfl) (hst := rfl) (fun b24r M25 n26 b24 => ?_)
                obtain ⟨T27, J28, v31, rfl⟩ := b24
                have I29 := I_12.call J28 (tm_sub (by decide)) (Or.inl rfl)
                have t32 := J28.up h_q0_12
                have t33 := J28.up h_q1_12
                have q34 := J28.keep h_q0_12 (by decide) q13
                have t35 := J28.up t_a14
                have q36 := J28.keepL t_a14 (by decide) q21
                have := mz_hi v31
                refine mv_if_leZ (tgt := 126) (a := v31.toInt) d_TrustDesk_leadBack_96 (by decide) rfl (fun b37 => ?_) (fun b37 => ?_)
                · refine mv_iinc (v := (i6_12 + 1)) (lv' := [(6, .int (i6_12 + 1)), (4, .long l4_12), (0, .ref o0), (1, .ref o1), (2, .long x2)]) d_TrustDesk_leadBack_126 rfl rfl (by decide) rfl ?_
                  refine mv_goto (tgt := 71) d_TrustDesk_leadBack_129 (by decide) ?_
                  have b38 : (i6_12 + 1).toInt = i6_12.toInt + 1 := mz_addn 1 1 (by decide) (by have := mz_lo i6_12; omega) (by have := mz_hi i6_12; omega)
                  exact (ih12 (i6_12 + 1) l4_12 T27 M25 n26 I29 t32 t33 (by first | omega | decide) (by omega))
                · refine mv_aload_n d_TrustDesk_leadBack_99 rfl rfl ?_
                  refine tr_getK (k := 6) q34 d_TrustDesk_leadBack_100 f_TrustDesk_53_12 ?_
                  refine mv_iload d_TrustDesk_leadBack_103 rfl ?_
                  obtain ⟨m40, e41, N42, f43, h39⟩ := tm_lsn I29 t35 q36
                  obtain ⟨u44e, u44i, a45, u44f, u44t⟩ := tm_el (i := i6_12) h39 (by omega) (by omega)
                  have t_a45 : T27 a45 = some (0, 6, 0) := u44t
                  refine mv_callV_s (kc' := 0) (ks' := 0) [.int i6_12] [.int i6_12, .ref a14] d_TrustDesk_leadBack_105 lV_TrustDesk_158 h39.1 rfl (tc_L_get (d := d) h39.1 u44e (by omega) (by omega) u44i u44f) rfl (Nat.le_of_ble_eq_true rfl) (Nat.le_of_ble_eq_true rfl) (Nat.le_of_ble_eq_true rfl) rfl ?_
                  obtain ⟨_, b46, -⟩ := I29.1 _ _ t_a45
                  refine mv_castS (T9 := kF_Fund) (N := 15) d_TrustDesk_leadBack_108 (mj_in1 (List.mem_of_getElem? (i := 655) (by decide +kernel)) rfl) b46 rfl ?_
                  refine mv_dup d_TrustDesk_leadBack_111 rfl ?_
                  obtain ⟨v48, q47⟩ := tm_atL I29 t_a45 (k := 10) rfl
                  refine tr_getK q47 d_TrustDesk_leadBack_112 f_TrustDesk_251_6 ?_
                  refine mv_lconst (v := 1) d_TrustDesk_leadBack_115 (by decide) ?_
                  refine mv_ladd d_TrustDesk_leadBack_116 ?_
                  refine tr_putK tm_okF I29 t_a45 (k := 10) rfl ⟨_, rfl⟩ (Or.inl (by decide)) d_TrustDesk_leadBack_117 p_TrustDesk_251_6 rfl rfl (fun M49 I50 q51 K52 => ?_)
                  refine mv_lload d_TrustDesk_leadBack_120 rfl ?_
                  refine mv_lconst (v := 1) d_TrustDesk_leadBack_122 (by decide) ?_
                  refine mv_lsub d_TrustDesk_leadBack_123 ?_
                  refine mv_lstore (lv' := [(4, .long (l4_12 - 1)), (6, .int i6_12), (0, .ref o0), (1, .ref o1), (2, .long x2)]) d_TrustDesk_leadBack_124 (by decide) rfl ?_
                  refine mv_iinc (v := (i6_12 + 1)) (lv' := [(6, .int (i6_12 + 1)), (4, .long (l4_12 - 1)), (0, .ref o0), (1, .ref o1), (2, .long x2)]) d_TrustDesk_leadBack_126 rfl rfl (by decide) rfl ?_
                  refine mv_goto (tgt := 71) d_TrustDesk_leadBack_129 (by decide) ?_
                  have b53 : (i6_12 + 1).toInt = i6_12.toInt + 1 := mz_addn 1 1 (by decide) (by have := mz_lo i6_12; omega) (by have := mz_hi i6_12; omega)
                  exact (ih12 (i6_12 + 1) (l4_12 - 1) T27 M49 n26 I50 t32 t33 (by first | omega | decide) (by omega))
        exact mv_less (Nat.zero_le _) (Nat.zero_le _) (L71_12 4294967296 0 l4_1 T_1 M_1 n_1 I_1 h_q0_1 h_q1_1 (by first | omega | decide) (by show (2147483647 - (0 : Int) : Int) < _; decide))
      · refine mv_lload_n d_TrustDesk_leadBack_18 rfl rfl ?_
        refine mv_aload_n d_TrustDesk_leadBack_19 rfl rfl ?_
        refine mv_iload d_TrustDesk_leadBack_20 rfl ?_
        obtain ⟨_, b60, -⟩ := I_1.1 _ _ h_q1_1
        refine mv_callV (kc' := 0) (ks' := 0) (As := [.int i6_1]) (st9 := [.int i6_1, .ref o1, .long x2]) d_TrustDesk_leadBack_22 lV_TrustDesk_246 b60 rfl (tc_Fund_partOf (d := (d + 2)) (x9 := x9) (o0 := o1) (x1 := i6_1) h_q1_1 I_1.start) rfl (Nat.le_of_ble_eq_true rfl) (Nat.le_of_ble_eq_true rfl) (Nat.le_of_ble_eq_true rfl) (hst := rfl) (fun b54r M55 n56 b54 => ?_)
        obtain ⟨T57, J58, v61, rfl⟩ := b54
        have I59 := I_1.call J58 (tm_sub (by decide)) (Or.inl rfl)
        have t62 := J58.up h_q0_1
        have t63 := J58.up h_q1_1
        have q64 := J58.keep h_q0_1 (by decide) q2
        have t65 := J58.up t_a3
        have q66 := J58.keepL t_a3 (by decide) q10
        refine mv_i2l (v := v61.toInt64) d_TrustDesk_leadBack_25 rfl ?_
        refine mv_lmul d_TrustDesk_leadBack_26 ?_
        refine mv_ldc2 d_TrustDesk_leadBack_27 k_TrustDesk_249 ?_
        refine mv_ldiv d_TrustDesk_leadBack_30 (by decide) ?_
        refine mv_lstore (lv' := [(7, .long ((x2 * v61.toInt64) / 1000000)), (6, .int i6_1), (4, .long l4_1), (0, .ref o0), (1, .ref o1), (2, .long x2)]) d_TrustDesk_leadBack_31 (by decide) rfl ?_
        refine mv_aload_n d_TrustDesk_leadBack_33 rfl rfl ?_
        refine tr_getK (k := 6) q64 d_TrustDesk_leadBack_34 f_TrustDesk_53_12 ?_
        refine mv_iload d_TrustDesk_leadBack_37 rfl ?_
        obtain ⟨m68, e69, N70, f71, h67⟩ := tm_lsn I59 t65 q66
        obtain ⟨u72e, u72i, a73, u72f, u72t⟩ := tm_el (i := i6_1) h67 (by omega) (by omega)
        have t_a73 : T57 a73 = some (0, 6, 0) := u72t
        refine mv_callV_s (kc' := 0) (ks' := 0) [.int i6_1] [.int i6_1, .ref a3] d_TrustDesk_leadBack_39 lV_TrustDesk_158 h67.1 rfl (tc_L_get (d := d) h67.1 u72e (by omega) (by omega) u72i u72f) rfl (Nat.le_of_ble_eq_true rfl) (Nat.le_of_ble_eq_true rfl) (Nat.le_of_ble_eq_true rfl) rfl ?_
        obtain ⟨_, b74, -⟩ := I59.1 _ _ t_a73
        refine mv_castS (T9 := kF_Fund) (N := 15) d_TrustDesk_leadBack_42 (mj_in1 (List.mem_of_getElem? (i := 655) (by decide +kernel)) rfl) b74 rfl ?_
        refine mv_dup d_TrustDesk_leadBack_45 rfl ?_
        obtain ⟨v76, q75⟩ := tm_atL I59 t_a73 (k := 10) rfl
        refine tr_getK q75 d_TrustDesk_leadBack_46 f_TrustDesk_251_6 ?_
        refine mv_lload d_TrustDesk_leadBack_49 rfl ?_
        refine mv_ladd d_TrustDesk_leadBack_51 ?_
        refine tr_putK tm_okF I59 t_a73 (k := 10) rfl ⟨_, rfl⟩ (Or.inl (by decide)) d_TrustDesk_leadBack_52 p_TrustDesk_251_6 rfl rfl (fun M77 I78 q79 K80 => ?_)
        refine mv_lload d_TrustDesk_leadBack_55 rfl ?_
        refine mv_lload d_TrustDesk_leadBack_57 rfl ?_
        refine mv_lsub d_TrustDesk_leadBack_59 ?_
        refine mv_lstore (lv' := [(4, .long (l4_1 - ((x2 * v61.toInt64) / 1000000))), (7, .long ((x2 * v61.toInt64) / 1000000)), (6, .int i6_1), (0, .ref o0), (1, .ref o1), (2, .long x2)]) d_TrustDesk_leadBack_60 (by decide) rfl ?_
        refine mv_iinc (v := (i6_1 + 1)) (lv' := [(6, .int (i6_1 + 1)), (4, .long (l4_1 - ((x2 * v61.toInt64) / 1000000))), (7, .long ((x2 * v61.toInt64) / 1000000)), (0, .ref o0), (1, .ref o1), (2, .long x2)]) d_TrustDesk_leadBack_62 rfl rfl (by decide) rfl ?_
        refine mv_goto (tgt := 6) d_TrustDesk_leadBack_65 (by decide) ?_
        refine mv_locals (lv' := [(6, .int (i6_1 + 1)), (4, .long (l4_1 - ((x2 * v61.toInt64) / 1000000))), (0, .ref o0), (1, .ref o1), (2, .long x2)]) (by intro q hq; simp only [List.mem_cons, List.not_mem_nil, or_false] at hq; rcases hq with rfl | rfl | rfl | rfl | rfl <;> rfl) ?_
        have b81 : (i6_1 + 1).toInt = i6_1.toInt + 1 := mz_addn 1 1 (by decide) (by have := mz_lo i6_1; omega) (by have := mz_hi i6_1; omega)
        exact (ih1 (i6_1 + 1) (l4_1 - ((x2 * v61.toInt64) / 1000000)) T57 M77 n56 I78 t62 t63 (by first | omega | decide) (by omega))
  exact mv_less (Nat.zero_le _) (Nat.zero_le _) (L6_1 4294967296 0 x2 T0 M0 n0 I0 h_o0 h_o1 (by first | omega | decide) (by show (2147483647 - (0 : Int) : Int) < _; decide))
theorem lV_TrustDesk_238 : mj_lV "TrustDesk" 238 kY_TrustDesk_leadBack 2 := ⟨⟨(mj_in1 (List.mem_of_getElem? (i := 921) (by decide +kernel)) rfl), (mj_in1 (List.mem_of_getElem? (i := 1) (by decide +kernel)) rfl), (mj_in1 (List.mem_of_getElem? (i := 924) (by decide +kernel)) rfl), by decide, rfl, by decide⟩, (mj_in1 (List.mem_of_getElem? (i := 923) (by decide +kernel)) rfl), (mj_in (List.mem_append_left _ (List.mem_of_getElem? (i := 47) (by decide +kernel))) rfl)⟩
theorem d_TrustDesk_closeEnd_121 : decode kY_TrustDesk_closeEnd.2.1 121 = .ok (.aload_n 0, 1) := by decide +kernel
theorem d_TrustDesk_closeEnd_122 : decode kY_TrustDesk_closeEnd.2.1 122 = .ok (.iload 4, 2) := by decide +kernel
theorem d_TrustDesk_closeEnd_124 : decode kY_TrustDesk_closeEnd.2.1 124 = .ok (.aload_n 1, 1) := by decide +kernel
theorem d_TrustDesk_closeEnd_125 : decode kY_TrustDesk_closeEnd.2.1 125 = .ok (.getfield 132, 3) := by decide +kernel
theorem f_TrustDesk_132_6 : mj_fl "TrustDesk" 132 6 0 := ⟨kR_Fund, kF_Fund, 15, "TrustDesk$Fund", rfl, kg_6, by decide, (mj_in1 (List.mem_of_getElem? (i := 665) (by decide +kernel)) rfl), Or.inl rfl⟩
theorem d_TrustDesk_closeEnd_128 : decode kY_TrustDesk_closeEnd.2.1 128 = .ok (.iload_n 2, 1) := by decide +kernel
theorem d_TrustDesk_closeEnd_129 : decode kY_TrustDesk_closeEnd.2.1 129 = .ok (.lload 8, 2) := by decide +kernel
theorem d_TrustDesk_closeEnd_131 : decode kY_TrustDesk_closeEnd.2.1 131 = .ok (.l2i, 1) := by decide +kernel
theorem d_TrustDesk_closeEnd_132 : decode kY_TrustDesk_closeEnd.2.1 132 = .ok (.invokevirtual 242, 3) := by decide +kernel
abbrev kY_TrustDesk_write : mj_Y := (⟨"TrustDesk", "write", "(IIII)V"⟩, prog_1_method_16_code, 6, (Option.none : Option Jvm.ClassFile.FieldType))
theorem d_TrustDesk_write_0 : decode kY_TrustDesk_write.2.1 0 = .ok (.aload_n 0, 1) := by decide +kernel
theorem d_TrustDesk_write_1 : decode kY_TrustDesk_write.2.1 1 = .ok (.getfield 254, 3) := by decide +kernel
theorem f_TrustDesk_254_12 : mj_fl "TrustDesk" 254 12 10 := ⟨kR_TrustDesk, kF_TrustDesk, 13, "TrustDesk", rfl, kg_12, by decide, (mj_in1 (List.mem_of_getElem? (i := 277) (by decide +kernel)) rfl), Or.inl rfl⟩
theorem d_TrustDesk_write_4 : decode kY_TrustDesk_write.2.1 4 = .ok (.iconst 4, 1) := by decide +kernel
theorem d_TrustDesk_write_5 : decode kY_TrustDesk_write.2.1 5 = .ok (.imul, 1) := by decide +kernel
theorem d_TrustDesk_write_6 : decode kY_TrustDesk_write.2.1 6 = .ok (.istore 5, 2) := by decide +kernel
theorem d_TrustDesk_write_8 : decode kY_TrustDesk_write.2.1 8 = .ok (.iload 5, 2) := by decide +kernel
theorem d_TrustDesk_write_10 : decode kY_TrustDesk_write.2.1 10 = .ok (.ifCond .lt 15, 3) := by decide +kernel
theorem d_TrustDesk_write_25 : decode kY_TrustDesk_write.2.1 25 = .ok (.return_, 1) := by decide +kernel
theorem d_TrustDesk_write_13 : decode kY_TrustDesk_write.2.1 13 = .ok (.iload 5, 2) := by decide +kernel
theorem d_TrustDesk_write_15 : decode kY_TrustDesk_write.2.1 15 = .ok (.aload_n 0, 1) := by decide +kernel
theorem d_TrustDesk_write_16 : decode kY_TrustDesk_write.2.1 16 = .ok (.getfield 62, 3) := by decide +kernel
theorem f_TrustDesk_62_12 : mj_fl "TrustDesk" 62 12 9 := ⟨kR_TrustDesk, kF_TrustDesk, 13, "TrustDesk", rfl, kg_12, by decide, (mj_in1 (List.mem_of_getElem? (i := 276) (by decide +kernel)) rfl), Or.inl rfl⟩
theorem d_TrustDesk_write_19 : decode kY_TrustDesk_write.2.1 19 = .ok (.arraylength, 1) := by decide +kernel
theorem d_TrustDesk_write_20 : decode kY_TrustDesk_write.2.1 20 = .ok (.iconst 4, 1) := by decide +kernel
theorem d_TrustDesk_write_21 : decode kY_TrustDesk_write.2.1 21 = .ok (.isub, 1) := by decide +kernel
theorem d_TrustDesk_write_22 : decode kY_TrustDesk_write.2.1 22 = .ok (.if_icmp .le 4, 3) := by decide +kernel
theorem d_TrustDesk_write_26 : decode kY_TrustDesk_write.2.1 26 = .ok (.aload_n 0, 1) := by decide +kernel
theorem d_TrustDesk_write_27 : decode kY_TrustDesk_write.2.1 27 = .ok (.getfield 62, 3) := by decide +kernel
theorem d_TrustDesk_write_30 : decode kY_TrustDesk_write.2.1 30 = .ok (.iload 5, 2) := by decide +kernel
theorem d_TrustDesk_write_32 : decode kY_TrustDesk_write.2.1 32 = .ok (.iload_n 1, 1) := by decide +kernel
theorem d_TrustDesk_write_33 : decode kY_TrustDesk_write.2.1 33 = .ok (.iastore, 1) := by decide +kernel
theorem d_TrustDesk_write_34 : decode kY_TrustDesk_write.2.1 34 = .ok (.aload_n 0, 1) := by decide +kernel
theorem d_TrustDesk_write_35 : decode kY_TrustDesk_write.2.1 35 = .ok (.getfield 62, 3) := by decide +kernel
theorem d_TrustDesk_write_38 : decode kY_TrustDesk_write.2.1 38 = .ok (.iload 5, 2) := by decide +kernel
theorem d_TrustDesk_write_40 : decode kY_TrustDesk_write.2.1 40 = .ok (.iconst 1, 1) := by decide +kernel
theorem d_TrustDesk_write_41 : decode kY_TrustDesk_write.2.1 41 = .ok (.iadd, 1) := by decide +kernel
theorem d_TrustDesk_write_42 : decode kY_TrustDesk_write.2.1 42 = .ok (.iload_n 2, 1) := by decide +kernel
theorem d_TrustDesk_write_43 : decode kY_TrustDesk_write.2.1 43 = .ok (.iastore, 1) := by decide +kernel
theorem d_TrustDesk_write_44 : decode kY_TrustDesk_write.2.1 44 = .ok (.aload_n 0, 1) := by decide +kernel
theorem d_TrustDesk_write_45 : decode kY_TrustDesk_write.2.1 45 = .ok (.getfield 62, 3) := by decide +kernel
theorem d_TrustDesk_write_48 : decode kY_TrustDesk_write.2.1 48 = .ok (.iload 5, 2) := by decide +kernel
theorem d_TrustDesk_write_50 : decode kY_TrustDesk_write.2.1 50 = .ok (.iconst 2, 1) := by decide +kernel
theorem d_TrustDesk_write_51 : decode kY_TrustDesk_write.2.1 51 = .ok (.iadd, 1) := by decide +kernel
theorem d_TrustDesk_write_52 : decode kY_TrustDesk_write.2.1 52 = .ok (.iload_n 3, 1) := by decide +kernel
theorem d_TrustDesk_write_53 : decode kY_TrustDesk_write.2.1 53 = .ok (.iastore, 1) := by decide +kernel
theorem d_TrustDesk_write_54 : decode kY_TrustDesk_write.2.1 54 = .ok (.aload_n 0, 1) := by decide +kernel
theorem d_TrustDesk_write_55 : decode kY_TrustDesk_write.2.1 55 = .ok (.getfield 62, 3) := by decide +kernel
theorem d_TrustDesk_write_58 : decode kY_TrustDesk_write.2.1 58 = .ok (.iload 5, 2) := by decide +kernel
theorem d_TrustDesk_write_60 : decode kY_TrustDesk_write.2.1 60 = .ok (.iconst 3, 1) := by decide +kernel
theorem d_TrustDesk_write_61 : decode kY_TrustDesk_write.2.1 61 = .ok (.iadd, 1) := by decide +kernel
theorem d_TrustDesk_write_62 : decode kY_TrustDesk_write.2.1 62 = .ok (.iload 4, 2) := by decide +kernel
theorem d_TrustDesk_write_64 : decode kY_TrustDesk_write.2.1 64 = .ok (.iastore, 1) := by decide +kernel
theorem d_TrustDesk_write_65 : decode kY_TrustDesk_write.2.1 65 = .ok (.aload_n 0, 1) := by decide +kernel
theorem d_TrustDesk_write_66 : decode kY_TrustDesk_write.2.1 66 = .ok (.dup, 1) := by decide +kernel
theorem d_TrustDesk_write_67 : decode kY_TrustDesk_write.2.1 67 = .ok (.getfield 254, 3) := by decide +kernel
theorem d_TrustDesk_write_70 : decode kY_TrustDesk_write.2.1 70 = .ok (.iconst 1, 1) := by decide +kernel
theorem d_TrustDesk_write_71 : decode kY_TrustDesk_write.2.1 71 = .ok (.iadd, 1) := by decide +kernel
theorem d_TrustDesk_write_72 : decode kY_TrustDesk_write.2.1 72 = .ok (.putfield 254, 3) := by decide +kernel
theorem p_TrustDesk_254_12 : mj_fp "TrustDesk" 254 12 10 (kt_TrustDesk 10) false := ⟨kR_TrustDesk, kF_TrustDesk, 13, "TrustDesk", kt_TrustDesk, rfl, kg_12, by decide, (mj_in1 (List.mem_of_getElem? (i := 277) (by decide +kernel)) rfl), Or.inl rfl, kto_TrustDesk, kn_TrustDesk, rfl, rfl, fun h => by cases h⟩
theorem d_TrustDesk_write_75 : decode kY_TrustDesk_write.2.1 75 = .ok (.return_, 1) := by decide +kernel
def w_TrustDesk_write : List Nat := [1210, 1259]
theorem tc_TrustDesk_write {g : mj_G} {l : Launch} {d : Nat} {T0 : tm_H} {M0 : mj_M} {n0 x9 : Nat} {o0 : Nat} {x1 : Int32} {x2 : Int32} {x3 : Int32} {x4 : Int32} (h_o0 : T0 o0 = some (0, 12, 0)) (I0 : tm_I tm_FT (tm_in w_TrustDesk_write) x9 T0 M0 n0 T0 M0 n0) : mj_Met g l kY_TrustDesk_write d [.ref o0, .int x1, .int x2, .int x3, .int x4] M0 n0 0 0 (tm_Q tm_FT (tm_in w_TrustDesk_write) x9 T0 M0 n0 (fun r _ _ => r = none)) := by
  refine mj_enter (by decide) (Nat.le_of_ble_eq_true rfl) ?_
  refine mv_aload_n d_TrustDesk_write_0 rfl rfl ?_
  obtain ⟨v2, q1⟩ := tm_atI I0 h_o0 (k := 10) rfl
  refine tr_getK q1 d_TrustDesk_write_1 f_TrustDesk_254_12 ?_
  refine mv_iconst (v := 4) d_TrustDesk_write_4 (by decide) ?_
  refine mv_imul d_TrustDesk_write_5 ?_
  refine mv_istore (lv' := [(5, .int (v2 * 4)), (0, .ref o0), (1, .int x1), (2, .int x2), (3, .int x3), (4, .int x4)]) d_TrustDesk_write_6 (by decide) rfl ?_
  refine mv_iload d_TrustDesk_write_8 rfl ?_
  have := mz_hi (v2 * 4)
  refine mv_if_ltZ (tgt := 25) (a := (v2 * 4).toInt) d_TrustDesk_write_10 (by decide) rfl (fun b3 => ?_) (fun b3 => ?_)
  · exact mv_vret d_TrustDesk_write_25 rfl ⟨_, I0, rfl⟩
  · refine mv_iload d_TrustDesk_write_13 rfl ?_
    refine mv_aload_n d_TrustDesk_write_15 rfl rfl ?_
    obtain ⟨a5, q4, t_a5⟩ := tm_atR I0 h_o0 (k := 9) rfl
    refine tr_getK q4 d_TrustDesk_write_16 f_TrustDesk_62_12 ?_
    refine tr_alen (v := 2400) I0 t_a5 (by decide) (by decide) d_TrustDesk_write_19 ?_
    refine mv_iconst (v := 4) d_TrustDesk_write_20 (by decide) ?_
    refine mv_isubv (v := 2396) d_TrustDesk_write_21 (by decide) ?_
    have := mz_hi (v2 * 4)
    refine mv_icmp_leZ (tgt := 26) (a := (v2 * 4).toInt) (b := 2396) d_TrustDesk_write_22 (by decide) rfl (by decide) (fun b6 => ?_) (fun b6 => ?_)
    · refine mv_aload_n d_TrustDesk_write_26 rfl rfl ?_
      refine tr_getK (k := 9) q4 d_TrustDesk_write_27 f_TrustDesk_62_12 ?_
      refine mv_iload d_TrustDesk_write_30 rfl ?_
      refine mv_iload_n d_TrustDesk_write_32 rfl rfl ?_
      refine tr_iastK tm_okF I0 t_a5 (by decide) (Or.inl (by decide)) d_TrustDesk_write_33 (vp_in_iff.mpr (by omega)) (fun M7 I8 K9 => ?_)
      refine mv_aload_n d_TrustDesk_write_34 rfl rfl ?_
      refine tr_getK (k := 9) (K9 _ 12 9 _ q4) d_TrustDesk_write_35 f_TrustDesk_62_12 ?_
      refine mv_iload d_TrustDesk_write_38 rfl ?_
      refine mv_iconst (v := 1) d_TrustDesk_write_40 (by decide) ?_
      refine mv_iadd d_TrustDesk_write_41 ?_
      refine mv_iload_n d_TrustDesk_write_42 rfl rfl ?_
      have b10 : ((v2 * 4) + 1).toInt = (v2 * 4).toInt + 1 := mz_addn 1 1 (by decide) (by omega) (by omega)
      refine tr_iastK tm_okF I8 t_a5 (by decide) (Or.inl (by decide)) d_TrustDesk_write_43 (vp_in_iff.mpr (by omega)) (fun M11 I12 K13 => ?_)
      refine mv_aload_n d_TrustDesk_write_44 rfl rfl ?_
      refine tr_getK (k := 9) (K13 _ 12 9 _ (K9 _ 12 9 _ q4)) d_TrustDesk_write_45 f_TrustDesk_62_12 ?_
      refine mv_iload d_TrustDesk_write_48 rfl ?_
      refine mv_iconst (v := 2) d_TrustDesk_write_50 (by decide) ?_
      refine mv_iadd d_TrustDesk_write_51 ?_
      refine mv_iload_n d_TrustDesk_write_52 rfl rfl ?_
      have b14 : ((v2 * 4) + 2).toInt = (v2 * 4).toInt + 2 := mz_addn 2 2 (by decide) (by omega) (by omega)
      refine tr_iastK tm_okF I12 t_a5 (by decide) (Or.inl (by decide)) d_TrustDesk_write_53 (vp_in_iff.mpr (by omega)) (fun M15 I16 K17 => ?_)
      refine mv_aload_n d_TrustDesk_write_54 rfl rfl ?_
      refine tr_getK (k := 9) (K17 _ 12 9 _ (K13 _ 12 9 _ (K9 _ 12 9 _ q4))) d_TrustDesk_write_55 f_TrustDesk_62_12 ?_
      refine mv_iload d_TrustDesk_write_58 rfl ?_
      refine mv_iconst (v := 3) d_TrustDesk_write_60 (by decide) ?_
      refine mv_iadd d_TrustDesk_write_61 ?_
      refine mv_iload d_TrustDesk_write_62 rfl ?_
      have b18 : ((v2 * 4) + 3).toInt = (v2 * 4).toInt + 3 := mz_addn 3 3 (by decide) (by omega) (by omega)
      refine tr_iastK tm_okF I16 t_a5 (by decide) (Or.inl (by decide)) d_TrustDesk_write_64 (vp_in_iff.mpr (by omega)) (fun M19 I20 K21 => ?_)
      refine mv_aload_n d_TrustDesk_write_65 rfl rfl ?_
      refine mv_dup d_TrustDesk_write_66 rfl ?_
      refine tr_getK (k := 10) (K21 _ 12 10 _ (K17 _ 12 10 _ (K13 _ 12 10 _ (K9 _ 12 10 _ q1)))) d_TrustDesk_write_67 f_TrustDesk_254_12 ?_
      refine mv_iconst (v := 1) d_TrustDesk_write_70 (by decide) ?_
      refine mv_iadd d_TrustDesk_write_71 ?_
      refine tr_putK tm_okF I20 h_o0 (k := 10) rfl ⟨_, rfl⟩ (Or.inl (by decide)) d_TrustDesk_write_72 p_TrustDesk_254_12 rfl rfl (fun M22 I23 q24 K25 => ?_)
      exact mv_vret d_TrustDesk_write_75 rfl ⟨_, I23, rfl⟩
    · exact mv_vret d_TrustDesk_write_25 rfl ⟨_, I0, rfl⟩
theorem lV_TrustDesk_242 : mj_lV "TrustDesk" 242 kY_TrustDesk_write 4 := ⟨⟨(mj_in1 (List.mem_of_getElem? (i := 930) (by decide +kernel)) rfl), (mj_in1 (List.mem_of_getElem? (i := 1) (by decide +kernel)) rfl), (mj_in1 (List.mem_of_getElem? (i := 933) (by decide +kernel)) rfl), by decide, rfl, by decide⟩, (mj_in1 (List.mem_of_getElem? (i := 932) (by decide +kernel)) rfl), (mj_in (List.mem_append_left _ (List.mem_of_getElem? (i := 48) (by decide +kernel))) rfl)⟩
theorem d_TrustDesk_closeEnd_86 : decode kY_TrustDesk_closeEnd.2.1 86 = .ok (.aload_n 1, 1) := by decide +kernel
theorem d_TrustDesk_closeEnd_87 : decode kY_TrustDesk_closeEnd.2.1 87 = .ok (.getfield 170, 3) := by decide +kernel
theorem d_TrustDesk_closeEnd_90 : decode kY_TrustDesk_closeEnd.2.1 90 = .ok (.goto 4, 3) := by decide +kernel
theorem d_TrustDesk_closeEnd_71 : decode kY_TrustDesk_closeEnd.2.1 71 = .ok (.lload 6, 2) := by decide +kernel
theorem d_TrustDesk_closeEnd_73 : decode kY_TrustDesk_closeEnd.2.1 73 = .ok (.goto 21, 3) := by decide +kernel
theorem d_TrustDesk_closeEnd_27 : decode kY_TrustDesk_closeEnd.2.1 27 = .ok (.aload_n 3, 1) := by decide +kernel
theorem d_TrustDesk_closeEnd_28 : decode kY_TrustDesk_closeEnd.2.1 28 = .ok (.iload 4, 2) := by decide +kernel
theorem d_TrustDesk_closeEnd_30 : decode kY_TrustDesk_closeEnd.2.1 30 = .ok (.iload 5, 2) := by decide +kernel
theorem d_TrustDesk_closeEnd_32 : decode kY_TrustDesk_closeEnd.2.1 32 = .ok (.invokevirtual 218, 3) := by decide +kernel
abbrev kY_End_fails : mj_Y := (⟨"TrustDesk$End", "fails", "(II)V"⟩, prog_4_method_3_code, 3, (Option.none : Option Jvm.ClassFile.FieldType))
theorem d_End_fails_0 : decode kY_End_fails.2.1 0 = .ok (.aload_n 0, 1) := by decide +kernel
theorem d_End_fails_1 : decode kY_End_fails.2.1 1 = .ok (.dup, 1) := by decide +kernel
theorem d_End_fails_2 : decode kY_End_fails.2.1 2 = .ok (.getfield 25, 3) := by decide +kernel
theorem f_End_25_3 : mj_fl "TrustDesk$End" 25 3 2 := ⟨kR_End, kF_End, 4, "TrustDesk$End", rfl, kg_3, by decide, (mj_in1 (List.mem_of_getElem? (i := 791) (by decide +kernel)) rfl), Or.inl rfl⟩
theorem d_End_fails_5 : decode kY_End_fails.2.1 5 = .ok (.iconst 1, 1) := by decide +kernel
theorem d_End_fails_6 : decode kY_End_fails.2.1 6 = .ok (.iadd, 1) := by decide +kernel
theorem d_End_fails_7 : decode kY_End_fails.2.1 7 = .ok (.putfield 25, 3) := by decide +kernel
theorem d_End_fails_10 : decode kY_End_fails.2.1 10 = .ok (.aload_n 0, 1) := by decide +kernel
theorem d_End_fails_11 : decode kY_End_fails.2.1 11 = .ok (.getfield 25, 3) := by decide +kernel
theorem d_End_fails_14 : decode kY_End_fails.2.1 14 = .ok (.iload_n 2, 1) := by decide +kernel
theorem d_End_fails_15 : decode kY_End_fails.2.1 15 = .ok (.if_icmp .lt 13, 3) := by decide +kernel
theorem d_End_fails_28 : decode kY_End_fails.2.1 28 = .ok (.return_, 1) := by decide +kernel
theorem d_End_fails_18 : decode kY_End_fails.2.1 18 = .ok (.aload_n 0, 1) := by decide +kernel
theorem d_End_fails_19 : decode kY_End_fails.2.1 19 = .ok (.iconst 1, 1) := by decide +kernel
theorem d_End_fails_20 : decode kY_End_fails.2.1 20 = .ok (.putfield 9, 3) := by decide +kernel
theorem d_End_fails_23 : decode kY_End_fails.2.1 23 = .ok (.aload_n 0, 1) := by decide +kernel
theorem d_End_fails_24 : decode kY_End_fails.2.1 24 = .ok (.iload_n 1, 1) := by decide +kernel
theorem d_End_fails_25 : decode kY_End_fails.2.1 25 = .ok (.putfield 15, 3) := by decide +kernel
def w_End_fails : List Nat := [301, 302, 303]
theorem tc_End_fails {g : mj_G} {l : Launch} {d : Nat} {T0 : tm_H} {M0 : mj_M} {n0 x9 : Nat} {o0 : Nat} {x1 : Int32} {x2 : Int32} (h_o0 : T0 o0 = some (0, 3, 0)) (I0 : tm_I tm_FT (tm_in w_End_fails) x9 T0 M0 n0 T0 M0 n0) : mj_Met g l kY_End_fails d [.ref o0, .int x1, .int x2] M0 n0 0 0 (tm_Q tm_FT (tm_in w_End_fails) x9 T0 M0 n0 (fun r _ _ => r = none)) := by
  refine mj_enter (by decide) (Nat.le_of_ble_eq_true rfl) ?_
  refine mv_aload_n d_End_fails_0 rfl rfl ?_
  refine mv_dup d_End_fails_1 rfl ?_
  obtain ⟨v2, q1⟩ := tm_atI I0 h_o0 (k := 2) rfl
  refine tr_getK q1 d_End_fails_2 f_End_25_3 ?_
  refine mv_iconst (v := 1) d_End_fails_5 (by decide) ?_
  refine mv_iadd d_End_fails_6 ?_
  refine tr_putK tm_okF I0 h_o0 (k := 2) rfl ⟨_, rfl⟩ (Or.inl (by decide)) d_End_fails_7 p_End_25_3 rfl rfl (fun M3 I4 q5 K6 => ?_)
  refine mv_aload_n d_End_fails_10 rfl rfl ?_
  refine tr_getK (k := 2) q5 d_End_fails_11 f_End_25_3 ?_
  refine mv_iload_n d_End_fails_14 rfl rfl ?_
  have := mz_hi (v2 + 1)
  have := mz_hi x2
  refine mv_icmp_ltZ (tgt := 28) (a := (v2 + 1).toInt) (b := x2.toInt) d_End_fails_15 (by decide) rfl rfl (fun b7 => ?_) (fun b7 => ?_)
  · exact mv_vret d_End_fails_28 rfl ⟨_, I4, rfl⟩
  · refine mv_aload_n d_End_fails_18 rfl rfl ?_
    refine mv_iconst (v := 1) d_End_fails_19 (by decide) ?_
    refine tr_putK tm_okF I4 h_o0 (k := 1) rfl ⟨_, rfl⟩ (Or.inl (by decide)) d_End_fails_20 p_End_9_3 rfl rfl (fun M8 I9 q10 K11 => ?_)
    refine mv_aload_n d_End_fails_23 rfl rfl ?_
    refine mv_iload_n d_End_fails_24 rfl rfl ?_
    refine tr_putK tm_okF I9 h_o0 (k := 3) rfl ⟨_, rfl⟩ (Or.inl (by decide)) d_End_fails_25 p_End_15_3 rfl rfl (fun M12 I13 q14 K15 => ?_)
    exact mv_vret d_End_fails_28 rfl ⟨_, I13, rfl⟩
theorem lV_TrustDesk_218 : mj_lV "TrustDesk" 218 kY_End_fails 2 := ⟨⟨(mj_in1 (List.mem_of_getElem? (i := 916) (by decide +kernel)) rfl), (mj_in1 (List.mem_of_getElem? (i := 23) (by decide +kernel)) rfl), (mj_in1 (List.mem_of_getElem? (i := 919) (by decide +kernel)) rfl), by decide, rfl, by decide⟩, (mj_in1 (List.mem_of_getElem? (i := 917) (by decide +kernel)) rfl), (mj_in1 (List.mem_of_getElem? (i := 918) (by decide +kernel)) rfl)⟩
theorem d_TrustDesk_closeEnd_35 : decode kY_TrustDesk_closeEnd.2.1 35 = .ok (.return_, 1) := by decide +kernel
def w_TrustDesk_closeEnd : List Nat := [301, 302, 303, 603, 610, 1001, 1003, 1004, 1050, 1052, 1210, 1259]
theorem tc_TrustDesk_closeEnd {g : mj_G} {l : Launch} {d : Nat} {T0 : tm_H} {M0 : mj_M} {n0 x9 : Nat} {o0 : Nat} {o1 : Nat} {x2 : Int32} {o3 : Nat} {x4 : Int32} {x5 : Int32} (h_o0 : T0 o0 = some (0, 12, 0)) (h_o1 : T0 o1 = some (0, 6, 0)) (h_o3 : T0 o3 = some (0, 3, 0)) (I0 : tm_I tm_FT (tm_in w_TrustDesk_closeEnd) x9 T0 M0 n0 T0 M0 n0) : mj_Met g l kY_TrustDesk_closeEnd (d + 4) [.ref o0, .ref o1, .int x2, .ref o3, .int x4, .int x5] M0 n0 0 0 (tm_Q tm_FT (tm_in w_TrustDesk_closeEnd) x9 T0 M0 n0 (fun r _ _ => r = none)) := by
  refine mj_enter (by decide) (Nat.le_of_ble_eq_true rfl) ?_
  refine mv_aload_n d_TrustDesk_closeEnd_0 rfl rfl ?_
  obtain ⟨a2, q1, t_a2⟩ := tm_atR I0 h_o0 (k := 2) rfl
  refine tr_getK q1 d_TrustDesk_closeEnd_1 f_TrustDesk_26_12 ?_
  refine mv_aload_n d_TrustDesk_closeEnd_4 rfl rfl ?_
  obtain ⟨_, b9, -⟩ := I0.1 _ _ t_a2
  refine mv_callV (kc' := 0) (ks' := 0) (As := [.ref o1]) (st9 := [.ref o1, .ref a2]) d_TrustDesk_closeEnd_5 lV_TrustDesk_200 b9 rfl (tc_Reckoner_knowFund (d := (d + 2)) (x9 := x9) (o0 := a2) (o1 := o1) t_a2 h_o1 I0.start) rfl (Nat.le_of_ble_eq_true rfl) (Nat.le_of_ble_eq_true rfl) (Nat.le_of_ble_eq_true rfl) (hst := rfl) (fun b3r M4 n5 b3 => ?_)
  obtain ⟨T6, J7, rfl⟩ := b3
  have I8 := I0.call J7 (tm_sub (by decide)) (Or.inl rfl)
  have t10 := J7.up h_o0
  have t11 := J7.up h_o1
  have t12 := J7.up h_o3
  have q13 := J7.keep h_o0 (by decide) q1
  have t14 := J7.up t_a2
  refine mv_aload_n d_TrustDesk_closeEnd_8 rfl rfl ?_
  refine tr_getK (k := 2) q13 d_TrustDesk_closeEnd_9 f_TrustDesk_26_12 ?_
  refine mv_aload_n d_TrustDesk_closeEnd_12 rfl rfl ?_
  obtain ⟨a16, q15, t_a16⟩ := tm_atR I8 t12 (k := 0) rfl
  refine tr_getK q15 d_TrustDesk_closeEnd_13 f_TrustDesk_204_3 ?_
  obtain ⟨a18, q17, t_a18⟩ := tm_atR I8 t_a16 (k := 3) rfl
  refine tr_getK q17 d_TrustDesk_closeEnd_16 f_TrustDesk_208_4 ?_
  obtain ⟨_, b25, -⟩ := I8.1 _ _ t14
  refine mv_callV (kc' := 0) (ks' := 0) (As := [.ref a18]) (st9 := [.ref a18, .ref a2]) d_TrustDesk_closeEnd_19 lV_TrustDesk_214 b25 rfl (tc_Reckoner_run (d := d) (x9 := x9) (o0 := a2) (o1 := a18) t14 t_a18 I8.start) rfl (Nat.le_of_ble_eq_true rfl) (Nat.le_of_ble_eq_true rfl) (Nat.le_of_ble_eq_true rfl) (hst := rfl) (fun b19r M20 n21 b19 => ?_)
  obtain ⟨T22, J23, v26, rfl⟩ := b19
  have I24 := I8.call J23 (tm_sub (by decide)) (Or.inl rfl)
  have t27 := J23.up t10
  have t28 := J23.up t11
  have t29 := J23.up t12
  have q30 := J23.keep t10 (by decide) q13
  have t31 := J23.up t14
  have q32 := J23.keep t12 (by decide) q15
  have t33 := J23.up t_a16
  have q34 := J23.keep t_a16 (by decide) q17
  have t35 := J23.up t_a18
  refine mv_lconst (v := 0) d_TrustDesk_closeEnd_22 (by decide) ?_
  refine mv_lneZ (tgt := 36) (a := v26.toInt) (b := 0) d_TrustDesk_closeEnd_23 d_TrustDesk_closeEnd_24 (by decide) rfl (by decide) (fun b36 => ?_) (fun b36 => ?_)
  · refine mv_aload_n d_TrustDesk_closeEnd_36 rfl rfl ?_
    refine mv_iconst (v := 0) d_TrustDesk_closeEnd_37 (by decide) ?_
    refine tr_putK tm_okF I24 t29 (k := 2) rfl ⟨_, rfl⟩ (Or.inl (by decide)) d_TrustDesk_closeEnd_38 p_TrustDesk_222_3 rfl rfl (fun M37 I38 q39 K40 => ?_)
    refine mv_lconst (v := 0) d_TrustDesk_closeEnd_41 (by decide) ?_
    refine mv_aload_n d_TrustDesk_closeEnd_42 rfl rfl ?_
    refine tr_getK (k := 2) (K40 _ 12 2 _ rfl q30) d_TrustDesk_closeEnd_43 f_TrustDesk_26_12 ?_
    refine mv_aload_n d_TrustDesk_closeEnd_46 rfl rfl ?_
    refine tr_getK (k := 0) (K40 _ 3 0 _ rfl q32) d_TrustDesk_closeEnd_47 f_TrustDesk_204_3 ?_
    obtain ⟨a42, q41, t_a42⟩ := tm_atR I38 t33 (k := 2) rfl
    refine tr_getK q41 d_TrustDesk_closeEnd_50 f_TrustDesk_225_4 ?_
    obtain ⟨_, b49, -⟩ := I38.1 _ _ t31
    refine mv_callV (kc' := 0) (ks' := 0) (As := [.ref a42]) (st9 := [.ref a42, .ref a2, .long 0]) d_TrustDesk_closeEnd_53 lV_TrustDesk_214 b49 rfl (tc_Reckoner_run (d := d) (x9 := x9) (o0 := a2) (o1 := a42) t31 t_a42 I38.start) rfl (Nat.le_of_ble_eq_true rfl) (Nat.le_of_ble_eq_true rfl) (Nat.le_of_ble_eq_true rfl) (hst := rfl) (fun b43r M44 n45 b43 => ?_)
    obtain ⟨T46, J47, v50, rfl⟩ := b43
    have I48 := I38.call J47 (tm_sub (by decide)) (Or.inl rfl)
    have t51 := J47.up t27
    have t52 := J47.up t28
    have t53 := J47.up t29
    have q54 := J47.keep t27 (by decide) (K40 _ 12 2 _ rfl q30)
    have t55 := J47.up t31
    have q56 := J47.keep t29 (by decide) (K40 _ 3 0 _ rfl q32)
    have t57 := J47.up t33
    have q58 := J47.keep t33 (by decide) (K40 _ 4 3 _ rfl q34)
    have t59 := J47.up t35
    have q60 := J47.keep t29 (by decide) q39
    have q61 := J47.keep t33 (by decide) q41
    have t62 := J47.up t_a42
    refine mv_mmax_long (v := (if v50 < 0 then 0 else v50)) d_TrustDesk_closeEnd_56 (mj_in1 (List.mem_of_getElem? (i := 920) (by decide +kernel)) rfl) (Nat.le_of_ble_eq_true rfl) rfl ?_
    refine mv_lstore (lv' := [(6, .long (if v50 < 0 then 0 else v50)), (0, .ref o0), (1, .ref o1), (2, .int x2), (3, .ref o3), (4, .int x4), (5, .int x5)]) d_TrustDesk_closeEnd_59 (by decide) rfl ?_
    refine mv_aload_n d_TrustDesk_closeEnd_61 rfl rfl ?_
    obtain ⟨v64, q63⟩ := tm_atL I48 t52 (k := 3) rfl
    refine tr_getK q63 d_TrustDesk_closeEnd_62 f_TrustDesk_170_6 ?_
    refine mv_lload d_TrustDesk_closeEnd_65 rfl ?_
    refine mv_lltZ (tgt := 76) (a := v64.toInt) (b := (if v50 < 0 then 0 else v50).toInt) d_TrustDesk_closeEnd_67 d_TrustDesk_closeEnd_68 (by decide) rfl rfl (fun b65 => ?_) (fun b65 => ?_)
    · refine mv_aload_n d_TrustDesk_closeEnd_76 rfl rfl ?_
      refine tr_getK (k := 0) q56 d_TrustDesk_closeEnd_77 f_TrustDesk_204_3 ?_
      obtain ⟨v67, q66⟩ := tm_atI I48 t57 (k := 4) rfl
      refine tr_getK q66 d_TrustDesk_closeEnd_80 f_TrustDesk_234_4 ?_
      have := mz_hi v67
      refine mv_if_eqZ (tgt := 93) (a := v67.toInt) d_TrustDesk_closeEnd_83 (by decide) rfl (fun b68 => ?_) (fun b68 => ?_)
      · refine mv_lconst (v := 0) d_TrustDesk_closeEnd_93 (by decide) ?_
        refine mv_lstore (lv' := [(8, .long 0), (6, .long (if v50 < 0 then 0 else v50)), (0, .ref o0), (1, .ref o1), (2, .int x2), (3, .ref o3), (4, .int x4), (5, .int x5)]) d_TrustDesk_closeEnd_94 (by decide) rfl ?_
        refine mv_lload d_TrustDesk_closeEnd_96 rfl ?_
        refine mv_lconst (v := 0) d_TrustDesk_closeEnd_98 (by decide) ?_
        refine mv_lleZ (tgt := 135) (a := 0) (b := 0) d_TrustDesk_closeEnd_99 d_TrustDesk_closeEnd_100 (by decide) (by decide) (by decide) (fun b69 => ?_) (fun b69 => ?_)
        · exact mv_vret d_TrustDesk_closeEnd_135 rfl ⟨_, I48, rfl⟩
        · refine mv_aload_n d_TrustDesk_closeEnd_103 rfl rfl ?_
          refine mv_dup d_TrustDesk_closeEnd_104 rfl ?_
          refine tr_getK (k := 3) q63 d_TrustDesk_closeEnd_105 f_TrustDesk_170_6 ?_
          refine mv_lload d_TrustDesk_closeEnd_108 rfl ?_
          refine mv_lsub d_TrustDesk_closeEnd_110 ?_
          refine tr_putK tm_okF I48 t52 (k := 3) rfl ⟨_, rfl⟩ (Or.inl (by decide)) d_TrustDesk_closeEnd_111 p_TrustDesk_170_6 rfl rfl (fun M70 I71 q72 K73 => ?_)
          refine mv_aload_n d_TrustDesk_closeEnd_114 rfl rfl ?_
          refine mv_aload_n d_TrustDesk_closeEnd_115 rfl rfl ?_
          refine mv_lload d_TrustDesk_closeEnd_116 rfl ?_
          obtain ⟨_, b80, -⟩ := I71.1 _ _ t51
          refine mv_callV (kc' := 0) (ks' := 0) (As := [.ref o1, .long 0]) (st9 := [.long 0, .ref o1, .ref o0]) d_TrustDesk_closeEnd_118 lV_TrustDesk_238 b80 rfl (tc_TrustDesk_leadBack (d := d) (x9 := x9) (o0 := o0) (o1 := o1) (x2 := 0) t51 t52 I71.start) rfl (Nat.le_of_ble_eq_true rfl) (Nat.le_of_ble_eq_true rfl) (Nat.le_of_ble_eq_true rfl) (hst := rfl) (fun b74r M75 n76 b74 => ?_)
          obtain ⟨T77, J78, rfl⟩ := b74
          have I79 := I71.call J78 (tm_sub (by decide)) (Or.inl rfl)
          have t81 := J78.up t51
          have t82 := J78.up t52
          have t83 := J78.up t53
          have q84 := J78.keep t51 (by decide) (K73 _ 12 2 _ rfl q54)
          have t85 := J78.up t55
          have q86 := J78.keep t53 (by decide) (K73 _ 3 0 _ rfl q56)
          have t87 := J78.up t57
          have q88 := J78.keep t57 (by decide) (K73 _ 4 3 _ rfl q58)
          have t89 := J78.up t59
          have q90 := J78.keep t53 (by decide) (K73 _ 3 2 _ rfl q60)
          have q91 := J78.keep t57 (by decide) (K73 _ 4 2 _ rfl q61)
          have t92 := J78.up t62
          have q93 := J78.keep t57 (by decide) (K73 _ 4 4 _ rfl q66)
          have q94 := J78.keep t52 (by decide) q72
          refine mv_aload_n d_TrustDesk_closeEnd_121 rfl rfl ?_
          refine mv_iload d_TrustDesk_closeEnd_122 rfl ?_
          refine mv_aload_n d_TrustDesk_closeEnd_124 rfl rfl ?_
          obtain ⟨v96, q95⟩ := tm_atI I79 t82 (k := 0) rfl
          refine tr_getK q95 d_TrustDesk_closeEnd_125 f_TrustDesk_132_6 ?_
          refine mv_iload_n d_TrustDesk_closeEnd_128 rfl rfl ?_
          refine mv_lload d_TrustDesk_closeEnd_129 rfl ?_
          refine mv_l2i (v := 0) d_TrustDesk_closeEnd_131 (by decide) ?_
          obtain ⟨_, b103, -⟩ := I79.1 _ _ t81
          refine mv_callV (kc' := 0) (ks' := 0) (As := [.int x4, .int v96, .int x2, .int 0]) (st9 := [.int 0, .int x2, .int v96, .int x4, .ref o0]) d_TrustDesk_closeEnd_132 lV_TrustDesk_242 b103 rfl (tc_TrustDesk_write (d := (d + 3)) (x9 := x9) (o0 := o0) (x1 := x4) (x2 := v96) (x3 := x2) (x4 := 0) t81 I79.start) rfl (Nat.le_of_ble_eq_true rfl) (Nat.le_of_ble_eq_true rfl) (Nat.le_of_ble_eq_true rfl) (hst := rfl) (fun b97r M98 n99 b97 => ?_)
          obtain ⟨T100, J101, rfl⟩ := b97
          have I102 := I79.call J101 (tm_sub (by decide)) (Or.inl rfl)
          have t104 := J101.up t81
          have t105 := J101.up t82
          have t106 := J101.up t83
          have q107 := J101.keep t81 (by decide) q84
          have t108 := J101.up t85
          have q109 := J101.keep t83 (by decide) q86
          have t110 := J101.up t87
          have q111 := J101.keep t87 (by decide) q88
          have t112 := J101.up t89
          have q113 := J101.keep t83 (by decide) q90
          have q114 := J101.keep t87 (by decide) q91
          have t115 := J101.up t92
          have q116 := J101.keep t87 (by decide) q93
          have q117 := J101.keep t82 (by decide) q94
          have q118 := J101.keep t82 (by decide) q95
          exact mv_vret d_TrustDesk_closeEnd_135 rfl ⟨_, I102, rfl⟩
      · refine mv_aload_n d_TrustDesk_closeEnd_86 rfl rfl ?_
        refine tr_getK (k := 3) q63 d_TrustDesk_closeEnd_87 f_TrustDesk_170_6 ?_
        refine mv_goto (tgt := 94) d_TrustDesk_closeEnd_90 (by decide) ?_
        refine mv_lstore (lv' := [(8, .long v64), (6, .long (if v50 < 0 then 0 else v50)), (0, .ref o0), (1, .ref o1), (2, .int x2), (3, .ref o3), (4, .int x4), (5, .int x5)]) d_TrustDesk_closeEnd_94 (by decide) rfl ?_
        refine mv_lload d_TrustDesk_closeEnd_96 rfl ?_
        refine mv_lconst (v := 0) d_TrustDesk_closeEnd_98 (by decide) ?_
        refine mv_lleZ (tgt := 135) (a := v64.toInt) (b := 0) d_TrustDesk_closeEnd_99 d_TrustDesk_closeEnd_100 (by decide) rfl (by decide) (fun b119 => ?_) (fun b119 => ?_)
        · exact mv_vret d_TrustDesk_closeEnd_135 rfl ⟨_, I48, rfl⟩
        · refine mv_aload_n d_TrustDesk_closeEnd_103 rfl rfl ?_
          refine mv_dup d_TrustDesk_closeEnd_104 rfl ?_
          refine tr_getK (k := 3) q63 d_TrustDesk_closeEnd_105 f_TrustDesk_170_6 ?_
          refine mv_lload d_TrustDesk_closeEnd_108 rfl ?_
          refine mv_lsub d_TrustDesk_closeEnd_110 ?_
          refine tr_putK tm_okF I48 t52 (k := 3) rfl ⟨_, rfl⟩ (Or.inl (by decide)) d_TrustDesk_closeEnd_111 p_TrustDesk_170_6 rfl rfl (fun M120 I121 q122 K123 => ?_)
          refine mv_aload_n d_TrustDesk_closeEnd_114 rfl rfl ?_
          refine mv_aload_n d_TrustDesk_closeEnd_115 rfl rfl ?_
          refine mv_lload d_TrustDesk_closeEnd_116 rfl ?_
          obtain ⟨_, b130, -⟩ := I121.1 _ _ t51
          refine mv_callV (kc' := 0) (ks' := 0) (As := [.ref o1, .long v64]) (st9 := [.long v64, .ref o1, .ref o0]) d_TrustDesk_closeEnd_118 lV_TrustDesk_238 b130 rfl (tc_TrustDesk_leadBack (d := d) (x9 := x9) (o0 := o0) (o1 := o1) (x2 := v64) t51 t52 I121.start) rfl (Nat.le_of_ble_eq_true rfl) (Nat.le_of_ble_eq_true rfl) (Nat.le_of_ble_eq_true rfl) (hst := rfl) (fun b124r M125 n126 b124 => ?_)
          obtain ⟨T127, J128, rfl⟩ := b124
          have I129 := I121.call J128 (tm_sub (by decide)) (Or.inl rfl)
          have t131 := J128.up t51
          have t132 := J128.up t52
          have t133 := J128.up t53
          have q134 := J128.keep t51 (by decide) (K123 _ 12 2 _ rfl q54)
          have t135 := J128.up t55
          have q136 := J128.keep t53 (by decide) (K123 _ 3 0 _ rfl q56)
          have t137 := J128.up t57
          have q138 := J128.keep t57 (by decide) (K123 _ 4 3 _ rfl q58)
          have t139 := J128.up t59
          have q140 := J128.keep t53 (by decide) (K123 _ 3 2 _ rfl q60)
          have q141 := J128.keep t57 (by decide) (K123 _ 4 2 _ rfl q61)
          have t142 := J128.up t62
          have q143 := J128.keep t57 (by decide) (K123 _ 4 4 _ rfl q66)
          have q144 := J128.keep t52 (by decide) q122
          refine mv_aload_n d_TrustDesk_closeEnd_121 rfl rfl ?_
          refine mv_iload d_TrustDesk_closeEnd_122 rfl ?_
          refine mv_aload_n d_TrustDesk_closeEnd_124 rfl rfl ?_
          obtain ⟨v146, q145⟩ := tm_atI I129 t132 (k := 0) rfl
          refine tr_getK q145 d_TrustDesk_closeEnd_125 f_TrustDesk_132_6 ?_
          refine mv_iload_n d_TrustDesk_closeEnd_128 rfl rfl ?_
          refine mv_lload d_TrustDesk_closeEnd_129 rfl ?_
          refine mv_l2i (v := v64.toInt32) d_TrustDesk_closeEnd_131 rfl ?_
          obtain ⟨_, b153, -⟩ := I129.1 _ _ t131
          refine mv_callV (kc' := 0) (ks' := 0) (As := [.int x4, .int v146, .int x2, .int v64.toInt32]) (st9 := [.int v64.toInt32, .int x2, .int v146, .int x4, .ref o0]) d_TrustDesk_closeEnd_132 lV_TrustDesk_242 b153 rfl (tc_TrustDesk_write (d := (d + 3)) (x9 := x9) (o0 := o0) (x1 := x4) (x2 := v146) (x3 := x2) (x4 := v64.toInt32) t131 I129.start) rfl (Nat.le_of_ble_eq_true rfl) (Nat.le_of_ble_eq_true rfl) (Nat.le_of_ble_eq_true rfl) (hst := rfl) (fun b147r M148 n149 b147 => ?_)
          obtain ⟨T150, J151, rfl⟩ := b147
          have I152 := I129.call J151 (tm_sub (by decide)) (Or.inl rfl)
          have t154 := J151.up t131
          have t155 := J151.up t132
          have t156 := J151.up t133
          have q157 := J151.keep t131 (by decide) q134
          have t158 := J151.up t135
          have q159 := J151.keep t133 (by decide) q136
          have t160 := J151.up t137
          have q161 := J151.keep t137 (by decide) q138
          have t162 := J151.up t139
          have q163 := J151.keep t133 (by decide) q140
          have q164 := J151.keep t137 (by decide) q141
          have t165 := J151.up t142
          have q166 := J151.keep t137 (by decide) q143
          have q167 := J151.keep t132 (by decide) q144
          have q168 := J151.keep t132 (by decide) q145
          exact mv_vret d_TrustDesk_closeEnd_135 rfl ⟨_, I152, rfl⟩
    · refine mv_lload d_TrustDesk_closeEnd_71 rfl ?_
      refine mv_goto (tgt := 94) d_TrustDesk_closeEnd_73 (by decide) ?_
      refine mv_lstore (lv' := [(8, .long (if v50 < 0 then 0 else v50)), (6, .long (if v50 < 0 then 0 else v50)), (0, .ref o0), (1, .ref o1), (2, .int x2), (3, .ref o3), (4, .int x4), (5, .int x5)]) d_TrustDesk_closeEnd_94 (by decide) rfl ?_
      refine mv_lload d_TrustDesk_closeEnd_96 rfl ?_
      refine mv_lconst (v := 0) d_TrustDesk_closeEnd_98 (by decide) ?_
      refine mv_lleZ (tgt := 135) (a := (if v50 < 0 then 0 else v50).toInt) (b := 0) d_TrustDesk_closeEnd_99 d_TrustDesk_closeEnd_100 (by decide) rfl (by decide) (fun b169 => ?_) (fun b169 => ?_)
      · exact mv_vret d_TrustDesk_closeEnd_135 rfl ⟨_, I48, rfl⟩
      · refine mv_aload_n d_TrustDesk_closeEnd_103 rfl rfl ?_
        refine mv_dup d_TrustDesk_closeEnd_104 rfl ?_
        refine tr_getK (k := 3) q63 d_TrustDesk_closeEnd_105 f_TrustDesk_170_6 ?_
        refine mv_lload d_TrustDesk_closeEnd_108 rfl ?_
        refine mv_lsub d_TrustDesk_closeEnd_110 ?_
        refine tr_putK tm_okF I48 t52 (k := 3) rfl ⟨_, rfl⟩ (Or.inl (by decide)) d_TrustDesk_closeEnd_111 p_TrustDesk_170_6 rfl rfl (fun M170 I171 q172 K173 => ?_)
        refine mv_aload_n d_TrustDesk_closeEnd_114 rfl rfl ?_
        refine mv_aload_n d_TrustDesk_closeEnd_115 rfl rfl ?_
        refine mv_lload d_TrustDesk_closeEnd_116 rfl ?_
        obtain ⟨_, b180, -⟩ := I171.1 _ _ t51
        refine mv_callV (kc' := 0) (ks' := 0) (As := [.ref o1, .long (if v50 < 0 then 0 else v50)]) (st9 := [.long (if v50 < 0 then 0 else v50), .ref o1, .ref o0]) d_TrustDesk_closeEnd_118 lV_TrustDesk_238 b180 rfl (tc_TrustDesk_leadBack (d := d) (x9 := x9) (o0 := o0) (o1 := o1) (x2 := (if v50 < 0 then 0 else v50)) t51 t52 I171.start) rfl (Nat.le_of_ble_eq_true rfl) (Nat.le_of_ble_eq_true rfl) (Nat.le_of_ble_eq_true rfl) (hst := rfl) (fun b174r M175 n176 b174 => ?_)
        obtain ⟨T177, J178, rfl⟩ := b174
        have I179 := I171.call J178 (tm_sub (by decide)) (Or.inl rfl)
        have t181 := J178.up t51
        have t182 := J178.up t52
        have t183 := J178.up t53
        have q184 := J178.keep t51 (by decide) (K173 _ 12 2 _ rfl q54)
        have t185 := J178.up t55
        have q186 := J178.keep t53 (by decide) (K173 _ 3 0 _ rfl q56)
        have t187 := J178.up t57
        have q188 := J178.keep t57 (by decide) (K173 _ 4 3 _ rfl q58)
        have t189 := J178.up t59
        have q190 := J178.keep t53 (by decide) (K173 _ 3 2 _ rfl q60)
        have q191 := J178.keep t57 (by decide) (K173 _ 4 2 _ rfl q61)
        have t192 := J178.up t62
        have q193 := J178.keep t52 (by decide) q172
        refine mv_aload_n d_TrustDesk_closeEnd_121 rfl rfl ?_
        refine mv_iload d_TrustDesk_closeEnd_122 rfl ?_
        refine mv_aload_n d_TrustDesk_closeEnd_124 rfl rfl ?_
        obtain ⟨v195, q194⟩ := tm_atI I179 t182 (k := 0) rfl
        refine tr_getK q194 d_TrustDesk_closeEnd_125 f_TrustDesk_132_6 ?_
        refine mv_iload_n d_TrustDesk_closeEnd_128 rfl rfl ?_
        refine mv_lload d_TrustDesk_closeEnd_129 rfl ?_
        refine mv_l2i (v := (if v50 < 0 then 0 else v50).toInt32) d_TrustDesk_closeEnd_131 rfl ?_
        obtain ⟨_, b202, -⟩ := I179.1 _ _ t181
        refine mv_callV (kc' := 0) (ks' := 0) (As := [.int x4, .int v195, .int x2, .int ((if v50 < 0 then 0 else v50).toInt32)]) (st9 := [.int ((if v50 < 0 then 0 else v50).toInt32), .int x2, .int v195, .int x4, .ref o0]) d_TrustDesk_closeEnd_132 lV_TrustDesk_242 b202 rfl (tc_TrustDesk_write (d := (d + 3)) (x9 := x9) (o0 := o0) (x1 := x4) (x2 := v195) (x3 := x2) (x4 := (if v50 < 0 then 0 else v50).toInt32) t181 I179.start) rfl (Nat.le_of_ble_eq_true rfl) (Nat.le_of_ble_eq_true rfl) (Nat.le_of_ble_eq_true rfl) (hst := rfl) (fun b196r M197 n198 b196 => ?_)
        obtain ⟨T199, J200, rfl⟩ := b196
        have I201 := I179.call J200 (tm_sub (by decide)) (Or.inl rfl)
        have t203 := J200.up t181
        have t204 := J200.up t182
        have t205 := J200.up t183
        have q206 := J200.keep t181 (by decide) q184
        have t207 := J200.up t185
        have q208 := J200.keep t183 (by decide) q186
        have t209 := J200.up t187
        have q210 := J200.keep t187 (by decide) q188
        have t211 := J200.up t189
        have q212 := J200.keep t183 (by decide) q190
        have q213 := J200.keep t187 (by decide) q191
        have t214 := J200.up t192
        have q215 := J200.keep t182 (by decide) q193
        have q216 := J200.keep t182 (by decide) q194
        exact mv_vret d_TrustDesk_closeEnd_135 rfl ⟨_, I201, rfl⟩
  · refine mv_aload_n d_TrustDesk_closeEnd_27 rfl rfl ?_
    refine mv_iload d_TrustDesk_closeEnd_28 rfl ?_
    refine mv_iload d_TrustDesk_closeEnd_30 rfl ?_
    obtain ⟨_, b223, -⟩ := I24.1 _ _ t29
    refine mv_callV (kc' := 0) (ks' := 0) (As := [.int x4, .int x5]) (st9 := [.int x5, .int x4, .ref o3]) d_TrustDesk_closeEnd_32 lV_TrustDesk_218 b223 rfl (tc_End_fails (d := (d + 3)) (x9 := x9) (o0 := o3) (x1 := x4) (x2 := x5) t29 I24.start) rfl (Nat.le_of_ble_eq_true rfl) (Nat.le_of_ble_eq_true rfl) (Nat.le_of_ble_eq_true rfl) (hst := rfl) (fun b217r M218 n219 b217 => ?_)
    obtain ⟨T220, J221, rfl⟩ := b217
    have I222 := I24.call J221 (tm_sub (by decide)) (Or.inl rfl)
    have t224 := J221.up t27
    have t225 := J221.up t28
    have t226 := J221.up t29
    have q227 := J221.keep t27 (by decide) q30
    have t228 := J221.up t31
    have q229 := J221.keep t29 (by decide) q32
    have t230 := J221.up t33
    have q231 := J221.keep t33 (by decide) q34
    have t232 := J221.up t35
    exact mv_vret d_TrustDesk_closeEnd_35 rfl ⟨_, I222, rfl⟩
abbrev kY_TrustDesk_closeFund : mj_Y := (⟨"TrustDesk", "closeFund", "(LTrustDesk$Fund;ILTrustDesk$Act;)V"⟩, prog_1_method_13_code, 8, (Option.none : Option Jvm.ClassFile.FieldType))
theorem d_TrustDesk_closeFund_0 : decode kY_TrustDesk_closeFund.2.1 0 = .ok (.aload_n 1, 1) := by decide +kernel
theorem d_TrustDesk_closeFund_1 : decode kY_TrustDesk_closeFund.2.1 1 = .ok (.aload_n 1, 1) := by decide +kernel
theorem d_TrustDesk_closeFund_2 : decode kY_TrustDesk_closeFund.2.1 2 = .ok (.getfield 170, 3) := by decide +kernel
theorem d_TrustDesk_closeFund_5 : decode kY_TrustDesk_closeFund.2.1 5 = .ok (.aload_n 3, 1) := by decide +kernel
theorem d_TrustDesk_closeFund_6 : decode kY_TrustDesk_closeFund.2.1 6 = .ok (.iconst 4, 1) := by decide +kernel
theorem d_TrustDesk_closeFund_7 : decode kY_TrustDesk_closeFund.2.1 7 = .ok (.invokevirtual 118, 3) := by decide +kernel
theorem d_TrustDesk_closeFund_10 : decode kY_TrustDesk_closeFund.2.1 10 = .ok (.i2l, 1) := by decide +kernel
theorem d_TrustDesk_closeFund_11 : decode kY_TrustDesk_closeFund.2.1 11 = .ok (.lmul, 1) := by decide +kernel
theorem d_TrustDesk_closeFund_12 : decode kY_TrustDesk_closeFund.2.1 12 = .ok (.ldc2_w 174, 3) := by decide +kernel
theorem k_TrustDesk_174 : Cond.constantLong "TrustDesk" 174 100 ∈ mj_T := (mj_in1 (List.mem_of_getElem? (i := 864) (by decide +kernel)) rfl)
theorem d_TrustDesk_closeFund_15 : decode kY_TrustDesk_closeFund.2.1 15 = .ok (.ldiv, 1) := by decide +kernel
theorem d_TrustDesk_closeFund_16 : decode kY_TrustDesk_closeFund.2.1 16 = .ok (.invokevirtual 176, 3) := by decide +kernel
abbrev kY_Fund_receive : mj_Y := (⟨"TrustDesk$Fund", "receive", "(J)V"⟩, prog_7_method_4_code, 3, (Option.none : Option Jvm.ClassFile.FieldType))
theorem d_Fund_receive_0 : decode kY_Fund_receive.2.1 0 = .ok (.aload_n 0, 1) := by decide +kernel
theorem d_Fund_receive_1 : decode kY_Fund_receive.2.1 1 = .ok (.aload_n 0, 1) := by decide +kernel
theorem d_Fund_receive_2 : decode kY_Fund_receive.2.1 2 = .ok (.getfield 49, 3) := by decide +kernel
theorem f_Fund_49_6 : mj_fl "TrustDesk$Fund" 49 6 3 := ⟨kR_Fund, kF_Fund, 15, "TrustDesk$Fund", rfl, kg_6, by decide, (mj_in1 (List.mem_of_getElem? (i := 671) (by decide +kernel)) rfl), Or.inl rfl⟩
theorem d_Fund_receive_5 : decode kY_Fund_receive.2.1 5 = .ok (.lload_n 1, 1) := by decide +kernel
theorem d_Fund_receive_6 : decode kY_Fund_receive.2.1 6 = .ok (.ladd, 1) := by decide +kernel
theorem d_Fund_receive_7 : decode kY_Fund_receive.2.1 7 = .ok (.ldc2_w 53, 3) := by decide +kernel
theorem k_Fund_53 : Cond.constantLong "TrustDesk$Fund" 53 1000000000000000 ∈ mj_T := (mj_in1 (List.mem_of_getElem? (i := 869) (by decide +kernel)) rfl)
theorem d_Fund_receive_10 : decode kY_Fund_receive.2.1 10 = .ok (.invokestatic 55, 3) := by decide +kernel
theorem d_Fund_receive_13 : decode kY_Fund_receive.2.1 13 = .ok (.putfield 49, 3) := by decide +kernel
theorem p_Fund_49_6 : mj_fp "TrustDesk$Fund" 49 6 3 (kt_Fund 3) false := ⟨kR_Fund, kF_Fund, 15, "TrustDesk$Fund", kt_Fund, rfl, kg_6, by decide, (mj_in1 (List.mem_of_getElem? (i := 671) (by decide +kernel)) rfl), Or.inl rfl, kto_Fund, kn_Fund, rfl, rfl, fun h => by cases h⟩
theorem d_Fund_receive_16 : decode kY_Fund_receive.2.1 16 = .ok (.return_, 1) := by decide +kernel
def w_Fund_receive : List Nat := [603]
theorem tc_Fund_receive {g : mj_G} {l : Launch} {d : Nat} {T0 : tm_H} {M0 : mj_M} {n0 x9 : Nat} {o0 : Nat} {x1 : Int64} (h_o0 : T0 o0 = some (0, 6, 0)) (I0 : tm_I tm_FT (tm_in w_Fund_receive) x9 T0 M0 n0 T0 M0 n0) : mj_Met g l kY_Fund_receive (d + 1) [.ref o0, .long x1] M0 n0 0 0 (tm_Q tm_FT (tm_in w_Fund_receive) x9 T0 M0 n0 (fun r _ _ => r = none)) := by
  refine mj_enter (by decide) (Nat.le_of_ble_eq_true rfl) ?_
  refine mv_aload_n d_Fund_receive_0 rfl rfl ?_
  refine mv_aload_n d_Fund_receive_1 rfl rfl ?_
  obtain ⟨v2, q1⟩ := tm_atL I0 h_o0 (k := 3) rfl
  refine tr_getK q1 d_Fund_receive_2 f_Fund_49_6 ?_
  refine mv_lload_n d_Fund_receive_5 rfl rfl ?_
  refine mv_ladd d_Fund_receive_6 ?_
  refine mv_ldc2 d_Fund_receive_7 k_Fund_53 ?_
  refine mv_mmin_long (v := (if 1000000000000000 < (v2 + x1) then 1000000000000000 else (v2 + x1))) d_Fund_receive_10 (mj_in1 (List.mem_of_getElem? (i := 870) (by decide +kernel)) rfl) (Nat.le_of_ble_eq_true rfl) rfl ?_
  refine tr_putK tm_okF I0 h_o0 (k := 3) rfl ⟨_, rfl⟩ (Or.inl (by decide)) d_Fund_receive_13 p_Fund_49_6 rfl rfl (fun M3 I4 q5 K6 => ?_)
  exact mv_vret d_Fund_receive_16 rfl ⟨_, I4, rfl⟩
theorem lV_TrustDesk_176 : mj_lV "TrustDesk" 176 kY_Fund_receive 1 := ⟨⟨(mj_in1 (List.mem_of_getElem? (i := 865) (by decide +kernel)) rfl), (mj_in1 (List.mem_of_getElem? (i := 21) (by decide +kernel)) rfl), (mj_in1 (List.mem_of_getElem? (i := 868) (by decide +kernel)) rfl), by decide, rfl, by decide⟩, (mj_in1 (List.mem_of_getElem? (i := 866) (by decide +kernel)) rfl), (mj_in1 (List.mem_of_getElem? (i := 867) (by decide +kernel)) rfl)⟩
theorem d_TrustDesk_closeFund_19 : decode kY_TrustDesk_closeFund.2.1 19 = .ok (.aload_n 1, 1) := by decide +kernel
theorem d_TrustDesk_closeFund_20 : decode kY_TrustDesk_closeFund.2.1 20 = .ok (.aload_n 0, 1) := by decide +kernel
theorem d_TrustDesk_closeFund_21 : decode kY_TrustDesk_closeFund.2.1 21 = .ok (.getfield 26, 3) := by decide +kernel
theorem d_TrustDesk_closeFund_24 : decode kY_TrustDesk_closeFund.2.1 24 = .ok (.getfield 180, 3) := by decide +kernel
theorem f_TrustDesk_180_10 : mj_fl "TrustDesk" 180 10 0 := ⟨kR_Reckoner, kF_Reckoner, 5, "TrustDesk$Reckoner", rfl, kg_10, by decide, (mj_in1 (List.mem_of_getElem? (i := 137) (by decide +kernel)) rfl), Or.inl rfl⟩
theorem d_TrustDesk_closeFund_27 : decode kY_TrustDesk_closeFund.2.1 27 = .ok (.bipush 6, 2) := by decide +kernel
theorem d_TrustDesk_closeFund_29 : decode kY_TrustDesk_closeFund.2.1 29 = .ok (.laload, 1) := by decide +kernel
theorem d_TrustDesk_closeFund_30 : decode kY_TrustDesk_closeFund.2.1 30 = .ok (.invokevirtual 184, 3) := by decide +kernel
theorem lV_TrustDesk_184 : mj_lV "TrustDesk" 184 kY_Fund_incomeAt 1 := ⟨⟨(mj_in1 (List.mem_of_getElem? (i := 873) (by decide +kernel)) rfl), (mj_in1 (List.mem_of_getElem? (i := 21) (by decide +kernel)) rfl), (mj_in1 (List.mem_of_getElem? (i := 876) (by decide +kernel)) rfl), by decide, rfl, by decide⟩, (mj_in1 (List.mem_of_getElem? (i := 874) (by decide +kernel)) rfl), (mj_in1 (List.mem_of_getElem? (i := 875) (by decide +kernel)) rfl)⟩
theorem d_TrustDesk_closeFund_33 : decode kY_TrustDesk_closeFund.2.1 33 = .ok (.lstore 4, 2) := by decide +kernel
theorem d_TrustDesk_closeFund_35 : decode kY_TrustDesk_closeFund.2.1 35 = .ok (.aload_n 1, 1) := by decide +kernel
theorem d_TrustDesk_closeFund_36 : decode kY_TrustDesk_closeFund.2.1 36 = .ok (.lload 4, 2) := by decide +kernel
theorem d_TrustDesk_closeFund_38 : decode kY_TrustDesk_closeFund.2.1 38 = .ok (.invokevirtual 176, 3) := by decide +kernel
theorem d_TrustDesk_closeFund_41 : decode kY_TrustDesk_closeFund.2.1 41 = .ok (.iconst 0, 1) := by decide +kernel
theorem d_TrustDesk_closeFund_42 : decode kY_TrustDesk_closeFund.2.1 42 = .ok (.istore 6, 2) := by decide +kernel
theorem d_TrustDesk_closeFund_44 : decode kY_TrustDesk_closeFund.2.1 44 = .ok (.iload 6, 2) := by decide +kernel
theorem d_TrustDesk_closeFund_46 : decode kY_TrustDesk_closeFund.2.1 46 = .ok (.aload_n 1, 1) := by decide +kernel
theorem d_TrustDesk_closeFund_47 : decode kY_TrustDesk_closeFund.2.1 47 = .ok (.getfield 188, 3) := by decide +kernel
theorem f_TrustDesk_188_6 : mj_fl "TrustDesk" 188 6 11 := ⟨kR_Fund, kF_Fund, 15, "TrustDesk$Fund", rfl, kg_6, by decide, (mj_in1 (List.mem_of_getElem? (i := 690) (by decide +kernel)) rfl), Or.inl rfl⟩
theorem d_TrustDesk_closeFund_50 : decode kY_TrustDesk_closeFund.2.1 50 = .ok (.invokevirtual 97, 3) := by decide +kernel
theorem d_TrustDesk_closeFund_53 : decode kY_TrustDesk_closeFund.2.1 53 = .ok (.if_icmp .ge 46, 3) := by decide +kernel
theorem d_TrustDesk_closeFund_99 : decode kY_TrustDesk_closeFund.2.1 99 = .ok (.return_, 1) := by decide +kernel
theorem d_TrustDesk_closeFund_56 : decode kY_TrustDesk_closeFund.2.1 56 = .ok (.aload_n 1, 1) := by decide +kernel
theorem d_TrustDesk_closeFund_57 : decode kY_TrustDesk_closeFund.2.1 57 = .ok (.getfield 188, 3) := by decide +kernel
theorem d_TrustDesk_closeFund_60 : decode kY_TrustDesk_closeFund.2.1 60 = .ok (.iload 6, 2) := by decide +kernel
theorem d_TrustDesk_closeFund_62 : decode kY_TrustDesk_closeFund.2.1 62 = .ok (.invokevirtual 158, 3) := by decide +kernel
theorem d_TrustDesk_closeFund_65 : decode kY_TrustDesk_closeFund.2.1 65 = .ok (.checkcast 191, 3) := by decide +kernel
theorem d_TrustDesk_closeFund_68 : decode kY_TrustDesk_closeFund.2.1 68 = .ok (.astore 7, 2) := by decide +kernel
theorem d_TrustDesk_closeFund_70 : decode kY_TrustDesk_closeFund.2.1 70 = .ok (.aload 7, 2) := by decide +kernel
theorem d_TrustDesk_closeFund_72 : decode kY_TrustDesk_closeFund.2.1 72 = .ok (.getfield 193, 3) := by decide +kernel
theorem d_TrustDesk_closeFund_75 : decode kY_TrustDesk_closeFund.2.1 75 = .ok (.ifCond .ne 18, 3) := by decide +kernel
theorem d_TrustDesk_closeFund_93 : decode kY_TrustDesk_closeFund.2.1 93 = .ok (.iinc 6 1, 3) := by decide +kernel
theorem d_TrustDesk_closeFund_96 : decode kY_TrustDesk_closeFund.2.1 96 = .ok (.goto (-52), 3) := by decide +kernel
theorem d_TrustDesk_closeFund_78 : decode kY_TrustDesk_closeFund.2.1 78 = .ok (.aload_n 0, 1) := by decide +kernel
theorem d_TrustDesk_closeFund_79 : decode kY_TrustDesk_closeFund.2.1 79 = .ok (.aload_n 1, 1) := by decide +kernel
theorem d_TrustDesk_closeFund_80 : decode kY_TrustDesk_closeFund.2.1 80 = .ok (.iload 6, 2) := by decide +kernel
theorem d_TrustDesk_closeFund_82 : decode kY_TrustDesk_closeFund.2.1 82 = .ok (.aload 7, 2) := by decide +kernel
theorem d_TrustDesk_closeFund_84 : decode kY_TrustDesk_closeFund.2.1 84 = .ok (.iload_n 2, 1) := by decide +kernel
theorem d_TrustDesk_closeFund_85 : decode kY_TrustDesk_closeFund.2.1 85 = .ok (.aload_n 3, 1) := by decide +kernel
theorem d_TrustDesk_closeFund_86 : decode kY_TrustDesk_closeFund.2.1 86 = .ok (.iconst 0, 1) := by decide +kernel
theorem d_TrustDesk_closeFund_87 : decode kY_TrustDesk_closeFund.2.1 87 = .ok (.invokevirtual 118, 3) := by decide +kernel
theorem d_TrustDesk_closeFund_90 : decode kY_TrustDesk_closeFund.2.1 90 = .ok (.invokevirtual 196, 3) := by decide +kernel
theorem lV_TrustDesk_196 : mj_lV "TrustDesk" 196 kY_TrustDesk_closeEnd 5 := ⟨⟨(mj_in1 (List.mem_of_getElem? (i := 878) (by decide +kernel)) rfl), (mj_in1 (List.mem_of_getElem? (i := 1) (by decide +kernel)) rfl), (mj_in1 (List.mem_of_getElem? (i := 881) (by decide +kernel)) rfl), by decide, rfl, by decide⟩, (mj_in1 (List.mem_of_getElem? (i := 880) (by decide +kernel)) rfl), (mj_in (List.mem_append_left _ (List.mem_of_getElem? (i := 42) (by decide +kernel))) rfl)⟩
def w_TrustDesk_closeFund : List Nat := [301, 302, 303, 603, 610, 1001, 1003, 1004, 1050, 1052, 1210, 1259]
theorem tc_TrustDesk_closeFund {g : mj_G} {l : Launch} {d : Nat} {T0 : tm_H} {M0 : mj_M} {n0 x9 : Nat} {o0 : Nat} {o1 : Nat} {x2 : Int32} {o3 : Nat} (h_o0 : T0 o0 = some (0, 12, 0)) (h_o1 : T0 o1 = some (0, 6, 0)) (h_o3 : T0 o3 = some (0, 1, 0)) (I0 : tm_I tm_FT (tm_in w_TrustDesk_closeFund) x9 T0 M0 n0 T0 M0 n0) : mj_Met g l kY_TrustDesk_closeFund (d + 5) [.ref o0, .ref o1, .int x2, .ref o3] M0 n0 0 0 (tm_Q tm_FT (tm_in w_TrustDesk_closeFund) x9 T0 M0 n0 (fun r _ _ => r = none)) := by
  refine mj_enter (by decide) (Nat.le_of_ble_eq_true rfl) ?_
  refine mv_aload_n d_TrustDesk_closeFund_0 rfl rfl ?_
  refine mv_aload_n d_TrustDesk_closeFund_1 rfl rfl ?_
  obtain ⟨v2, q1⟩ := tm_atL I0 h_o1 (k := 3) rfl
  refine tr_getK q1 d_TrustDesk_closeFund_2 f_TrustDesk_170_6 ?_
  refine mv_aload_n d_TrustDesk_closeFund_5 rfl rfl ?_
  refine mv_iconst (v := 4) d_TrustDesk_closeFund_6 (by decide) ?_
  obtain ⟨_, b9, -⟩ := I0.1 _ _ h_o3
  refine mv_callV (kc' := 0) (ks' := 0) (As := [.int 4]) (st9 := [.int 4, .ref o3, .long v2, .ref o1]) d_TrustDesk_closeFund_7 lV_TrustDesk_118 b9 rfl (tc_Act_rule (d := (d + 4)) (x9 := x9) (o0 := o3) (x1 := 4) h_o3 I0.start) rfl (Nat.le_of_ble_eq_true rfl) (Nat.le_of_ble_eq_true rfl) (Nat.le_of_ble_eq_true rfl) (hst := rfl) (fun b3r M4 n5 b3 => ?_)
  obtain ⟨T6, J7, v10, rfl⟩ := b3
  have I8 := I0.call J7 (tm_sub (by decide)) (Or.inl rfl)
  have t11 := J7.up h_o0
  have t12 := J7.up h_o1
  have t13 := J7.up h_o3
  have q14 := J7.keep h_o1 (by decide) q1
  refine mv_i2l (v := v10.toInt64) d_TrustDesk_closeFund_10 rfl ?_
  refine mv_lmul d_TrustDesk_closeFund_11 ?_
  refine mv_ldc2 d_TrustDesk_closeFund_12 k_TrustDesk_174 ?_
  refine mv_ldiv d_TrustDesk_closeFund_15 (by decide) ?_
  obtain ⟨_, b21, -⟩ := I8.1 _ _ t12
  refine mv_callV (kc' := 0) (ks' := 0) (As := [.long ((v2 * v10.toInt64) / 100)]) (st9 := [.long ((v2 * v10.toInt64) / 100), .ref o1]) d_TrustDesk_closeFund_16 lV_TrustDesk_176 b21 rfl (tc_Fund_receive (d := (d + 3)) (x9 := x9) (o0 := o1) (x1 := ((v2 * v10.toInt64) / 100)) t12 I8.start) rfl (Nat.le_of_ble_eq_true rfl) (Nat.le_of_ble_eq_true rfl) (Nat.le_of_ble_eq_true rfl) (hst := rfl) (fun b15r M16 n17 b15 => ?_)
  obtain ⟨T18, J19, rfl⟩ := b15
  have I20 := I8.call J19 (tm_sub (by decide)) (Or.inl rfl)
  have t22 := J19.up t11
  have t23 := J19.up t12
  have t24 := J19.up t13
  refine mv_aload_n d_TrustDesk_closeFund_19 rfl rfl ?_
  refine mv_aload_n d_TrustDesk_closeFund_20 rfl rfl ?_
  obtain ⟨a26, q25, t_a26⟩ := tm_atR I20 t22 (k := 2) rfl
  refine tr_getK q25 d_TrustDesk_closeFund_21 f_TrustDesk_26_12 ?_
  obtain ⟨a28, q27, t_a28⟩ := tm_atR I20 t_a26 (k := 0) rfl
  refine tr_getK q27 d_TrustDesk_closeFund_24 f_TrustDesk_180_10 ?_
  refine mv_bipush (v := 6) d_TrustDesk_closeFund_27 (by decide) ?_
  refine tr_lald I20 t_a28 (by decide) d_TrustDesk_closeFund_29 (by unfold vp_in; decide) (fun v29 => ?_)
  obtain ⟨_, b36, -⟩ := I20.1 _ _ t23
  refine mv_callV (kc' := 0) (ks' := 0) (As := [.long v29]) (st9 := [.long v29, .ref o1]) d_TrustDesk_closeFund_30 lV_TrustDesk_184 b36 rfl (tc_Fund_incomeAt (d := (d + 4)) (x9 := x9) (o0 := o1) (x1 := v29) t23 I20.start) rfl (Nat.le_of_ble_eq_true rfl) (Nat.le_of_ble_eq_true rfl) (Nat.le_of_ble_eq_true rfl) (hst := rfl) (fun b30r M31 n32 b30 => ?_)
  obtain ⟨T33, J34, v37, rfl⟩ := b30
  have I35 := I20.call J34 (tm_sub (by decide)) (Or.inl rfl)
  have t38 := J34.up t22
  have t39 := J34.up t23
  have t40 := J34.up t24
  have q41 := J34.keep t22 (by decide) q25
  have t42 := J34.up t_a26
  have q43 := J34.keep t_a26 (by decide) q27
  have t44 := J34.up t_a28
  refine mv_lstore (lv' := [(4, .long v37), (0, .ref o0), (1, .ref o1), (2, .int x2), (3, .ref o3)]) d_TrustDesk_closeFund_33 (by decide) rfl ?_
  refine mv_aload_n d_TrustDesk_closeFund_35 rfl rfl ?_
  refine mv_lload d_TrustDesk_closeFund_36 rfl ?_
  obtain ⟨_, b51, -⟩ := I35.1 _ _ t39
  refine mv_callV (kc' := 0) (ks' := 0) (As := [.long v37]) (st9 := [.long v37, .ref o1]) d_TrustDesk_closeFund_38 lV_TrustDesk_176 b51 rfl (tc_Fund_receive (d := (d + 3)) (x9 := x9) (o0 := o1) (x1 := v37) t39 I35.start) rfl (Nat.le_of_ble_eq_true rfl) (Nat.le_of_ble_eq_true rfl) (Nat.le_of_ble_eq_true rfl) (hst := rfl) (fun b45r M46 n47 b45 => ?_)
  obtain ⟨T48, J49, rfl⟩ := b45
  have I50 := I35.call J49 (tm_sub (by decide)) (Or.inl rfl)
  have t52 := J49.up t38
  have t53 := J49.up t39
  have t54 := J49.up t40
  have q55 := J49.keep t38 (by decide) q41
  have t56 := J49.up t42
  have q57 := J49.keep t42 (by decide) q43
  have t58 := J49.up t44
  refine mv_iconst (v := 0) d_TrustDesk_closeFund_41 (by decide) ?_
  refine mv_istore (lv' := [(6, .int 0), (4, .long v37), (0, .ref o0), (1, .ref o1), (2, .int x2), (3, .ref o3)]) d_TrustDesk_closeFund_42 (by decide) rfl ?_
  have L44_59 : ∀ (k : Nat) (i6_59 : Int32) (T_59 : tm_H) (M_59 : mj_M) (n_59 : Nat), tm_I tm_FT (tm_in w_TrustDesk_closeFund) x9 T0 M0 n0 T_59 M_59 n_59 → T_59 o0 = some (0, 12, 0) → T_59 o1 = some (0, 6, 0) → T_59 o3 = some (0, 1, 0) → 0 ≤ i6_59.toInt → 2147483647 - i6_59.toInt < (k : Int) → mj_V g l kY_TrustDesk_closeFund (d + 5) 44 [(6, .int i6_59), (4, .long v37), (0, .ref o0), (1, .ref o1), (2, .int x2), (3, .ref o3)] [] M_59 n_59 0 0 (tm_Q tm_FT (tm_in w_TrustDesk_closeFund) x9 T0 M0 n0 (fun r _ _ => r = none)) := by
    intro k59
    induction k59 with
    | zero =>
      intro i6_59 T_59 M_59 n_59 I_59 h_q0_59 h_q1_59 h_q3_59 iv0_59 hk59
      have := mz_hi i6_59
      omega
    | succ k59 ih59 =>
      intro i6_59 T_59 M_59 n_59 I_59 h_q0_59 h_q1_59 h_q3_59 iv0_59 hk59
      refine mv_iload d_TrustDesk_closeFund_44 rfl ?_
      refine mv_aload_n d_TrustDesk_closeFund_46 rfl rfl ?_
      obtain ⟨a61, q60, t_a61⟩ := tm_atO I_59 h_q1_59 (k := 11) rfl
      refine tr_getK q60 d_TrustDesk_closeFund_47 f_TrustDesk_188_6 ?_
      obtain ⟨m63, n67, e64, N65, f66, h62⟩ := I_59.1 _ _ t_a61
      have := h62.2.1
      have : n67.toInt ≤ 72 := h62.2.2.1
      have q68 : tm_at M_59 a61 0 2 (.int n67) := ⟨_, h62.1, rfl⟩
      refine mv_callV_s (kc' := 0) (ks' := 0) [] [.ref a61, .int i6_59] d_TrustDesk_closeFund_50 lV_TrustDesk_97 h62.1 rfl (tc_L_size (d := (d + 4)) h62.1) rfl (Nat.le_of_ble_eq_true rfl) (Nat.le_of_ble_eq_true rfl) (Nat.le_of_ble_eq_true rfl) rfl ?_
      have := mz_hi i6_59
      have := mz_hi n67
      refine mv_icmp_geZ (tgt := 99) (a := i6_59.toInt) (b := n67.toInt) d_TrustDesk_closeFund_53 (by decide) rfl rfl (fun b69 => ?_) (fun b69 => ?_)
      · exact mv_vret d_TrustDesk_closeFund_99 rfl ⟨_, I_59, rfl⟩
      · refine mv_aload_n d_TrustDesk_closeFund_56 rfl rfl ?_
        refine tr_getK (k := 11) q60 d_TrustDesk_closeFund_57 f_TrustDesk_188_6 ?_
        refine mv_iload d_TrustDesk_closeFund_60 rfl ?_
        obtain ⟨m71, e72, N73, f74, h70⟩ := tm_lsn I_59 t_a61 q68
        obtain ⟨u75e, u75i, a76, u75f, u75t⟩ := tm_el (i := i6_59) h70 (by omega) (by omega)
        have t_a76 : T_59 a76 = some (0, 3, 0) := u75t
        refine mv_callV_s (kc' := 0) (ks' := 0) [.int i6_59] [.int i6_59, .ref a61] d_TrustDesk_closeFund_62 lV_TrustDesk_158 h70.1 rfl (tc_L_get (d := (d + 2)) h70.1 u75e (by omega) (by omega) u75i u75f) rfl (Nat.le_of_ble_eq_true rfl) (Nat.le_of_ble_eq_true rfl) (Nat.le_of_ble_eq_true rfl) rfl ?_
        obtain ⟨_, b77, -⟩ := I_59.1 _ _ t_a76
        refine mv_castS (T9 := kF_End) (N := 4) d_TrustDesk_closeFund_65 (mj_in1 (List.mem_of_getElem? (i := 877) (by decide +kernel)) rfl) b77 rfl ?_
        refine mv_astore (lv' := [(7, .ref a76), (6, .int i6_59), (4, .long v37), (0, .ref o0), (1, .ref o1), (2, .int x2), (3, .ref o3)]) d_TrustDesk_closeFund_68 (by decide) rfl ?_
        refine mv_aload d_TrustDesk_closeFund_70 rfl ?_
        obtain ⟨v79, q78⟩ := tm_atI I_59 t_a76 (k := 1) rfl
        refine tr_getK q78 d_TrustDesk_closeFund_72 f_TrustDesk_193_3 ?_
        have := mz_hi v79
        refine mv_if_neZ (tgt := 93) (a := v79.toInt) d_TrustDesk_closeFund_75 (by decide) rfl (fun b80 => ?_) (fun b80 => ?_)
        · refine mv_iinc (v := (i6_59 + 1)) (lv' := [(6, .int (i6_59 + 1)), (7, .ref a76), (4, .long v37), (0, .ref o0), (1, .ref o1), (2, .int x2), (3, .ref o3)]) d_TrustDesk_closeFund_93 rfl rfl (by decide) rfl ?_
          refine mv_goto (tgt := 44) d_TrustDesk_closeFund_96 (by decide) ?_
          refine mv_locals (lv' := [(6, .int (i6_59 + 1)), (4, .long v37), (0, .ref o0), (1, .ref o1), (2, .int x2), (3, .ref o3)]) (by intro q hq; simp only [List.mem_cons, List.not_mem_nil, or_false] at hq; rcases hq with rfl | rfl | rfl | rfl | rfl | rfl <;> rfl) ?_
          have b81 : (i6_59 + 1).toInt = i6_59.toInt + 1 := mz_addn 1 1 (by decide) (by have := mz_lo i6_59; omega) (by have := mz_hi i6_59; omega)
          exact (ih59 (i6_59 + 1) T_59 M_59 n_59 I_59 h_q0_59 h_q1_59 h_q3_59 (by first | omega | decide) (by omega))
        · refine mv_aload_n d_TrustDesk_closeFund_78 rfl rfl ?_
          refine mv_aload_n d_TrustDesk_closeFund_79 rfl rfl ?_
          refine mv_iload d_TrustDesk_closeFund_80 rfl ?_
          refine mv_aload d_TrustDesk_closeFund_82 rfl ?_
          refine mv_iload_n d_TrustDesk_closeFund_84 rfl rfl ?_
          refine mv_aload_n d_TrustDesk_closeFund_85 rfl rfl ?_
          refine mv_iconst (v := 0) d_TrustDesk_closeFund_86 (by decide) ?_
          obtain ⟨_, b88, -⟩ := I_59.1 _ _ h_q3_59
          refine mv_callV (kc' := 0) (ks' := 0) (As := [.int 0]) (st9 := [.int 0, .ref o3, .int x2, .ref a76, .int i6_59, .ref o1, .ref o0]) d_TrustDesk_closeFund_87 lV_TrustDesk_118 b88 rfl (tc_Act_rule (d := (d + 4)) (x9 := x9) (o0 := o3) (x1 := 0) h_q3_59 I_59.start) rfl (Nat.le_of_ble_eq_true rfl) (Nat.le_of_ble_eq_true rfl) (Nat.le_of_ble_eq_true rfl) (hst := rfl) (fun b82r M83 n84 b82 => ?_)
          obtain ⟨T85, J86, v89, rfl⟩ := b82
          have I87 := I_59.call J86 (tm_sub (by decide)) (Or.inl rfl)
          have t90 := J86.up t_a76
          have t91 := J86.up h_q0_59
          have t92 := J86.up h_q1_59
          have t93 := J86.up h_q3_59
          have q94 := J86.keep h_q1_59 (by decide) q60
          have t95 := J86.up t_a61
          have q96 := J86.keepL t_a61 (by decide) q68
          have q97 := J86.keep t_a76 (by decide) q78
          obtain ⟨_, b104, -⟩ := I87.1 _ _ t91
          refine mv_callV (kc' := 0) (ks' := 0) (As := [.ref o1, .int i6_59, .ref a76, .int x2, .int v89]) (st9 := [.int v89, .int x2, .ref a76, .int i6_59, .ref o1, .ref o0]) d_TrustDesk_closeFund_90 lV_TrustDesk_196 b104 rfl (tc_TrustDesk_closeEnd (d := d) (x9 := x9) (o0 := o0) (o1 := o1) (x2 := i6_59) (o3 := a76) (x4 := x2) (x5 := v89) t91 t92 t90 I87.start) rfl (Nat.le_of_ble_eq_true rfl) (Nat.le_of_ble_eq_true rfl) (Nat.le_of_ble_eq_true rfl) (hst := rfl) (fun b98r M99 n100 b98 => ?_)
          obtain ⟨T101, J102, rfl⟩ := b98
          have I103 := I87.call J102 (tm_sub (by decide)) (Or.inl rfl)
          have t105 := J102.up t90
          have t106 := J102.up t91
          have t107 := J102.up t92
          have t108 := J102.up t93
          have q109 := J102.keep t92 (by decide) q94
          have t110 := J102.up t95
          have q111 := J102.keepL t95 (by decide) q96
          refine mv_iinc (v := (i6_59 + 1)) (lv' := [(6, .int (i6_59 + 1)), (7, .ref a76), (4, .long v37), (0, .ref o0), (1, .ref o1), (2, .int x2), (3, .ref o3)]) d_TrustDesk_closeFund_93 rfl rfl (by decide) rfl ?_
          refine mv_goto (tgt := 44) d_TrustDesk_closeFund_96 (by decide) ?_
          refine mv_locals (lv' := [(6, .int (i6_59 + 1)), (4, .long v37), (0, .ref o0), (1, .ref o1), (2, .int x2), (3, .ref o3)]) (by intro q hq; simp only [List.mem_cons, List.not_mem_nil, or_false] at hq; rcases hq with rfl | rfl | rfl | rfl | rfl | rfl <;> rfl) ?_
          have b112 : (i6_59 + 1).toInt = i6_59.toInt + 1 := mz_addn 1 1 (by decide) (by have := mz_lo i6_59; omega) (by have := mz_hi i6_59; omega)
          exact (ih59 (i6_59 + 1) T101 M99 n100 I103 t106 t107 t108 (by first | omega | decide) (by omega))
  exact mv_less (Nat.zero_le _) (Nat.zero_le _) (L44_59 4294967296 0 T48 M46 n47 I50 t52 t53 t54 (by first | omega | decide) (by show (2147483647 - (0 : Int) : Int) < _; decide))
abbrev kY_TrustDesk_closeYear : mj_Y := (⟨"TrustDesk", "closeYear", "(I)V"⟩, prog_1_method_12_code, 6, (Option.none : Option Jvm.ClassFile.FieldType))
theorem d_TrustDesk_closeYear_0 : decode kY_TrustDesk_closeYear.2.1 0 = .ok (.iload_n 1, 1) := by decide +kernel
theorem d_TrustDesk_closeYear_1 : decode kY_TrustDesk_closeYear.2.1 1 = .ok (.invokestatic 151, 3) := by decide +kernel
theorem d_TrustDesk_closeYear_4 : decode kY_TrustDesk_closeYear.2.1 4 = .ok (.istore_n 2, 1) := by decide +kernel
theorem d_TrustDesk_closeYear_5 : decode kY_TrustDesk_closeYear.2.1 5 = .ok (.aload_n 0, 1) := by decide +kernel
theorem d_TrustDesk_closeYear_6 : decode kY_TrustDesk_closeYear.2.1 6 = .ok (.iload_n 2, 1) := by decide +kernel
theorem d_TrustDesk_closeYear_7 : decode kY_TrustDesk_closeYear.2.1 7 = .ok (.invokevirtual 114, 3) := by decide +kernel
theorem d_TrustDesk_closeYear_10 : decode kY_TrustDesk_closeYear.2.1 10 = .ok (.astore_n 3, 1) := by decide +kernel
theorem d_TrustDesk_closeYear_11 : decode kY_TrustDesk_closeYear.2.1 11 = .ok (.aload_n 0, 1) := by decide +kernel
theorem d_TrustDesk_closeYear_12 : decode kY_TrustDesk_closeYear.2.1 12 = .ok (.getfield 26, 3) := by decide +kernel
theorem d_TrustDesk_closeYear_15 : decode kY_TrustDesk_closeYear.2.1 15 = .ok (.aload_n 0, 1) := by decide +kernel
theorem d_TrustDesk_closeYear_16 : decode kY_TrustDesk_closeYear.2.1 16 = .ok (.getfield 10, 3) := by decide +kernel
theorem f_TrustDesk_10_12 : mj_fl "TrustDesk" 10 12 0 := ⟨kR_TrustDesk, kF_TrustDesk, 13, "TrustDesk", rfl, kg_12, by decide, (mj_in1 (List.mem_of_getElem? (i := 267) (by decide +kernel)) rfl), Or.inl rfl⟩
theorem d_TrustDesk_closeYear_19 : decode kY_TrustDesk_closeYear.2.1 19 = .ok (.iload_n 1, 1) := by decide +kernel
theorem d_TrustDesk_closeYear_20 : decode kY_TrustDesk_closeYear.2.1 20 = .ok (.iload_n 2, 1) := by decide +kernel
theorem d_TrustDesk_closeYear_21 : decode kY_TrustDesk_closeYear.2.1 21 = .ok (.invokevirtual 154, 3) := by decide +kernel
abbrev kY_Reckoner_know : mj_Y := (⟨"TrustDesk$Reckoner", "know", "(LTrustDesk$Facts;II)V"⟩, prog_11_method_2_code, 5, (Option.none : Option Jvm.ClassFile.FieldType))
theorem d_Reckoner_know_0 : decode kY_Reckoner_know.2.1 0 = .ok (.iconst 0, 1) := by decide +kernel
theorem d_Reckoner_know_1 : decode kY_Reckoner_know.2.1 1 = .ok (.istore 4, 2) := by decide +kernel
theorem d_Reckoner_know_3 : decode kY_Reckoner_know.2.1 3 = .ok (.iload 4, 2) := by decide +kernel
theorem d_Reckoner_know_5 : decode kY_Reckoner_know.2.1 5 = .ok (.bipush 8, 2) := by decide +kernel
theorem d_Reckoner_know_7 : decode kY_Reckoner_know.2.1 7 = .ok (.if_icmp .ge 25, 3) := by decide +kernel
theorem d_Reckoner_know_32 : decode kY_Reckoner_know.2.1 32 = .ok (.return_, 1) := by decide +kernel
theorem d_Reckoner_know_10 : decode kY_Reckoner_know.2.1 10 = .ok (.aload_n 0, 1) := by decide +kernel
theorem d_Reckoner_know_11 : decode kY_Reckoner_know.2.1 11 = .ok (.getfield 9, 3) := by decide +kernel
theorem d_Reckoner_know_14 : decode kY_Reckoner_know.2.1 14 = .ok (.iload 4, 2) := by decide +kernel
theorem d_Reckoner_know_16 : decode kY_Reckoner_know.2.1 16 = .ok (.aload_n 1, 1) := by decide +kernel
theorem d_Reckoner_know_17 : decode kY_Reckoner_know.2.1 17 = .ok (.iload 4, 2) := by decide +kernel
theorem d_Reckoner_know_19 : decode kY_Reckoner_know.2.1 19 = .ok (.iload_n 2, 1) := by decide +kernel
theorem d_Reckoner_know_20 : decode kY_Reckoner_know.2.1 20 = .ok (.iload_n 3, 1) := by decide +kernel
theorem d_Reckoner_know_21 : decode kY_Reckoner_know.2.1 21 = .ok (.invokevirtual 22, 3) := by decide +kernel
abbrev kY_Facts_asKnown : mj_Y := (⟨"TrustDesk$Facts", "asKnown", "(III)I"⟩, prog_6_method_3_code, 7, (Option.some Jvm.ClassFile.FieldType.int))
theorem d_Facts_asKnown_0 : decode kY_Facts_asKnown.2.1 0 = .ok (.iconst (-1), 1) := by decide +kernel
theorem d_Facts_asKnown_1 : decode kY_Facts_asKnown.2.1 1 = .ok (.istore 4, 2) := by decide +kernel
theorem d_Facts_asKnown_3 : decode kY_Facts_asKnown.2.1 3 = .ok (.iconst 0, 1) := by decide +kernel
theorem d_Facts_asKnown_4 : decode kY_Facts_asKnown.2.1 4 = .ok (.istore 5, 2) := by decide +kernel
theorem d_Facts_asKnown_6 : decode kY_Facts_asKnown.2.1 6 = .ok (.iconst 0, 1) := by decide +kernel
theorem d_Facts_asKnown_7 : decode kY_Facts_asKnown.2.1 7 = .ok (.istore 6, 2) := by decide +kernel
theorem d_Facts_asKnown_9 : decode kY_Facts_asKnown.2.1 9 = .ok (.iload 6, 2) := by decide +kernel
theorem d_Facts_asKnown_11 : decode kY_Facts_asKnown.2.1 11 = .ok (.aload_n 0, 1) := by decide +kernel
theorem d_Facts_asKnown_12 : decode kY_Facts_asKnown.2.1 12 = .ok (.getfield 24, 3) := by decide +kernel
theorem f_Facts_24_5 : mj_fl "TrustDesk$Facts" 24 5 4 := ⟨kR_Facts, kF_Facts, 5, "TrustDesk$Facts", rfl, kg_5, by decide, (mj_in1 (List.mem_of_getElem? (i := 49) (by decide +kernel)) rfl), Or.inl rfl⟩
theorem d_Facts_asKnown_15 : decode kY_Facts_asKnown.2.1 15 = .ok (.if_icmp .ge 80, 3) := by decide +kernel
theorem d_Facts_asKnown_95 : decode kY_Facts_asKnown.2.1 95 = .ok (.iload 5, 2) := by decide +kernel
theorem d_Facts_asKnown_97 : decode kY_Facts_asKnown.2.1 97 = .ok (.ireturn, 1) := by decide +kernel
theorem d_Facts_asKnown_18 : decode kY_Facts_asKnown.2.1 18 = .ok (.iload 6, 2) := by decide +kernel
theorem d_Facts_asKnown_20 : decode kY_Facts_asKnown.2.1 20 = .ok (.sipush 300, 3) := by decide +kernel
theorem d_Facts_asKnown_23 : decode kY_Facts_asKnown.2.1 23 = .ok (.if_icmp .ge 72, 3) := by decide +kernel
theorem d_Facts_asKnown_26 : decode kY_Facts_asKnown.2.1 26 = .ok (.aload_n 0, 1) := by decide +kernel
theorem d_Facts_asKnown_27 : decode kY_Facts_asKnown.2.1 27 = .ok (.getfield 21, 3) := by decide +kernel
theorem f_Facts_21_5 : mj_fl "TrustDesk$Facts" 21 5 3 := ⟨kR_Facts, kF_Facts, 5, "TrustDesk$Facts", rfl, kg_5, by decide, (mj_in1 (List.mem_of_getElem? (i := 48) (by decide +kernel)) rfl), Or.inl rfl⟩
theorem d_Facts_asKnown_30 : decode kY_Facts_asKnown.2.1 30 = .ok (.iload 6, 2) := by decide +kernel
theorem d_Facts_asKnown_32 : decode kY_Facts_asKnown.2.1 32 = .ok (.iaload, 1) := by decide +kernel
theorem d_Facts_asKnown_33 : decode kY_Facts_asKnown.2.1 33 = .ok (.iload_n 3, 1) := by decide +kernel
theorem d_Facts_asKnown_34 : decode kY_Facts_asKnown.2.1 34 = .ok (.if_icmp .gt 61, 3) := by decide +kernel
theorem d_Facts_asKnown_37 : decode kY_Facts_asKnown.2.1 37 = .ok (.aload_n 0, 1) := by decide +kernel
theorem d_Facts_asKnown_38 : decode kY_Facts_asKnown.2.1 38 = .ok (.getfield 9, 3) := by decide +kernel
theorem f_Facts_9_5 : mj_fl "TrustDesk$Facts" 9 5 0 := ⟨kR_Facts, kF_Facts, 5, "TrustDesk$Facts", rfl, kg_5, by decide, (mj_in1 (List.mem_of_getElem? (i := 45) (by decide +kernel)) rfl), Or.inl rfl⟩
theorem d_Facts_asKnown_41 : decode kY_Facts_asKnown.2.1 41 = .ok (.iload 6, 2) := by decide +kernel
theorem d_Facts_asKnown_43 : decode kY_Facts_asKnown.2.1 43 = .ok (.iaload, 1) := by decide +kernel
theorem d_Facts_asKnown_44 : decode kY_Facts_asKnown.2.1 44 = .ok (.iload_n 1, 1) := by decide +kernel
theorem d_Facts_asKnown_45 : decode kY_Facts_asKnown.2.1 45 = .ok (.if_icmp .ne 44, 3) := by decide +kernel
theorem d_Facts_asKnown_89 : decode kY_Facts_asKnown.2.1 89 = .ok (.iinc 6 1, 3) := by decide +kernel
theorem d_Facts_asKnown_92 : decode kY_Facts_asKnown.2.1 92 = .ok (.goto (-83), 3) := by decide +kernel
theorem d_Facts_asKnown_48 : decode kY_Facts_asKnown.2.1 48 = .ok (.aload_n 0, 1) := by decide +kernel
theorem d_Facts_asKnown_49 : decode kY_Facts_asKnown.2.1 49 = .ok (.getfield 15, 3) := by decide +kernel
theorem f_Facts_15_5 : mj_fl "TrustDesk$Facts" 15 5 1 := ⟨kR_Facts, kF_Facts, 5, "TrustDesk$Facts", rfl, kg_5, by decide, (mj_in1 (List.mem_of_getElem? (i := 46) (by decide +kernel)) rfl), Or.inl rfl⟩
theorem d_Facts_asKnown_52 : decode kY_Facts_asKnown.2.1 52 = .ok (.iload 6, 2) := by decide +kernel
theorem d_Facts_asKnown_54 : decode kY_Facts_asKnown.2.1 54 = .ok (.iaload, 1) := by decide +kernel
theorem d_Facts_asKnown_55 : decode kY_Facts_asKnown.2.1 55 = .ok (.iload_n 2, 1) := by decide +kernel
theorem d_Facts_asKnown_56 : decode kY_Facts_asKnown.2.1 56 = .ok (.if_icmp .gt 33, 3) := by decide +kernel
theorem d_Facts_asKnown_59 : decode kY_Facts_asKnown.2.1 59 = .ok (.aload_n 0, 1) := by decide +kernel
theorem d_Facts_asKnown_60 : decode kY_Facts_asKnown.2.1 60 = .ok (.getfield 15, 3) := by decide +kernel
theorem d_Facts_asKnown_63 : decode kY_Facts_asKnown.2.1 63 = .ok (.iload 6, 2) := by decide +kernel
theorem d_Facts_asKnown_65 : decode kY_Facts_asKnown.2.1 65 = .ok (.iaload, 1) := by decide +kernel
theorem d_Facts_asKnown_66 : decode kY_Facts_asKnown.2.1 66 = .ok (.iload 4, 2) := by decide +kernel
theorem d_Facts_asKnown_68 : decode kY_Facts_asKnown.2.1 68 = .ok (.if_icmp .lt 21, 3) := by decide +kernel
theorem d_Facts_asKnown_71 : decode kY_Facts_asKnown.2.1 71 = .ok (.aload_n 0, 1) := by decide +kernel
theorem d_Facts_asKnown_72 : decode kY_Facts_asKnown.2.1 72 = .ok (.getfield 15, 3) := by decide +kernel
theorem d_Facts_asKnown_75 : decode kY_Facts_asKnown.2.1 75 = .ok (.iload 6, 2) := by decide +kernel
theorem d_Facts_asKnown_77 : decode kY_Facts_asKnown.2.1 77 = .ok (.iaload, 1) := by decide +kernel
theorem d_Facts_asKnown_78 : decode kY_Facts_asKnown.2.1 78 = .ok (.istore 4, 2) := by decide +kernel
theorem d_Facts_asKnown_80 : decode kY_Facts_asKnown.2.1 80 = .ok (.aload_n 0, 1) := by decide +kernel
theorem d_Facts_asKnown_81 : decode kY_Facts_asKnown.2.1 81 = .ok (.getfield 18, 3) := by decide +kernel
theorem f_Facts_18_5 : mj_fl "TrustDesk$Facts" 18 5 2 := ⟨kR_Facts, kF_Facts, 5, "TrustDesk$Facts", rfl, kg_5, by decide, (mj_in1 (List.mem_of_getElem? (i := 47) (by decide +kernel)) rfl), Or.inl rfl⟩
theorem d_Facts_asKnown_84 : decode kY_Facts_asKnown.2.1 84 = .ok (.iload 6, 2) := by decide +kernel
theorem d_Facts_asKnown_86 : decode kY_Facts_asKnown.2.1 86 = .ok (.iaload, 1) := by decide +kernel
theorem d_Facts_asKnown_87 : decode kY_Facts_asKnown.2.1 87 = .ok (.istore 5, 2) := by decide +kernel
def w_Facts_asKnown : List Nat := []
theorem tc_Facts_asKnown {g : mj_G} {l : Launch} {d : Nat} {T0 : tm_H} {M0 : mj_M} {n0 x9 : Nat} {o0 : Nat} {x1 : Int32} {x2 : Int32} {x3 : Int32} (h_o0 : T0 o0 = some (0, 5, 0)) (I0 : tm_I tm_FT (tm_in w_Facts_asKnown) x9 T0 M0 n0 T0 M0 n0) : mj_Met g l kY_Facts_asKnown d [.ref o0, .int x1, .int x2, .int x3] M0 n0 0 0 (tm_Q tm_FT (tm_in w_Facts_asKnown) x9 T0 M0 n0 (fun r _ _ => ∃ v : Int32, r = some (.int v))) := by
  refine mj_enter (by decide) (Nat.le_of_ble_eq_true rfl) ?_
  refine mv_iconst (v := (-1)) d_Facts_asKnown_0 (by decide) ?_
  refine mv_istore (lv' := [(4, .int (-1)), (0, .ref o0), (1, .int x1), (2, .int x2), (3, .int x3)]) d_Facts_asKnown_1 (by decide) rfl ?_
  refine mv_iconst (v := 0) d_Facts_asKnown_3 (by decide) ?_
  refine mv_istore (lv' := [(5, .int 0), (4, .int (-1)), (0, .ref o0), (1, .int x1), (2, .int x2), (3, .int x3)]) d_Facts_asKnown_4 (by decide) rfl ?_
  refine mv_iconst (v := 0) d_Facts_asKnown_6 (by decide) ?_
  refine mv_istore (lv' := [(6, .int 0), (5, .int 0), (4, .int (-1)), (0, .ref o0), (1, .int x1), (2, .int x2), (3, .int x3)]) d_Facts_asKnown_7 (by decide) rfl ?_
  have L9_1 : ∀ (k : Nat) (i6_1 : Int32) (i5_1 : Int32) (i4_1 : Int32) (T_1 : tm_H) (M_1 : mj_M) (n_1 : Nat), tm_I tm_FT (tm_in w_Facts_asKnown) x9 T0 M0 n0 T_1 M_1 n_1 → T_1 o0 = some (0, 5, 0) → 0 ≤ i6_1.toInt → 2147483647 - i6_1.toInt < (k : Int) → mj_V g l kY_Facts_asKnown d 9 [(6, .int i6_1), (5, .int i5_1), (4, .int i4_1), (0, .ref o0), (1, .int x1), (2, .int x2), (3, .int x3)] [] M_1 n_1 0 0 (tm_Q tm_FT (tm_in w_Facts_asKnown) x9 T0 M0 n0 (fun r _ _ => ∃ v : Int32, r = some (.int v))) := by
    intro k1
    induction k1 with
    | zero =>
      intro i6_1 i5_1 i4_1 T_1 M_1 n_1 I_1 h_q0_1 iv0_1 hk1
      have := mz_hi i6_1
      omega
    | succ k1 ih1 =>
      intro i6_1 i5_1 i4_1 T_1 M_1 n_1 I_1 h_q0_1 iv0_1 hk1
      refine mv_iload d_Facts_asKnown_9 rfl ?_
      refine mv_aload_n d_Facts_asKnown_11 rfl rfl ?_
      obtain ⟨v3, q2⟩ := tm_atI I_1 h_q0_1 (k := 4) rfl
      refine tr_getK q2 d_Facts_asKnown_12 f_Facts_24_5 ?_
      have := mz_hi i6_1
      have := mz_hi v3
      refine mv_icmp_geZ (tgt := 95) (a := i6_1.toInt) (b := v3.toInt) d_Facts_asKnown_15 (by decide) rfl rfl (fun b4 => ?_) (fun b4 => ?_)
      · refine mv_iload d_Facts_asKnown_95 rfl ?_
        exact mv_iret d_Facts_asKnown_97 rfl (by first | rfl | decide) ⟨_, I_1, _, rfl⟩
      · refine mv_iload d_Facts_asKnown_18 rfl ?_
        refine mv_sipush (v := 300) d_Facts_asKnown_20 (by decide) ?_
        have := mz_hi i6_1
        refine mv_icmp_geZ (tgt := 95) (a := i6_1.toInt) (b := 300) d_Facts_asKnown_23 (by decide) rfl (by decide) (fun b5 => ?_) (fun b5 => ?_)
        · refine mv_iload d_Facts_asKnown_95 rfl ?_
          exact mv_iret d_Facts_asKnown_97 rfl (by first | rfl | decide) ⟨_, I_1, _, rfl⟩
        · refine mv_aload_n d_Facts_asKnown_26 rfl rfl ?_
          obtain ⟨a7, q6, t_a7⟩ := tm_atR I_1 h_q0_1 (k := 3) rfl
          refine tr_getK q6 d_Facts_asKnown_27 f_Facts_21_5 ?_
          refine mv_iload d_Facts_asKnown_30 rfl ?_
          refine tr_iald I_1 t_a7 (by decide) d_Facts_asKnown_32 (vp_in_iff.mpr (by omega)) (fun v8 => ?_)
          refine mv_iload_n d_Facts_asKnown_33 rfl rfl ?_
          have := mz_hi v8
          have := mz_hi x3
          refine mv_icmp_gtZ (tgt := 95) (a := v8.toInt) (b := x3.toInt) d_Facts_asKnown_34 (by decide) rfl rfl (fun b9 => ?_) (fun b9 => ?_)
          · refine mv_iload d_Facts_asKnown_95 rfl ?_
            exact mv_iret d_Facts_asKnown_97 rfl (by first | rfl | decide) ⟨_, I_1, _, rfl⟩
          · refine mv_aload_n d_Facts_asKnown_37 rfl rfl ?_
            obtain ⟨a11, q10, t_a11⟩ := tm_atR I_1 h_q0_1 (k := 0) rfl
            refine tr_getK q10 d_Facts_asKnown_38 f_Facts_9_5 ?_
            refine mv_iload d_Facts_asKnown_41 rfl ?_
            refine tr_iald I_1 t_a11 (by decide) d_Facts_asKnown_43 (vp_in_iff.mpr (by omega)) (fun v12 => ?_)
            refine mv_iload_n d_Facts_asKnown_44 rfl rfl ?_
            have := mz_hi v12
            have := mz_hi x1
            refine mv_icmp_neZ (tgt := 89) (a := v12.toInt) (b := x1.toInt) d_Facts_asKnown_45 (by decide) rfl rfl (fun b13 => ?_) (fun b13 => ?_)
            · refine mv_iinc (v := (i6_1 + 1)) (lv' := [(6, .int (i6_1 + 1)), (5, .int i5_1), (4, .int i4_1), (0, .ref o0), (1, .int x1), (2, .int x2), (3, .int x3)]) d_Facts_asKnown_89 rfl rfl (by decide) rfl ?_
              refine mv_goto (tgt := 9) d_Facts_asKnown_92 (by decide) ?_
              have b14 : (i6_1 + 1).toInt = i6_1.toInt + 1 := mz_addn 1 1 (by decide) (by have := mz_lo i6_1; omega) (by have := mz_hi i6_1; omega)
              exact (ih1 (i6_1 + 1) i5_1 i4_1 T_1 M_1 n_1 I_1 h_q0_1 (by first | omega | decide) (by omega))
            · refine mv_aload_n d_Facts_asKnown_48 rfl rfl ?_
              obtain ⟨a16, q15, t_a16⟩ := tm_atR I_1 h_q0_1 (k := 1) rfl
              refine tr_getK q15 d_Facts_asKnown_49 f_Facts_15_5 ?_
              refine mv_iload d_Facts_asKnown_52 rfl ?_
              refine tr_iald I_1 t_a16 (by decide) d_Facts_asKnown_54 (vp_in_iff.mpr (by omega)) (fun v17 => ?_)
              refine mv_iload_n d_Facts_asKnown_55 rfl rfl ?_
              have := mz_hi v17
              have := mz_hi x2
              refine mv_icmp_gtZ (tgt := 89) (a := v17.toInt) (b := x2.toInt) d_Facts_asKnown_56 (by decide) rfl rfl (fun b18 => ?_) (fun b18 => ?_)
              · refine mv_iinc (v := (i6_1 + 1)) (lv' := [(6, .int (i6_1 + 1)), (5, .int i5_1), (4, .int i4_1), (0, .ref o0), (1, .int x1), (2, .int x2), (3, .int x3)]) d_Facts_asKnown_89 rfl rfl (by decide) rfl ?_
                refine mv_goto (tgt := 9) d_Facts_asKnown_92 (by decide) ?_
                have b19 : (i6_1 + 1).toInt = i6_1.toInt + 1 := mz_addn 1 1 (by decide) (by have := mz_lo i6_1; omega) (by have := mz_hi i6_1; omega)
                exact (ih1 (i6_1 + 1) i5_1 i4_1 T_1 M_1 n_1 I_1 h_q0_1 (by first | omega | decide) (by omega))
              · refine mv_aload_n d_Facts_asKnown_59 rfl rfl ?_
                refine tr_getK (k := 1) q15 d_Facts_asKnown_60 f_Facts_15_5 ?_
                refine mv_iload d_Facts_asKnown_63 rfl ?_
                refine tr_iald I_1 t_a16 (by decide) d_Facts_asKnown_65 (vp_in_iff.mpr (by omega)) (fun v20 => ?_)
                refine mv_iload d_Facts_asKnown_66 rfl ?_
                have := mz_hi v20
                have := mz_hi i4_1
                refine mv_icmp_ltZ (tgt := 89) (a := v20.toInt) (b := i4_1.toInt) d_Facts_asKnown_68 (by decide) rfl rfl (fun b21 => ?_) (fun b21 => ?_)
                · refine mv_iinc (v := (i6_1 + 1)) (lv' := [(6, .int (i6_1 + 1)), (5, .int i5_1), (4, .int i4_1), (0, .ref o0), (1, .int x1), (2, .int x2), (3, .int x3)]) d_Facts_asKnown_89 rfl rfl (by decide) rfl ?_
                  refine mv_goto (tgt := 9) d_Facts_asKnown_92 (by decide) ?_
                  have b22 : (i6_1 + 1).toInt = i6_1.toInt + 1 := mz_addn 1 1 (by decide) (by have := mz_lo i6_1; omega) (by have := mz_hi i6_1; omega)
                  exact (ih1 (i6_1 + 1) i5_1 i4_1 T_1 M_1 n_1 I_1 h_q0_1 (by first | omega | decide) (by omega))
                · refine mv_aload_n d_Facts_asKnown_71 rfl rfl ?_
                  refine tr_getK (k := 1) q15 d_Facts_asKnown_72 f_Facts_15_5 ?_
                  refine mv_iload d_Facts_asKnown_75 rfl ?_
                  refine tr_iald I_1 t_a16 (by decide) d_Facts_asKnown_77 (vp_in_iff.mpr (by omega)) (fun v23 => ?_)
                  refine mv_istore (lv' := [(4, .int v23), (6, .int i6_1), (5, .int i5_1), (0, .ref o0), (1, .int x1), (2, .int x2), (3, .int x3)]) d_Facts_asKnown_78 (by decide) rfl ?_
                  refine mv_aload_n d_Facts_asKnown_80 rfl rfl ?_
                  obtain ⟨a25, q24, t_a25⟩ := tm_atR I_1 h_q0_1 (k := 2) rfl
                  refine tr_getK q24 d_Facts_asKnown_81 f_Facts_18_5 ?_
                  refine mv_iload d_Facts_asKnown_84 rfl ?_
                  refine tr_iald I_1 t_a25 (by decide) d_Facts_asKnown_86 (vp_in_iff.mpr (by omega)) (fun v26 => ?_)
                  refine mv_istore (lv' := [(5, .int v26), (4, .int v23), (6, .int i6_1), (0, .ref o0), (1, .int x1), (2, .int x2), (3, .int x3)]) d_Facts_asKnown_87 (by decide) rfl ?_
                  refine mv_iinc (v := (i6_1 + 1)) (lv' := [(6, .int (i6_1 + 1)), (5, .int v26), (4, .int v23), (0, .ref o0), (1, .int x1), (2, .int x2), (3, .int x3)]) d_Facts_asKnown_89 rfl rfl (by decide) rfl ?_
                  refine mv_goto (tgt := 9) d_Facts_asKnown_92 (by decide) ?_
                  have b27 : (i6_1 + 1).toInt = i6_1.toInt + 1 := mz_addn 1 1 (by decide) (by have := mz_lo i6_1; omega) (by have := mz_hi i6_1; omega)
                  exact (ih1 (i6_1 + 1) v26 v23 T_1 M_1 n_1 I_1 h_q0_1 (by first | omega | decide) (by omega))
  exact mv_less (Nat.zero_le _) (Nat.zero_le _) (L9_1 4294967296 0 0 (-1) T0 M0 n0 I0 h_o0 (by first | omega | decide) (by show (2147483647 - (0 : Int) : Int) < _; decide))
theorem lV_Reckoner_22 : mj_lV "TrustDesk$Reckoner" 22 kY_Facts_asKnown 3 := ⟨⟨(mj_in1 (List.mem_of_getElem? (i := 855) (by decide +kernel)) rfl), (mj_in1 (List.mem_of_getElem? (i := 2) (by decide +kernel)) rfl), (mj_in1 (List.mem_of_getElem? (i := 332) (by decide +kernel)) rfl), by decide, rfl, by decide⟩, (mj_in1 (List.mem_of_getElem? (i := 330) (by decide +kernel)) rfl), (mj_in1 (List.mem_of_getElem? (i := 331) (by decide +kernel)) rfl)⟩
theorem d_Reckoner_know_24 : decode kY_Reckoner_know.2.1 24 = .ok (.i2l, 1) := by decide +kernel
theorem d_Reckoner_know_25 : decode kY_Reckoner_know.2.1 25 = .ok (.lastore, 1) := by decide +kernel
theorem d_Reckoner_know_26 : decode kY_Reckoner_know.2.1 26 = .ok (.iinc 4 1, 3) := by decide +kernel
theorem d_Reckoner_know_29 : decode kY_Reckoner_know.2.1 29 = .ok (.goto (-26), 3) := by decide +kernel
def w_Reckoner_know : List Nat := [1050]
theorem tc_Reckoner_know {g : mj_G} {l : Launch} {d : Nat} {T0 : tm_H} {M0 : mj_M} {n0 x9 : Nat} {o0 : Nat} {o1 : Nat} {x2 : Int32} {x3 : Int32} (h_o0 : T0 o0 = some (0, 10, 0)) (h_o1 : T0 o1 = some (0, 5, 0)) (I0 : tm_I tm_FT (tm_in w_Reckoner_know) x9 T0 M0 n0 T0 M0 n0) : mj_Met g l kY_Reckoner_know (d + 1) [.ref o0, .ref o1, .int x2, .int x3] M0 n0 0 0 (tm_Q tm_FT (tm_in w_Reckoner_know) x9 T0 M0 n0 (fun r _ _ => r = none)) := by
  refine mj_enter (by decide) (Nat.le_of_ble_eq_true rfl) ?_
  refine mv_iconst (v := 0) d_Reckoner_know_0 (by decide) ?_
  refine mv_istore (lv' := [(4, .int 0), (0, .ref o0), (1, .ref o1), (2, .int x2), (3, .int x3)]) d_Reckoner_know_1 (by decide) rfl ?_
  have L3_1 : ∀ (k : Nat) (i4_1 : Int32) (T_1 : tm_H) (M_1 : mj_M) (n_1 : Nat), tm_I tm_FT (tm_in w_Reckoner_know) x9 T0 M0 n0 T_1 M_1 n_1 → T_1 o0 = some (0, 10, 0) → T_1 o1 = some (0, 5, 0) → 0 ≤ i4_1.toInt → 2147483647 - i4_1.toInt < (k : Int) → mj_V g l kY_Reckoner_know (d + 1) 3 [(4, .int i4_1), (0, .ref o0), (1, .ref o1), (2, .int x2), (3, .int x3)] [] M_1 n_1 0 0 (tm_Q tm_FT (tm_in w_Reckoner_know) x9 T0 M0 n0 (fun r _ _ => r = none)) := by
    intro k1
    induction k1 with
    | zero =>
      intro i4_1 T_1 M_1 n_1 I_1 h_q0_1 h_q1_1 iv0_1 hk1
      have := mz_hi i4_1
      omega
    | succ k1 ih1 =>
      intro i4_1 T_1 M_1 n_1 I_1 h_q0_1 h_q1_1 iv0_1 hk1
      refine mv_iload d_Reckoner_know_3 rfl ?_
      refine mv_bipush (v := 8) d_Reckoner_know_5 (by decide) ?_
      have := mz_hi i4_1
      refine mv_icmp_geZ (tgt := 32) (a := i4_1.toInt) (b := 8) d_Reckoner_know_7 (by decide) rfl (by decide) (fun b2 => ?_) (fun b2 => ?_)
      · exact mv_vret d_Reckoner_know_32 rfl ⟨_, I_1, rfl⟩
      · refine mv_aload_n d_Reckoner_know_10 rfl rfl ?_
        obtain ⟨a4, q3, t_a4⟩ := tm_atR I_1 h_q0_1 (k := 0) rfl
        refine tr_getK q3 d_Reckoner_know_11 f_Reckoner_9_10 ?_
        refine mv_iload d_Reckoner_know_14 rfl ?_
        refine mv_aload_n d_Reckoner_know_16 rfl rfl ?_
        refine mv_iload d_Reckoner_know_17 rfl ?_
        refine mv_iload_n d_Reckoner_know_19 rfl rfl ?_
        refine mv_iload_n d_Reckoner_know_20 rfl rfl ?_
        obtain ⟨_, b11, -⟩ := I_1.1 _ _ h_q1_1
        refine mv_callV (kc' := 0) (ks' := 0) (As := [.int i4_1, .int x2, .int x3]) (st9 := [.int x3, .int x2, .int i4_1, .ref o1, .int i4_1, .ref a4]) d_Reckoner_know_21 lV_Reckoner_22 b11 rfl (tc_Facts_asKnown (d := d) (x9 := x9) (o0 := o1) (x1 := i4_1) (x2 := x2) (x3 := x3) h_q1_1 I_1.start) rfl (Nat.le_of_ble_eq_true rfl) (Nat.le_of_ble_eq_true rfl) (Nat.le_of_ble_eq_true rfl) (hst := rfl) (fun b5r M6 n7 b5 => ?_)
        obtain ⟨T8, J9, v12, rfl⟩ := b5
        have I10 := I_1.call J9 (tm_sub (by decide)) (Or.inl rfl)
        have t13 := J9.up h_q0_1
        have t14 := J9.up h_q1_1
        have t15 := J9.up t_a4
        have q16 := J9.keep h_q0_1 (by decide) q3
        refine mv_i2l (v := v12.toInt64) d_Reckoner_know_24 rfl ?_
        refine tr_lastK tm_okF I10 t15 (by decide) (Or.inl (by decide)) d_Reckoner_know_25 (vp_in_iff.mpr (by omega)) (fun M17 I18 K19 => ?_)
        refine mv_iinc (v := (i4_1 + 1)) (lv' := [(4, .int (i4_1 + 1)), (0, .ref o0), (1, .ref o1), (2, .int x2), (3, .int x3)]) d_Reckoner_know_26 rfl rfl (by decide) rfl ?_
        refine mv_goto (tgt := 3) d_Reckoner_know_29 (by decide) ?_
        have b20 : (i4_1 + 1).toInt = i4_1.toInt + 1 := mz_addn 1 1 (by decide) (by have := mz_lo i4_1; omega) (by have := mz_hi i4_1; omega)
        exact (ih1 (i4_1 + 1) T8 M17 n7 I18 t13 t14 (by first | omega | decide) (by omega))
  exact mv_less (Nat.zero_le _) (Nat.zero_le _) (L3_1 4294967296 0 T0 M0 n0 I0 h_o0 h_o1 (by first | omega | decide) (by show (2147483647 - (0 : Int) : Int) < _; decide))
theorem lV_TrustDesk_154 : mj_lV "TrustDesk" 154 kY_Reckoner_know 3 := ⟨⟨(mj_in1 (List.mem_of_getElem? (i := 851) (by decide +kernel)) rfl), (mj_in1 (List.mem_of_getElem? (i := 4) (by decide +kernel)) rfl), (mj_in1 (List.mem_of_getElem? (i := 854) (by decide +kernel)) rfl), by decide, rfl, by decide⟩, (mj_in1 (List.mem_of_getElem? (i := 852) (by decide +kernel)) rfl), (mj_in1 (List.mem_of_getElem? (i := 853) (by decide +kernel)) rfl)⟩
theorem d_TrustDesk_closeYear_24 : decode kY_TrustDesk_closeYear.2.1 24 = .ok (.iconst 0, 1) := by decide +kernel
theorem d_TrustDesk_closeYear_25 : decode kY_TrustDesk_closeYear.2.1 25 = .ok (.istore 4, 2) := by decide +kernel
theorem d_TrustDesk_closeYear_27 : decode kY_TrustDesk_closeYear.2.1 27 = .ok (.iload 4, 2) := by decide +kernel
theorem d_TrustDesk_closeYear_29 : decode kY_TrustDesk_closeYear.2.1 29 = .ok (.aload_n 0, 1) := by decide +kernel
theorem d_TrustDesk_closeYear_30 : decode kY_TrustDesk_closeYear.2.1 30 = .ok (.getfield 53, 3) := by decide +kernel
theorem d_TrustDesk_closeYear_33 : decode kY_TrustDesk_closeYear.2.1 33 = .ok (.invokevirtual 97, 3) := by decide +kernel
theorem d_TrustDesk_closeYear_36 : decode kY_TrustDesk_closeYear.2.1 36 = .ok (.if_icmp .ge 39, 3) := by decide +kernel
theorem d_TrustDesk_closeYear_75 : decode kY_TrustDesk_closeYear.2.1 75 = .ok (.return_, 1) := by decide +kernel
theorem d_TrustDesk_closeYear_39 : decode kY_TrustDesk_closeYear.2.1 39 = .ok (.aload_n 0, 1) := by decide +kernel
theorem d_TrustDesk_closeYear_40 : decode kY_TrustDesk_closeYear.2.1 40 = .ok (.getfield 53, 3) := by decide +kernel
theorem d_TrustDesk_closeYear_43 : decode kY_TrustDesk_closeYear.2.1 43 = .ok (.iload 4, 2) := by decide +kernel
theorem d_TrustDesk_closeYear_45 : decode kY_TrustDesk_closeYear.2.1 45 = .ok (.invokevirtual 158, 3) := by decide +kernel
theorem d_TrustDesk_closeYear_48 : decode kY_TrustDesk_closeYear.2.1 48 = .ok (.checkcast 123, 3) := by decide +kernel
theorem d_TrustDesk_closeYear_51 : decode kY_TrustDesk_closeYear.2.1 51 = .ok (.astore 5, 2) := by decide +kernel
theorem d_TrustDesk_closeYear_53 : decode kY_TrustDesk_closeYear.2.1 53 = .ok (.aload 5, 2) := by decide +kernel
theorem d_TrustDesk_closeYear_55 : decode kY_TrustDesk_closeYear.2.1 55 = .ok (.invokevirtual 162, 3) := by decide +kernel
theorem d_TrustDesk_closeYear_58 : decode kY_TrustDesk_closeYear.2.1 58 = .ok (.ifCond .ne 11, 3) := by decide +kernel
theorem d_TrustDesk_closeYear_69 : decode kY_TrustDesk_closeYear.2.1 69 = .ok (.iinc 4 1, 3) := by decide +kernel
theorem d_TrustDesk_closeYear_72 : decode kY_TrustDesk_closeYear.2.1 72 = .ok (.goto (-45), 3) := by decide +kernel
theorem d_TrustDesk_closeYear_61 : decode kY_TrustDesk_closeYear.2.1 61 = .ok (.aload_n 0, 1) := by decide +kernel
theorem d_TrustDesk_closeYear_62 : decode kY_TrustDesk_closeYear.2.1 62 = .ok (.aload 5, 2) := by decide +kernel
theorem d_TrustDesk_closeYear_64 : decode kY_TrustDesk_closeYear.2.1 64 = .ok (.iload_n 1, 1) := by decide +kernel
theorem d_TrustDesk_closeYear_65 : decode kY_TrustDesk_closeYear.2.1 65 = .ok (.aload_n 3, 1) := by decide +kernel
theorem d_TrustDesk_closeYear_66 : decode kY_TrustDesk_closeYear.2.1 66 = .ok (.invokevirtual 166, 3) := by decide +kernel
theorem lV_TrustDesk_166 : mj_lV "TrustDesk" 166 kY_TrustDesk_closeFund 3 := ⟨⟨(mj_in1 (List.mem_of_getElem? (i := 860) (by decide +kernel)) rfl), (mj_in1 (List.mem_of_getElem? (i := 1) (by decide +kernel)) rfl), (mj_in1 (List.mem_of_getElem? (i := 863) (by decide +kernel)) rfl), by decide, rfl, by decide⟩, (mj_in1 (List.mem_of_getElem? (i := 862) (by decide +kernel)) rfl), (mj_in (List.mem_append_left _ (List.mem_of_getElem? (i := 41) (by decide +kernel))) rfl)⟩
def w_TrustDesk_closeYear : List Nat := [301, 302, 303, 603, 610, 1001, 1003, 1004, 1050, 1052, 1210, 1259]
theorem tc_TrustDesk_closeYear {g : mj_G} {l : Launch} {d : Nat} {T0 : tm_H} {M0 : mj_M} {n0 x9 : Nat} {o0 : Nat} {x1 : Int32} (h_o0 : T0 o0 = some (0, 12, 0)) (I0 : tm_I tm_FT (tm_in w_TrustDesk_closeYear) x9 T0 M0 n0 T0 M0 n0) : mj_Met g l kY_TrustDesk_closeYear (d + 6) [.ref o0, .int x1] M0 n0 0 0 (tm_Q tm_FT (tm_in w_TrustDesk_closeYear) x9 T0 M0 n0 (fun r _ _ => r = none)) := by
  refine mj_enter (by decide) (Nat.le_of_ble_eq_true rfl) ?_
  refine mv_iload_n d_TrustDesk_closeYear_0 rfl rfl ?_
  refine mv_callS (kc' := 0) (ks' := 0) (As := [.int x1]) (st9 := [.int x1]) d_TrustDesk_closeYear_1 lS_TrustDesk_151 (tc_TrustDesk_lastDayOf (d := (d + 5)) (x9 := x9) (x1 := x1)  I0.start) rfl (Nat.le_of_ble_eq_true rfl) (Nat.le_of_ble_eq_true rfl) (Nat.le_of_ble_eq_true rfl) (hst := rfl) (fun b1r M2 n3 b1 => ?_)
  obtain ⟨T4, J5, v7, rfl⟩ := b1
  have I6 := I0.call J5 (tm_sub (by decide)) (Or.inl rfl)
  have t8 := J5.up h_o0
  refine mv_istore_n (lv' := [(2, .int v7), (0, .ref o0), (1, .int x1)]) d_TrustDesk_closeYear_4 rfl (by decide) rfl ?_
  refine mv_aload_n d_TrustDesk_closeYear_5 rfl rfl ?_
  refine mv_iload_n d_TrustDesk_closeYear_6 rfl rfl ?_
  obtain ⟨_, b15, -⟩ := I6.1 _ _ t8
  refine mv_callV (kc' := 0) (ks' := 0) (As := [.int v7]) (st9 := [.int v7, .ref o0]) d_TrustDesk_closeYear_7 lV_TrustDesk_114 b15 rfl (tc_TrustDesk_inForce (d := (d + 2)) (x9 := x9) (o0 := o0) (x1 := v7) t8 I6.start) rfl (Nat.le_of_ble_eq_true rfl) (Nat.le_of_ble_eq_true rfl) (Nat.le_of_ble_eq_true rfl) (hst := rfl) (fun b9r M10 n11 b9 => ?_)
  obtain ⟨T12, J13, a16, rfl, t_a16⟩ := b9
  have I14 := I6.call J13 (tm_sub (by decide)) (Or.inl rfl)
  have t17 := J13.up t8
  refine mv_astore_n (lv' := [(3, .ref a16), (2, .int v7), (0, .ref o0), (1, .int x1)]) d_TrustDesk_closeYear_10 rfl (by decide) rfl ?_
  refine mv_aload_n d_TrustDesk_closeYear_11 rfl rfl ?_
  obtain ⟨a19, q18, t_a19⟩ := tm_atR I14 t17 (k := 2) rfl
  refine tr_getK q18 d_TrustDesk_closeYear_12 f_TrustDesk_26_12 ?_
  refine mv_aload_n d_TrustDesk_closeYear_15 rfl rfl ?_
  obtain ⟨a21, q20, t_a21⟩ := tm_atR I14 t17 (k := 0) rfl
  refine tr_getK q20 d_TrustDesk_closeYear_16 f_TrustDesk_10_12 ?_
  refine mv_iload_n d_TrustDesk_closeYear_19 rfl rfl ?_
  refine mv_iload_n d_TrustDesk_closeYear_20 rfl rfl ?_
  obtain ⟨_, b28, -⟩ := I14.1 _ _ t_a19
  refine mv_callV (kc' := 0) (ks' := 0) (As := [.ref a21, .int x1, .int v7]) (st9 := [.int v7, .int x1, .ref a21, .ref a19]) d_TrustDesk_closeYear_21 lV_TrustDesk_154 b28 rfl (tc_Reckoner_know (d := (d + 4)) (x9 := x9) (o0 := a19) (o1 := a21) (x2 := x1) (x3 := v7) t_a19 t_a21 I14.start) rfl (Nat.le_of_ble_eq_true rfl) (Nat.le_of_ble_eq_true rfl) (Nat.le_of_ble_eq_true rfl) (hst := rfl) (fun b22r M23 n24 b22 => ?_)
  obtain ⟨T25, J26, rfl⟩ := b22
  have I27 := I14.call J26 (tm_sub (by decide)) (Or.inl rfl)
  have t29 := J26.up t_a16
  have t30 := J26.up t17
  have q31 := J26.keep t17 (by decide) q18
  have t32 := J26.up t_a19
  have q33 := J26.keep t17 (by decide) q20
  have t34 := J26.up t_a21
  refine mv_iconst (v := 0) d_TrustDesk_closeYear_24 (by decide) ?_
  refine mv_istore (lv' := [(4, .int 0), (3, .ref a16), (2, .int v7), (0, .ref o0), (1, .int x1)]) d_TrustDesk_closeYear_25 (by decide) rfl ?_
  have L27_35 : ∀ (k : Nat) (i4_35 : Int32) (T_35 : tm_H) (M_35 : mj_M) (n_35 : Nat), tm_I tm_FT (tm_in w_TrustDesk_closeYear) x9 T0 M0 n0 T_35 M_35 n_35 → T_35 a16 = some (0, 1, 0) → T_35 o0 = some (0, 12, 0) → 0 ≤ i4_35.toInt → 2147483647 - i4_35.toInt < (k : Int) → mj_V g l kY_TrustDesk_closeYear (d + 6) 27 [(4, .int i4_35), (3, .ref a16), (2, .int v7), (0, .ref o0), (1, .int x1)] [] M_35 n_35 0 0 (tm_Q tm_FT (tm_in w_TrustDesk_closeYear) x9 T0 M0 n0 (fun r _ _ => r = none)) := by
    intro k35
    induction k35 with
    | zero =>
      intro i4_35 T_35 M_35 n_35 I_35 h_q3_35 h_q0_35 iv0_35 hk35
      have := mz_hi i4_35
      omega
    | succ k35 ih35 =>
      intro i4_35 T_35 M_35 n_35 I_35 h_q3_35 h_q0_35 iv0_35 hk35
      refine mv_iload d_TrustDesk_closeYear_27 rfl ?_
      refine mv_aload_n d_TrustDesk_closeYear_29 rfl rfl ?_
      obtain ⟨a37, q36, t_a37⟩ := tm_atO I_35 h_q0_35 (k := 6) rfl
      refine tr_getK q36 d_TrustDesk_closeYear_30 f_TrustDesk_53_12 ?_
      obtain ⟨m39, n43, e40, N41, f42, h38⟩ := I_35.1 _ _ t_a37
      have := h38.2.1
      have : n43.toInt ≤ 12 := h38.2.2.1
      have q44 : tm_at M_35 a37 0 2 (.int n43) := ⟨_, h38.1, rfl⟩
      refine mv_callV_s (kc' := 0) (ks' := 0) [] [.ref a37, .int i4_35] d_TrustDesk_closeYear_33 lV_TrustDesk_97 h38.1 rfl (tc_L_size (d := (d + 5)) h38.1) rfl (Nat.le_of_ble_eq_true rfl) (Nat.le_of_ble_eq_true rfl) (Nat.le_of_ble_eq_true rfl) rfl ?_
      have := mz_hi i4_35
      have := mz_hi n43
      refine mv_icmp_geZ (tgt := 75) (a := i4_35.toInt) (b := n43.toInt) d_TrustDesk_closeYear_36 (by decide) rfl rfl (fun b45 => ?_) (fun b45 => ?_)
      · exact mv_vret d_TrustDesk_closeYear_75 rfl ⟨_, I_35, rfl⟩
      · refine mv_aload_n d_TrustDesk_closeYear_39 rfl rfl ?_
        refine tr_getK (k := 6) q36 d_TrustDesk_closeYear_40 f_TrustDesk_53_12 ?_
        refine mv_iload d_TrustDesk_closeYear_43 rfl ?_
        obtain ⟨m47, e48, N49, f50, h46⟩ := tm_lsn I_35 t_a37 q44
        obtain ⟨u51e, u51i, a52, u51f, u51t⟩ := tm_el (i := i4_35) h46 (by omega) (by omega)
        have t_a52 : T_35 a52 = some (0, 6, 0) := u51t
        refine mv_callV_s (kc' := 0) (ks' := 0) [.int i4_35] [.int i4_35, .ref a37] d_TrustDesk_closeYear_45 lV_TrustDesk_158 h46.1 rfl (tc_L_get (d := (d + 3)) h46.1 u51e (by omega) (by omega) u51i u51f) rfl (Nat.le_of_ble_eq_true rfl) (Nat.le_of_ble_eq_true rfl) (Nat.le_of_ble_eq_true rfl) rfl ?_
        obtain ⟨_, b53, -⟩ := I_35.1 _ _ t_a52
        refine mv_castS (T9 := kF_Fund) (N := 15) d_TrustDesk_closeYear_48 (mj_in1 (List.mem_of_getElem? (i := 655) (by decide +kernel)) rfl) b53 rfl ?_
        refine mv_astore (lv' := [(5, .ref a52), (4, .int i4_35), (3, .ref a16), (2, .int v7), (0, .ref o0), (1, .int x1)]) d_TrustDesk_closeYear_51 (by decide) rfl ?_
        refine mv_aload d_TrustDesk_closeYear_53 rfl ?_
        obtain ⟨_, b60, -⟩ := I_35.1 _ _ t_a52
        refine mv_callV (kc' := 0) (ks' := 0) (As := []) (st9 := [.ref a52]) d_TrustDesk_closeYear_55 lV_TrustDesk_162 b60 rfl (tc_Fund_isJoined (d := (d + 5)) (x9 := x9) (o0 := a52) t_a52 I_35.start) rfl (Nat.le_of_ble_eq_true rfl) (Nat.le_of_ble_eq_true rfl) (Nat.le_of_ble_eq_true rfl) (hst := rfl) (fun b54r M55 n56 b54 => ?_)
        obtain ⟨T57, J58, v61, rfl, b62, b63⟩ := b54
        have I59 := I_35.call J58 (tm_sub (by decide)) (Or.inl rfl)
        have t64 := J58.up t_a52
        have t65 := J58.up h_q3_35
        have t66 := J58.up h_q0_35
        have q67 := J58.keep h_q0_35 (by decide) q36
        have t68 := J58.up t_a37
        have q69 := J58.keepL t_a37 (by decide) q44
        have := mz_hi v61
        refine mv_if_neZ (tgt := 69) (a := v61.toInt) d_TrustDesk_closeYear_58 (by decide) rfl (fun b70 => ?_) (fun b70 => ?_)
        · refine mv_iinc (v := (i4_35 + 1)) (lv' := [(4, .int (i4_35 + 1)), (5, .ref a52), (3, .ref a16), (2, .int v7), (0, .ref o0), (1, .int x1)]) d_TrustDesk_closeYear_69 rfl rfl (by decide) rfl ?_
          refine mv_goto (tgt := 27) d_TrustDesk_closeYear_72 (by decide) ?_
          refine mv_locals (lv' := [(4, .int (i4_35 + 1)), (3, .ref a16), (2, .int v7), (0, .ref o0), (1, .int x1)]) (by intro q hq; simp only [List.mem_cons, List.not_mem_nil, or_false] at hq; rcases hq with rfl | rfl | rfl | rfl | rfl <;> rfl) ?_
          have b71 : (i4_35 + 1).toInt = i4_35.toInt + 1 := mz_addn 1 1 (by decide) (by have := mz_lo i4_35; omega) (by have := mz_hi i4_35; omega)
          exact (ih35 (i4_35 + 1) T57 M55 n56 I59 t65 t66 (by first | omega | decide) (by omega))
        · refine mv_aload_n d_TrustDesk_closeYear_61 rfl rfl ?_
          refine mv_aload d_TrustDesk_closeYear_62 rfl ?_
          refine mv_iload_n d_TrustDesk_closeYear_64 rfl rfl ?_
          refine mv_aload_n d_TrustDesk_closeYear_65 rfl rfl ?_
          obtain ⟨_, b78, -⟩ := I59.1 _ _ t66
          refine mv_callV (kc' := 0) (ks' := 0) (As := [.ref a52, .int x1, .ref a16]) (st9 := [.ref a16, .int x1, .ref a52, .ref o0]) d_TrustDesk_closeYear_66 lV_TrustDesk_166 b78 rfl (tc_TrustDesk_closeFund (d := d) (x9 := x9) (o0 := o0) (o1 := a52) (x2 := x1) (o3 := a16) t66 t64 t65 I59.start) rfl (Nat.le_of_ble_eq_true rfl) (Nat.le_of_ble_eq_true rfl) (Nat.le_of_ble_eq_true rfl) (hst := rfl) (fun b72r M73 n74 b72 => ?_)
          obtain ⟨T75, J76, rfl⟩ := b72
          have I77 := I59.call J76 (tm_sub (by decide)) (Or.inl rfl)
          have t79 := J76.up t64
          have t80 := J76.up t65
          have t81 := J76.up t66
          have q82 := J76.keep t66 (by decide) q67
          have t83 := J76.up t68
          have q84 := J76.keepL t68 (by decide) q69
          refine mv_iinc (v := (i4_35 + 1)) (lv' := [(4, .int (i4_35 + 1)), (5, .ref a52), (3, .ref a16), (2, .int v7), (0, .ref o0), (1, .int x1)]) d_TrustDesk_closeYear_69 rfl rfl (by decide) rfl ?_
          refine mv_goto (tgt := 27) d_TrustDesk_closeYear_72 (by decide) ?_
          refine mv_locals (lv' := [(4, .int (i4_35 + 1)), (3, .ref a16), (2, .int v7), (0, .ref o0), (1, .int x1)]) (by intro q hq; simp only [List.mem_cons, List.not_mem_nil, or_false] at hq; rcases hq with rfl | rfl | rfl | rfl | rfl <;> rfl) ?_
          have b85 : (i4_35 + 1).toInt = i4_35.toInt + 1 := mz_addn 1 1 (by decide) (by have := mz_lo i4_35; omega) (by have := mz_hi i4_35; omega)
          exact (ih35 (i4_35 + 1) T75 M73 n74 I77 t80 t81 (by first | omega | decide) (by omega))
  exact mv_less (Nat.zero_le _) (Nat.zero_le _) (L27_35 4294967296 0 T25 M23 n24 I27 t29 t30 (by first | omega | decide) (by show (2147483647 - (0 : Int) : Int) < _; decide))
abbrev kY_TrustDesk_coin : mj_Y := (⟨"TrustDesk", "coin", "(I)J"⟩, prog_1_method_39_code, 3, (Option.some Jvm.ClassFile.FieldType.long))
theorem d_TrustDesk_coin_0 : decode kY_TrustDesk_coin.2.1 0 = .ok (.aload_n 0, 1) := by decide +kernel
theorem d_TrustDesk_coin_1 : decode kY_TrustDesk_coin.2.1 1 = .ok (.iload_n 1, 1) := by decide +kernel
theorem d_TrustDesk_coin_2 : decode kY_TrustDesk_coin.2.1 2 = .ok (.invokevirtual 257, 3) := by decide +kernel
theorem d_TrustDesk_coin_5 : decode kY_TrustDesk_coin.2.1 5 = .ok (.astore_n 2, 1) := by decide +kernel
theorem d_TrustDesk_coin_6 : decode kY_TrustDesk_coin.2.1 6 = .ok (.aload_n 2, 1) := by decide +kernel
theorem d_TrustDesk_coin_7 : decode kY_TrustDesk_coin.2.1 7 = .ok (.ifnonnull 9, 3) := by decide +kernel
theorem d_TrustDesk_coin_10 : decode kY_TrustDesk_coin.2.1 10 = .ok (.ldc2_w 463, 3) := by decide +kernel
theorem k_TrustDesk_463 : Cond.constantLong "TrustDesk" 463 (-1) ∈ mj_T := (mj_in1 (List.mem_of_getElem? (i := 1174) (by decide +kernel)) rfl)
theorem d_TrustDesk_coin_13 : decode kY_TrustDesk_coin.2.1 13 = .ok (.goto 7, 3) := by decide +kernel
theorem d_TrustDesk_coin_20 : decode kY_TrustDesk_coin.2.1 20 = .ok (.lreturn, 1) := by decide +kernel
theorem d_TrustDesk_coin_16 : decode kY_TrustDesk_coin.2.1 16 = .ok (.aload_n 2, 1) := by decide +kernel
theorem d_TrustDesk_coin_17 : decode kY_TrustDesk_coin.2.1 17 = .ok (.getfield 170, 3) := by decide +kernel
def w_TrustDesk_coin : List Nat := []
theorem tc_TrustDesk_coin {g : mj_G} {l : Launch} {d : Nat} {T0 : tm_H} {M0 : mj_M} {n0 x9 : Nat} {o0 : Nat} {x1 : Int32} (h_o0 : T0 o0 = some (0, 12, 0)) (I0 : tm_I tm_FT (tm_in w_TrustDesk_coin) x9 T0 M0 n0 T0 M0 n0) : mj_Met g l kY_TrustDesk_coin (d + 4) [.ref o0, .int x1] M0 n0 0 0 (tm_Q tm_FT (tm_in w_TrustDesk_coin) x9 T0 M0 n0 (fun r _ _ => ∃ v : Int64, r = some (.long v))) := by
  refine mj_enter (by decide) (Nat.le_of_ble_eq_true rfl) ?_
  refine mv_aload_n d_TrustDesk_coin_0 rfl rfl ?_
  refine mv_iload_n d_TrustDesk_coin_1 rfl rfl ?_
  obtain ⟨_, b7, -⟩ := I0.1 _ _ h_o0
  refine mv_callV (kc' := 0) (ks' := 0) (As := [.int x1]) (st9 := [.int x1, .ref o0]) d_TrustDesk_coin_2 lV_TrustDesk_257 b7 rfl (tc_TrustDesk_fundAt (d := d) (x9 := x9) (o0 := o0) (x1 := x1) h_o0 I0.start) rfl (Nat.le_of_ble_eq_true rfl) (Nat.le_of_ble_eq_true rfl) (Nat.le_of_ble_eq_true rfl) (hst := rfl) (fun b1r M2 n3 b1 => ?_)
  obtain ⟨T4, J5, b9⟩ := b1
  have I6 := I0.call J5 (tm_sub (by decide)) (Or.inl rfl)
  have t10 := J5.up h_o0
  rcases b9 with rfl | ⟨a8, rfl, t_a8⟩
  · refine mv_astore_nN (lv' := [(2, .null), (0, .ref o0), (1, .int x1)]) d_TrustDesk_coin_5 rfl (by decide) rfl ?_
    refine mv_aload_nN d_TrustDesk_coin_6 rfl rfl ?_
    refine mv_ifnonnullN d_TrustDesk_coin_7 ?_
    refine mv_ldc2 d_TrustDesk_coin_10 k_TrustDesk_463 ?_
    refine mv_goto (tgt := 20) d_TrustDesk_coin_13 (by decide) ?_
    exact mv_lret d_TrustDesk_coin_20 rfl ⟨_, I6, _, rfl⟩
  · refine mv_astore_n (lv' := [(2, .ref a8), (0, .ref o0), (1, .int x1)]) d_TrustDesk_coin_5 rfl (by decide) rfl ?_
    refine mv_aload_n d_TrustDesk_coin_6 rfl rfl ?_
    refine mv_ifnonnull (tgt := 16) d_TrustDesk_coin_7 (by decide) ?_
    refine mv_aload_n d_TrustDesk_coin_16 rfl rfl ?_
    obtain ⟨v12, q11⟩ := tm_atL I6 t_a8 (k := 3) rfl
    refine tr_getK q11 d_TrustDesk_coin_17 f_TrustDesk_170_6 ?_
    exact mv_lret d_TrustDesk_coin_20 rfl ⟨_, I6, _, rfl⟩
abbrev kY_TrustDesk_count : mj_Y := (⟨"TrustDesk", "count", "(I)I"⟩, prog_1_method_57_code, 2, (Option.some Jvm.ClassFile.FieldType.int))
theorem d_TrustDesk_count_0 : decode kY_TrustDesk_count.2.1 0 = .ok (.iload_n 1, 1) := by decide +kernel
theorem d_TrustDesk_count_1 : decode kY_TrustDesk_count.2.1 1 = .ok (.tableswitch 144 0 11 #[63, 68, 76, 84, 92, 100, 108, 116, 121, 129, 134, 139], 63) := by decide +kernel
theorem d_TrustDesk_count_145 : decode kY_TrustDesk_count.2.1 145 = .ok (.iconst (-1), 1) := by decide +kernel
theorem d_TrustDesk_count_146 : decode kY_TrustDesk_count.2.1 146 = .ok (.ireturn, 1) := by decide +kernel
theorem d_TrustDesk_count_64 : decode kY_TrustDesk_count.2.1 64 = .ok (.aload_n 0, 1) := by decide +kernel
theorem d_TrustDesk_count_65 : decode kY_TrustDesk_count.2.1 65 = .ok (.getfield 73, 3) := by decide +kernel
theorem d_TrustDesk_count_68 : decode kY_TrustDesk_count.2.1 68 = .ok (.ireturn, 1) := by decide +kernel
theorem d_TrustDesk_count_69 : decode kY_TrustDesk_count.2.1 69 = .ok (.aload_n 0, 1) := by decide +kernel
theorem d_TrustDesk_count_70 : decode kY_TrustDesk_count.2.1 70 = .ok (.getfield 73, 3) := by decide +kernel
theorem d_TrustDesk_count_73 : decode kY_TrustDesk_count.2.1 73 = .ok (.invokestatic 366, 3) := by decide +kernel
abbrev kY_TrustDesk_yearOf : mj_Y := (⟨"TrustDesk", "yearOf", "(I)I"⟩, prog_1_method_70_code, 1, (Option.some Jvm.ClassFile.FieldType.int))
theorem d_TrustDesk_yearOf_0 : decode kY_TrustDesk_yearOf.2.1 0 = .ok (.iload_n 0, 1) := by decide +kernel
theorem d_TrustDesk_yearOf_1 : decode kY_TrustDesk_yearOf.2.1 1 = .ok (.sipush 360, 3) := by decide +kernel
theorem d_TrustDesk_yearOf_4 : decode kY_TrustDesk_yearOf.2.1 4 = .ok (.idiv, 1) := by decide +kernel
theorem d_TrustDesk_yearOf_5 : decode kY_TrustDesk_yearOf.2.1 5 = .ok (.ireturn, 1) := by decide +kernel
def w_TrustDesk_yearOf : List Nat := []
theorem tc_TrustDesk_yearOf {g : mj_G} {l : Launch} {d : Nat} {T0 : tm_H} {M0 : mj_M} {n0 x9 : Nat} {x1 : Int32} (I0 : tm_I tm_FT (tm_in w_TrustDesk_yearOf) x9 T0 M0 n0 T0 M0 n0) : mj_Met g l kY_TrustDesk_yearOf d [.int x1] M0 n0 0 0 (tm_Q tm_FT (tm_in w_TrustDesk_yearOf) x9 T0 M0 n0 (fun r _ _ => ∃ v : Int32, r = some (.int v))) := by
  refine mj_enter (by decide) (Nat.le_of_ble_eq_true rfl) ?_
  refine mv_iload_n d_TrustDesk_yearOf_0 rfl rfl ?_
  refine mv_sipush (v := 360) d_TrustDesk_yearOf_1 (by decide) ?_
  refine mv_idiv d_TrustDesk_yearOf_4 (by decide) ?_
  exact mv_iret d_TrustDesk_yearOf_5 rfl (by first | rfl | decide) ⟨_, I0, _, rfl⟩
theorem lS_TrustDesk_366 : mj_lS "TrustDesk" 366 kY_TrustDesk_yearOf 1 := ⟨⟨(mj_in1 (List.mem_of_getElem? (i := 1085) (by decide +kernel)) rfl), (mj_in1 (List.mem_of_getElem? (i := 1) (by decide +kernel)) rfl), (mj_in1 (List.mem_of_getElem? (i := 1087) (by decide +kernel)) rfl), by decide, rfl, by decide⟩, (mj_in1 (List.mem_of_getElem? (i := 1086) (by decide +kernel)) rfl)⟩
theorem d_TrustDesk_count_76 : decode kY_TrustDesk_count.2.1 76 = .ok (.ireturn, 1) := by decide +kernel
theorem d_TrustDesk_count_77 : decode kY_TrustDesk_count.2.1 77 = .ok (.aload_n 0, 1) := by decide +kernel
theorem d_TrustDesk_count_78 : decode kY_TrustDesk_count.2.1 78 = .ok (.getfield 10, 3) := by decide +kernel
theorem d_TrustDesk_count_81 : decode kY_TrustDesk_count.2.1 81 = .ok (.getfield 515, 3) := by decide +kernel
theorem f_TrustDesk_515_5 : mj_fl "TrustDesk" 515 5 4 := ⟨kR_Facts, kF_Facts, 5, "TrustDesk$Facts", rfl, kg_5, by decide, (mj_in1 (List.mem_of_getElem? (i := 50) (by decide +kernel)) rfl), Or.inl rfl⟩
theorem d_TrustDesk_count_84 : decode kY_TrustDesk_count.2.1 84 = .ok (.ireturn, 1) := by decide +kernel
theorem d_TrustDesk_count_85 : decode kY_TrustDesk_count.2.1 85 = .ok (.aload_n 0, 1) := by decide +kernel
theorem d_TrustDesk_count_86 : decode kY_TrustDesk_count.2.1 86 = .ok (.getfield 49, 3) := by decide +kernel
theorem d_TrustDesk_count_89 : decode kY_TrustDesk_count.2.1 89 = .ok (.invokevirtual 97, 3) := by decide +kernel
theorem d_TrustDesk_count_92 : decode kY_TrustDesk_count.2.1 92 = .ok (.ireturn, 1) := by decide +kernel
theorem d_TrustDesk_count_93 : decode kY_TrustDesk_count.2.1 93 = .ok (.aload_n 0, 1) := by decide +kernel
theorem d_TrustDesk_count_94 : decode kY_TrustDesk_count.2.1 94 = .ok (.getfield 53, 3) := by decide +kernel
theorem d_TrustDesk_count_97 : decode kY_TrustDesk_count.2.1 97 = .ok (.invokevirtual 97, 3) := by decide +kernel
theorem d_TrustDesk_count_100 : decode kY_TrustDesk_count.2.1 100 = .ok (.ireturn, 1) := by decide +kernel
theorem d_TrustDesk_count_101 : decode kY_TrustDesk_count.2.1 101 = .ok (.aload_n 0, 1) := by decide +kernel
theorem d_TrustDesk_count_102 : decode kY_TrustDesk_count.2.1 102 = .ok (.getfield 56, 3) := by decide +kernel
theorem f_TrustDesk_56_12 : mj_fl "TrustDesk" 56 12 7 := ⟨kR_TrustDesk, kF_TrustDesk, 13, "TrustDesk", rfl, kg_12, by decide, (mj_in1 (List.mem_of_getElem? (i := 274) (by decide +kernel)) rfl), Or.inl rfl⟩
theorem d_TrustDesk_count_105 : decode kY_TrustDesk_count.2.1 105 = .ok (.invokevirtual 97, 3) := by decide +kernel
theorem d_TrustDesk_count_108 : decode kY_TrustDesk_count.2.1 108 = .ok (.ireturn, 1) := by decide +kernel
theorem d_TrustDesk_count_109 : decode kY_TrustDesk_count.2.1 109 = .ok (.aload_n 0, 1) := by decide +kernel
theorem d_TrustDesk_count_110 : decode kY_TrustDesk_count.2.1 110 = .ok (.getfield 59, 3) := by decide +kernel
theorem f_TrustDesk_59_12 : mj_fl "TrustDesk" 59 12 8 := ⟨kR_TrustDesk, kF_TrustDesk, 13, "TrustDesk", rfl, kg_12, by decide, (mj_in1 (List.mem_of_getElem? (i := 275) (by decide +kernel)) rfl), Or.inl rfl⟩
theorem d_TrustDesk_count_113 : decode kY_TrustDesk_count.2.1 113 = .ok (.invokevirtual 97, 3) := by decide +kernel
theorem d_TrustDesk_count_116 : decode kY_TrustDesk_count.2.1 116 = .ok (.ireturn, 1) := by decide +kernel
theorem d_TrustDesk_count_117 : decode kY_TrustDesk_count.2.1 117 = .ok (.aload_n 0, 1) := by decide +kernel
theorem d_TrustDesk_count_118 : decode kY_TrustDesk_count.2.1 118 = .ok (.getfield 254, 3) := by decide +kernel
theorem d_TrustDesk_count_121 : decode kY_TrustDesk_count.2.1 121 = .ok (.ireturn, 1) := by decide +kernel
theorem d_TrustDesk_count_122 : decode kY_TrustDesk_count.2.1 122 = .ok (.aload_n 0, 1) := by decide +kernel
theorem d_TrustDesk_count_123 : decode kY_TrustDesk_count.2.1 123 = .ok (.getfield 19, 3) := by decide +kernel
theorem d_TrustDesk_count_126 : decode kY_TrustDesk_count.2.1 126 = .ok (.getfield 88, 3) := by decide +kernel
theorem f_TrustDesk_88_9 : mj_fl "TrustDesk" 88 9 0 := ⟨kR_Reader, kF_Reader, 19, "TrustDesk$Reader", rfl, kg_9, by decide, (mj_in1 (List.mem_of_getElem? (i := 70) (by decide +kernel)) rfl), Or.inl rfl⟩
theorem d_TrustDesk_count_129 : decode kY_TrustDesk_count.2.1 129 = .ok (.ireturn, 1) := by decide +kernel
theorem d_TrustDesk_count_130 : decode kY_TrustDesk_count.2.1 130 = .ok (.aload_n 0, 1) := by decide +kernel
theorem d_TrustDesk_count_131 : decode kY_TrustDesk_count.2.1 131 = .ok (.getfield 509, 3) := by decide +kernel
theorem d_TrustDesk_count_134 : decode kY_TrustDesk_count.2.1 134 = .ok (.ireturn, 1) := by decide +kernel
theorem d_TrustDesk_count_135 : decode kY_TrustDesk_count.2.1 135 = .ok (.aload_n 0, 1) := by decide +kernel
theorem d_TrustDesk_count_136 : decode kY_TrustDesk_count.2.1 136 = .ok (.invokevirtual 518, 3) := by decide +kernel
abbrev kY_TrustDesk_schemesMade : mj_Y := (⟨"TrustDesk", "schemesMade", "()I"⟩, prog_1_method_58_code, 3, (Option.some Jvm.ClassFile.FieldType.int))
theorem d_TrustDesk_schemesMade_0 : decode kY_TrustDesk_schemesMade.2.1 0 = .ok (.iconst 0, 1) := by decide +kernel
theorem d_TrustDesk_schemesMade_1 : decode kY_TrustDesk_schemesMade.2.1 1 = .ok (.istore_n 1, 1) := by decide +kernel
theorem d_TrustDesk_schemesMade_2 : decode kY_TrustDesk_schemesMade.2.1 2 = .ok (.iconst 0, 1) := by decide +kernel
theorem d_TrustDesk_schemesMade_3 : decode kY_TrustDesk_schemesMade.2.1 3 = .ok (.istore_n 2, 1) := by decide +kernel
theorem d_TrustDesk_schemesMade_4 : decode kY_TrustDesk_schemesMade.2.1 4 = .ok (.iload_n 2, 1) := by decide +kernel
theorem d_TrustDesk_schemesMade_5 : decode kY_TrustDesk_schemesMade.2.1 5 = .ok (.aload_n 0, 1) := by decide +kernel
theorem d_TrustDesk_schemesMade_6 : decode kY_TrustDesk_schemesMade.2.1 6 = .ok (.getfield 59, 3) := by decide +kernel
theorem d_TrustDesk_schemesMade_9 : decode kY_TrustDesk_schemesMade.2.1 9 = .ok (.invokevirtual 97, 3) := by decide +kernel
theorem d_TrustDesk_schemesMade_12 : decode kY_TrustDesk_schemesMade.2.1 12 = .ok (.if_icmp .ge 30, 3) := by decide +kernel
theorem d_TrustDesk_schemesMade_42 : decode kY_TrustDesk_schemesMade.2.1 42 = .ok (.iload_n 1, 1) := by decide +kernel
theorem d_TrustDesk_schemesMade_43 : decode kY_TrustDesk_schemesMade.2.1 43 = .ok (.ireturn, 1) := by decide +kernel
theorem d_TrustDesk_schemesMade_15 : decode kY_TrustDesk_schemesMade.2.1 15 = .ok (.aload_n 0, 1) := by decide +kernel
theorem d_TrustDesk_schemesMade_16 : decode kY_TrustDesk_schemesMade.2.1 16 = .ok (.getfield 59, 3) := by decide +kernel
theorem d_TrustDesk_schemesMade_19 : decode kY_TrustDesk_schemesMade.2.1 19 = .ok (.iload_n 2, 1) := by decide +kernel
theorem d_TrustDesk_schemesMade_20 : decode kY_TrustDesk_schemesMade.2.1 20 = .ok (.invokevirtual 158, 3) := by decide +kernel
theorem d_TrustDesk_schemesMade_23 : decode kY_TrustDesk_schemesMade.2.1 23 = .ok (.checkcast 271, 3) := by decide +kernel
theorem d_TrustDesk_schemesMade_26 : decode kY_TrustDesk_schemesMade.2.1 26 = .ok (.getfield 284, 3) := by decide +kernel
theorem f_TrustDesk_284_11 : mj_fl "TrustDesk" 284 11 5 := ⟨kR_Scheme, kF_Scheme, 12, "TrustDesk$Scheme", rfl, kg_11, by decide, (mj_in1 (List.mem_of_getElem? (i := 978) (by decide +kernel)) rfl), Or.inl rfl⟩
theorem d_TrustDesk_schemesMade_29 : decode kY_TrustDesk_schemesMade.2.1 29 = .ok (.iconst 1, 1) := by decide +kernel
theorem d_TrustDesk_schemesMade_30 : decode kY_TrustDesk_schemesMade.2.1 30 = .ok (.if_icmp .ne 6, 3) := by decide +kernel
theorem d_TrustDesk_schemesMade_36 : decode kY_TrustDesk_schemesMade.2.1 36 = .ok (.iinc 2 1, 3) := by decide +kernel
theorem d_TrustDesk_schemesMade_39 : decode kY_TrustDesk_schemesMade.2.1 39 = .ok (.goto (-35), 3) := by decide +kernel
theorem d_TrustDesk_schemesMade_33 : decode kY_TrustDesk_schemesMade.2.1 33 = .ok (.iinc 1 1, 3) := by decide +kernel
def w_TrustDesk_schemesMade : List Nat := []
theorem tc_TrustDesk_schemesMade {g : mj_G} {l : Launch} {d : Nat} {T0 : tm_H} {M0 : mj_M} {n0 x9 : Nat} {o0 : Nat} (h_o0 : T0 o0 = some (0, 12, 0)) (I0 : tm_I tm_FT (tm_in w_TrustDesk_schemesMade) x9 T0 M0 n0 T0 M0 n0) : mj_Met g l kY_TrustDesk_schemesMade (d + 3) [.ref o0] M0 n0 0 0 (tm_Q tm_FT (tm_in w_TrustDesk_schemesMade) x9 T0 M0 n0 (fun r _ _ => ∃ v : Int32, r = some (.int v))) := by
  refine mj_enter (by decide) (Nat.le_of_ble_eq_true rfl) ?_
  refine mv_iconst (v := 0) d_TrustDesk_schemesMade_0 (by decide) ?_
  refine mv_istore_n (lv' := [(1, .int 0), (0, .ref o0)]) d_TrustDesk_schemesMade_1 rfl (by decide) rfl ?_
  refine mv_iconst (v := 0) d_TrustDesk_schemesMade_2 (by decide) ?_
  refine mv_istore_n (lv' := [(2, .int 0), (1, .int 0), (0, .ref o0)]) d_TrustDesk_schemesMade_3 rfl (by decide) rfl ?_
  have L4_1 : ∀ (k : Nat) (i2_1 : Int32) (i1_1 : Int32) (T_1 : tm_H) (M_1 : mj_M) (n_1 : Nat), tm_I tm_FT (tm_in w_TrustDesk_schemesMade) x9 T0 M0 n0 T_1 M_1 n_1 → T_1 o0 = some (0, 12, 0) → 0 ≤ i2_1.toInt → 2147483647 - i2_1.toInt < (k : Int) → mj_V g l kY_TrustDesk_schemesMade (d + 3) 4 [(2, .int i2_1), (1, .int i1_1), (0, .ref o0)] [] M_1 n_1 0 0 (tm_Q tm_FT (tm_in w_TrustDesk_schemesMade) x9 T0 M0 n0 (fun r _ _ => ∃ v : Int32, r = some (.int v))) := by
    intro k1
    induction k1 with
    | zero =>
      intro i2_1 i1_1 T_1 M_1 n_1 I_1 h_q0_1 iv0_1 hk1
      have := mz_hi i2_1
      omega
    | succ k1 ih1 =>
      intro i2_1 i1_1 T_1 M_1 n_1 I_1 h_q0_1 iv0_1 hk1
      refine mv_iload_n d_TrustDesk_schemesMade_4 rfl rfl ?_
      refine mv_aload_n d_TrustDesk_schemesMade_5 rfl rfl ?_
      obtain ⟨a3, q2, t_a3⟩ := tm_atO I_1 h_q0_1 (k := 8) rfl
      refine tr_getK q2 d_TrustDesk_schemesMade_6 f_TrustDesk_59_12 ?_
      obtain ⟨m5, n9, e6, N7, f8, h4⟩ := I_1.1 _ _ t_a3
      have := h4.2.1
      have : n9.toInt ≤ 40 := h4.2.2.1
      have q10 : tm_at M_1 a3 0 2 (.int n9) := ⟨_, h4.1, rfl⟩
      refine mv_callV_s (kc' := 0) (ks' := 0) [] [.ref a3, .int i2_1] d_TrustDesk_schemesMade_9 lV_TrustDesk_97 h4.1 rfl (tc_L_size (d := (d + 2)) h4.1) rfl (Nat.le_of_ble_eq_true rfl) (Nat.le_of_ble_eq_true rfl) (Nat.le_of_ble_eq_true rfl) rfl ?_
      have := mz_hi i2_1
      have := mz_hi n9
      refine mv_icmp_geZ (tgt := 42) (a := i2_1.toInt) (b := n9.toInt) d_TrustDesk_schemesMade_12 (by decide) rfl rfl (fun b11 => ?_) (fun b11 => ?_)
      · refine mv_iload_n d_TrustDesk_schemesMade_42 rfl rfl ?_
        exact mv_iret d_TrustDesk_schemesMade_43 rfl (by first | rfl | decide) ⟨_, I_1, _, rfl⟩
      · refine mv_aload_n d_TrustDesk_schemesMade_15 rfl rfl ?_
        refine tr_getK (k := 8) q2 d_TrustDesk_schemesMade_16 f_TrustDesk_59_12 ?_
        refine mv_iload_n d_TrustDesk_schemesMade_19 rfl rfl ?_
        obtain ⟨m13, e14, N15, f16, h12⟩ := tm_lsn I_1 t_a3 q10
        obtain ⟨u17e, u17i, a18, u17f, u17t⟩ := tm_el (i := i2_1) h12 (by omega) (by omega)
        have t_a18 : T_1 a18 = some (0, 11, 0) := u17t
        refine mv_callV_s (kc' := 0) (ks' := 0) [.int i2_1] [.int i2_1, .ref a3] d_TrustDesk_schemesMade_20 lV_TrustDesk_158 h12.1 rfl (tc_L_get (d := d) h12.1 u17e (by omega) (by omega) u17i u17f) rfl (Nat.le_of_ble_eq_true rfl) (Nat.le_of_ble_eq_true rfl) (Nat.le_of_ble_eq_true rfl) rfl ?_
        obtain ⟨_, b19, -⟩ := I_1.1 _ _ t_a18
        refine mv_castS (T9 := kF_Scheme) (N := 12) d_TrustDesk_schemesMade_23 (mj_in1 (List.mem_of_getElem? (i := 961) (by decide +kernel)) rfl) b19 rfl ?_
        obtain ⟨v21, q20⟩ := tm_atI I_1 t_a18 (k := 5) rfl
        refine tr_getK q20 d_TrustDesk_schemesMade_26 f_TrustDesk_284_11 ?_
        refine mv_iconst (v := 1) d_TrustDesk_schemesMade_29 (by decide) ?_
        have := mz_hi v21
        refine mv_icmp_neZ (tgt := 36) (a := v21.toInt) (b := 1) d_TrustDesk_schemesMade_30 (by decide) rfl (by decide) (fun b22 => ?_) (fun b22 => ?_)
        · refine mv_iinc (v := (i2_1 + 1)) (lv' := [(2, .int (i2_1 + 1)), (1, .int i1_1), (0, .ref o0)]) d_TrustDesk_schemesMade_36 rfl rfl (by decide) rfl ?_
          refine mv_goto (tgt := 4) d_TrustDesk_schemesMade_39 (by decide) ?_
          have b23 : (i2_1 + 1).toInt = i2_1.toInt + 1 := mz_addn 1 1 (by decide) (by have := mz_lo i2_1; omega) (by have := mz_hi i2_1; omega)
          exact (ih1 (i2_1 + 1) i1_1 T_1 M_1 n_1 I_1 h_q0_1 (by first | omega | decide) (by omega))
        · refine mv_iinc (v := (i1_1 + 1)) (lv' := [(1, .int (i1_1 + 1)), (2, .int i2_1), (0, .ref o0)]) d_TrustDesk_schemesMade_33 rfl rfl (by decide) rfl ?_
          refine mv_iinc (v := (i2_1 + 1)) (lv' := [(2, .int (i2_1 + 1)), (1, .int (i1_1 + 1)), (0, .ref o0)]) d_TrustDesk_schemesMade_36 rfl rfl (by decide) rfl ?_
          refine mv_goto (tgt := 4) d_TrustDesk_schemesMade_39 (by decide) ?_
          have b24 : (i2_1 + 1).toInt = i2_1.toInt + 1 := mz_addn 1 1 (by decide) (by have := mz_lo i2_1; omega) (by have := mz_hi i2_1; omega)
          exact (ih1 (i2_1 + 1) (i1_1 + 1) T_1 M_1 n_1 I_1 h_q0_1 (by first | omega | decide) (by omega))
  exact mv_less (Nat.zero_le _) (Nat.zero_le _) (L4_1 4294967296 0 0 T0 M0 n0 I0 h_o0 (by first | omega | decide) (by show (2147483647 - (0 : Int) : Int) < _; decide))
theorem lV_TrustDesk_518 : mj_lV "TrustDesk" 518 kY_TrustDesk_schemesMade 0 := ⟨⟨(mj_in1 (List.mem_of_getElem? (i := 1298) (by decide +kernel)) rfl), (mj_in1 (List.mem_of_getElem? (i := 1) (by decide +kernel)) rfl), (mj_in1 (List.mem_of_getElem? (i := 1301) (by decide +kernel)) rfl), by decide, rfl, by decide⟩, (mj_in1 (List.mem_of_getElem? (i := 1300) (by decide +kernel)) rfl), (mj_in (List.mem_append_left _ (List.mem_of_getElem? (i := 75) (by decide +kernel))) rfl)⟩
theorem d_TrustDesk_count_139 : decode kY_TrustDesk_count.2.1 139 = .ok (.ireturn, 1) := by decide +kernel
theorem d_TrustDesk_count_140 : decode kY_TrustDesk_count.2.1 140 = .ok (.aload_n 0, 1) := by decide +kernel
theorem d_TrustDesk_count_141 : decode kY_TrustDesk_count.2.1 141 = .ok (.invokevirtual 521, 3) := by decide +kernel
abbrev kY_TrustDesk_fundsNotJoined : mj_Y := (⟨"TrustDesk", "fundsNotJoined", "()I"⟩, prog_1_method_59_code, 3, (Option.some Jvm.ClassFile.FieldType.int))
theorem d_TrustDesk_fundsNotJoined_0 : decode kY_TrustDesk_fundsNotJoined.2.1 0 = .ok (.iconst 0, 1) := by decide +kernel
theorem d_TrustDesk_fundsNotJoined_1 : decode kY_TrustDesk_fundsNotJoined.2.1 1 = .ok (.istore_n 1, 1) := by decide +kernel
theorem d_TrustDesk_fundsNotJoined_2 : decode kY_TrustDesk_fundsNotJoined.2.1 2 = .ok (.iconst 0, 1) := by decide +kernel
theorem d_TrustDesk_fundsNotJoined_3 : decode kY_TrustDesk_fundsNotJoined.2.1 3 = .ok (.istore_n 2, 1) := by decide +kernel
theorem d_TrustDesk_fundsNotJoined_4 : decode kY_TrustDesk_fundsNotJoined.2.1 4 = .ok (.iload_n 2, 1) := by decide +kernel
theorem d_TrustDesk_fundsNotJoined_5 : decode kY_TrustDesk_fundsNotJoined.2.1 5 = .ok (.aload_n 0, 1) := by decide +kernel
theorem d_TrustDesk_fundsNotJoined_6 : decode kY_TrustDesk_fundsNotJoined.2.1 6 = .ok (.getfield 53, 3) := by decide +kernel
theorem d_TrustDesk_fundsNotJoined_9 : decode kY_TrustDesk_fundsNotJoined.2.1 9 = .ok (.invokevirtual 97, 3) := by decide +kernel
theorem d_TrustDesk_fundsNotJoined_12 : decode kY_TrustDesk_fundsNotJoined.2.1 12 = .ok (.if_icmp .ge 29, 3) := by decide +kernel
theorem d_TrustDesk_fundsNotJoined_41 : decode kY_TrustDesk_fundsNotJoined.2.1 41 = .ok (.iload_n 1, 1) := by decide +kernel
theorem d_TrustDesk_fundsNotJoined_42 : decode kY_TrustDesk_fundsNotJoined.2.1 42 = .ok (.ireturn, 1) := by decide +kernel
theorem d_TrustDesk_fundsNotJoined_15 : decode kY_TrustDesk_fundsNotJoined.2.1 15 = .ok (.aload_n 0, 1) := by decide +kernel
theorem d_TrustDesk_fundsNotJoined_16 : decode kY_TrustDesk_fundsNotJoined.2.1 16 = .ok (.getfield 53, 3) := by decide +kernel
theorem d_TrustDesk_fundsNotJoined_19 : decode kY_TrustDesk_fundsNotJoined.2.1 19 = .ok (.iload_n 2, 1) := by decide +kernel
theorem d_TrustDesk_fundsNotJoined_20 : decode kY_TrustDesk_fundsNotJoined.2.1 20 = .ok (.invokevirtual 158, 3) := by decide +kernel
theorem d_TrustDesk_fundsNotJoined_23 : decode kY_TrustDesk_fundsNotJoined.2.1 23 = .ok (.checkcast 123, 3) := by decide +kernel
theorem d_TrustDesk_fundsNotJoined_26 : decode kY_TrustDesk_fundsNotJoined.2.1 26 = .ok (.invokevirtual 162, 3) := by decide +kernel
theorem d_TrustDesk_fundsNotJoined_29 : decode kY_TrustDesk_fundsNotJoined.2.1 29 = .ok (.ifCond .ne 6, 3) := by decide +kernel
theorem d_TrustDesk_fundsNotJoined_35 : decode kY_TrustDesk_fundsNotJoined.2.1 35 = .ok (.iinc 2 1, 3) := by decide +kernel
theorem d_TrustDesk_fundsNotJoined_38 : decode kY_TrustDesk_fundsNotJoined.2.1 38 = .ok (.goto (-34), 3) := by decide +kernel
theorem d_TrustDesk_fundsNotJoined_32 : decode kY_TrustDesk_fundsNotJoined.2.1 32 = .ok (.iinc 1 1, 3) := by decide +kernel
def w_TrustDesk_fundsNotJoined : List Nat := []
theorem tc_TrustDesk_fundsNotJoined {g : mj_G} {l : Launch} {d : Nat} {T0 : tm_H} {M0 : mj_M} {n0 x9 : Nat} {o0 : Nat} (h_o0 : T0 o0 = some (0, 12, 0)) (I0 : tm_I tm_FT (tm_in w_TrustDesk_fundsNotJoined) x9 T0 M0 n0 T0 M0 n0) : mj_Met g l kY_TrustDesk_fundsNotJoined (d + 3) [.ref o0] M0 n0 0 0 (tm_Q tm_FT (tm_in w_TrustDesk_fundsNotJoined) x9 T0 M0 n0 (fun r _ _ => ∃ v : Int32, r = some (.int v))) := by
  refine mj_enter (by decide) (Nat.le_of_ble_eq_true rfl) ?_
  refine mv_iconst (v := 0) d_TrustDesk_fundsNotJoined_0 (by decide) ?_
  refine mv_istore_n (lv' := [(1, .int 0), (0, .ref o0)]) d_TrustDesk_fundsNotJoined_1 rfl (by decide) rfl ?_
  refine mv_iconst (v := 0) d_TrustDesk_fundsNotJoined_2 (by decide) ?_
  refine mv_istore_n (lv' := [(2, .int 0), (1, .int 0), (0, .ref o0)]) d_TrustDesk_fundsNotJoined_3 rfl (by decide) rfl ?_
  have L4_1 : ∀ (k : Nat) (i2_1 : Int32) (i1_1 : Int32) (T_1 : tm_H) (M_1 : mj_M) (n_1 : Nat), tm_I tm_FT (tm_in w_TrustDesk_fundsNotJoined) x9 T0 M0 n0 T_1 M_1 n_1 → T_1 o0 = some (0, 12, 0) → 0 ≤ i2_1.toInt → 2147483647 - i2_1.toInt < (k : Int) → mj_V g l kY_TrustDesk_fundsNotJoined (d + 3) 4 [(2, .int i2_1), (1, .int i1_1), (0, .ref o0)] [] M_1 n_1 0 0 (tm_Q tm_FT (tm_in w_TrustDesk_fundsNotJoined) x9 T0 M0 n0 (fun r _ _ => ∃ v : Int32, r = some (.int v))) := by
    intro k1
    induction k1 with
    | zero =>
      intro i2_1 i1_1 T_1 M_1 n_1 I_1 h_q0_1 iv0_1 hk1
      have := mz_hi i2_1
      omega
    | succ k1 ih1 =>
      intro i2_1 i1_1 T_1 M_1 n_1 I_1 h_q0_1 iv0_1 hk1
      refine mv_iload_n d_TrustDesk_fundsNotJoined_4 rfl rfl ?_
      refine mv_aload_n d_TrustDesk_fundsNotJoined_5 rfl rfl ?_
      obtain ⟨a3, q2, t_a3⟩ := tm_atO I_1 h_q0_1 (k := 6) rfl
      refine tr_getK q2 d_TrustDesk_fundsNotJoined_6 f_TrustDesk_53_12 ?_
      obtain ⟨m5, n9, e6, N7, f8, h4⟩ := I_1.1 _ _ t_a3
      have := h4.2.1
      have : n9.toInt ≤ 12 := h4.2.2.1
      have q10 : tm_at M_1 a3 0 2 (.int n9) := ⟨_, h4.1, rfl⟩
      refine mv_callV_s (kc' := 0) (ks' := 0) [] [.ref a3, .int i2_1] d_TrustDesk_fundsNotJoined_9 lV_TrustDesk_97 h4.1 rfl (tc_L_size (d := (d + 2)) h4.1) rfl (Nat.le_of_ble_eq_true rfl) (Nat.le_of_ble_eq_true rfl) (Nat.le_of_ble_eq_true rfl) rfl ?_
      have := mz_hi i2_1
      have := mz_hi n9
      refine mv_icmp_geZ (tgt := 41) (a := i2_1.toInt) (b := n9.toInt) d_TrustDesk_fundsNotJoined_12 (by decide) rfl rfl (fun b11 => ?_) (fun b11 => ?_)
      · refine mv_iload_n d_TrustDesk_fundsNotJoined_41 rfl rfl ?_
        exact mv_iret d_TrustDesk_fundsNotJoined_42 rfl (by first | rfl | decide) ⟨_, I_1, _, rfl⟩
      · refine mv_aload_n d_TrustDesk_fundsNotJoined_15 rfl rfl ?_
        refine tr_getK (k := 6) q2 d_TrustDesk_fundsNotJoined_16 f_TrustDesk_53_12 ?_
        refine mv_iload_n d_TrustDesk_fundsNotJoined_19 rfl rfl ?_
        obtain ⟨m13, e14, N15, f16, h12⟩ := tm_lsn I_1 t_a3 q10
        obtain ⟨u17e, u17i, a18, u17f, u17t⟩ := tm_el (i := i2_1) h12 (by omega) (by omega)
        have t_a18 : T_1 a18 = some (0, 6, 0) := u17t
        refine mv_callV_s (kc' := 0) (ks' := 0) [.int i2_1] [.int i2_1, .ref a3] d_TrustDesk_fundsNotJoined_20 lV_TrustDesk_158 h12.1 rfl (tc_L_get (d := d) h12.1 u17e (by omega) (by omega) u17i u17f) rfl (Nat.le_of_ble_eq_true rfl) (Nat.le_of_ble_eq_true rfl) (Nat.le_of_ble_eq_true rfl) rfl ?_
        obtain ⟨_, b19, -⟩ := I_1.1 _ _ t_a18
        refine mv_castS (T9 := kF_Fund) (N := 15) d_TrustDesk_fundsNotJoined_23 (mj_in1 (List.mem_of_getElem? (i := 655) (by decide +kernel)) rfl) b19 rfl ?_
        obtain ⟨_, b26, -⟩ := I_1.1 _ _ t_a18
        refine mv_callV (kc' := 0) (ks' := 0) (As := []) (st9 := [.ref a18]) d_TrustDesk_fundsNotJoined_26 lV_TrustDesk_162 b26 rfl (tc_Fund_isJoined (d := (d + 2)) (x9 := x9) (o0 := a18) t_a18 I_1.start) rfl (Nat.le_of_ble_eq_true rfl) (Nat.le_of_ble_eq_true rfl) (Nat.le_of_ble_eq_true rfl) (hst := rfl) (fun b20r M21 n22 b20 => ?_)
        obtain ⟨T23, J24, v27, rfl, b28, b29⟩ := b20
        have I25 := I_1.call J24 (tm_sub (by decide)) (Or.inl rfl)
        have t30 := J24.up h_q0_1
        have q31 := J24.keep h_q0_1 (by decide) q2
        have t32 := J24.up t_a3
        have q33 := J24.keepL t_a3 (by decide) q10
        have := mz_hi v27
        refine mv_if_neZ (tgt := 35) (a := v27.toInt) d_TrustDesk_fundsNotJoined_29 (by decide) rfl (fun b34 => ?_) (fun b34 => ?_)
        · refine mv_iinc (v := (i2_1 + 1)) (lv' := [(2, .int (i2_1 + 1)), (1, .int i1_1), (0, .ref o0)]) d_TrustDesk_fundsNotJoined_35 rfl rfl (by decide) rfl ?_
          refine mv_goto (tgt := 4) d_TrustDesk_fundsNotJoined_38 (by decide) ?_
          have b35 : (i2_1 + 1).toInt = i2_1.toInt + 1 := mz_addn 1 1 (by decide) (by have := mz_lo i2_1; omega) (by have := mz_hi i2_1; omega)
          exact (ih1 (i2_1 + 1) i1_1 T23 M21 n22 I25 t30 (by first | omega | decide) (by omega))
        · refine mv_iinc (v := (i1_1 + 1)) (lv' := [(1, .int (i1_1 + 1)), (2, .int i2_1), (0, .ref o0)]) d_TrustDesk_fundsNotJoined_32 rfl rfl (by decide) rfl ?_
          refine mv_iinc (v := (i2_1 + 1)) (lv' := [(2, .int (i2_1 + 1)), (1, .int (i1_1 + 1)), (0, .ref o0)]) d_TrustDesk_fundsNotJoined_35 rfl rfl (by decide) rfl ?_
          refine mv_goto (tgt := 4) d_TrustDesk_fundsNotJoined_38 (by decide) ?_
          have b36 : (i2_1 + 1).toInt = i2_1.toInt + 1 := mz_addn 1 1 (by decide) (by have := mz_lo i2_1; omega) (by have := mz_hi i2_1; omega)
          exact (ih1 (i2_1 + 1) (i1_1 + 1) T23 M21 n22 I25 t30 (by first | omega | decide) (by omega))
  exact mv_less (Nat.zero_le _) (Nat.zero_le _) (L4_1 4294967296 0 0 T0 M0 n0 I0 h_o0 (by first | omega | decide) (by show (2147483647 - (0 : Int) : Int) < _; decide))
theorem lV_TrustDesk_521 : mj_lV "TrustDesk" 521 kY_TrustDesk_fundsNotJoined 0 := ⟨⟨(mj_in1 (List.mem_of_getElem? (i := 1302) (by decide +kernel)) rfl), (mj_in1 (List.mem_of_getElem? (i := 1) (by decide +kernel)) rfl), (mj_in1 (List.mem_of_getElem? (i := 1305) (by decide +kernel)) rfl), by decide, rfl, by decide⟩, (mj_in1 (List.mem_of_getElem? (i := 1304) (by decide +kernel)) rfl), (mj_in (List.mem_append_left _ (List.mem_of_getElem? (i := 76) (by decide +kernel))) rfl)⟩
theorem d_TrustDesk_count_144 : decode kY_TrustDesk_count.2.1 144 = .ok (.ireturn, 1) := by decide +kernel
def w_TrustDesk_count : List Nat := []
theorem tc_TrustDesk_count {g : mj_G} {l : Launch} {d : Nat} {T0 : tm_H} {M0 : mj_M} {n0 x9 : Nat} {o0 : Nat} {x1 : Int32} (h_o0 : T0 o0 = some (0, 12, 0)) (I0 : tm_I tm_FT (tm_in w_TrustDesk_count) x9 T0 M0 n0 T0 M0 n0) : mj_Met g l kY_TrustDesk_count (d + 4) [.ref o0, .int x1] M0 n0 0 0 (tm_Q tm_FT (tm_in w_TrustDesk_count) x9 T0 M0 n0 (fun r _ _ => ∃ v : Int32, r = some (.int v))) := by
  refine mj_enter (by decide) (Nat.le_of_ble_eq_true rfl) ?_
  refine mv_iload_n d_TrustDesk_count_0 rfl rfl ?_
  rcases (show (x1.toInt < 0 ∨ 11 < x1.toInt) ∨ x1.toInt = 0 ∨ x1.toInt = 1 ∨ x1.toInt = 2 ∨ x1.toInt = 3 ∨ x1.toInt = 4 ∨ x1.toInt = 5 ∨ x1.toInt = 6 ∨ x1.toInt = 7 ∨ x1.toInt = 8 ∨ x1.toInt = 9 ∨ x1.toInt = 10 ∨ x1.toInt = 11 by omega) with b1 | b1 | b1 | b1 | b1 | b1 | b1 | b1 | b1 | b1 | b1 | b1 | b1
  · refine mv_tableOut (tgt := 145) d_TrustDesk_count_1 b1 (by decide) ?_
    refine mv_iconst (v := (-1)) d_TrustDesk_count_145 (by decide) ?_
    exact mv_iret d_TrustDesk_count_146 rfl (by first | rfl | decide) ⟨_, I0, _, rfl⟩
  · refine mv_tableIn (tgt := 64) (off := 63) d_TrustDesk_count_1 (by omega) (by omega) (by rw [b1]; rfl) (by decide) ?_
    refine mv_aload_n d_TrustDesk_count_64 rfl rfl ?_
    obtain ⟨v3, q2⟩ := tm_atI I0 h_o0 (k := 12) rfl
    refine tr_getK q2 d_TrustDesk_count_65 f_TrustDesk_73_12 ?_
    exact mv_iret d_TrustDesk_count_68 rfl (by first | rfl | decide) ⟨_, I0, _, rfl⟩
  · refine mv_tableIn (tgt := 69) (off := 68) d_TrustDesk_count_1 (by omega) (by omega) (by rw [b1]; rfl) (by decide) ?_
    refine mv_aload_n d_TrustDesk_count_69 rfl rfl ?_
    obtain ⟨v5, q4⟩ := tm_atI I0 h_o0 (k := 12) rfl
    refine tr_getK q4 d_TrustDesk_count_70 f_TrustDesk_73_12 ?_
    refine mv_callS (kc' := 0) (ks' := 0) (As := [.int v5]) (st9 := [.int v5]) d_TrustDesk_count_73 lS_TrustDesk_366 (tc_TrustDesk_yearOf (d := (d + 3)) (x9 := x9) (x1 := v5)  I0.start) rfl (Nat.le_of_ble_eq_true rfl) (Nat.le_of_ble_eq_true rfl) (Nat.le_of_ble_eq_true rfl) (hst := rfl) (fun b6r M7 n8 b6 => ?_)
    obtain ⟨T9, J10, v12, rfl⟩ := b6
    have I11 := I0.call J10 (tm_sub (by decide)) (Or.inl rfl)
    have t13 := J10.up h_o0
    have q14 := J10.keep h_o0 (by decide) q4
    exact mv_iret d_TrustDesk_count_76 rfl (by first | rfl | decide) ⟨_, I11, _, rfl⟩
  · refine mv_tableIn (tgt := 77) (off := 76) d_TrustDesk_count_1 (by omega) (by omega) (by rw [b1]; rfl) (by decide) ?_
    refine mv_aload_n d_TrustDesk_count_77 rfl rfl ?_
    obtain ⟨a16, q15, t_a16⟩ := tm_atR I0 h_o0 (k := 0) rfl
    refine tr_getK q15 d_TrustDesk_count_78 f_TrustDesk_10_12 ?_
    obtain ⟨v18, q17⟩ := tm_atI I0 t_a16 (k := 4) rfl
    refine tr_getK q17 d_TrustDesk_count_81 f_TrustDesk_515_5 ?_
    exact mv_iret d_TrustDesk_count_84 rfl (by first | rfl | decide) ⟨_, I0, _, rfl⟩
  · refine mv_tableIn (tgt := 85) (off := 84) d_TrustDesk_count_1 (by omega) (by omega) (by rw [b1]; rfl) (by decide) ?_
    refine mv_aload_n d_TrustDesk_count_85 rfl rfl ?_
    obtain ⟨a20, q19, t_a20⟩ := tm_atO I0 h_o0 (k := 5) rfl
    refine tr_getK q19 d_TrustDesk_count_86 f_TrustDesk_49_12 ?_
    obtain ⟨m22, n26, e23, N24, f25, h21⟩ := I0.1 _ _ t_a20
    have := h21.2.1
    have : n26.toInt ≤ 20 := h21.2.2.1
    have q27 : tm_at M0 a20 0 2 (.int n26) := ⟨_, h21.1, rfl⟩
    refine mv_callV_s (kc' := 0) (ks' := 0) [] [.ref a20] d_TrustDesk_count_89 lV_TrustDesk_97 h21.1 rfl (tc_L_size (d := (d + 3)) h21.1) rfl (Nat.le_of_ble_eq_true rfl) (Nat.le_of_ble_eq_true rfl) (Nat.le_of_ble_eq_true rfl) rfl ?_
    exact mv_iret d_TrustDesk_count_92 rfl (by first | rfl | decide) ⟨_, I0, _, rfl⟩
  · refine mv_tableIn (tgt := 93) (off := 92) d_TrustDesk_count_1 (by omega) (by omega) (by rw [b1]; rfl) (by decide) ?_
    refine mv_aload_n d_TrustDesk_count_93 rfl rfl ?_
    obtain ⟨a29, q28, t_a29⟩ := tm_atO I0 h_o0 (k := 6) rfl
    refine tr_getK q28 d_TrustDesk_count_94 f_TrustDesk_53_12 ?_
    obtain ⟨m31, n35, e32, N33, f34, h30⟩ := I0.1 _ _ t_a29
    have := h30.2.1
    have : n35.toInt ≤ 12 := h30.2.2.1
    have q36 : tm_at M0 a29 0 2 (.int n35) := ⟨_, h30.1, rfl⟩
    refine mv_callV_s (kc' := 0) (ks' := 0) [] [.ref a29] d_TrustDesk_count_97 lV_TrustDesk_97 h30.1 rfl (tc_L_size (d := (d + 3)) h30.1) rfl (Nat.le_of_ble_eq_true rfl) (Nat.le_of_ble_eq_true rfl) (Nat.le_of_ble_eq_true rfl) rfl ?_
    exact mv_iret d_TrustDesk_count_100 rfl (by first | rfl | decide) ⟨_, I0, _, rfl⟩
  · refine mv_tableIn (tgt := 101) (off := 100) d_TrustDesk_count_1 (by omega) (by omega) (by rw [b1]; rfl) (by decide) ?_
    refine mv_aload_n d_TrustDesk_count_101 rfl rfl ?_
    obtain ⟨a38, q37, t_a38⟩ := tm_atO I0 h_o0 (k := 7) rfl
    refine tr_getK q37 d_TrustDesk_count_102 f_TrustDesk_56_12 ?_
    obtain ⟨m40, n44, e41, N42, f43, h39⟩ := I0.1 _ _ t_a38
    have := h39.2.1
    have : n44.toInt ≤ 12 := h39.2.2.1
    have q45 : tm_at M0 a38 0 2 (.int n44) := ⟨_, h39.1, rfl⟩
    refine mv_callV_s (kc' := 0) (ks' := 0) [] [.ref a38] d_TrustDesk_count_105 lV_TrustDesk_97 h39.1 rfl (tc_L_size (d := (d + 3)) h39.1) rfl (Nat.le_of_ble_eq_true rfl) (Nat.le_of_ble_eq_true rfl) (Nat.le_of_ble_eq_true rfl) rfl ?_
    exact mv_iret d_TrustDesk_count_108 rfl (by first | rfl | decide) ⟨_, I0, _, rfl⟩
  · refine mv_tableIn (tgt := 109) (off := 108) d_TrustDesk_count_1 (by omega) (by omega) (by rw [b1]; rfl) (by decide) ?_
    refine mv_aload_n d_TrustDesk_count_109 rfl rfl ?_
    obtain ⟨a47, q46, t_a47⟩ := tm_atO I0 h_o0 (k := 8) rfl
    refine tr_getK q46 d_TrustDesk_count_110 f_TrustDesk_59_12 ?_
    obtain ⟨m49, n53, e50, N51, f52, h48⟩ := I0.1 _ _ t_a47
    have := h48.2.1
    have : n53.toInt ≤ 40 := h48.2.2.1
    have q54 : tm_at M0 a47 0 2 (.int n53) := ⟨_, h48.1, rfl⟩
    refine mv_callV_s (kc' := 0) (ks' := 0) [] [.ref a47] d_TrustDesk_count_113 lV_TrustDesk_97 h48.1 rfl (tc_L_size (d := (d + 3)) h48.1) rfl (Nat.le_of_ble_eq_true rfl) (Nat.le_of_ble_eq_true rfl) (Nat.le_of_ble_eq_true rfl) rfl ?_
    exact mv_iret d_TrustDesk_count_116 rfl (by first | rfl | decide) ⟨_, I0, _, rfl⟩
  · refine mv_tableIn (tgt := 117) (off := 116) d_TrustDesk_count_1 (by omega) (by omega) (by rw [b1]; rfl) (by decide) ?_
    refine mv_aload_n d_TrustDesk_count_117 rfl rfl ?_
    obtain ⟨v56, q55⟩ := tm_atI I0 h_o0 (k := 10) rfl
    refine tr_getK q55 d_TrustDesk_count_118 f_TrustDesk_254_12 ?_
    exact mv_iret d_TrustDesk_count_121 rfl (by first | rfl | decide) ⟨_, I0, _, rfl⟩
  · refine mv_tableIn (tgt := 122) (off := 121) d_TrustDesk_count_1 (by omega) (by omega) (by rw [b1]; rfl) (by decide) ?_
    refine mv_aload_n d_TrustDesk_count_122 rfl rfl ?_
    obtain ⟨a58, q57, t_a58⟩ := tm_atR I0 h_o0 (k := 1) rfl
    refine tr_getK q57 d_TrustDesk_count_123 f_TrustDesk_19_12 ?_
    obtain ⟨v60, q59⟩ := tm_atI I0 t_a58 (k := 0) rfl
    refine tr_getK q59 d_TrustDesk_count_126 f_TrustDesk_88_9 ?_
    exact mv_iret d_TrustDesk_count_129 rfl (by first | rfl | decide) ⟨_, I0, _, rfl⟩
  · refine mv_tableIn (tgt := 130) (off := 129) d_TrustDesk_count_1 (by omega) (by omega) (by rw [b1]; rfl) (by decide) ?_
    refine mv_aload_n d_TrustDesk_count_130 rfl rfl ?_
    obtain ⟨v62, q61⟩ := tm_atI I0 h_o0 (k := 11) rfl
    refine tr_getK q61 d_TrustDesk_count_131 f_TrustDesk_509_12 ?_
    exact mv_iret d_TrustDesk_count_134 rfl (by first | rfl | decide) ⟨_, I0, _, rfl⟩
  · refine mv_tableIn (tgt := 135) (off := 134) d_TrustDesk_count_1 (by omega) (by omega) (by rw [b1]; rfl) (by decide) ?_
    refine mv_aload_n d_TrustDesk_count_135 rfl rfl ?_
    obtain ⟨_, b69, -⟩ := I0.1 _ _ h_o0
    refine mv_callV (kc' := 0) (ks' := 0) (As := []) (st9 := [.ref o0]) d_TrustDesk_count_136 lV_TrustDesk_518 b69 rfl (tc_TrustDesk_schemesMade (d := d) (x9 := x9) (o0 := o0) h_o0 I0.start) rfl (Nat.le_of_ble_eq_true rfl) (Nat.le_of_ble_eq_true rfl) (Nat.le_of_ble_eq_true rfl) (hst := rfl) (fun b63r M64 n65 b63 => ?_)
    obtain ⟨T66, J67, v70, rfl⟩ := b63
    have I68 := I0.call J67 (tm_sub (by decide)) (Or.inl rfl)
    have t71 := J67.up h_o0
    exact mv_iret d_TrustDesk_count_139 rfl (by first | rfl | decide) ⟨_, I68, _, rfl⟩
  · refine mv_tableIn (tgt := 140) (off := 139) d_TrustDesk_count_1 (by omega) (by omega) (by rw [b1]; rfl) (by decide) ?_
    refine mv_aload_n d_TrustDesk_count_140 rfl rfl ?_
    obtain ⟨_, b78, -⟩ := I0.1 _ _ h_o0
    refine mv_callV (kc' := 0) (ks' := 0) (As := []) (st9 := [.ref o0]) d_TrustDesk_count_141 lV_TrustDesk_521 b78 rfl (tc_TrustDesk_fundsNotJoined (d := d) (x9 := x9) (o0 := o0) h_o0 I0.start) rfl (Nat.le_of_ble_eq_true rfl) (Nat.le_of_ble_eq_true rfl) (Nat.le_of_ble_eq_true rfl) (hst := rfl) (fun b72r M73 n74 b72 => ?_)
    obtain ⟨T75, J76, v79, rfl⟩ := b72
    have I77 := I0.call J76 (tm_sub (by decide)) (Or.inl rfl)
    have t80 := J76.up h_o0
    exact mv_iret d_TrustDesk_count_144 rfl (by first | rfl | decide) ⟨_, I77, _, rfl⟩
abbrev kY_TrustDesk_days : mj_Y := (⟨"TrustDesk", "days", "(I)I"⟩, prog_1_method_11_code, 4, (Option.some Jvm.ClassFile.FieldType.int))
theorem d_TrustDesk_days_0 : decode kY_TrustDesk_days.2.1 0 = .ok (.iload_n 1, 1) := by decide +kernel
theorem d_TrustDesk_days_1 : decode kY_TrustDesk_days.2.1 1 = .ok (.iconst 1, 1) := by decide +kernel
theorem d_TrustDesk_days_2 : decode kY_TrustDesk_days.2.1 2 = .ok (.if_icmp .lt 21, 3) := by decide +kernel
theorem d_TrustDesk_days_23 : decode kY_TrustDesk_days.2.1 23 = .ok (.iconst (-1), 1) := by decide +kernel
theorem d_TrustDesk_days_24 : decode kY_TrustDesk_days.2.1 24 = .ok (.ireturn, 1) := by decide +kernel
theorem d_TrustDesk_days_5 : decode kY_TrustDesk_days.2.1 5 = .ok (.iload_n 1, 1) := by decide +kernel
theorem d_TrustDesk_days_6 : decode kY_TrustDesk_days.2.1 6 = .ok (.sipush 720, 3) := by decide +kernel
theorem d_TrustDesk_days_9 : decode kY_TrustDesk_days.2.1 9 = .ok (.if_icmp .gt 14, 3) := by decide +kernel
theorem d_TrustDesk_days_12 : decode kY_TrustDesk_days.2.1 12 = .ok (.aload_n 0, 1) := by decide +kernel
theorem d_TrustDesk_days_13 : decode kY_TrustDesk_days.2.1 13 = .ok (.getfield 73, 3) := by decide +kernel
theorem d_TrustDesk_days_16 : decode kY_TrustDesk_days.2.1 16 = .ok (.iload_n 1, 1) := by decide +kernel
theorem d_TrustDesk_days_17 : decode kY_TrustDesk_days.2.1 17 = .ok (.iadd, 1) := by decide +kernel
theorem d_TrustDesk_days_18 : decode kY_TrustDesk_days.2.1 18 = .ok (.ldc 147, 2) := by decide +kernel
theorem d_TrustDesk_days_20 : decode kY_TrustDesk_days.2.1 20 = .ok (.if_icmp .le 5, 3) := by decide +kernel
theorem d_TrustDesk_days_25 : decode kY_TrustDesk_days.2.1 25 = .ok (.aload_n 0, 1) := by decide +kernel
theorem d_TrustDesk_days_26 : decode kY_TrustDesk_days.2.1 26 = .ok (.getfield 73, 3) := by decide +kernel
theorem d_TrustDesk_days_29 : decode kY_TrustDesk_days.2.1 29 = .ok (.iload_n 1, 1) := by decide +kernel
theorem d_TrustDesk_days_30 : decode kY_TrustDesk_days.2.1 30 = .ok (.iadd, 1) := by decide +kernel
theorem d_TrustDesk_days_31 : decode kY_TrustDesk_days.2.1 31 = .ok (.istore_n 2, 1) := by decide +kernel
theorem d_TrustDesk_days_32 : decode kY_TrustDesk_days.2.1 32 = .ok (.aload_n 0, 1) := by decide +kernel
theorem d_TrustDesk_days_33 : decode kY_TrustDesk_days.2.1 33 = .ok (.getfield 73, 3) := by decide +kernel
theorem d_TrustDesk_days_36 : decode kY_TrustDesk_days.2.1 36 = .ok (.sipush 360, 3) := by decide +kernel
theorem d_TrustDesk_days_39 : decode kY_TrustDesk_days.2.1 39 = .ok (.idiv, 1) := by decide +kernel
theorem d_TrustDesk_days_40 : decode kY_TrustDesk_days.2.1 40 = .ok (.istore_n 3, 1) := by decide +kernel
theorem d_TrustDesk_days_41 : decode kY_TrustDesk_days.2.1 41 = .ok (.iload_n 3, 1) := by decide +kernel
theorem d_TrustDesk_days_42 : decode kY_TrustDesk_days.2.1 42 = .ok (.iload_n 2, 1) := by decide +kernel
theorem d_TrustDesk_days_43 : decode kY_TrustDesk_days.2.1 43 = .ok (.sipush 360, 3) := by decide +kernel
theorem d_TrustDesk_days_46 : decode kY_TrustDesk_days.2.1 46 = .ok (.idiv, 1) := by decide +kernel
theorem d_TrustDesk_days_47 : decode kY_TrustDesk_days.2.1 47 = .ok (.if_icmp .ge 14, 3) := by decide +kernel
theorem d_TrustDesk_days_61 : decode kY_TrustDesk_days.2.1 61 = .ok (.aload_n 0, 1) := by decide +kernel
theorem d_TrustDesk_days_62 : decode kY_TrustDesk_days.2.1 62 = .ok (.iload_n 2, 1) := by decide +kernel
theorem d_TrustDesk_days_63 : decode kY_TrustDesk_days.2.1 63 = .ok (.putfield 73, 3) := by decide +kernel
theorem p_TrustDesk_73_12 : mj_fp "TrustDesk" 73 12 12 (kt_TrustDesk 12) false := ⟨kR_TrustDesk, kF_TrustDesk, 13, "TrustDesk", kt_TrustDesk, rfl, kg_12, by decide, (mj_in1 (List.mem_of_getElem? (i := 279) (by decide +kernel)) rfl), Or.inl rfl, kto_TrustDesk, kn_TrustDesk, rfl, rfl, fun h => by cases h⟩
theorem d_TrustDesk_days_66 : decode kY_TrustDesk_days.2.1 66 = .ok (.aload_n 0, 1) := by decide +kernel
theorem d_TrustDesk_days_67 : decode kY_TrustDesk_days.2.1 67 = .ok (.getfield 73, 3) := by decide +kernel
theorem d_TrustDesk_days_70 : decode kY_TrustDesk_days.2.1 70 = .ok (.ireturn, 1) := by decide +kernel
theorem d_TrustDesk_days_50 : decode kY_TrustDesk_days.2.1 50 = .ok (.aload_n 0, 1) := by decide +kernel
theorem d_TrustDesk_days_51 : decode kY_TrustDesk_days.2.1 51 = .ok (.iload_n 3, 1) := by decide +kernel
theorem d_TrustDesk_days_52 : decode kY_TrustDesk_days.2.1 52 = .ok (.invokevirtual 148, 3) := by decide +kernel
theorem lV_TrustDesk_148 : mj_lV "TrustDesk" 148 kY_TrustDesk_closeYear 1 := ⟨⟨(mj_in1 (List.mem_of_getElem? (i := 844) (by decide +kernel)) rfl), (mj_in1 (List.mem_of_getElem? (i := 1) (by decide +kernel)) rfl), (mj_in1 (List.mem_of_getElem? (i := 847) (by decide +kernel)) rfl), by decide, rfl, by decide⟩, (mj_in1 (List.mem_of_getElem? (i := 846) (by decide +kernel)) rfl), (mj_in (List.mem_append_left _ (List.mem_of_getElem? (i := 40) (by decide +kernel))) rfl)⟩
theorem d_TrustDesk_days_55 : decode kY_TrustDesk_days.2.1 55 = .ok (.iinc 3 1, 3) := by decide +kernel
theorem d_TrustDesk_days_58 : decode kY_TrustDesk_days.2.1 58 = .ok (.goto (-17), 3) := by decide +kernel
abbrev kY_TrustDesk_due : mj_Y := (⟨"TrustDesk", "due", "(IIII)I"⟩, prog_1_method_44_code, 6, (Option.some Jvm.ClassFile.FieldType.int))
theorem d_TrustDesk_due_0 : decode kY_TrustDesk_due.2.1 0 = .ok (.aload_n 0, 1) := by decide +kernel
theorem d_TrustDesk_due_1 : decode kY_TrustDesk_due.2.1 1 = .ok (.iload_n 1, 1) := by decide +kernel
theorem d_TrustDesk_due_2 : decode kY_TrustDesk_due.2.1 2 = .ok (.iload_n 2, 1) := by decide +kernel
theorem d_TrustDesk_due_3 : decode kY_TrustDesk_due.2.1 3 = .ok (.invokevirtual 465, 3) := by decide +kernel
abbrev kY_TrustDesk_endAt : mj_Y := (⟨"TrustDesk", "endAt", "(II)LTrustDesk$End;"⟩, prog_1_method_61_code, 4, (Option.some (Jvm.ClassFile.FieldType.object "TrustDesk$End")))
theorem d_TrustDesk_endAt_0 : decode kY_TrustDesk_endAt.2.1 0 = .ok (.aload_n 0, 1) := by decide +kernel
theorem d_TrustDesk_endAt_1 : decode kY_TrustDesk_endAt.2.1 1 = .ok (.iload_n 1, 1) := by decide +kernel
theorem d_TrustDesk_endAt_2 : decode kY_TrustDesk_endAt.2.1 2 = .ok (.invokevirtual 257, 3) := by decide +kernel
theorem d_TrustDesk_endAt_5 : decode kY_TrustDesk_endAt.2.1 5 = .ok (.astore_n 3, 1) := by decide +kernel
theorem d_TrustDesk_endAt_6 : decode kY_TrustDesk_endAt.2.1 6 = .ok (.aload_n 3, 1) := by decide +kernel
theorem d_TrustDesk_endAt_7 : decode kY_TrustDesk_endAt.2.1 7 = .ok (.ifnonnull 7, 3) := by decide +kernel
theorem d_TrustDesk_endAt_10 : decode kY_TrustDesk_endAt.2.1 10 = .ok (.aconst_null, 1) := by decide +kernel
theorem d_TrustDesk_endAt_11 : decode kY_TrustDesk_endAt.2.1 11 = .ok (.goto 8, 3) := by decide +kernel
theorem d_TrustDesk_endAt_19 : decode kY_TrustDesk_endAt.2.1 19 = .ok (.areturn, 1) := by decide +kernel
theorem d_TrustDesk_endAt_14 : decode kY_TrustDesk_endAt.2.1 14 = .ok (.aload_n 3, 1) := by decide +kernel
theorem d_TrustDesk_endAt_15 : decode kY_TrustDesk_endAt.2.1 15 = .ok (.iload_n 2, 1) := by decide +kernel
theorem d_TrustDesk_endAt_16 : decode kY_TrustDesk_endAt.2.1 16 = .ok (.invokevirtual 359, 3) := by decide +kernel
def w_TrustDesk_endAt : List Nat := []
theorem tc_TrustDesk_endAt {g : mj_G} {l : Launch} {d : Nat} {T0 : tm_H} {M0 : mj_M} {n0 x9 : Nat} {o0 : Nat} {x1 : Int32} {x2 : Int32} (h_o0 : T0 o0 = some (0, 12, 0)) (I0 : tm_I tm_FT (tm_in w_TrustDesk_endAt) x9 T0 M0 n0 T0 M0 n0) : mj_Met g l kY_TrustDesk_endAt (d + 4) [.ref o0, .int x1, .int x2] M0 n0 0 0 (tm_Q tm_FT (tm_in w_TrustDesk_endAt) x9 T0 M0 n0 (fun r T _ => r = some .null ∨ ∃ b, r = some (.ref b) ∧ T b = some (0, 3, 0))) := by
  refine mj_enter (by decide) (Nat.le_of_ble_eq_true rfl) ?_
  refine mv_aload_n d_TrustDesk_endAt_0 rfl rfl ?_
  refine mv_iload_n d_TrustDesk_endAt_1 rfl rfl ?_
  obtain ⟨_, b7, -⟩ := I0.1 _ _ h_o0
  refine mv_callV (kc' := 0) (ks' := 0) (As := [.int x1]) (st9 := [.int x1, .ref o0]) d_TrustDesk_endAt_2 lV_TrustDesk_257 b7 rfl (tc_TrustDesk_fundAt (d := d) (x9 := x9) (o0 := o0) (x1 := x1) h_o0 I0.start) rfl (Nat.le_of_ble_eq_true rfl) (Nat.le_of_ble_eq_true rfl) (Nat.le_of_ble_eq_true rfl) (hst := rfl) (fun b1r M2 n3 b1 => ?_)
  obtain ⟨T4, J5, b9⟩ := b1
  have I6 := I0.call J5 (tm_sub (by decide)) (Or.inl rfl)
  have t10 := J5.up h_o0
  rcases b9 with rfl | ⟨a8, rfl, t_a8⟩
  · refine mv_astore_nN (lv' := [(3, .null), (0, .ref o0), (1, .int x1), (2, .int x2)]) d_TrustDesk_endAt_5 rfl (by decide) rfl ?_
    refine mv_aload_nN d_TrustDesk_endAt_6 rfl rfl ?_
    refine mv_ifnonnullN d_TrustDesk_endAt_7 ?_
    refine mv_null d_TrustDesk_endAt_10 ?_
    refine mv_goto (tgt := 19) d_TrustDesk_endAt_11 (by decide) ?_
    exact mv_aret (r := none) d_TrustDesk_endAt_19 rfl (by first | exact Or.inl ⟨_, rfl⟩ | exact Or.inr ⟨_, rfl⟩) ⟨_, I6, Or.inl rfl⟩
  · refine mv_astore_n (lv' := [(3, .ref a8), (0, .ref o0), (1, .int x1), (2, .int x2)]) d_TrustDesk_endAt_5 rfl (by decide) rfl ?_
    refine mv_aload_n d_TrustDesk_endAt_6 rfl rfl ?_
    refine mv_ifnonnull (tgt := 14) d_TrustDesk_endAt_7 (by decide) ?_
    refine mv_aload_n d_TrustDesk_endAt_14 rfl rfl ?_
    refine mv_iload_n d_TrustDesk_endAt_15 rfl rfl ?_
    obtain ⟨_, b17, -⟩ := I6.1 _ _ t_a8
    refine mv_callV (kc' := 0) (ks' := 0) (As := [.int x2]) (st9 := [.int x2, .ref a8]) d_TrustDesk_endAt_16 lV_TrustDesk_359 b17 rfl (tc_Fund_endAt (d := d) (x9 := x9) (o0 := a8) (x1 := x2) t_a8 I6.start) rfl (Nat.le_of_ble_eq_true rfl) (Nat.le_of_ble_eq_true rfl) (Nat.le_of_ble_eq_true rfl) (hst := rfl) (fun b11r M12 n13 b11 => ?_)
    obtain ⟨T14, J15, b19⟩ := b11
    have I16 := I6.call J15 (tm_sub (by decide)) (Or.inl rfl)
    have t20 := J15.up t_a8
    have t21 := J15.up t10
    rcases b19 with rfl | ⟨a18, rfl, t_a18⟩
    · exact mv_aret (r := none) d_TrustDesk_endAt_19 rfl (by first | exact Or.inl ⟨_, rfl⟩ | exact Or.inr ⟨_, rfl⟩) ⟨_, I16, Or.inl rfl⟩
    · exact mv_aret (r := some a18) d_TrustDesk_endAt_19 rfl (by first | exact Or.inl ⟨_, rfl⟩ | exact Or.inr ⟨_, rfl⟩) ⟨_, I16, Or.inr ⟨_, rfl, t_a18⟩⟩
theorem lV_TrustDesk_465 : mj_lV "TrustDesk" 465 kY_TrustDesk_endAt 2 := ⟨⟨(mj_in1 (List.mem_of_getElem? (i := 1191) (by decide +kernel)) rfl), (mj_in1 (List.mem_of_getElem? (i := 1) (by decide +kernel)) rfl), (mj_in1 (List.mem_of_getElem? (i := 1194) (by decide +kernel)) rfl), by decide, rfl, by decide⟩, (mj_in1 (List.mem_of_getElem? (i := 1193) (by decide +kernel)) rfl), (mj_in (List.mem_append_left _ (List.mem_of_getElem? (i := 66) (by decide +kernel))) rfl)⟩
theorem d_TrustDesk_due_6 : decode kY_TrustDesk_due.2.1 6 = .ok (.astore 5, 2) := by decide +kernel
theorem d_TrustDesk_due_8 : decode kY_TrustDesk_due.2.1 8 = .ok (.aload 5, 2) := by decide +kernel
theorem d_TrustDesk_due_10 : decode kY_TrustDesk_due.2.1 10 = .ok (.ifnull 19, 3) := by decide +kernel
theorem d_TrustDesk_due_29 : decode kY_TrustDesk_due.2.1 29 = .ok (.iconst (-1), 1) := by decide +kernel
theorem d_TrustDesk_due_30 : decode kY_TrustDesk_due.2.1 30 = .ok (.ireturn, 1) := by decide +kernel
theorem d_TrustDesk_due_13 : decode kY_TrustDesk_due.2.1 13 = .ok (.iload_n 3, 1) := by decide +kernel
theorem d_TrustDesk_due_14 : decode kY_TrustDesk_due.2.1 14 = .ok (.invokestatic 70, 3) := by decide +kernel
theorem d_TrustDesk_due_17 : decode kY_TrustDesk_due.2.1 17 = .ok (.ifCond .eq 12, 3) := by decide +kernel
theorem d_TrustDesk_due_20 : decode kY_TrustDesk_due.2.1 20 = .ok (.aload_n 0, 1) := by decide +kernel
theorem d_TrustDesk_due_21 : decode kY_TrustDesk_due.2.1 21 = .ok (.iload 4, 2) := by decide +kernel
theorem d_TrustDesk_due_23 : decode kY_TrustDesk_due.2.1 23 = .ok (.invokevirtual 81, 3) := by decide +kernel
abbrev kY_TrustDesk_isKnown : mj_Y := (⟨"TrustDesk", "isKnown", "(I)Z"⟩, prog_1_method_69_code, 2, (Option.some Jvm.ClassFile.FieldType.boolean))
theorem d_TrustDesk_isKnown_0 : decode kY_TrustDesk_isKnown.2.1 0 = .ok (.iload_n 1, 1) := by decide +kernel
theorem d_TrustDesk_isKnown_1 : decode kY_TrustDesk_isKnown.2.1 1 = .ok (.ifCond .lt 15, 3) := by decide +kernel
theorem d_TrustDesk_isKnown_16 : decode kY_TrustDesk_isKnown.2.1 16 = .ok (.iconst 0, 1) := by decide +kernel
theorem d_TrustDesk_isKnown_17 : decode kY_TrustDesk_isKnown.2.1 17 = .ok (.ireturn, 1) := by decide +kernel
theorem d_TrustDesk_isKnown_4 : decode kY_TrustDesk_isKnown.2.1 4 = .ok (.iload_n 1, 1) := by decide +kernel
theorem d_TrustDesk_isKnown_5 : decode kY_TrustDesk_isKnown.2.1 5 = .ok (.aload_n 0, 1) := by decide +kernel
theorem d_TrustDesk_isKnown_6 : decode kY_TrustDesk_isKnown.2.1 6 = .ok (.getfield 73, 3) := by decide +kernel
theorem d_TrustDesk_isKnown_9 : decode kY_TrustDesk_isKnown.2.1 9 = .ok (.if_icmp .gt 7, 3) := by decide +kernel
theorem d_TrustDesk_isKnown_12 : decode kY_TrustDesk_isKnown.2.1 12 = .ok (.iconst 1, 1) := by decide +kernel
theorem d_TrustDesk_isKnown_13 : decode kY_TrustDesk_isKnown.2.1 13 = .ok (.goto 4, 3) := by decide +kernel
def w_TrustDesk_isKnown : List Nat := []
theorem tc_TrustDesk_isKnown {g : mj_G} {l : Launch} {d : Nat} {T0 : tm_H} {M0 : mj_M} {n0 x9 : Nat} {o0 : Nat} {x1 : Int32} (h_o0 : T0 o0 = some (0, 12, 0)) (I0 : tm_I tm_FT (tm_in w_TrustDesk_isKnown) x9 T0 M0 n0 T0 M0 n0) : mj_Met g l kY_TrustDesk_isKnown d [.ref o0, .int x1] M0 n0 0 0 (tm_Q tm_FT (tm_in w_TrustDesk_isKnown) x9 T0 M0 n0 (fun r _ _ => ∃ v : Int32, r = some (.int v) ∧ 0 ≤ v.toInt ∧ v.toInt ≤ 1)) := by
  refine mj_enter (by decide) (Nat.le_of_ble_eq_true rfl) ?_
  refine mv_iload_n d_TrustDesk_isKnown_0 rfl rfl ?_
  have := mz_hi x1
  refine mv_if_ltZ (tgt := 16) (a := x1.toInt) d_TrustDesk_isKnown_1 (by decide) rfl (fun b1 => ?_) (fun b1 => ?_)
  · refine mv_iconst (v := 0) d_TrustDesk_isKnown_16 (by decide) ?_
    exact mv_iret d_TrustDesk_isKnown_17 rfl (by decide) ⟨_, I0, _, rfl, by decide, by decide⟩
  · refine mv_iload_n d_TrustDesk_isKnown_4 rfl rfl ?_
    refine mv_aload_n d_TrustDesk_isKnown_5 rfl rfl ?_
    obtain ⟨v3, q2⟩ := tm_atI I0 h_o0 (k := 12) rfl
    refine tr_getK q2 d_TrustDesk_isKnown_6 f_TrustDesk_73_12 ?_
    have := mz_hi x1
    have := mz_hi v3
    refine mv_icmp_gtZ (tgt := 16) (a := x1.toInt) (b := v3.toInt) d_TrustDesk_isKnown_9 (by decide) rfl rfl (fun b4 => ?_) (fun b4 => ?_)
    · refine mv_iconst (v := 0) d_TrustDesk_isKnown_16 (by decide) ?_
      exact mv_iret d_TrustDesk_isKnown_17 rfl (by decide) ⟨_, I0, _, rfl, by decide, by decide⟩
    · refine mv_iconst (v := 1) d_TrustDesk_isKnown_12 (by decide) ?_
      refine mv_goto (tgt := 17) d_TrustDesk_isKnown_13 (by decide) ?_
      exact mv_iret d_TrustDesk_isKnown_17 rfl (by decide) ⟨_, I0, _, rfl, by decide, by decide⟩
theorem lV_TrustDesk_81 : mj_lV "TrustDesk" 81 kY_TrustDesk_isKnown 1 := ⟨⟨(mj_in1 (List.mem_of_getElem? (i := 325) (by decide +kernel)) rfl), (mj_in1 (List.mem_of_getElem? (i := 1) (by decide +kernel)) rfl), (mj_in1 (List.mem_of_getElem? (i := 328) (by decide +kernel)) rfl), by decide, rfl, by decide⟩, (mj_in1 (List.mem_of_getElem? (i := 327) (by decide +kernel)) rfl), (mj_in (List.mem_append_left _ (List.mem_of_getElem? (i := 0) (by decide +kernel))) rfl)⟩
theorem d_TrustDesk_due_26 : decode kY_TrustDesk_due.2.1 26 = .ok (.ifCond .ne 5, 3) := by decide +kernel
theorem d_TrustDesk_due_31 : decode kY_TrustDesk_due.2.1 31 = .ok (.aload_n 0, 1) := by decide +kernel
theorem d_TrustDesk_due_32 : decode kY_TrustDesk_due.2.1 32 = .ok (.getfield 26, 3) := by decide +kernel
theorem d_TrustDesk_due_35 : decode kY_TrustDesk_due.2.1 35 = .ok (.aload_n 0, 1) := by decide +kernel
theorem d_TrustDesk_due_36 : decode kY_TrustDesk_due.2.1 36 = .ok (.getfield 10, 3) := by decide +kernel
theorem d_TrustDesk_due_39 : decode kY_TrustDesk_due.2.1 39 = .ok (.iload_n 3, 1) := by decide +kernel
theorem d_TrustDesk_due_40 : decode kY_TrustDesk_due.2.1 40 = .ok (.iload 4, 2) := by decide +kernel
theorem d_TrustDesk_due_42 : decode kY_TrustDesk_due.2.1 42 = .ok (.invokevirtual 154, 3) := by decide +kernel
theorem d_TrustDesk_due_45 : decode kY_TrustDesk_due.2.1 45 = .ok (.aload_n 0, 1) := by decide +kernel
theorem d_TrustDesk_due_46 : decode kY_TrustDesk_due.2.1 46 = .ok (.getfield 26, 3) := by decide +kernel
theorem d_TrustDesk_due_49 : decode kY_TrustDesk_due.2.1 49 = .ok (.aload_n 0, 1) := by decide +kernel
theorem d_TrustDesk_due_50 : decode kY_TrustDesk_due.2.1 50 = .ok (.iload_n 1, 1) := by decide +kernel
theorem d_TrustDesk_due_51 : decode kY_TrustDesk_due.2.1 51 = .ok (.invokevirtual 257, 3) := by decide +kernel
theorem d_TrustDesk_due_54 : decode kY_TrustDesk_due.2.1 54 = .ok (.invokevirtual 200, 3) := by decide +kernel
theorem d_Reckoner_knowFund_4 : decode kY_Reckoner_knowFund.2.1 4 = .ok (.return_, 1) := by decide +kernel
def w_Reckoner_knowFund_n1 : List Nat := []
theorem tc_Reckoner_knowFund_n1 {g : mj_G} {l : Launch} {d : Nat} {T0 : tm_H} {M0 : mj_M} {n0 x9 : Nat} {o0 : Nat} (h_o0 : T0 o0 = some (0, 10, 0)) (I0 : tm_I tm_FT (tm_in w_Reckoner_knowFund_n1) x9 T0 M0 n0 T0 M0 n0) : mj_Met g l kY_Reckoner_knowFund d [.ref o0, .null] M0 n0 0 0 (tm_Q tm_FT (tm_in w_Reckoner_knowFund_n1) x9 T0 M0 n0 (fun r _ _ => r = none)) := by
  refine mj_enter (by decide) (Nat.le_of_ble_eq_true rfl) ?_
  refine mv_aload_nN d_Reckoner_knowFund_0 rfl rfl ?_
  refine mv_ifnonnullN d_Reckoner_knowFund_1 ?_
  exact mv_vret d_Reckoner_knowFund_4 rfl ⟨_, I0, rfl⟩
theorem d_TrustDesk_due_57 : decode kY_TrustDesk_due.2.1 57 = .ok (.aload_n 0, 1) := by decide +kernel
theorem d_TrustDesk_due_58 : decode kY_TrustDesk_due.2.1 58 = .ok (.getfield 26, 3) := by decide +kernel
theorem d_TrustDesk_due_61 : decode kY_TrustDesk_due.2.1 61 = .ok (.aload 5, 2) := by decide +kernel
theorem d_TrustDesk_due_63 : decode kY_TrustDesk_due.2.1 63 = .ok (.getfield 204, 3) := by decide +kernel
theorem d_TrustDesk_due_66 : decode kY_TrustDesk_due.2.1 66 = .ok (.getfield 208, 3) := by decide +kernel
theorem d_TrustDesk_due_69 : decode kY_TrustDesk_due.2.1 69 = .ok (.invokevirtual 214, 3) := by decide +kernel
theorem d_TrustDesk_due_72 : decode kY_TrustDesk_due.2.1 72 = .ok (.lconst 0, 1) := by decide +kernel
theorem d_TrustDesk_due_73 : decode kY_TrustDesk_due.2.1 73 = .ok (.lcmp, 1) := by decide +kernel
theorem d_TrustDesk_due_74 : decode kY_TrustDesk_due.2.1 74 = .ok (.ifCond .ne 6, 3) := by decide +kernel
theorem d_TrustDesk_due_80 : decode kY_TrustDesk_due.2.1 80 = .ok (.lconst 0, 1) := by decide +kernel
theorem d_TrustDesk_due_81 : decode kY_TrustDesk_due.2.1 81 = .ok (.aload_n 0, 1) := by decide +kernel
theorem d_TrustDesk_due_82 : decode kY_TrustDesk_due.2.1 82 = .ok (.getfield 26, 3) := by decide +kernel
theorem d_TrustDesk_due_85 : decode kY_TrustDesk_due.2.1 85 = .ok (.aload 5, 2) := by decide +kernel
theorem d_TrustDesk_due_87 : decode kY_TrustDesk_due.2.1 87 = .ok (.getfield 204, 3) := by decide +kernel
theorem d_TrustDesk_due_90 : decode kY_TrustDesk_due.2.1 90 = .ok (.getfield 225, 3) := by decide +kernel
theorem d_TrustDesk_due_93 : decode kY_TrustDesk_due.2.1 93 = .ok (.invokevirtual 214, 3) := by decide +kernel
theorem d_TrustDesk_due_96 : decode kY_TrustDesk_due.2.1 96 = .ok (.invokestatic 228, 3) := by decide +kernel
theorem d_TrustDesk_due_99 : decode kY_TrustDesk_due.2.1 99 = .ok (.l2i, 1) := by decide +kernel
theorem d_TrustDesk_due_100 : decode kY_TrustDesk_due.2.1 100 = .ok (.ireturn, 1) := by decide +kernel
theorem d_TrustDesk_due_77 : decode kY_TrustDesk_due.2.1 77 = .ok (.bipush (-2), 2) := by decide +kernel
theorem d_TrustDesk_due_79 : decode kY_TrustDesk_due.2.1 79 = .ok (.ireturn, 1) := by decide +kernel
def w_TrustDesk_due : List Nat := [1001, 1003, 1004, 1050, 1052]
theorem tc_TrustDesk_due {g : mj_G} {l : Launch} {d : Nat} {T0 : tm_H} {M0 : mj_M} {n0 x9 : Nat} {o0 : Nat} {x1 : Int32} {x2 : Int32} {x3 : Int32} {x4 : Int32} (h_o0 : T0 o0 = some (0, 12, 0)) (I0 : tm_I tm_FT (tm_in w_TrustDesk_due) x9 T0 M0 n0 T0 M0 n0) : mj_Met g l kY_TrustDesk_due (d + 5) [.ref o0, .int x1, .int x2, .int x3, .int x4] M0 n0 0 0 (tm_Q tm_FT (tm_in w_TrustDesk_due) x9 T0 M0 n0 (fun r _ _ => ∃ v : Int32, r = some (.int v))) := by
  refine mj_enter (by decide) (Nat.le_of_ble_eq_true rfl) ?_
  refine mv_aload_n d_TrustDesk_due_0 rfl rfl ?_
  refine mv_iload_n d_TrustDesk_due_1 rfl rfl ?_
  refine mv_iload_n d_TrustDesk_due_2 rfl rfl ?_
  obtain ⟨_, b7, -⟩ := I0.1 _ _ h_o0
  refine mv_callV (kc' := 0) (ks' := 0) (As := [.int x1, .int x2]) (st9 := [.int x2, .int x1, .ref o0]) d_TrustDesk_due_3 lV_TrustDesk_465 b7 rfl (tc_TrustDesk_endAt (d := d) (x9 := x9) (o0 := o0) (x1 := x1) (x2 := x2) h_o0 I0.start) rfl (Nat.le_of_ble_eq_true rfl) (Nat.le_of_ble_eq_true rfl) (Nat.le_of_ble_eq_true rfl) (hst := rfl) (fun b1r M2 n3 b1 => ?_)
  obtain ⟨T4, J5, b9⟩ := b1
  have I6 := I0.call J5 (tm_sub (by decide)) (Or.inl rfl)
  have t10 := J5.up h_o0
  rcases b9 with rfl | ⟨a8, rfl, t_a8⟩
  · refine mv_astoreN (lv' := [(5, .null), (0, .ref o0), (1, .int x1), (2, .int x2), (3, .int x3), (4, .int x4)]) d_TrustDesk_due_6 (by decide) rfl ?_
    refine mv_aloadN d_TrustDesk_due_8 rfl ?_
    refine mv_ifnullN (tgt := 29) d_TrustDesk_due_10 (by decide) ?_
    refine mv_iconst (v := (-1)) d_TrustDesk_due_29 (by decide) ?_
    exact mv_iret d_TrustDesk_due_30 rfl (by first | rfl | decide) ⟨_, I6, _, rfl⟩
  · refine mv_astore (lv' := [(5, .ref a8), (0, .ref o0), (1, .int x1), (2, .int x2), (3, .int x3), (4, .int x4)]) d_TrustDesk_due_6 (by decide) rfl ?_
    refine mv_aload d_TrustDesk_due_8 rfl ?_
    refine mv_ifnull d_TrustDesk_due_10 ?_
    refine mv_iload_n d_TrustDesk_due_13 rfl rfl ?_
    refine mv_callS (kc' := 0) (ks' := 0) (As := [.int x3]) (st9 := [.int x3]) d_TrustDesk_due_14 lS_TrustDesk_70 (tc_TrustDesk_isYear (d := (d + 4)) (x9 := x9) (x1 := x3)  I6.start) rfl (Nat.le_of_ble_eq_true rfl) (Nat.le_of_ble_eq_true rfl) (Nat.le_of_ble_eq_true rfl) (hst := rfl) (fun b11r M12 n13 b11 => ?_)
    obtain ⟨T14, J15, v17, rfl, b18, b19⟩ := b11
    have I16 := I6.call J15 (tm_sub (by decide)) (Or.inl rfl)
    have t20 := J15.up t_a8
    have t21 := J15.up t10
    have := mz_hi v17
    refine mv_if_eqZ (tgt := 29) (a := v17.toInt) d_TrustDesk_due_17 (by decide) rfl (fun b22 => ?_) (fun b22 => ?_)
    · refine mv_iconst (v := (-1)) d_TrustDesk_due_29 (by decide) ?_
      exact mv_iret d_TrustDesk_due_30 rfl (by first | rfl | decide) ⟨_, I16, _, rfl⟩
    · refine mv_aload_n d_TrustDesk_due_20 rfl rfl ?_
      refine mv_iload d_TrustDesk_due_21 rfl ?_
      obtain ⟨_, b29, -⟩ := I16.1 _ _ t21
      refine mv_callV (kc' := 0) (ks' := 0) (As := [.int x4]) (st9 := [.int x4, .ref o0]) d_TrustDesk_due_23 lV_TrustDesk_81 b29 rfl (tc_TrustDesk_isKnown (d := (d + 4)) (x9 := x9) (o0 := o0) (x1 := x4) t21 I16.start) rfl (Nat.le_of_ble_eq_true rfl) (Nat.le_of_ble_eq_true rfl) (Nat.le_of_ble_eq_true rfl) (hst := rfl) (fun b23r M24 n25 b23 => ?_)
      obtain ⟨T26, J27, v30, rfl, b31, b32⟩ := b23
      have I28 := I16.call J27 (tm_sub (by decide)) (Or.inl rfl)
      have t33 := J27.up t20
      have t34 := J27.up t21
      have := mz_hi v30
      refine mv_if_neZ (tgt := 31) (a := v30.toInt) d_TrustDesk_due_26 (by decide) rfl (fun b35 => ?_) (fun b35 => ?_)
      · refine mv_aload_n d_TrustDesk_due_31 rfl rfl ?_
        obtain ⟨a37, q36, t_a37⟩ := tm_atR I28 t34 (k := 2) rfl
        refine tr_getK q36 d_TrustDesk_due_32 f_TrustDesk_26_12 ?_
        refine mv_aload_n d_TrustDesk_due_35 rfl rfl ?_
        obtain ⟨a39, q38, t_a39⟩ := tm_atR I28 t34 (k := 0) rfl
        refine tr_getK q38 d_TrustDesk_due_36 f_TrustDesk_10_12 ?_
        refine mv_iload_n d_TrustDesk_due_39 rfl rfl ?_
        refine mv_iload d_TrustDesk_due_40 rfl ?_
        obtain ⟨_, b46, -⟩ := I28.1 _ _ t_a37
        refine mv_callV (kc' := 0) (ks' := 0) (As := [.ref a39, .int x3, .int x4]) (st9 := [.int x4, .int x3, .ref a39, .ref a37]) d_TrustDesk_due_42 lV_TrustDesk_154 b46 rfl (tc_Reckoner_know (d := (d + 3)) (x9 := x9) (o0 := a37) (o1 := a39) (x2 := x3) (x3 := x4) t_a37 t_a39 I28.start) rfl (Nat.le_of_ble_eq_true rfl) (Nat.le_of_ble_eq_true rfl) (Nat.le_of_ble_eq_true rfl) (hst := rfl) (fun b40r M41 n42 b40 => ?_)
        obtain ⟨T43, J44, rfl⟩ := b40
        have I45 := I28.call J44 (tm_sub (by decide)) (Or.inl rfl)
        have t47 := J44.up t33
        have t48 := J44.up t34
        have q49 := J44.keep t34 (by decide) q36
        have t50 := J44.up t_a37
        have q51 := J44.keep t34 (by decide) q38
        have t52 := J44.up t_a39
        refine mv_aload_n d_TrustDesk_due_45 rfl rfl ?_
        refine tr_getK (k := 2) q49 d_TrustDesk_due_46 f_TrustDesk_26_12 ?_
        refine mv_aload_n d_TrustDesk_due_49 rfl rfl ?_
        refine mv_iload_n d_TrustDesk_due_50 rfl rfl ?_
        obtain ⟨_, b59, -⟩ := I45.1 _ _ t48
        refine mv_callV (kc' := 0) (ks' := 0) (As := [.int x1]) (st9 := [.int x1, .ref o0, .ref a37]) d_TrustDesk_due_51 lV_TrustDesk_257 b59 rfl (tc_TrustDesk_fundAt (d := (d + 1)) (x9 := x9) (o0 := o0) (x1 := x1) t48 I45.start) rfl (Nat.le_of_ble_eq_true rfl) (Nat.le_of_ble_eq_true rfl) (Nat.le_of_ble_eq_true rfl) (hst := rfl) (fun b53r M54 n55 b53 => ?_)
        obtain ⟨T56, J57, b61⟩ := b53
        have I58 := I45.call J57 (tm_sub (by decide)) (Or.inl rfl)
        have t62 := J57.up t47
        have t63 := J57.up t48
        have t64 := J57.up t50
        have q65 := J57.keep t48 (by decide) q49
        have q66 := J57.keep t48 (by decide) q51
        have t67 := J57.up t52
        rcases b61 with rfl | ⟨a60, rfl, t_a60⟩
        · obtain ⟨_, b74, -⟩ := I58.1 _ _ t64
          refine mv_callV (kc' := 0) (ks' := 0) (As := [.null]) (st9 := [.null, .ref a37]) d_TrustDesk_due_54 lV_TrustDesk_200 b74 rfl (tc_Reckoner_knowFund_n1 (d := (d + 4)) (x9 := x9) (o0 := a37) t64 I58.start) rfl (Nat.le_of_ble_eq_true rfl) (Nat.le_of_ble_eq_true rfl) (Nat.le_of_ble_eq_true rfl) (hst := rfl) (fun b68r M69 n70 b68 => ?_)
          obtain ⟨T71, J72, rfl⟩ := b68
          have I73 := I58.call J72 (tm_sub (by decide)) (Or.inl rfl)
          have t75 := J72.up t62
          have t76 := J72.up t63
          have q77 := J72.keep t63 (by decide) q65
          have t78 := J72.up t64
          have q79 := J72.keep t63 (by decide) q66
          have t80 := J72.up t67
          refine mv_aload_n d_TrustDesk_due_57 rfl rfl ?_
          refine tr_getK (k := 2) q77 d_TrustDesk_due_58 f_TrustDesk_26_12 ?_
          refine mv_aload d_TrustDesk_due_61 rfl ?_
          obtain ⟨a82, q81, t_a82⟩ := tm_atR I73 t75 (k := 0) rfl
          refine tr_getK q81 d_TrustDesk_due_63 f_TrustDesk_204_3 ?_
          obtain ⟨a84, q83, t_a84⟩ := tm_atR I73 t_a82 (k := 3) rfl
          refine tr_getK q83 d_TrustDesk_due_66 f_TrustDesk_208_4 ?_
          obtain ⟨_, b91, -⟩ := I73.1 _ _ t78
          refine mv_callV (kc' := 0) (ks' := 0) (As := [.ref a84]) (st9 := [.ref a84, .ref a37]) d_TrustDesk_due_69 lV_TrustDesk_214 b91 rfl (tc_Reckoner_run (d := (d + 1)) (x9 := x9) (o0 := a37) (o1 := a84) t78 t_a84 I73.start) rfl (Nat.le_of_ble_eq_true rfl) (Nat.le_of_ble_eq_true rfl) (Nat.le_of_ble_eq_true rfl) (hst := rfl) (fun b85r M86 n87 b85 => ?_)
          obtain ⟨T88, J89, v92, rfl⟩ := b85
          have I90 := I73.call J89 (tm_sub (by decide)) (Or.inl rfl)
          have t93 := J89.up t75
          have t94 := J89.up t76
          have q95 := J89.keep t76 (by decide) q77
          have t96 := J89.up t78
          have q97 := J89.keep t76 (by decide) q79
          have t98 := J89.up t80
          have q99 := J89.keep t75 (by decide) q81
          have t100 := J89.up t_a82
          have q101 := J89.keep t_a82 (by decide) q83
          have t102 := J89.up t_a84
          refine mv_lconst (v := 0) d_TrustDesk_due_72 (by decide) ?_
          refine mv_lneZ (tgt := 80) (a := v92.toInt) (b := 0) d_TrustDesk_due_73 d_TrustDesk_due_74 (by decide) rfl (by decide) (fun b103 => ?_) (fun b103 => ?_)
          · refine mv_lconst (v := 0) d_TrustDesk_due_80 (by decide) ?_
            refine mv_aload_n d_TrustDesk_due_81 rfl rfl ?_
            refine tr_getK (k := 2) q95 d_TrustDesk_due_82 f_TrustDesk_26_12 ?_
            refine mv_aload d_TrustDesk_due_85 rfl ?_
            refine tr_getK (k := 0) q99 d_TrustDesk_due_87 f_TrustDesk_204_3 ?_
            obtain ⟨a105, q104, t_a105⟩ := tm_atR I90 t100 (k := 2) rfl
            refine tr_getK q104 d_TrustDesk_due_90 f_TrustDesk_225_4 ?_
            obtain ⟨_, b112, -⟩ := I90.1 _ _ t96
            refine mv_callV (kc' := 0) (ks' := 0) (As := [.ref a105]) (st9 := [.ref a105, .ref a37, .long 0]) d_TrustDesk_due_93 lV_TrustDesk_214 b112 rfl (tc_Reckoner_run (d := (d + 1)) (x9 := x9) (o0 := a37) (o1 := a105) t96 t_a105 I90.start) rfl (Nat.le_of_ble_eq_true rfl) (Nat.le_of_ble_eq_true rfl) (Nat.le_of_ble_eq_true rfl) (hst := rfl) (fun b106r M107 n108 b106 => ?_)
            obtain ⟨T109, J110, v113, rfl⟩ := b106
            have I111 := I90.call J110 (tm_sub (by decide)) (Or.inl rfl)
            have t114 := J110.up t93
            have t115 := J110.up t94
            have q116 := J110.keep t94 (by decide) q95
            have t117 := J110.up t96
            have q118 := J110.keep t94 (by decide) q97
            have t119 := J110.up t98
            have q120 := J110.keep t93 (by decide) q99
            have t121 := J110.up t100
            have q122 := J110.keep t100 (by decide) q101
            have t123 := J110.up t102
            have q124 := J110.keep t100 (by decide) q104
            have t125 := J110.up t_a105
            refine mv_mmax_long (v := (if v113 < 0 then 0 else v113)) d_TrustDesk_due_96 (mj_in1 (List.mem_of_getElem? (i := 920) (by decide +kernel)) rfl) (Nat.le_of_ble_eq_true rfl) rfl ?_
            refine mv_l2i (v := (if v113 < 0 then 0 else v113).toInt32) d_TrustDesk_due_99 rfl ?_
            exact mv_iret d_TrustDesk_due_100 rfl (by first | rfl | decide) ⟨_, I111, _, rfl⟩
          · refine mv_bipush (v := (-2)) d_TrustDesk_due_77 (by decide) ?_
            exact mv_iret d_TrustDesk_due_79 rfl (by first | rfl | decide) ⟨_, I90, _, rfl⟩
        · obtain ⟨_, b132, -⟩ := I58.1 _ _ t64
          refine mv_callV (kc' := 0) (ks' := 0) (As := [.ref a60]) (st9 := [.ref a60, .ref a37]) d_TrustDesk_due_54 lV_TrustDesk_200 b132 rfl (tc_Reckoner_knowFund (d := (d + 3)) (x9 := x9) (o0 := a37) (o1 := a60) t64 t_a60 I58.start) rfl (Nat.le_of_ble_eq_true rfl) (Nat.le_of_ble_eq_true rfl) (Nat.le_of_ble_eq_true rfl) (hst := rfl) (fun b126r M127 n128 b126 => ?_)
          obtain ⟨T129, J130, rfl⟩ := b126
          have I131 := I58.call J130 (tm_sub (by decide)) (Or.inl rfl)
          have t133 := J130.up t62
          have t134 := J130.up t63
          have q135 := J130.keep t63 (by decide) q65
          have t136 := J130.up t64
          have q137 := J130.keep t63 (by decide) q66
          have t138 := J130.up t67
          refine mv_aload_n d_TrustDesk_due_57 rfl rfl ?_
          refine tr_getK (k := 2) q135 d_TrustDesk_due_58 f_TrustDesk_26_12 ?_
          refine mv_aload d_TrustDesk_due_61 rfl ?_
          obtain ⟨a140, q139, t_a140⟩ := tm_atR I131 t133 (k := 0) rfl
          refine tr_getK q139 d_TrustDesk_due_63 f_TrustDesk_204_3 ?_
          obtain ⟨a142, q141, t_a142⟩ := tm_atR I131 t_a140 (k := 3) rfl
          refine tr_getK q141 d_TrustDesk_due_66 f_TrustDesk_208_4 ?_
          obtain ⟨_, b149, -⟩ := I131.1 _ _ t136
          refine mv_callV (kc' := 0) (ks' := 0) (As := [.ref a142]) (st9 := [.ref a142, .ref a37]) d_TrustDesk_due_69 lV_TrustDesk_214 b149 rfl (tc_Reckoner_run (d := (d + 1)) (x9 := x9) (o0 := a37) (o1 := a142) t136 t_a142 I131.start) rfl (Nat.le_of_ble_eq_true rfl) (Nat.le_of_ble_eq_true rfl) (Nat.le_of_ble_eq_true rfl) (hst := rfl) (fun b143r M144 n145 b143 => ?_)
          obtain ⟨T146, J147, v150, rfl⟩ := b143
          have I148 := I131.call J147 (tm_sub (by decide)) (Or.inl rfl)
          have t151 := J147.up t133
          have t152 := J147.up t134
          have q153 := J147.keep t134 (by decide) q135
          have t154 := J147.up t136
          have q155 := J147.keep t134 (by decide) q137
          have t156 := J147.up t138
          have q157 := J147.keep t133 (by decide) q139
          have t158 := J147.up t_a140
          have q159 := J147.keep t_a140 (by decide) q141
          have t160 := J147.up t_a142
          refine mv_lconst (v := 0) d_TrustDesk_due_72 (by decide) ?_
          refine mv_lneZ (tgt := 80) (a := v150.toInt) (b := 0) d_TrustDesk_due_73 d_TrustDesk_due_74 (by decide) rfl (by decide) (fun b161 => ?_) (fun b161 => ?_)
          · refine mv_lconst (v := 0) d_TrustDesk_due_80 (by decide) ?_
            refine mv_aload_n d_TrustDesk_due_81 rfl rfl ?_
            refine tr_getK (k := 2) q153 d_TrustDesk_due_82 f_TrustDesk_26_12 ?_
            refine mv_aload d_TrustDesk_due_85 rfl ?_
            refine tr_getK (k := 0) q157 d_TrustDesk_due_87 f_TrustDesk_204_3 ?_
            obtain ⟨a163, q162, t_a163⟩ := tm_atR I148 t158 (k := 2) rfl
            refine tr_getK q162 d_TrustDesk_due_90 f_TrustDesk_225_4 ?_
            obtain ⟨_, b170, -⟩ := I148.1 _ _ t154
            refine mv_callV (kc' := 0) (ks' := 0) (As := [.ref a163]) (st9 := [.ref a163, .ref a37, .long 0]) d_TrustDesk_due_93 lV_TrustDesk_214 b170 rfl (tc_Reckoner_run (d := (d + 1)) (x9 := x9) (o0 := a37) (o1 := a163) t154 t_a163 I148.start) rfl (Nat.le_of_ble_eq_true rfl) (Nat.le_of_ble_eq_true rfl) (Nat.le_of_ble_eq_true rfl) (hst := rfl) (fun b164r M165 n166 b164 => ?_)
            obtain ⟨T167, J168, v171, rfl⟩ := b164
            have I169 := I148.call J168 (tm_sub (by decide)) (Or.inl rfl)
            have t172 := J168.up t151
            have t173 := J168.up t152
            have q174 := J168.keep t152 (by decide) q153
            have t175 := J168.up t154
            have q176 := J168.keep t152 (by decide) q155
            have t177 := J168.up t156
            have q178 := J168.keep t151 (by decide) q157
            have t179 := J168.up t158
            have q180 := J168.keep t158 (by decide) q159
            have t181 := J168.up t160
            have q182 := J168.keep t158 (by decide) q162
            have t183 := J168.up t_a163
            refine mv_mmax_long (v := (if v171 < 0 then 0 else v171)) d_TrustDesk_due_96 (mj_in1 (List.mem_of_getElem? (i := 920) (by decide +kernel)) rfl) (Nat.le_of_ble_eq_true rfl) rfl ?_
            refine mv_l2i (v := (if v171 < 0 then 0 else v171).toInt32) d_TrustDesk_due_99 rfl ?_
            exact mv_iret d_TrustDesk_due_100 rfl (by first | rfl | decide) ⟨_, I169, _, rfl⟩
          · refine mv_bipush (v := (-2)) d_TrustDesk_due_77 (by decide) ?_
            exact mv_iret d_TrustDesk_due_79 rfl (by first | rfl | decide) ⟨_, I148, _, rfl⟩
      · refine mv_iconst (v := (-1)) d_TrustDesk_due_29 (by decide) ?_
        exact mv_iret d_TrustDesk_due_30 rfl (by first | rfl | decide) ⟨_, I28, _, rfl⟩
abbrev kY_TrustDesk_end : mj_Y := (⟨"TrustDesk", "end", "(I)I"⟩, prog_1_method_5_code, 2, (Option.some Jvm.ClassFile.FieldType.int))
theorem d_TrustDesk_end_0 : decode kY_TrustDesk_end.2.1 0 = .ok (.iload_n 1, 1) := by decide +kernel
theorem d_TrustDesk_end_1 : decode kY_TrustDesk_end.2.1 1 = .ok (.ifCond .lt 14, 3) := by decide +kernel
theorem d_TrustDesk_end_15 : decode kY_TrustDesk_end.2.1 15 = .ok (.iconst (-1), 1) := by decide +kernel
theorem d_TrustDesk_end_16 : decode kY_TrustDesk_end.2.1 16 = .ok (.ireturn, 1) := by decide +kernel
theorem d_TrustDesk_end_4 : decode kY_TrustDesk_end.2.1 4 = .ok (.iload_n 1, 1) := by decide +kernel
theorem d_TrustDesk_end_5 : decode kY_TrustDesk_end.2.1 5 = .ok (.aload_n 0, 1) := by decide +kernel
theorem d_TrustDesk_end_6 : decode kY_TrustDesk_end.2.1 6 = .ok (.getfield 19, 3) := by decide +kernel
theorem d_TrustDesk_end_9 : decode kY_TrustDesk_end.2.1 9 = .ok (.getfield 88, 3) := by decide +kernel
theorem d_TrustDesk_end_12 : decode kY_TrustDesk_end.2.1 12 = .ok (.if_icmp .le 5, 3) := by decide +kernel
theorem d_TrustDesk_end_17 : decode kY_TrustDesk_end.2.1 17 = .ok (.aload_n 0, 1) := by decide +kernel
theorem d_TrustDesk_end_18 : decode kY_TrustDesk_end.2.1 18 = .ok (.getfield 19, 3) := by decide +kernel
theorem d_TrustDesk_end_21 : decode kY_TrustDesk_end.2.1 21 = .ok (.iload_n 1, 1) := by decide +kernel
theorem d_TrustDesk_end_22 : decode kY_TrustDesk_end.2.1 22 = .ok (.putfield 88, 3) := by decide +kernel
theorem d_TrustDesk_end_25 : decode kY_TrustDesk_end.2.1 25 = .ok (.iload_n 1, 1) := by decide +kernel
theorem d_TrustDesk_end_26 : decode kY_TrustDesk_end.2.1 26 = .ok (.ireturn, 1) := by decide +kernel
abbrev kY_TrustDesk_endOf : mj_Y := (⟨"TrustDesk", "endOf", "(III)I"⟩, prog_1_method_43_code, 5, (Option.some Jvm.ClassFile.FieldType.int))
theorem d_TrustDesk_endOf_0 : decode kY_TrustDesk_endOf.2.1 0 = .ok (.aload_n 0, 1) := by decide +kernel
theorem d_TrustDesk_endOf_1 : decode kY_TrustDesk_endOf.2.1 1 = .ok (.iload_n 1, 1) := by decide +kernel
theorem d_TrustDesk_endOf_2 : decode kY_TrustDesk_endOf.2.1 2 = .ok (.iload_n 2, 1) := by decide +kernel
theorem d_TrustDesk_endOf_3 : decode kY_TrustDesk_endOf.2.1 3 = .ok (.invokevirtual 465, 3) := by decide +kernel
theorem d_TrustDesk_endOf_6 : decode kY_TrustDesk_endOf.2.1 6 = .ok (.astore 4, 2) := by decide +kernel
theorem d_TrustDesk_endOf_8 : decode kY_TrustDesk_endOf.2.1 8 = .ok (.aload 4, 2) := by decide +kernel
theorem d_TrustDesk_endOf_10 : decode kY_TrustDesk_endOf.2.1 10 = .ok (.ifnonnull 5, 3) := by decide +kernel
theorem d_TrustDesk_endOf_13 : decode kY_TrustDesk_endOf.2.1 13 = .ok (.iconst (-1), 1) := by decide +kernel
theorem d_TrustDesk_endOf_14 : decode kY_TrustDesk_endOf.2.1 14 = .ok (.ireturn, 1) := by decide +kernel
theorem d_TrustDesk_endOf_15 : decode kY_TrustDesk_endOf.2.1 15 = .ok (.iload_n 3, 1) := by decide +kernel
theorem d_TrustDesk_endOf_16 : decode kY_TrustDesk_endOf.2.1 16 = .ok (.tableswitch 59 0 3 #[32, 38, 44, 50], 32) := by decide +kernel
theorem d_TrustDesk_endOf_75 : decode kY_TrustDesk_endOf.2.1 75 = .ok (.iconst (-1), 1) := by decide +kernel
theorem d_TrustDesk_endOf_76 : decode kY_TrustDesk_endOf.2.1 76 = .ok (.ireturn, 1) := by decide +kernel
theorem d_TrustDesk_endOf_48 : decode kY_TrustDesk_endOf.2.1 48 = .ok (.aload 4, 2) := by decide +kernel
theorem d_TrustDesk_endOf_50 : decode kY_TrustDesk_endOf.2.1 50 = .ok (.getfield 193, 3) := by decide +kernel
theorem d_TrustDesk_endOf_53 : decode kY_TrustDesk_endOf.2.1 53 = .ok (.ireturn, 1) := by decide +kernel
theorem d_TrustDesk_endOf_54 : decode kY_TrustDesk_endOf.2.1 54 = .ok (.aload 4, 2) := by decide +kernel
theorem d_TrustDesk_endOf_56 : decode kY_TrustDesk_endOf.2.1 56 = .ok (.getfield 222, 3) := by decide +kernel
theorem f_TrustDesk_222_3 : mj_fl "TrustDesk" 222 3 2 := ⟨kR_End, kF_End, 4, "TrustDesk$End", rfl, kg_3, by decide, (mj_in1 (List.mem_of_getElem? (i := 792) (by decide +kernel)) rfl), Or.inl rfl⟩
theorem d_TrustDesk_endOf_59 : decode kY_TrustDesk_endOf.2.1 59 = .ok (.ireturn, 1) := by decide +kernel
theorem d_TrustDesk_endOf_60 : decode kY_TrustDesk_endOf.2.1 60 = .ok (.aload 4, 2) := by decide +kernel
theorem d_TrustDesk_endOf_62 : decode kY_TrustDesk_endOf.2.1 62 = .ok (.getfield 468, 3) := by decide +kernel
theorem f_TrustDesk_468_3 : mj_fl "TrustDesk" 468 3 3 := ⟨kR_End, kF_End, 4, "TrustDesk$End", rfl, kg_3, by decide, (mj_in1 (List.mem_of_getElem? (i := 794) (by decide +kernel)) rfl), Or.inl rfl⟩
theorem d_TrustDesk_endOf_65 : decode kY_TrustDesk_endOf.2.1 65 = .ok (.ireturn, 1) := by decide +kernel
theorem d_TrustDesk_endOf_66 : decode kY_TrustDesk_endOf.2.1 66 = .ok (.aload 4, 2) := by decide +kernel
theorem d_TrustDesk_endOf_68 : decode kY_TrustDesk_endOf.2.1 68 = .ok (.getfield 204, 3) := by decide +kernel
theorem d_TrustDesk_endOf_71 : decode kY_TrustDesk_endOf.2.1 71 = .ok (.getfield 471, 3) := by decide +kernel
theorem f_TrustDesk_471_4 : mj_fl "TrustDesk" 471 4 1 := ⟨kR_EndText, kF_EndText, 5, "TrustDesk$EndText", rfl, kg_4, by decide, (mj_in1 (List.mem_of_getElem? (i := 761) (by decide +kernel)) rfl), Or.inl rfl⟩
theorem d_TrustDesk_endOf_74 : decode kY_TrustDesk_endOf.2.1 74 = .ok (.ireturn, 1) := by decide +kernel
def w_TrustDesk_endOf : List Nat := []
theorem tc_TrustDesk_endOf {g : mj_G} {l : Launch} {d : Nat} {T0 : tm_H} {M0 : mj_M} {n0 x9 : Nat} {o0 : Nat} {x1 : Int32} {x2 : Int32} {x3 : Int32} (h_o0 : T0 o0 = some (0, 12, 0)) (I0 : tm_I tm_FT (tm_in w_TrustDesk_endOf) x9 T0 M0 n0 T0 M0 n0) : mj_Met g l kY_TrustDesk_endOf (d + 5) [.ref o0, .int x1, .int x2, .int x3] M0 n0 0 0 (tm_Q tm_FT (tm_in w_TrustDesk_endOf) x9 T0 M0 n0 (fun r _ _ => ∃ v : Int32, r = some (.int v))) := by
  refine mj_enter (by decide) (Nat.le_of_ble_eq_true rfl) ?_
  refine mv_aload_n d_TrustDesk_endOf_0 rfl rfl ?_
  refine mv_iload_n d_TrustDesk_endOf_1 rfl rfl ?_
  refine mv_iload_n d_TrustDesk_endOf_2 rfl rfl ?_
  obtain ⟨_, b7, -⟩ := I0.1 _ _ h_o0
  refine mv_callV (kc' := 0) (ks' := 0) (As := [.int x1, .int x2]) (st9 := [.int x2, .int x1, .ref o0]) d_TrustDesk_endOf_3 lV_TrustDesk_465 b7 rfl (tc_TrustDesk_endAt (d := d) (x9 := x9) (o0 := o0) (x1 := x1) (x2 := x2) h_o0 I0.start) rfl (Nat.le_of_ble_eq_true rfl) (Nat.le_of_ble_eq_true rfl) (Nat.le_of_ble_eq_true rfl) (hst := rfl) (fun b1r M2 n3 b1 => ?_)
  obtain ⟨T4, J5, b9⟩ := b1
  have I6 := I0.call J5 (tm_sub (by decide)) (Or.inl rfl)
  have t10 := J5.up h_o0
  rcases b9 with rfl | ⟨a8, rfl, t_a8⟩
  · refine mv_astoreN (lv' := [(4, .null), (0, .ref o0), (1, .int x1), (2, .int x2), (3, .int x3)]) d_TrustDesk_endOf_6 (by decide) rfl ?_
    refine mv_aloadN d_TrustDesk_endOf_8 rfl ?_
    refine mv_ifnonnullN d_TrustDesk_endOf_10 ?_
    refine mv_iconst (v := (-1)) d_TrustDesk_endOf_13 (by decide) ?_
    exact mv_iret d_TrustDesk_endOf_14 rfl (by first | rfl | decide) ⟨_, I6, _, rfl⟩
  · refine mv_astore (lv' := [(4, .ref a8), (0, .ref o0), (1, .int x1), (2, .int x2), (3, .int x3)]) d_TrustDesk_endOf_6 (by decide) rfl ?_
    refine mv_aload d_TrustDesk_endOf_8 rfl ?_
    refine mv_ifnonnull (tgt := 15) d_TrustDesk_endOf_10 (by decide) ?_
    refine mv_iload_n d_TrustDesk_endOf_15 rfl rfl ?_
    rcases (show (x3.toInt < 0 ∨ 3 < x3.toInt) ∨ x3.toInt = 0 ∨ x3.toInt = 1 ∨ x3.toInt = 2 ∨ x3.toInt = 3 by omega) with b11 | b11 | b11 | b11 | b11
    · refine mv_tableOut (tgt := 75) d_TrustDesk_endOf_16 b11 (by decide) ?_
      refine mv_iconst (v := (-1)) d_TrustDesk_endOf_75 (by decide) ?_
      exact mv_iret d_TrustDesk_endOf_76 rfl (by first | rfl | decide) ⟨_, I6, _, rfl⟩
    · refine mv_tableIn (tgt := 48) (off := 32) d_TrustDesk_endOf_16 (by omega) (by omega) (by rw [b11]; rfl) (by decide) ?_
      refine mv_aload d_TrustDesk_endOf_48 rfl ?_
      obtain ⟨v13, q12⟩ := tm_atI I6 t_a8 (k := 1) rfl
      refine tr_getK q12 d_TrustDesk_endOf_50 f_TrustDesk_193_3 ?_
      exact mv_iret d_TrustDesk_endOf_53 rfl (by first | rfl | decide) ⟨_, I6, _, rfl⟩
    · refine mv_tableIn (tgt := 54) (off := 38) d_TrustDesk_endOf_16 (by omega) (by omega) (by rw [b11]; rfl) (by decide) ?_
      refine mv_aload d_TrustDesk_endOf_54 rfl ?_
      obtain ⟨v15, q14⟩ := tm_atI I6 t_a8 (k := 2) rfl
      refine tr_getK q14 d_TrustDesk_endOf_56 f_TrustDesk_222_3 ?_
      exact mv_iret d_TrustDesk_endOf_59 rfl (by first | rfl | decide) ⟨_, I6, _, rfl⟩
    · refine mv_tableIn (tgt := 60) (off := 44) d_TrustDesk_endOf_16 (by omega) (by omega) (by rw [b11]; rfl) (by decide) ?_
      refine mv_aload d_TrustDesk_endOf_60 rfl ?_
      obtain ⟨v17, q16⟩ := tm_atI I6 t_a8 (k := 3) rfl
      refine tr_getK q16 d_TrustDesk_endOf_62 f_TrustDesk_468_3 ?_
      exact mv_iret d_TrustDesk_endOf_65 rfl (by first | rfl | decide) ⟨_, I6, _, rfl⟩
    · refine mv_tableIn (tgt := 66) (off := 50) d_TrustDesk_endOf_16 (by omega) (by omega) (by rw [b11]; rfl) (by decide) ?_
      refine mv_aload d_TrustDesk_endOf_66 rfl ?_
      obtain ⟨a19, q18, t_a19⟩ := tm_atR I6 t_a8 (k := 0) rfl
      refine tr_getK q18 d_TrustDesk_endOf_68 f_TrustDesk_204_3 ?_
      obtain ⟨v21, q20⟩ := tm_atI I6 t_a19 (k := 1) rfl
      refine tr_getK q20 d_TrustDesk_endOf_71 f_TrustDesk_471_4 ?_
      exact mv_iret d_TrustDesk_endOf_74 rfl (by first | rfl | decide) ⟨_, I6, _, rfl⟩
abbrev kY_TrustDesk_entry : mj_Y := (⟨"TrustDesk", "entry", "(II)I"⟩, prog_1_method_46_code, 4, (Option.some Jvm.ClassFile.FieldType.int))
theorem d_TrustDesk_entry_0 : decode kY_TrustDesk_entry.2.1 0 = .ok (.iload_n 1, 1) := by decide +kernel
theorem d_TrustDesk_entry_1 : decode kY_TrustDesk_entry.2.1 1 = .ok (.ifCond .lt 20, 3) := by decide +kernel
theorem d_TrustDesk_entry_21 : decode kY_TrustDesk_entry.2.1 21 = .ok (.iconst (-1), 1) := by decide +kernel
theorem d_TrustDesk_entry_22 : decode kY_TrustDesk_entry.2.1 22 = .ok (.ireturn, 1) := by decide +kernel
theorem d_TrustDesk_entry_4 : decode kY_TrustDesk_entry.2.1 4 = .ok (.iload_n 1, 1) := by decide +kernel
theorem d_TrustDesk_entry_5 : decode kY_TrustDesk_entry.2.1 5 = .ok (.aload_n 0, 1) := by decide +kernel
theorem d_TrustDesk_entry_6 : decode kY_TrustDesk_entry.2.1 6 = .ok (.getfield 254, 3) := by decide +kernel
theorem d_TrustDesk_entry_9 : decode kY_TrustDesk_entry.2.1 9 = .ok (.if_icmp .ge 12, 3) := by decide +kernel
theorem d_TrustDesk_entry_12 : decode kY_TrustDesk_entry.2.1 12 = .ok (.iload_n 2, 1) := by decide +kernel
theorem d_TrustDesk_entry_13 : decode kY_TrustDesk_entry.2.1 13 = .ok (.ifCond .lt 8, 3) := by decide +kernel
theorem d_TrustDesk_entry_16 : decode kY_TrustDesk_entry.2.1 16 = .ok (.iload_n 2, 1) := by decide +kernel
theorem d_TrustDesk_entry_17 : decode kY_TrustDesk_entry.2.1 17 = .ok (.iconst 4, 1) := by decide +kernel
theorem d_TrustDesk_entry_18 : decode kY_TrustDesk_entry.2.1 18 = .ok (.if_icmp .lt 5, 3) := by decide +kernel
theorem d_TrustDesk_entry_23 : decode kY_TrustDesk_entry.2.1 23 = .ok (.iload_n 1, 1) := by decide +kernel
theorem d_TrustDesk_entry_24 : decode kY_TrustDesk_entry.2.1 24 = .ok (.iconst 4, 1) := by decide +kernel
theorem d_TrustDesk_entry_25 : decode kY_TrustDesk_entry.2.1 25 = .ok (.imul, 1) := by decide +kernel
theorem d_TrustDesk_entry_26 : decode kY_TrustDesk_entry.2.1 26 = .ok (.iload_n 2, 1) := by decide +kernel
theorem d_TrustDesk_entry_27 : decode kY_TrustDesk_entry.2.1 27 = .ok (.iadd, 1) := by decide +kernel
theorem d_TrustDesk_entry_28 : decode kY_TrustDesk_entry.2.1 28 = .ok (.istore_n 3, 1) := by decide +kernel
theorem d_TrustDesk_entry_29 : decode kY_TrustDesk_entry.2.1 29 = .ok (.iload_n 3, 1) := by decide +kernel
theorem d_TrustDesk_entry_30 : decode kY_TrustDesk_entry.2.1 30 = .ok (.ifCond .lt 21, 3) := by decide +kernel
theorem d_TrustDesk_entry_51 : decode kY_TrustDesk_entry.2.1 51 = .ok (.iconst (-1), 1) := by decide +kernel
theorem d_TrustDesk_entry_52 : decode kY_TrustDesk_entry.2.1 52 = .ok (.ireturn, 1) := by decide +kernel
theorem d_TrustDesk_entry_33 : decode kY_TrustDesk_entry.2.1 33 = .ok (.iload_n 3, 1) := by decide +kernel
theorem d_TrustDesk_entry_34 : decode kY_TrustDesk_entry.2.1 34 = .ok (.aload_n 0, 1) := by decide +kernel
theorem d_TrustDesk_entry_35 : decode kY_TrustDesk_entry.2.1 35 = .ok (.getfield 62, 3) := by decide +kernel
theorem d_TrustDesk_entry_38 : decode kY_TrustDesk_entry.2.1 38 = .ok (.arraylength, 1) := by decide +kernel
theorem d_TrustDesk_entry_39 : decode kY_TrustDesk_entry.2.1 39 = .ok (.if_icmp .ge 12, 3) := by decide +kernel
theorem d_TrustDesk_entry_42 : decode kY_TrustDesk_entry.2.1 42 = .ok (.aload_n 0, 1) := by decide +kernel
theorem d_TrustDesk_entry_43 : decode kY_TrustDesk_entry.2.1 43 = .ok (.getfield 62, 3) := by decide +kernel
theorem d_TrustDesk_entry_46 : decode kY_TrustDesk_entry.2.1 46 = .ok (.iload_n 3, 1) := by decide +kernel
theorem d_TrustDesk_entry_47 : decode kY_TrustDesk_entry.2.1 47 = .ok (.iaload, 1) := by decide +kernel
theorem d_TrustDesk_entry_48 : decode kY_TrustDesk_entry.2.1 48 = .ok (.goto 4, 3) := by decide +kernel
def w_TrustDesk_entry : List Nat := []
theorem tc_TrustDesk_entry {g : mj_G} {l : Launch} {d : Nat} {T0 : tm_H} {M0 : mj_M} {n0 x9 : Nat} {o0 : Nat} {x1 : Int32} {x2 : Int32} (h_o0 : T0 o0 = some (0, 12, 0)) (I0 : tm_I tm_FT (tm_in w_TrustDesk_entry) x9 T0 M0 n0 T0 M0 n0) : mj_Met g l kY_TrustDesk_entry d [.ref o0, .int x1, .int x2] M0 n0 0 0 (tm_Q tm_FT (tm_in w_TrustDesk_entry) x9 T0 M0 n0 (fun r _ _ => ∃ v : Int32, r = some (.int v))) := by
  refine mj_enter (by decide) (Nat.le_of_ble_eq_true rfl) ?_
  refine mv_iload_n d_TrustDesk_entry_0 rfl rfl ?_
  have := mz_hi x1
  refine mv_if_ltZ (tgt := 21) (a := x1.toInt) d_TrustDesk_entry_1 (by decide) rfl (fun b1 => ?_) (fun b1 => ?_)
  · refine mv_iconst (v := (-1)) d_TrustDesk_entry_21 (by decide) ?_
    exact mv_iret d_TrustDesk_entry_22 rfl (by first | rfl | decide) ⟨_, I0, _, rfl⟩
  · refine mv_iload_n d_TrustDesk_entry_4 rfl rfl ?_
    refine mv_aload_n d_TrustDesk_entry_5 rfl rfl ?_
    obtain ⟨v3, q2⟩ := tm_atI I0 h_o0 (k := 10) rfl
    refine tr_getK q2 d_TrustDesk_entry_6 f_TrustDesk_254_12 ?_
    have := mz_hi x1
    have := mz_hi v3
    refine mv_icmp_geZ (tgt := 21) (a := x1.toInt) (b := v3.toInt) d_TrustDesk_entry_9 (by decide) rfl rfl (fun b4 => ?_) (fun b4 => ?_)
    · refine mv_iconst (v := (-1)) d_TrustDesk_entry_21 (by decide) ?_
      exact mv_iret d_TrustDesk_entry_22 rfl (by first | rfl | decide) ⟨_, I0, _, rfl⟩
    · refine mv_iload_n d_TrustDesk_entry_12 rfl rfl ?_
      have := mz_hi x2
      refine mv_if_ltZ (tgt := 21) (a := x2.toInt) d_TrustDesk_entry_13 (by decide) rfl (fun b5 => ?_) (fun b5 => ?_)
      · refine mv_iconst (v := (-1)) d_TrustDesk_entry_21 (by decide) ?_
        exact mv_iret d_TrustDesk_entry_22 rfl (by first | rfl | decide) ⟨_, I0, _, rfl⟩
      · refine mv_iload_n d_TrustDesk_entry_16 rfl rfl ?_
        refine mv_iconst (v := 4) d_TrustDesk_entry_17 (by decide) ?_
        have := mz_hi x2
        refine mv_icmp_ltZ (tgt := 23) (a := x2.toInt) (b := 4) d_TrustDesk_entry_18 (by decide) rfl (by decide) (fun b6 => ?_) (fun b6 => ?_)
        · refine mv_iload_n d_TrustDesk_entry_23 rfl rfl ?_
          refine mv_iconst (v := 4) d_TrustDesk_entry_24 (by decide) ?_
          refine mv_imul d_TrustDesk_entry_25 ?_
          refine mv_iload_n d_TrustDesk_entry_26 rfl rfl ?_
          refine mv_iadd d_TrustDesk_entry_27 ?_
          refine mv_istore_n (lv' := [(3, .int ((x1 * 4) + x2)), (0, .ref o0), (1, .int x1), (2, .int x2)]) d_TrustDesk_entry_28 rfl (by decide) rfl ?_
          refine mv_iload_n d_TrustDesk_entry_29 rfl rfl ?_
          have := mz_hi ((x1 * 4) + x2)
          refine mv_if_ltZ (tgt := 51) (a := ((x1 * 4) + x2).toInt) d_TrustDesk_entry_30 (by decide) rfl (fun b7 => ?_) (fun b7 => ?_)
          · refine mv_iconst (v := (-1)) d_TrustDesk_entry_51 (by decide) ?_
            exact mv_iret d_TrustDesk_entry_52 rfl (by first | rfl | decide) ⟨_, I0, _, rfl⟩
          · refine mv_iload_n d_TrustDesk_entry_33 rfl rfl ?_
            refine mv_aload_n d_TrustDesk_entry_34 rfl rfl ?_
            obtain ⟨a9, q8, t_a9⟩ := tm_atR I0 h_o0 (k := 9) rfl
            refine tr_getK q8 d_TrustDesk_entry_35 f_TrustDesk_62_12 ?_
            refine tr_alen (v := 2400) I0 t_a9 (by decide) (by decide) d_TrustDesk_entry_38 ?_
            have := mz_hi ((x1 * 4) + x2)
            refine mv_icmp_geZ (tgt := 51) (a := ((x1 * 4) + x2).toInt) (b := 2400) d_TrustDesk_entry_39 (by decide) rfl (by decide) (fun b10 => ?_) (fun b10 => ?_)
            · refine mv_iconst (v := (-1)) d_TrustDesk_entry_51 (by decide) ?_
              exact mv_iret d_TrustDesk_entry_52 rfl (by first | rfl | decide) ⟨_, I0, _, rfl⟩
            · refine mv_aload_n d_TrustDesk_entry_42 rfl rfl ?_
              refine tr_getK (k := 9) q8 d_TrustDesk_entry_43 f_TrustDesk_62_12 ?_
              refine mv_iload_n d_TrustDesk_entry_46 rfl rfl ?_
              refine tr_iald I0 t_a9 (by decide) d_TrustDesk_entry_47 (vp_in_iff.mpr (by omega)) (fun v11 => ?_)
              refine mv_goto (tgt := 52) d_TrustDesk_entry_48 (by decide) ?_
              exact mv_iret d_TrustDesk_entry_52 rfl (by first | rfl | decide) ⟨_, I0, _, rfl⟩
        · refine mv_iconst (v := (-1)) d_TrustDesk_entry_21 (by decide) ?_
          exact mv_iret d_TrustDesk_entry_22 rfl (by first | rfl | decide) ⟨_, I0, _, rfl⟩
abbrev kY_TrustDesk_fact : mj_Y := (⟨"TrustDesk", "fact", "(III)Z"⟩, prog_1_method_2_code, 4, (Option.some Jvm.ClassFile.FieldType.boolean))
theorem d_TrustDesk_fact_0 : decode kY_TrustDesk_fact.2.1 0 = .ok (.iload_n 1, 1) := by decide +kernel
theorem d_TrustDesk_fact_1 : decode kY_TrustDesk_fact.2.1 1 = .ok (.invokestatic 66, 3) := by decide +kernel
abbrev kY_TrustDesk_isFact : mj_Y := (⟨"TrustDesk", "isFact", "(I)Z"⟩, prog_1_method_65_code, 1, (Option.some Jvm.ClassFile.FieldType.boolean))
theorem d_TrustDesk_isFact_0 : decode kY_TrustDesk_isFact.2.1 0 = .ok (.iload_n 0, 1) := by decide +kernel
theorem d_TrustDesk_isFact_1 : decode kY_TrustDesk_isFact.2.1 1 = .ok (.ifCond .lt 13, 3) := by decide +kernel
theorem d_TrustDesk_isFact_14 : decode kY_TrustDesk_isFact.2.1 14 = .ok (.iconst 0, 1) := by decide +kernel
theorem d_TrustDesk_isFact_15 : decode kY_TrustDesk_isFact.2.1 15 = .ok (.ireturn, 1) := by decide +kernel
theorem d_TrustDesk_isFact_4 : decode kY_TrustDesk_isFact.2.1 4 = .ok (.iload_n 0, 1) := by decide +kernel
theorem d_TrustDesk_isFact_5 : decode kY_TrustDesk_isFact.2.1 5 = .ok (.bipush 8, 2) := by decide +kernel
theorem d_TrustDesk_isFact_7 : decode kY_TrustDesk_isFact.2.1 7 = .ok (.if_icmp .ge 7, 3) := by decide +kernel
theorem d_TrustDesk_isFact_10 : decode kY_TrustDesk_isFact.2.1 10 = .ok (.iconst 1, 1) := by decide +kernel
theorem d_TrustDesk_isFact_11 : decode kY_TrustDesk_isFact.2.1 11 = .ok (.goto 4, 3) := by decide +kernel
def w_TrustDesk_isFact : List Nat := []
theorem tc_TrustDesk_isFact {g : mj_G} {l : Launch} {d : Nat} {T0 : tm_H} {M0 : mj_M} {n0 x9 : Nat} {x1 : Int32} (I0 : tm_I tm_FT (tm_in w_TrustDesk_isFact) x9 T0 M0 n0 T0 M0 n0) : mj_Met g l kY_TrustDesk_isFact d [.int x1] M0 n0 0 0 (tm_Q tm_FT (tm_in w_TrustDesk_isFact) x9 T0 M0 n0 (fun r _ _ => ∃ v : Int32, r = some (.int v) ∧ 0 ≤ v.toInt ∧ v.toInt ≤ 1)) := by
  refine mj_enter (by decide) (Nat.le_of_ble_eq_true rfl) ?_
  refine mv_iload_n d_TrustDesk_isFact_0 rfl rfl ?_
  have := mz_hi x1
  refine mv_if_ltZ (tgt := 14) (a := x1.toInt) d_TrustDesk_isFact_1 (by decide) rfl (fun b1 => ?_) (fun b1 => ?_)
  · refine mv_iconst (v := 0) d_TrustDesk_isFact_14 (by decide) ?_
    exact mv_iret d_TrustDesk_isFact_15 rfl (by decide) ⟨_, I0, _, rfl, by decide, by decide⟩
  · refine mv_iload_n d_TrustDesk_isFact_4 rfl rfl ?_
    refine mv_bipush (v := 8) d_TrustDesk_isFact_5 (by decide) ?_
    have := mz_hi x1
    refine mv_icmp_geZ (tgt := 14) (a := x1.toInt) (b := 8) d_TrustDesk_isFact_7 (by decide) rfl (by decide) (fun b2 => ?_) (fun b2 => ?_)
    · refine mv_iconst (v := 0) d_TrustDesk_isFact_14 (by decide) ?_
      exact mv_iret d_TrustDesk_isFact_15 rfl (by decide) ⟨_, I0, _, rfl, by decide, by decide⟩
    · refine mv_iconst (v := 1) d_TrustDesk_isFact_10 (by decide) ?_
      refine mv_goto (tgt := 15) d_TrustDesk_isFact_11 (by decide) ?_
      exact mv_iret d_TrustDesk_isFact_15 rfl (by decide) ⟨_, I0, _, rfl, by decide, by decide⟩
theorem lS_TrustDesk_66 : mj_lS "TrustDesk" 66 kY_TrustDesk_isFact 1 := ⟨⟨(mj_in1 (List.mem_of_getElem? (i := 311) (by decide +kernel)) rfl), (mj_in1 (List.mem_of_getElem? (i := 1) (by decide +kernel)) rfl), (mj_in1 (List.mem_of_getElem? (i := 313) (by decide +kernel)) rfl), by decide, rfl, by decide⟩, (mj_in1 (List.mem_of_getElem? (i := 312) (by decide +kernel)) rfl)⟩
theorem d_TrustDesk_fact_4 : decode kY_TrustDesk_fact.2.1 4 = .ok (.ifCond .eq 21, 3) := by decide +kernel
theorem d_TrustDesk_fact_25 : decode kY_TrustDesk_fact.2.1 25 = .ok (.iconst 0, 1) := by decide +kernel
theorem d_TrustDesk_fact_26 : decode kY_TrustDesk_fact.2.1 26 = .ok (.ireturn, 1) := by decide +kernel
theorem d_TrustDesk_fact_7 : decode kY_TrustDesk_fact.2.1 7 = .ok (.iload_n 2, 1) := by decide +kernel
theorem d_TrustDesk_fact_8 : decode kY_TrustDesk_fact.2.1 8 = .ok (.invokestatic 70, 3) := by decide +kernel
theorem d_TrustDesk_fact_11 : decode kY_TrustDesk_fact.2.1 11 = .ok (.ifCond .eq 14, 3) := by decide +kernel
theorem d_TrustDesk_fact_14 : decode kY_TrustDesk_fact.2.1 14 = .ok (.iload_n 3, 1) := by decide +kernel
theorem d_TrustDesk_fact_15 : decode kY_TrustDesk_fact.2.1 15 = .ok (.ifCond .lt 10, 3) := by decide +kernel
theorem d_TrustDesk_fact_18 : decode kY_TrustDesk_fact.2.1 18 = .ok (.iload_n 3, 1) := by decide +kernel
theorem d_TrustDesk_fact_19 : decode kY_TrustDesk_fact.2.1 19 = .ok (.sipush 9999, 3) := by decide +kernel
theorem d_TrustDesk_fact_22 : decode kY_TrustDesk_fact.2.1 22 = .ok (.if_icmp .le 5, 3) := by decide +kernel
theorem d_TrustDesk_fact_27 : decode kY_TrustDesk_fact.2.1 27 = .ok (.aload_n 0, 1) := by decide +kernel
theorem d_TrustDesk_fact_28 : decode kY_TrustDesk_fact.2.1 28 = .ok (.getfield 10, 3) := by decide +kernel
theorem d_TrustDesk_fact_31 : decode kY_TrustDesk_fact.2.1 31 = .ok (.iload_n 1, 1) := by decide +kernel
theorem d_TrustDesk_fact_32 : decode kY_TrustDesk_fact.2.1 32 = .ok (.iload_n 2, 1) := by decide +kernel
theorem d_TrustDesk_fact_33 : decode kY_TrustDesk_fact.2.1 33 = .ok (.iload_n 3, 1) := by decide +kernel
theorem d_TrustDesk_fact_34 : decode kY_TrustDesk_fact.2.1 34 = .ok (.aload_n 0, 1) := by decide +kernel
theorem d_TrustDesk_fact_35 : decode kY_TrustDesk_fact.2.1 35 = .ok (.getfield 73, 3) := by decide +kernel
theorem d_TrustDesk_fact_38 : decode kY_TrustDesk_fact.2.1 38 = .ok (.invokevirtual 77, 3) := by decide +kernel
abbrev kY_Facts_tell : mj_Y := (⟨"TrustDesk$Facts", "tell", "(IIII)Z"⟩, prog_6_method_2_code, 6, (Option.some Jvm.ClassFile.FieldType.boolean))
theorem d_Facts_tell_0 : decode kY_Facts_tell.2.1 0 = .ok (.aload_n 0, 1) := by decide +kernel
theorem d_Facts_tell_1 : decode kY_Facts_tell.2.1 1 = .ok (.getfield 24, 3) := by decide +kernel
theorem d_Facts_tell_4 : decode kY_Facts_tell.2.1 4 = .ok (.istore 5, 2) := by decide +kernel
theorem d_Facts_tell_6 : decode kY_Facts_tell.2.1 6 = .ok (.iload 5, 2) := by decide +kernel
theorem d_Facts_tell_8 : decode kY_Facts_tell.2.1 8 = .ok (.ifCond .lt 11, 3) := by decide +kernel
theorem d_Facts_tell_19 : decode kY_Facts_tell.2.1 19 = .ok (.iconst 0, 1) := by decide +kernel
theorem d_Facts_tell_20 : decode kY_Facts_tell.2.1 20 = .ok (.ireturn, 1) := by decide +kernel
theorem d_Facts_tell_11 : decode kY_Facts_tell.2.1 11 = .ok (.iload 5, 2) := by decide +kernel
theorem d_Facts_tell_13 : decode kY_Facts_tell.2.1 13 = .ok (.sipush 300, 3) := by decide +kernel
theorem d_Facts_tell_16 : decode kY_Facts_tell.2.1 16 = .ok (.if_icmp .lt 5, 3) := by decide +kernel
theorem d_Facts_tell_21 : decode kY_Facts_tell.2.1 21 = .ok (.aload_n 0, 1) := by decide +kernel
theorem d_Facts_tell_22 : decode kY_Facts_tell.2.1 22 = .ok (.getfield 9, 3) := by decide +kernel
theorem d_Facts_tell_25 : decode kY_Facts_tell.2.1 25 = .ok (.iload 5, 2) := by decide +kernel
theorem d_Facts_tell_27 : decode kY_Facts_tell.2.1 27 = .ok (.iload_n 1, 1) := by decide +kernel
theorem d_Facts_tell_28 : decode kY_Facts_tell.2.1 28 = .ok (.iastore, 1) := by decide +kernel
theorem d_Facts_tell_29 : decode kY_Facts_tell.2.1 29 = .ok (.aload_n 0, 1) := by decide +kernel
theorem d_Facts_tell_30 : decode kY_Facts_tell.2.1 30 = .ok (.getfield 15, 3) := by decide +kernel
theorem d_Facts_tell_33 : decode kY_Facts_tell.2.1 33 = .ok (.iload 5, 2) := by decide +kernel
theorem d_Facts_tell_35 : decode kY_Facts_tell.2.1 35 = .ok (.iload_n 2, 1) := by decide +kernel
theorem d_Facts_tell_36 : decode kY_Facts_tell.2.1 36 = .ok (.iastore, 1) := by decide +kernel
theorem d_Facts_tell_37 : decode kY_Facts_tell.2.1 37 = .ok (.aload_n 0, 1) := by decide +kernel
theorem d_Facts_tell_38 : decode kY_Facts_tell.2.1 38 = .ok (.getfield 18, 3) := by decide +kernel
theorem d_Facts_tell_41 : decode kY_Facts_tell.2.1 41 = .ok (.iload 5, 2) := by decide +kernel
theorem d_Facts_tell_43 : decode kY_Facts_tell.2.1 43 = .ok (.iload_n 3, 1) := by decide +kernel
theorem d_Facts_tell_44 : decode kY_Facts_tell.2.1 44 = .ok (.iastore, 1) := by decide +kernel
theorem d_Facts_tell_45 : decode kY_Facts_tell.2.1 45 = .ok (.aload_n 0, 1) := by decide +kernel
theorem d_Facts_tell_46 : decode kY_Facts_tell.2.1 46 = .ok (.getfield 21, 3) := by decide +kernel
theorem d_Facts_tell_49 : decode kY_Facts_tell.2.1 49 = .ok (.iload 5, 2) := by decide +kernel
theorem d_Facts_tell_51 : decode kY_Facts_tell.2.1 51 = .ok (.iload 4, 2) := by decide +kernel
theorem d_Facts_tell_53 : decode kY_Facts_tell.2.1 53 = .ok (.iastore, 1) := by decide +kernel
theorem d_Facts_tell_54 : decode kY_Facts_tell.2.1 54 = .ok (.aload_n 0, 1) := by decide +kernel
theorem d_Facts_tell_55 : decode kY_Facts_tell.2.1 55 = .ok (.dup, 1) := by decide +kernel
theorem d_Facts_tell_56 : decode kY_Facts_tell.2.1 56 = .ok (.getfield 24, 3) := by decide +kernel
theorem d_Facts_tell_59 : decode kY_Facts_tell.2.1 59 = .ok (.iconst 1, 1) := by decide +kernel
theorem d_Facts_tell_60 : decode kY_Facts_tell.2.1 60 = .ok (.iadd, 1) := by decide +kernel
theorem d_Facts_tell_61 : decode kY_Facts_tell.2.1 61 = .ok (.putfield 24, 3) := by decide +kernel
theorem p_Facts_24_5 : mj_fp "TrustDesk$Facts" 24 5 4 (kt_Facts 4) false := ⟨kR_Facts, kF_Facts, 5, "TrustDesk$Facts", kt_Facts, rfl, kg_5, by decide, (mj_in1 (List.mem_of_getElem? (i := 49) (by decide +kernel)) rfl), Or.inl rfl, kto_Facts, kn_Facts, rfl, rfl, fun h => by cases h⟩
theorem d_Facts_tell_64 : decode kY_Facts_tell.2.1 64 = .ok (.iconst 1, 1) := by decide +kernel
theorem d_Facts_tell_65 : decode kY_Facts_tell.2.1 65 = .ok (.ireturn, 1) := by decide +kernel
def w_Facts_tell : List Nat := [504, 550, 551, 552, 553]
theorem tc_Facts_tell {g : mj_G} {l : Launch} {d : Nat} {T0 : tm_H} {M0 : mj_M} {n0 x9 : Nat} {o0 : Nat} {x1 : Int32} {x2 : Int32} {x3 : Int32} {x4 : Int32} (h_o0 : T0 o0 = some (0, 5, 0)) (I0 : tm_I tm_FT (tm_in w_Facts_tell) x9 T0 M0 n0 T0 M0 n0) : mj_Met g l kY_Facts_tell d [.ref o0, .int x1, .int x2, .int x3, .int x4] M0 n0 0 0 (tm_Q tm_FT (tm_in w_Facts_tell) x9 T0 M0 n0 (fun r _ _ => ∃ v : Int32, r = some (.int v) ∧ 0 ≤ v.toInt ∧ v.toInt ≤ 1)) := by
  refine mj_enter (by decide) (Nat.le_of_ble_eq_true rfl) ?_
  refine mv_aload_n d_Facts_tell_0 rfl rfl ?_
  obtain ⟨v2, q1⟩ := tm_atI I0 h_o0 (k := 4) rfl
  refine tr_getK q1 d_Facts_tell_1 f_Facts_24_5 ?_
  refine mv_istore (lv' := [(5, .int v2), (0, .ref o0), (1, .int x1), (2, .int x2), (3, .int x3), (4, .int x4)]) d_Facts_tell_4 (by decide) rfl ?_
  refine mv_iload d_Facts_tell_6 rfl ?_
  have := mz_hi v2
  refine mv_if_ltZ (tgt := 19) (a := v2.toInt) d_Facts_tell_8 (by decide) rfl (fun b3 => ?_) (fun b3 => ?_)
  · refine mv_iconst (v := 0) d_Facts_tell_19 (by decide) ?_
    exact mv_iret d_Facts_tell_20 rfl (by decide) ⟨_, I0, _, rfl, by decide, by decide⟩
  · refine mv_iload d_Facts_tell_11 rfl ?_
    refine mv_sipush (v := 300) d_Facts_tell_13 (by decide) ?_
    have := mz_hi v2
    refine mv_icmp_ltZ (tgt := 21) (a := v2.toInt) (b := 300) d_Facts_tell_16 (by decide) rfl (by decide) (fun b4 => ?_) (fun b4 => ?_)
    · refine mv_aload_n d_Facts_tell_21 rfl rfl ?_
      obtain ⟨a6, q5, t_a6⟩ := tm_atR I0 h_o0 (k := 0) rfl
      refine tr_getK q5 d_Facts_tell_22 f_Facts_9_5 ?_
      refine mv_iload d_Facts_tell_25 rfl ?_
      refine mv_iload_n d_Facts_tell_27 rfl rfl ?_
      refine tr_iastK tm_okF I0 t_a6 (by decide) (Or.inl (by decide)) d_Facts_tell_28 (vp_in_iff.mpr (by omega)) (fun M7 I8 K9 => ?_)
      refine mv_aload_n d_Facts_tell_29 rfl rfl ?_
      obtain ⟨a11, q10, t_a11⟩ := tm_atR I8 h_o0 (k := 1) rfl
      refine tr_getK q10 d_Facts_tell_30 f_Facts_15_5 ?_
      refine mv_iload d_Facts_tell_33 rfl ?_
      refine mv_iload_n d_Facts_tell_35 rfl rfl ?_
      refine tr_iastK tm_okF I8 t_a11 (by decide) (Or.inl (by decide)) d_Facts_tell_36 (vp_in_iff.mpr (by omega)) (fun M12 I13 K14 => ?_)
      refine mv_aload_n d_Facts_tell_37 rfl rfl ?_
      obtain ⟨a16, q15, t_a16⟩ := tm_atR I13 h_o0 (k := 2) rfl
      refine tr_getK q15 d_Facts_tell_38 f_Facts_18_5 ?_
      refine mv_iload d_Facts_tell_41 rfl ?_
      refine mv_iload_n d_Facts_tell_43 rfl rfl ?_
      refine tr_iastK tm_okF I13 t_a16 (by decide) (Or.inl (by decide)) d_Facts_tell_44 (vp_in_iff.mpr (by omega)) (fun M17 I18 K19 => ?_)
      refine mv_aload_n d_Facts_tell_45 rfl rfl ?_
      obtain ⟨a21, q20, t_a21⟩ := tm_atR I18 h_o0 (k := 3) rfl
      refine tr_getK q20 d_Facts_tell_46 f_Facts_21_5 ?_
      refine mv_iload d_Facts_tell_49 rfl ?_
      refine mv_iload d_Facts_tell_51 rfl ?_
      refine tr_iastK tm_okF I18 t_a21 (by decide) (Or.inl (by decide)) d_Facts_tell_53 (vp_in_iff.mpr (by omega)) (fun M22 I23 K24 => ?_)
      refine mv_aload_n d_Facts_tell_54 rfl rfl ?_
      refine mv_dup d_Facts_tell_55 rfl ?_
      refine tr_getK (k := 4) (K24 _ 5 4 _ (K19 _ 5 4 _ (K14 _ 5 4 _ (K9 _ 5 4 _ q1)))) d_Facts_tell_56 f_Facts_24_5 ?_
      refine mv_iconst (v := 1) d_Facts_tell_59 (by decide) ?_
      refine mv_iadd d_Facts_tell_60 ?_
      refine tr_putK tm_okF I23 h_o0 (k := 4) rfl ⟨_, rfl⟩ (Or.inl (by decide)) d_Facts_tell_61 p_Facts_24_5 rfl rfl (fun M25 I26 q27 K28 => ?_)
      refine mv_iconst (v := 1) d_Facts_tell_64 (by decide) ?_
      exact mv_iret d_Facts_tell_65 rfl (by decide) ⟨_, I26, _, rfl, by decide, by decide⟩
    · refine mv_iconst (v := 0) d_Facts_tell_19 (by decide) ?_
      exact mv_iret d_Facts_tell_20 rfl (by decide) ⟨_, I0, _, rfl, by decide, by decide⟩
theorem lV_TrustDesk_77 : mj_lV "TrustDesk" 77 kY_Facts_tell 4 := ⟨⟨(mj_in1 (List.mem_of_getElem? (i := 317) (by decide +kernel)) rfl), (mj_in1 (List.mem_of_getElem? (i := 2) (by decide +kernel)) rfl), (mj_in1 (List.mem_of_getElem? (i := 320) (by decide +kernel)) rfl), by decide, rfl, by decide⟩, (mj_in1 (List.mem_of_getElem? (i := 318) (by decide +kernel)) rfl), (mj_in1 (List.mem_of_getElem? (i := 319) (by decide +kernel)) rfl)⟩
theorem d_TrustDesk_fact_41 : decode kY_TrustDesk_fact.2.1 41 = .ok (.ireturn, 1) := by decide +kernel
def w_TrustDesk_fact : List Nat := [504, 550, 551, 552, 553]
theorem tc_TrustDesk_fact {g : mj_G} {l : Launch} {d : Nat} {T0 : tm_H} {M0 : mj_M} {n0 x9 : Nat} {o0 : Nat} {x1 : Int32} {x2 : Int32} {x3 : Int32} (h_o0 : T0 o0 = some (0, 12, 0)) (I0 : tm_I tm_FT (tm_in w_TrustDesk_fact) x9 T0 M0 n0 T0 M0 n0) : mj_Met g l kY_TrustDesk_fact (d + 1) [.ref o0, .int x1, .int x2, .int x3] M0 n0 0 0 (tm_Q tm_FT (tm_in w_TrustDesk_fact) x9 T0 M0 n0 (fun r _ _ => ∃ v : Int32, r = some (.int v) ∧ 0 ≤ v.toInt ∧ v.toInt ≤ 1)) := by
  refine mj_enter (by decide) (Nat.le_of_ble_eq_true rfl) ?_
  refine mv_iload_n d_TrustDesk_fact_0 rfl rfl ?_
  refine mv_callS (kc' := 0) (ks' := 0) (As := [.int x1]) (st9 := [.int x1]) d_TrustDesk_fact_1 lS_TrustDesk_66 (tc_TrustDesk_isFact (d := d) (x9 := x9) (x1 := x1)  I0.start) rfl (Nat.le_of_ble_eq_true rfl) (Nat.le_of_ble_eq_true rfl) (Nat.le_of_ble_eq_true rfl) (hst := rfl) (fun b1r M2 n3 b1 => ?_)
  obtain ⟨T4, J5, v7, rfl, b8, b9⟩ := b1
  have I6 := I0.call J5 (tm_sub (by decide)) (Or.inl rfl)
  have t10 := J5.up h_o0
  have := mz_hi v7
  refine mv_if_eqZ (tgt := 25) (a := v7.toInt) d_TrustDesk_fact_4 (by decide) rfl (fun b11 => ?_) (fun b11 => ?_)
  · refine mv_iconst (v := 0) d_TrustDesk_fact_25 (by decide) ?_
    exact mv_iret d_TrustDesk_fact_26 rfl (by decide) ⟨_, I6, _, rfl, by decide, by decide⟩
  · refine mv_iload_n d_TrustDesk_fact_7 rfl rfl ?_
    refine mv_callS (kc' := 0) (ks' := 0) (As := [.int x2]) (st9 := [.int x2]) d_TrustDesk_fact_8 lS_TrustDesk_70 (tc_TrustDesk_isYear (d := d) (x9 := x9) (x1 := x2)  I6.start) rfl (Nat.le_of_ble_eq_true rfl) (Nat.le_of_ble_eq_true rfl) (Nat.le_of_ble_eq_true rfl) (hst := rfl) (fun b12r M13 n14 b12 => ?_)
    obtain ⟨T15, J16, v18, rfl, b19, b20⟩ := b12
    have I17 := I6.call J16 (tm_sub (by decide)) (Or.inl rfl)
    have t21 := J16.up t10
    have := mz_hi v18
    refine mv_if_eqZ (tgt := 25) (a := v18.toInt) d_TrustDesk_fact_11 (by decide) rfl (fun b22 => ?_) (fun b22 => ?_)
    · refine mv_iconst (v := 0) d_TrustDesk_fact_25 (by decide) ?_
      exact mv_iret d_TrustDesk_fact_26 rfl (by decide) ⟨_, I17, _, rfl, by decide, by decide⟩
    · refine mv_iload_n d_TrustDesk_fact_14 rfl rfl ?_
      have := mz_hi x3
      refine mv_if_ltZ (tgt := 25) (a := x3.toInt) d_TrustDesk_fact_15 (by decide) rfl (fun b23 => ?_) (fun b23 => ?_)
      · refine mv_iconst (v := 0) d_TrustDesk_fact_25 (by decide) ?_
        exact mv_iret d_TrustDesk_fact_26 rfl (by decide) ⟨_, I17, _, rfl, by decide, by decide⟩
      · refine mv_iload_n d_TrustDesk_fact_18 rfl rfl ?_
        refine mv_sipush (v := 9999) d_TrustDesk_fact_19 (by decide) ?_
        have := mz_hi x3
        refine mv_icmp_leZ (tgt := 27) (a := x3.toInt) (b := 9999) d_TrustDesk_fact_22 (by decide) rfl (by decide) (fun b24 => ?_) (fun b24 => ?_)
        · refine mv_aload_n d_TrustDesk_fact_27 rfl rfl ?_
          obtain ⟨a26, q25, t_a26⟩ := tm_atR I17 t21 (k := 0) rfl
          refine tr_getK q25 d_TrustDesk_fact_28 f_TrustDesk_10_12 ?_
          refine mv_iload_n d_TrustDesk_fact_31 rfl rfl ?_
          refine mv_iload_n d_TrustDesk_fact_32 rfl rfl ?_
          refine mv_iload_n d_TrustDesk_fact_33 rfl rfl ?_
          refine mv_aload_n d_TrustDesk_fact_34 rfl rfl ?_
          obtain ⟨v28, q27⟩ := tm_atI I17 t21 (k := 12) rfl
          refine tr_getK q27 d_TrustDesk_fact_35 f_TrustDesk_73_12 ?_
          obtain ⟨_, b35, -⟩ := I17.1 _ _ t_a26
          refine mv_callV (kc' := 0) (ks' := 0) (As := [.int x1, .int x2, .int x3, .int v28]) (st9 := [.int v28, .int x3, .int x2, .int x1, .ref a26]) d_TrustDesk_fact_38 lV_TrustDesk_77 b35 rfl (tc_Facts_tell (d := d) (x9 := x9) (o0 := a26) (x1 := x1) (x2 := x2) (x3 := x3) (x4 := v28) t_a26 I17.start) rfl (Nat.le_of_ble_eq_true rfl) (Nat.le_of_ble_eq_true rfl) (Nat.le_of_ble_eq_true rfl) (hst := rfl) (fun b29r M30 n31 b29 => ?_)
          obtain ⟨T32, J33, v36, rfl, b37, b38⟩ := b29
          have I34 := I17.call J33 (tm_sub (by decide)) (Or.inl rfl)
          have t39 := J33.up t21
          have q40 := J33.keep t21 (by decide) q25
          have t41 := J33.up t_a26
          have q42 := J33.keep t21 (by decide) q27
          exact mv_iret d_TrustDesk_fact_41 rfl (mz_nb (by omega) (by omega)) ⟨_, I34, _, rfl, by omega, by omega⟩
        · refine mv_iconst (v := 0) d_TrustDesk_fact_25 (by decide) ?_
          exact mv_iret d_TrustDesk_fact_26 rfl (by decide) ⟨_, I17, _, rfl, by decide, by decide⟩
abbrev kY_TrustDesk_factOf : mj_Y := (⟨"TrustDesk", "factOf", "(III)I"⟩, prog_1_method_3_code, 4, (Option.some Jvm.ClassFile.FieldType.int))
theorem d_TrustDesk_factOf_0 : decode kY_TrustDesk_factOf.2.1 0 = .ok (.iload_n 1, 1) := by decide +kernel
theorem d_TrustDesk_factOf_1 : decode kY_TrustDesk_factOf.2.1 1 = .ok (.invokestatic 66, 3) := by decide +kernel
theorem d_TrustDesk_factOf_4 : decode kY_TrustDesk_factOf.2.1 4 = .ok (.ifCond .eq 18, 3) := by decide +kernel
theorem d_TrustDesk_factOf_22 : decode kY_TrustDesk_factOf.2.1 22 = .ok (.iconst (-1), 1) := by decide +kernel
theorem d_TrustDesk_factOf_23 : decode kY_TrustDesk_factOf.2.1 23 = .ok (.ireturn, 1) := by decide +kernel
theorem d_TrustDesk_factOf_7 : decode kY_TrustDesk_factOf.2.1 7 = .ok (.iload_n 2, 1) := by decide +kernel
theorem d_TrustDesk_factOf_8 : decode kY_TrustDesk_factOf.2.1 8 = .ok (.invokestatic 70, 3) := by decide +kernel
theorem d_TrustDesk_factOf_11 : decode kY_TrustDesk_factOf.2.1 11 = .ok (.ifCond .eq 11, 3) := by decide +kernel
theorem d_TrustDesk_factOf_14 : decode kY_TrustDesk_factOf.2.1 14 = .ok (.aload_n 0, 1) := by decide +kernel
theorem d_TrustDesk_factOf_15 : decode kY_TrustDesk_factOf.2.1 15 = .ok (.iload_n 3, 1) := by decide +kernel
theorem d_TrustDesk_factOf_16 : decode kY_TrustDesk_factOf.2.1 16 = .ok (.invokevirtual 81, 3) := by decide +kernel
theorem d_TrustDesk_factOf_19 : decode kY_TrustDesk_factOf.2.1 19 = .ok (.ifCond .ne 5, 3) := by decide +kernel
theorem d_TrustDesk_factOf_24 : decode kY_TrustDesk_factOf.2.1 24 = .ok (.aload_n 0, 1) := by decide +kernel
theorem d_TrustDesk_factOf_25 : decode kY_TrustDesk_factOf.2.1 25 = .ok (.getfield 10, 3) := by decide +kernel
theorem d_TrustDesk_factOf_28 : decode kY_TrustDesk_factOf.2.1 28 = .ok (.iload_n 1, 1) := by decide +kernel
theorem d_TrustDesk_factOf_29 : decode kY_TrustDesk_factOf.2.1 29 = .ok (.iload_n 2, 1) := by decide +kernel
theorem d_TrustDesk_factOf_30 : decode kY_TrustDesk_factOf.2.1 30 = .ok (.iload_n 3, 1) := by decide +kernel
theorem d_TrustDesk_factOf_31 : decode kY_TrustDesk_factOf.2.1 31 = .ok (.invokevirtual 84, 3) := by decide +kernel
theorem lV_TrustDesk_84 : mj_lV "TrustDesk" 84 kY_Facts_asKnown 3 := ⟨⟨(mj_in1 (List.mem_of_getElem? (i := 329) (by decide +kernel)) rfl), (mj_in1 (List.mem_of_getElem? (i := 2) (by decide +kernel)) rfl), (mj_in1 (List.mem_of_getElem? (i := 332) (by decide +kernel)) rfl), by decide, rfl, by decide⟩, (mj_in1 (List.mem_of_getElem? (i := 330) (by decide +kernel)) rfl), (mj_in1 (List.mem_of_getElem? (i := 331) (by decide +kernel)) rfl)⟩
theorem d_TrustDesk_factOf_34 : decode kY_TrustDesk_factOf.2.1 34 = .ok (.ireturn, 1) := by decide +kernel
def w_TrustDesk_factOf : List Nat := []
theorem tc_TrustDesk_factOf {g : mj_G} {l : Launch} {d : Nat} {T0 : tm_H} {M0 : mj_M} {n0 x9 : Nat} {o0 : Nat} {x1 : Int32} {x2 : Int32} {x3 : Int32} (h_o0 : T0 o0 = some (0, 12, 0)) (I0 : tm_I tm_FT (tm_in w_TrustDesk_factOf) x9 T0 M0 n0 T0 M0 n0) : mj_Met g l kY_TrustDesk_factOf (d + 1) [.ref o0, .int x1, .int x2, .int x3] M0 n0 0 0 (tm_Q tm_FT (tm_in w_TrustDesk_factOf) x9 T0 M0 n0 (fun r _ _ => ∃ v : Int32, r = some (.int v))) := by
  refine mj_enter (by decide) (Nat.le_of_ble_eq_true rfl) ?_
  refine mv_iload_n d_TrustDesk_factOf_0 rfl rfl ?_
  refine mv_callS (kc' := 0) (ks' := 0) (As := [.int x1]) (st9 := [.int x1]) d_TrustDesk_factOf_1 lS_TrustDesk_66 (tc_TrustDesk_isFact (d := d) (x9 := x9) (x1 := x1)  I0.start) rfl (Nat.le_of_ble_eq_true rfl) (Nat.le_of_ble_eq_true rfl) (Nat.le_of_ble_eq_true rfl) (hst := rfl) (fun b1r M2 n3 b1 => ?_)
  obtain ⟨T4, J5, v7, rfl, b8, b9⟩ := b1
  have I6 := I0.call J5 (tm_sub (by decide)) (Or.inl rfl)
  have t10 := J5.up h_o0
  have := mz_hi v7
  refine mv_if_eqZ (tgt := 22) (a := v7.toInt) d_TrustDesk_factOf_4 (by decide) rfl (fun b11 => ?_) (fun b11 => ?_)
  · refine mv_iconst (v := (-1)) d_TrustDesk_factOf_22 (by decide) ?_
    exact mv_iret d_TrustDesk_factOf_23 rfl (by first | rfl | decide) ⟨_, I6, _, rfl⟩
  · refine mv_iload_n d_TrustDesk_factOf_7 rfl rfl ?_
    refine mv_callS (kc' := 0) (ks' := 0) (As := [.int x2]) (st9 := [.int x2]) d_TrustDesk_factOf_8 lS_TrustDesk_70 (tc_TrustDesk_isYear (d := d) (x9 := x9) (x1 := x2)  I6.start) rfl (Nat.le_of_ble_eq_true rfl) (Nat.le_of_ble_eq_true rfl) (Nat.le_of_ble_eq_true rfl) (hst := rfl) (fun b12r M13 n14 b12 => ?_)
    obtain ⟨T15, J16, v18, rfl, b19, b20⟩ := b12
    have I17 := I6.call J16 (tm_sub (by decide)) (Or.inl rfl)
    have t21 := J16.up t10
    have := mz_hi v18
    refine mv_if_eqZ (tgt := 22) (a := v18.toInt) d_TrustDesk_factOf_11 (by decide) rfl (fun b22 => ?_) (fun b22 => ?_)
    · refine mv_iconst (v := (-1)) d_TrustDesk_factOf_22 (by decide) ?_
      exact mv_iret d_TrustDesk_factOf_23 rfl (by first | rfl | decide) ⟨_, I17, _, rfl⟩
    · refine mv_aload_n d_TrustDesk_factOf_14 rfl rfl ?_
      refine mv_iload_n d_TrustDesk_factOf_15 rfl rfl ?_
      obtain ⟨_, b29, -⟩ := I17.1 _ _ t21
      refine mv_callV (kc' := 0) (ks' := 0) (As := [.int x3]) (st9 := [.int x3, .ref o0]) d_TrustDesk_factOf_16 lV_TrustDesk_81 b29 rfl (tc_TrustDesk_isKnown (d := d) (x9 := x9) (o0 := o0) (x1 := x3) t21 I17.start) rfl (Nat.le_of_ble_eq_true rfl) (Nat.le_of_ble_eq_true rfl) (Nat.le_of_ble_eq_true rfl) (hst := rfl) (fun b23r M24 n25 b23 => ?_)
      obtain ⟨T26, J27, v30, rfl, b31, b32⟩ := b23
      have I28 := I17.call J27 (tm_sub (by decide)) (Or.inl rfl)
      have t33 := J27.up t21
      have := mz_hi v30
      refine mv_if_neZ (tgt := 24) (a := v30.toInt) d_TrustDesk_factOf_19 (by decide) rfl (fun b34 => ?_) (fun b34 => ?_)
      · refine mv_aload_n d_TrustDesk_factOf_24 rfl rfl ?_
        obtain ⟨a36, q35, t_a36⟩ := tm_atR I28 t33 (k := 0) rfl
        refine tr_getK q35 d_TrustDesk_factOf_25 f_TrustDesk_10_12 ?_
        refine mv_iload_n d_TrustDesk_factOf_28 rfl rfl ?_
        refine mv_iload_n d_TrustDesk_factOf_29 rfl rfl ?_
        refine mv_iload_n d_TrustDesk_factOf_30 rfl rfl ?_
        obtain ⟨_, b43, -⟩ := I28.1 _ _ t_a36
        refine mv_callV (kc' := 0) (ks' := 0) (As := [.int x1, .int x2, .int x3]) (st9 := [.int x3, .int x2, .int x1, .ref a36]) d_TrustDesk_factOf_31 lV_TrustDesk_84 b43 rfl (tc_Facts_asKnown (d := d) (x9 := x9) (o0 := a36) (x1 := x1) (x2 := x2) (x3 := x3) t_a36 I28.start) rfl (Nat.le_of_ble_eq_true rfl) (Nat.le_of_ble_eq_true rfl) (Nat.le_of_ble_eq_true rfl) (hst := rfl) (fun b37r M38 n39 b37 => ?_)
        obtain ⟨T40, J41, v44, rfl⟩ := b37
        have I42 := I28.call J41 (tm_sub (by decide)) (Or.inl rfl)
        have t45 := J41.up t33
        have q46 := J41.keep t33 (by decide) q35
        have t47 := J41.up t_a36
        exact mv_iret d_TrustDesk_factOf_34 rfl (by first | rfl | decide) ⟨_, I42, _, rfl⟩
      · refine mv_iconst (v := (-1)) d_TrustDesk_factOf_22 (by decide) ?_
        exact mv_iret d_TrustDesk_factOf_23 rfl (by first | rfl | decide) ⟨_, I28, _, rfl⟩
abbrev kY_TrustDesk_failureOf : mj_Y := (⟨"TrustDesk", "failureOf", "(LTrustDesk$Scheme;)I"⟩, prog_1_method_25_code, 4, (Option.some Jvm.ClassFile.FieldType.int))
theorem d_TrustDesk_failureOf_0 : decode kY_TrustDesk_failureOf.2.1 0 = .ok (.aload_n 0, 1) := by decide +kernel
theorem d_TrustDesk_failureOf_1 : decode kY_TrustDesk_failureOf.2.1 1 = .ok (.aload_n 1, 1) := by decide +kernel
theorem d_TrustDesk_failureOf_2 : decode kY_TrustDesk_failureOf.2.1 2 = .ok (.getfield 302, 3) := by decide +kernel
theorem f_TrustDesk_302_11 : mj_fl "TrustDesk" 302 11 1 := ⟨kR_Scheme, kF_Scheme, 12, "TrustDesk$Scheme", rfl, kg_11, by decide, (mj_in1 (List.mem_of_getElem? (i := 970) (by decide +kernel)) rfl), Or.inl rfl⟩
theorem d_TrustDesk_failureOf_5 : decode kY_TrustDesk_failureOf.2.1 5 = .ok (.invokevirtual 257, 3) := by decide +kernel
theorem d_TrustDesk_failureOf_8 : decode kY_TrustDesk_failureOf.2.1 8 = .ok (.astore_n 2, 1) := by decide +kernel
theorem d_TrustDesk_failureOf_9 : decode kY_TrustDesk_failureOf.2.1 9 = .ok (.aload_n 2, 1) := by decide +kernel
theorem d_TrustDesk_failureOf_10 : decode kY_TrustDesk_failureOf.2.1 10 = .ok (.ifnull 12, 3) := by decide +kernel
theorem d_TrustDesk_failureOf_22 : decode kY_TrustDesk_failureOf.2.1 22 = .ok (.iconst 1, 1) := by decide +kernel
theorem d_TrustDesk_failureOf_23 : decode kY_TrustDesk_failureOf.2.1 23 = .ok (.ireturn, 1) := by decide +kernel
theorem d_TrustDesk_failureOf_13 : decode kY_TrustDesk_failureOf.2.1 13 = .ok (.aload_n 0, 1) := by decide +kernel
theorem d_TrustDesk_failureOf_14 : decode kY_TrustDesk_failureOf.2.1 14 = .ok (.aload_n 1, 1) := by decide +kernel
theorem d_TrustDesk_failureOf_15 : decode kY_TrustDesk_failureOf.2.1 15 = .ok (.aload_n 2, 1) := by decide +kernel
theorem d_TrustDesk_failureOf_16 : decode kY_TrustDesk_failureOf.2.1 16 = .ok (.invokevirtual 325, 3) := by decide +kernel
theorem lV_TrustDesk_325 : mj_lV "TrustDesk" 325 kY_TrustDesk_canBe 2 := ⟨⟨(mj_in1 (List.mem_of_getElem? (i := 1057) (by decide +kernel)) rfl), (mj_in1 (List.mem_of_getElem? (i := 1) (by decide +kernel)) rfl), (mj_in1 (List.mem_of_getElem? (i := 1060) (by decide +kernel)) rfl), by decide, rfl, by decide⟩, (mj_in1 (List.mem_of_getElem? (i := 1059) (by decide +kernel)) rfl), (mj_in (List.mem_append_left _ (List.mem_of_getElem? (i := 55) (by decide +kernel))) rfl)⟩
theorem d_TrustDesk_failureOf_19 : decode kY_TrustDesk_failureOf.2.1 19 = .ok (.ifCond .ne 5, 3) := by decide +kernel
theorem d_TrustDesk_failureOf_24 : decode kY_TrustDesk_failureOf.2.1 24 = .ok (.aload_n 0, 1) := by decide +kernel
theorem d_TrustDesk_failureOf_25 : decode kY_TrustDesk_failureOf.2.1 25 = .ok (.aload_n 0, 1) := by decide +kernel
theorem d_TrustDesk_failureOf_26 : decode kY_TrustDesk_failureOf.2.1 26 = .ok (.getfield 73, 3) := by decide +kernel
theorem d_TrustDesk_failureOf_29 : decode kY_TrustDesk_failureOf.2.1 29 = .ok (.invokevirtual 114, 3) := by decide +kernel
theorem d_TrustDesk_failureOf_32 : decode kY_TrustDesk_failureOf.2.1 32 = .ok (.astore_n 3, 1) := by decide +kernel
theorem d_TrustDesk_failureOf_33 : decode kY_TrustDesk_failureOf.2.1 33 = .ok (.aload_n 0, 1) := by decide +kernel
theorem d_TrustDesk_failureOf_34 : decode kY_TrustDesk_failureOf.2.1 34 = .ok (.aload_n 1, 1) := by decide +kernel
theorem d_TrustDesk_failureOf_35 : decode kY_TrustDesk_failureOf.2.1 35 = .ok (.getfield 308, 3) := by decide +kernel
theorem d_TrustDesk_failureOf_38 : decode kY_TrustDesk_failureOf.2.1 38 = .ok (.aload_n 2, 1) := by decide +kernel
theorem d_TrustDesk_failureOf_39 : decode kY_TrustDesk_failureOf.2.1 39 = .ok (.aload_n 3, 1) := by decide +kernel
theorem d_TrustDesk_failureOf_40 : decode kY_TrustDesk_failureOf.2.1 40 = .ok (.invokevirtual 329, 3) := by decide +kernel
abbrev kY_TrustDesk_isBarred : mj_Y := (⟨"TrustDesk", "isBarred", "(ILTrustDesk$Fund;LTrustDesk$Act;)Z"⟩, prog_1_method_28_code, 5, (Option.some Jvm.ClassFile.FieldType.boolean))
theorem d_TrustDesk_isBarred_0 : decode kY_TrustDesk_isBarred.2.1 0 = .ok (.aload_n 0, 1) := by decide +kernel
theorem d_TrustDesk_isBarred_1 : decode kY_TrustDesk_isBarred.2.1 1 = .ok (.getfield 26, 3) := by decide +kernel
theorem d_TrustDesk_isBarred_4 : decode kY_TrustDesk_isBarred.2.1 4 = .ok (.aload_n 0, 1) := by decide +kernel
theorem d_TrustDesk_isBarred_5 : decode kY_TrustDesk_isBarred.2.1 5 = .ok (.getfield 10, 3) := by decide +kernel
theorem d_TrustDesk_isBarred_8 : decode kY_TrustDesk_isBarred.2.1 8 = .ok (.aload_n 0, 1) := by decide +kernel
theorem d_TrustDesk_isBarred_9 : decode kY_TrustDesk_isBarred.2.1 9 = .ok (.getfield 73, 3) := by decide +kernel
theorem d_TrustDesk_isBarred_12 : decode kY_TrustDesk_isBarred.2.1 12 = .ok (.invokestatic 366, 3) := by decide +kernel
theorem d_TrustDesk_isBarred_15 : decode kY_TrustDesk_isBarred.2.1 15 = .ok (.aload_n 0, 1) := by decide +kernel
theorem d_TrustDesk_isBarred_16 : decode kY_TrustDesk_isBarred.2.1 16 = .ok (.getfield 73, 3) := by decide +kernel
theorem d_TrustDesk_isBarred_19 : decode kY_TrustDesk_isBarred.2.1 19 = .ok (.invokevirtual 154, 3) := by decide +kernel
theorem d_TrustDesk_isBarred_22 : decode kY_TrustDesk_isBarred.2.1 22 = .ok (.aload_n 0, 1) := by decide +kernel
theorem d_TrustDesk_isBarred_23 : decode kY_TrustDesk_isBarred.2.1 23 = .ok (.getfield 26, 3) := by decide +kernel
theorem d_TrustDesk_isBarred_26 : decode kY_TrustDesk_isBarred.2.1 26 = .ok (.aload_n 2, 1) := by decide +kernel
theorem d_TrustDesk_isBarred_27 : decode kY_TrustDesk_isBarred.2.1 27 = .ok (.invokevirtual 200, 3) := by decide +kernel
theorem d_TrustDesk_isBarred_30 : decode kY_TrustDesk_isBarred.2.1 30 = .ok (.aload_n 0, 1) := by decide +kernel
theorem d_TrustDesk_isBarred_31 : decode kY_TrustDesk_isBarred.2.1 31 = .ok (.getfield 26, 3) := by decide +kernel
theorem d_TrustDesk_isBarred_34 : decode kY_TrustDesk_isBarred.2.1 34 = .ok (.getfield 180, 3) := by decide +kernel
theorem d_TrustDesk_isBarred_37 : decode kY_TrustDesk_isBarred.2.1 37 = .ok (.bipush 10, 2) := by decide +kernel
theorem d_TrustDesk_isBarred_39 : decode kY_TrustDesk_isBarred.2.1 39 = .ok (.aload_n 2, 1) := by decide +kernel
theorem d_TrustDesk_isBarred_40 : decode kY_TrustDesk_isBarred.2.1 40 = .ok (.iconst 0, 1) := by decide +kernel
theorem d_TrustDesk_isBarred_41 : decode kY_TrustDesk_isBarred.2.1 41 = .ok (.invokevirtual 369, 3) := by decide +kernel
theorem lV_TrustDesk_369 : mj_lV "TrustDesk" 369 kY_Fund_endsIn 1 := ⟨⟨(mj_in1 (List.mem_of_getElem? (i := 1088) (by decide +kernel)) rfl), (mj_in1 (List.mem_of_getElem? (i := 21) (by decide +kernel)) rfl), (mj_in1 (List.mem_of_getElem? (i := 1076) (by decide +kernel)) rfl), by decide, rfl, by decide⟩, (mj_in1 (List.mem_of_getElem? (i := 1074) (by decide +kernel)) rfl), (mj_in1 (List.mem_of_getElem? (i := 1075) (by decide +kernel)) rfl)⟩
theorem d_TrustDesk_isBarred_44 : decode kY_TrustDesk_isBarred.2.1 44 = .ok (.i2l, 1) := by decide +kernel
theorem d_TrustDesk_isBarred_45 : decode kY_TrustDesk_isBarred.2.1 45 = .ok (.lastore, 1) := by decide +kernel
theorem d_TrustDesk_isBarred_46 : decode kY_TrustDesk_isBarred.2.1 46 = .ok (.aload_n 0, 1) := by decide +kernel
theorem d_TrustDesk_isBarred_47 : decode kY_TrustDesk_isBarred.2.1 47 = .ok (.getfield 26, 3) := by decide +kernel
theorem d_TrustDesk_isBarred_50 : decode kY_TrustDesk_isBarred.2.1 50 = .ok (.getfield 180, 3) := by decide +kernel
theorem d_TrustDesk_isBarred_53 : decode kY_TrustDesk_isBarred.2.1 53 = .ok (.bipush 11, 2) := by decide +kernel
theorem d_TrustDesk_isBarred_55 : decode kY_TrustDesk_isBarred.2.1 55 = .ok (.aload_n 2, 1) := by decide +kernel
theorem d_TrustDesk_isBarred_56 : decode kY_TrustDesk_isBarred.2.1 56 = .ok (.iconst 1, 1) := by decide +kernel
theorem d_TrustDesk_isBarred_57 : decode kY_TrustDesk_isBarred.2.1 57 = .ok (.invokevirtual 369, 3) := by decide +kernel
theorem d_TrustDesk_isBarred_60 : decode kY_TrustDesk_isBarred.2.1 60 = .ok (.i2l, 1) := by decide +kernel
theorem d_TrustDesk_isBarred_61 : decode kY_TrustDesk_isBarred.2.1 61 = .ok (.lastore, 1) := by decide +kernel
theorem d_TrustDesk_isBarred_62 : decode kY_TrustDesk_isBarred.2.1 62 = .ok (.aload_n 0, 1) := by decide +kernel
theorem d_TrustDesk_isBarred_63 : decode kY_TrustDesk_isBarred.2.1 63 = .ok (.getfield 26, 3) := by decide +kernel
theorem d_TrustDesk_isBarred_66 : decode kY_TrustDesk_isBarred.2.1 66 = .ok (.getfield 180, 3) := by decide +kernel
theorem d_TrustDesk_isBarred_69 : decode kY_TrustDesk_isBarred.2.1 69 = .ok (.bipush 12, 2) := by decide +kernel
theorem d_TrustDesk_isBarred_71 : decode kY_TrustDesk_isBarred.2.1 71 = .ok (.aload_n 2, 1) := by decide +kernel
theorem d_TrustDesk_isBarred_72 : decode kY_TrustDesk_isBarred.2.1 72 = .ok (.getfield 372, 3) := by decide +kernel
theorem d_TrustDesk_isBarred_75 : decode kY_TrustDesk_isBarred.2.1 75 = .ok (.invokestatic 337, 3) := by decide +kernel
theorem d_TrustDesk_isBarred_78 : decode kY_TrustDesk_isBarred.2.1 78 = .ok (.i2l, 1) := by decide +kernel
theorem d_TrustDesk_isBarred_79 : decode kY_TrustDesk_isBarred.2.1 79 = .ok (.lastore, 1) := by decide +kernel
theorem d_TrustDesk_isBarred_80 : decode kY_TrustDesk_isBarred.2.1 80 = .ok (.iconst 0, 1) := by decide +kernel
theorem d_TrustDesk_isBarred_81 : decode kY_TrustDesk_isBarred.2.1 81 = .ok (.istore 4, 2) := by decide +kernel
theorem d_TrustDesk_isBarred_83 : decode kY_TrustDesk_isBarred.2.1 83 = .ok (.iload 4, 2) := by decide +kernel
theorem d_TrustDesk_isBarred_85 : decode kY_TrustDesk_isBarred.2.1 85 = .ok (.aload_n 3, 1) := by decide +kernel
theorem d_TrustDesk_isBarred_86 : decode kY_TrustDesk_isBarred.2.1 86 = .ok (.getfield 375, 3) := by decide +kernel
theorem f_TrustDesk_375_1 : mj_fl "TrustDesk" 375 1 2 := ⟨kR_Act, kF_Act, 5, "TrustDesk$Act", rfl, kg_1, by decide, (mj_in1 (List.mem_of_getElem? (i := 251) (by decide +kernel)) rfl), Or.inl rfl⟩
theorem d_TrustDesk_isBarred_89 : decode kY_TrustDesk_isBarred.2.1 89 = .ok (.invokevirtual 97, 3) := by decide +kernel
theorem d_TrustDesk_isBarred_92 : decode kY_TrustDesk_isBarred.2.1 92 = .ok (.if_icmp .ge 45, 3) := by decide +kernel
theorem d_TrustDesk_isBarred_137 : decode kY_TrustDesk_isBarred.2.1 137 = .ok (.iconst 0, 1) := by decide +kernel
theorem d_TrustDesk_isBarred_138 : decode kY_TrustDesk_isBarred.2.1 138 = .ok (.ireturn, 1) := by decide +kernel
theorem d_TrustDesk_isBarred_95 : decode kY_TrustDesk_isBarred.2.1 95 = .ok (.aload_n 3, 1) := by decide +kernel
theorem d_TrustDesk_isBarred_96 : decode kY_TrustDesk_isBarred.2.1 96 = .ok (.iload 4, 2) := by decide +kernel
theorem d_TrustDesk_isBarred_98 : decode kY_TrustDesk_isBarred.2.1 98 = .ok (.invokevirtual 378, 3) := by decide +kernel
abbrev kY_Act_barKind : mj_Y := (⟨"TrustDesk$Act", "barKind", "(I)I"⟩, prog_2_method_4_code, 2, (Option.some Jvm.ClassFile.FieldType.int))
theorem d_Act_barKind_0 : decode kY_Act_barKind.2.1 0 = .ok (.iload_n 1, 1) := by decide +kernel
theorem d_Act_barKind_1 : decode kY_Act_barKind.2.1 1 = .ok (.ifCond .lt 18, 3) := by decide +kernel
theorem d_Act_barKind_19 : decode kY_Act_barKind.2.1 19 = .ok (.iconst (-1), 1) := by decide +kernel
theorem d_Act_barKind_20 : decode kY_Act_barKind.2.1 20 = .ok (.ireturn, 1) := by decide +kernel
theorem d_Act_barKind_4 : decode kY_Act_barKind.2.1 4 = .ok (.iload_n 1, 1) := by decide +kernel
theorem d_Act_barKind_5 : decode kY_Act_barKind.2.1 5 = .ok (.bipush 20, 2) := by decide +kernel
theorem d_Act_barKind_7 : decode kY_Act_barKind.2.1 7 = .ok (.if_icmp .ge 12, 3) := by decide +kernel
theorem d_Act_barKind_10 : decode kY_Act_barKind.2.1 10 = .ok (.aload_n 0, 1) := by decide +kernel
theorem d_Act_barKind_11 : decode kY_Act_barKind.2.1 11 = .ok (.getfield 30, 3) := by decide +kernel
theorem d_Act_barKind_14 : decode kY_Act_barKind.2.1 14 = .ok (.iload_n 1, 1) := by decide +kernel
theorem d_Act_barKind_15 : decode kY_Act_barKind.2.1 15 = .ok (.iaload, 1) := by decide +kernel
theorem d_Act_barKind_16 : decode kY_Act_barKind.2.1 16 = .ok (.goto 4, 3) := by decide +kernel
def w_Act_barKind : List Nat := []
theorem tc_Act_barKind {g : mj_G} {l : Launch} {d : Nat} {T0 : tm_H} {M0 : mj_M} {n0 x9 : Nat} {o0 : Nat} {x1 : Int32} (h_o0 : T0 o0 = some (0, 1, 0)) (I0 : tm_I tm_FT (tm_in w_Act_barKind) x9 T0 M0 n0 T0 M0 n0) : mj_Met g l kY_Act_barKind d [.ref o0, .int x1] M0 n0 0 0 (tm_Q tm_FT (tm_in w_Act_barKind) x9 T0 M0 n0 (fun r _ _ => ∃ v : Int32, r = some (.int v))) := by
  refine mj_enter (by decide) (Nat.le_of_ble_eq_true rfl) ?_
  refine mv_iload_n d_Act_barKind_0 rfl rfl ?_
  have := mz_hi x1
  refine mv_if_ltZ (tgt := 19) (a := x1.toInt) d_Act_barKind_1 (by decide) rfl (fun b1 => ?_) (fun b1 => ?_)
  · refine mv_iconst (v := (-1)) d_Act_barKind_19 (by decide) ?_
    exact mv_iret d_Act_barKind_20 rfl (by first | rfl | decide) ⟨_, I0, _, rfl⟩
  · refine mv_iload_n d_Act_barKind_4 rfl rfl ?_
    refine mv_bipush (v := 20) d_Act_barKind_5 (by decide) ?_
    have := mz_hi x1
    refine mv_icmp_geZ (tgt := 19) (a := x1.toInt) (b := 20) d_Act_barKind_7 (by decide) rfl (by decide) (fun b2 => ?_) (fun b2 => ?_)
    · refine mv_iconst (v := (-1)) d_Act_barKind_19 (by decide) ?_
      exact mv_iret d_Act_barKind_20 rfl (by first | rfl | decide) ⟨_, I0, _, rfl⟩
    · refine mv_aload_n d_Act_barKind_10 rfl rfl ?_
      obtain ⟨a4, q3, t_a4⟩ := tm_atR I0 h_o0 (k := 4) rfl
      refine tr_getK q3 d_Act_barKind_11 f_Act_30_1 ?_
      refine mv_iload_n d_Act_barKind_14 rfl rfl ?_
      refine tr_iald I0 t_a4 (by decide) d_Act_barKind_15 (vp_in_iff.mpr (by omega)) (fun v5 => ?_)
      refine mv_goto (tgt := 20) d_Act_barKind_16 (by decide) ?_
      exact mv_iret d_Act_barKind_20 rfl (by first | rfl | decide) ⟨_, I0, _, rfl⟩
theorem lV_TrustDesk_378 : mj_lV "TrustDesk" 378 kY_Act_barKind 1 := ⟨⟨(mj_in1 (List.mem_of_getElem? (i := 1095) (by decide +kernel)) rfl), (mj_in1 (List.mem_of_getElem? (i := 6) (by decide +kernel)) rfl), (mj_in1 (List.mem_of_getElem? (i := 1098) (by decide +kernel)) rfl), by decide, rfl, by decide⟩, (mj_in1 (List.mem_of_getElem? (i := 1096) (by decide +kernel)) rfl), (mj_in1 (List.mem_of_getElem? (i := 1097) (by decide +kernel)) rfl)⟩
theorem d_TrustDesk_isBarred_101 : decode kY_TrustDesk_isBarred.2.1 101 = .ok (.iload_n 1, 1) := by decide +kernel
theorem d_TrustDesk_isBarred_102 : decode kY_TrustDesk_isBarred.2.1 102 = .ok (.if_icmp .ne 29, 3) := by decide +kernel
theorem d_TrustDesk_isBarred_131 : decode kY_TrustDesk_isBarred.2.1 131 = .ok (.iinc 4 1, 3) := by decide +kernel
theorem d_TrustDesk_isBarred_134 : decode kY_TrustDesk_isBarred.2.1 134 = .ok (.goto (-51), 3) := by decide +kernel
theorem d_TrustDesk_isBarred_105 : decode kY_TrustDesk_isBarred.2.1 105 = .ok (.aload_n 0, 1) := by decide +kernel
theorem d_TrustDesk_isBarred_106 : decode kY_TrustDesk_isBarred.2.1 106 = .ok (.getfield 26, 3) := by decide +kernel
theorem d_TrustDesk_isBarred_109 : decode kY_TrustDesk_isBarred.2.1 109 = .ok (.aload_n 3, 1) := by decide +kernel
theorem d_TrustDesk_isBarred_110 : decode kY_TrustDesk_isBarred.2.1 110 = .ok (.getfield 375, 3) := by decide +kernel
theorem d_TrustDesk_isBarred_113 : decode kY_TrustDesk_isBarred.2.1 113 = .ok (.iload 4, 2) := by decide +kernel
theorem d_TrustDesk_isBarred_115 : decode kY_TrustDesk_isBarred.2.1 115 = .ok (.invokevirtual 158, 3) := by decide +kernel
theorem d_TrustDesk_isBarred_118 : decode kY_TrustDesk_isBarred.2.1 118 = .ok (.checkcast 381, 3) := by decide +kernel
theorem d_TrustDesk_isBarred_121 : decode kY_TrustDesk_isBarred.2.1 121 = .ok (.invokevirtual 214, 3) := by decide +kernel
theorem d_TrustDesk_isBarred_124 : decode kY_TrustDesk_isBarred.2.1 124 = .ok (.lconst 0, 1) := by decide +kernel
theorem d_TrustDesk_isBarred_125 : decode kY_TrustDesk_isBarred.2.1 125 = .ok (.lcmp, 1) := by decide +kernel
theorem d_TrustDesk_isBarred_126 : decode kY_TrustDesk_isBarred.2.1 126 = .ok (.ifCond .eq 5, 3) := by decide +kernel
theorem d_TrustDesk_isBarred_129 : decode kY_TrustDesk_isBarred.2.1 129 = .ok (.iconst 1, 1) := by decide +kernel
theorem d_TrustDesk_isBarred_130 : decode kY_TrustDesk_isBarred.2.1 130 = .ok (.ireturn, 1) := by decide +kernel
def w_TrustDesk_isBarred : List Nat := [1001, 1003, 1004, 1050, 1052]
theorem tc_TrustDesk_isBarred {g : mj_G} {l : Launch} {d : Nat} {T0 : tm_H} {M0 : mj_M} {n0 x9 : Nat} {o0 : Nat} {x1 : Int32} {o2 : Nat} {o3 : Nat} (h_o0 : T0 o0 = some (0, 12, 0)) (h_o2 : T0 o2 = some (0, 6, 0)) (h_o3 : T0 o3 = some (0, 1, 0)) (I0 : tm_I tm_FT (tm_in w_TrustDesk_isBarred) x9 T0 M0 n0 T0 M0 n0) : mj_Met g l kY_TrustDesk_isBarred (d + 4) [.ref o0, .int x1, .ref o2, .ref o3] M0 n0 0 0 (tm_Q tm_FT (tm_in w_TrustDesk_isBarred) x9 T0 M0 n0 (fun r _ _ => ∃ v : Int32, r = some (.int v) ∧ 0 ≤ v.toInt ∧ v.toInt ≤ 1)) := by
  refine mj_enter (by decide) (Nat.le_of_ble_eq_true rfl) ?_
  refine mv_aload_n d_TrustDesk_isBarred_0 rfl rfl ?_
  obtain ⟨a2, q1, t_a2⟩ := tm_atR I0 h_o0 (k := 2) rfl
  refine tr_getK q1 d_TrustDesk_isBarred_1 f_TrustDesk_26_12 ?_
  refine mv_aload_n d_TrustDesk_isBarred_4 rfl rfl ?_
  obtain ⟨a4, q3, t_a4⟩ := tm_atR I0 h_o0 (k := 0) rfl
  refine tr_getK q3 d_TrustDesk_isBarred_5 f_TrustDesk_10_12 ?_
  refine mv_aload_n d_TrustDesk_isBarred_8 rfl rfl ?_
  obtain ⟨v6, q5⟩ := tm_atI I0 h_o0 (k := 12) rfl
  refine tr_getK q5 d_TrustDesk_isBarred_9 f_TrustDesk_73_12 ?_
  refine mv_callS (kc' := 0) (ks' := 0) (As := [.int v6]) (st9 := [.int v6, .ref a4, .ref a2]) d_TrustDesk_isBarred_12 lS_TrustDesk_366 (tc_TrustDesk_yearOf (d := (d + 3)) (x9 := x9) (x1 := v6)  I0.start) rfl (Nat.le_of_ble_eq_true rfl) (Nat.le_of_ble_eq_true rfl) (Nat.le_of_ble_eq_true rfl) (hst := rfl) (fun b7r M8 n9 b7 => ?_)
  obtain ⟨T10, J11, v13, rfl⟩ := b7
  have I12 := I0.call J11 (tm_sub (by decide)) (Or.inl rfl)
  have t14 := J11.up h_o0
  have t15 := J11.up h_o2
  have t16 := J11.up h_o3
  have t17 := J11.up t_a4
  have t18 := J11.up t_a2
  have q19 := J11.keep h_o0 (by decide) q1
  have q20 := J11.keep h_o0 (by decide) q3
  have q21 := J11.keep h_o0 (by decide) q5
  refine mv_aload_n d_TrustDesk_isBarred_15 rfl rfl ?_
  refine tr_getK (k := 12) q21 d_TrustDesk_isBarred_16 f_TrustDesk_73_12 ?_
  obtain ⟨_, b28, -⟩ := I12.1 _ _ t18
  refine mv_callV (kc' := 0) (ks' := 0) (As := [.ref a4, .int v13, .int v6]) (st9 := [.int v6, .int v13, .ref a4, .ref a2]) d_TrustDesk_isBarred_19 lV_TrustDesk_154 b28 rfl (tc_Reckoner_know (d := (d + 2)) (x9 := x9) (o0 := a2) (o1 := a4) (x2 := v13) (x3 := v6) t18 t17 I12.start) rfl (Nat.le_of_ble_eq_true rfl) (Nat.le_of_ble_eq_true rfl) (Nat.le_of_ble_eq_true rfl) (hst := rfl) (fun b22r M23 n24 b22 => ?_)
  obtain ⟨T25, J26, rfl⟩ := b22
  have I27 := I12.call J26 (tm_sub (by decide)) (Or.inl rfl)
  have t29 := J26.up t14
  have t30 := J26.up t15
  have t31 := J26.up t16
  have q32 := J26.keep t14 (by decide) q19
  have t33 := J26.up t18
  have q34 := J26.keep t14 (by decide) q20
  have t35 := J26.up t17
  have q36 := J26.keep t14 (by decide) q21
  refine mv_aload_n d_TrustDesk_isBarred_22 rfl rfl ?_
  refine tr_getK (k := 2) q32 d_TrustDesk_isBarred_23 f_TrustDesk_26_12 ?_
  refine mv_aload_n d_TrustDesk_isBarred_26 rfl rfl ?_
  obtain ⟨_, b43, -⟩ := I27.1 _ _ t33
  refine mv_callV (kc' := 0) (ks' := 0) (As := [.ref o2]) (st9 := [.ref o2, .ref a2]) d_TrustDesk_isBarred_27 lV_TrustDesk_200 b43 rfl (tc_Reckoner_knowFund (d := (d + 2)) (x9 := x9) (o0 := a2) (o1 := o2) t33 t30 I27.start) rfl (Nat.le_of_ble_eq_true rfl) (Nat.le_of_ble_eq_true rfl) (Nat.le_of_ble_eq_true rfl) (hst := rfl) (fun b37r M38 n39 b37 => ?_)
  obtain ⟨T40, J41, rfl⟩ := b37
  have I42 := I27.call J41 (tm_sub (by decide)) (Or.inl rfl)
  have t44 := J41.up t29
  have t45 := J41.up t30
  have t46 := J41.up t31
  have q47 := J41.keep t29 (by decide) q32
  have t48 := J41.up t33
  have q49 := J41.keep t29 (by decide) q34
  have t50 := J41.up t35
  have q51 := J41.keep t29 (by decide) q36
  refine mv_aload_n d_TrustDesk_isBarred_30 rfl rfl ?_
  refine tr_getK (k := 2) q47 d_TrustDesk_isBarred_31 f_TrustDesk_26_12 ?_
  obtain ⟨a53, q52, t_a53⟩ := tm_atR I42 t48 (k := 0) rfl
  refine tr_getK q52 d_TrustDesk_isBarred_34 f_TrustDesk_180_10 ?_
  refine mv_bipush (v := 10) d_TrustDesk_isBarred_37 (by decide) ?_
  refine mv_aload_n d_TrustDesk_isBarred_39 rfl rfl ?_
  refine mv_iconst (v := 0) d_TrustDesk_isBarred_40 (by decide) ?_
  obtain ⟨_, b60, -⟩ := I42.1 _ _ t45
  refine mv_callV (kc' := 0) (ks' := 0) (As := [.int 0]) (st9 := [.int 0, .ref o2, .int 10, .ref a53]) d_TrustDesk_isBarred_41 lV_TrustDesk_369 b60 rfl (tc_Fund_endsIn (d := d) (x9 := x9) (o0 := o2) (x1 := 0) t45 I42.start) rfl (Nat.le_of_ble_eq_true rfl) (Nat.le_of_ble_eq_true rfl) (Nat.le_of_ble_eq_true rfl) (hst := rfl) (fun b54r M55 n56 b54 => ?_)
  obtain ⟨T57, J58, v61, rfl⟩ := b54
  have I59 := I42.call J58 (tm_sub (by decide)) (Or.inl rfl)
  have t62 := J58.up t44
  have t63 := J58.up t45
  have t64 := J58.up t46
  have t65 := J58.up t_a53
  have q66 := J58.keep t44 (by decide) q47
  have t67 := J58.up t48
  have q68 := J58.keep t44 (by decide) q49
  have t69 := J58.up t50
  have q70 := J58.keep t44 (by decide) q51
  have q71 := J58.keep t48 (by decide) q52
  refine mv_i2l (v := v61.toInt64) d_TrustDesk_isBarred_44 rfl ?_
  refine tr_lastK tm_okF I59 t65 (by decide) (Or.inl (by decide)) d_TrustDesk_isBarred_45 (by unfold vp_in; decide) (fun M72 I73 K74 => ?_)
  refine mv_aload_n d_TrustDesk_isBarred_46 rfl rfl ?_
  refine tr_getK (k := 2) (K74 _ 12 2 _ q66) d_TrustDesk_isBarred_47 f_TrustDesk_26_12 ?_
  refine tr_getK (k := 0) (K74 _ 10 0 _ q71) d_TrustDesk_isBarred_50 f_TrustDesk_180_10 ?_
  refine mv_bipush (v := 11) d_TrustDesk_isBarred_53 (by decide) ?_
  refine mv_aload_n d_TrustDesk_isBarred_55 rfl rfl ?_
  refine mv_iconst (v := 1) d_TrustDesk_isBarred_56 (by decide) ?_
  obtain ⟨_, b81, -⟩ := I73.1 _ _ t63
  refine mv_callV (kc' := 0) (ks' := 0) (As := [.int 1]) (st9 := [.int 1, .ref o2, .int 11, .ref a53]) d_TrustDesk_isBarred_57 lV_TrustDesk_369 b81 rfl (tc_Fund_endsIn (d := d) (x9 := x9) (o0 := o2) (x1 := 1) t63 I73.start) rfl (Nat.le_of_ble_eq_true rfl) (Nat.le_of_ble_eq_true rfl) (Nat.le_of_ble_eq_true rfl) (hst := rfl) (fun b75r M76 n77 b75 => ?_)
  obtain ⟨T78, J79, v82, rfl⟩ := b75
  have I80 := I73.call J79 (tm_sub (by decide)) (Or.inl rfl)
  have t83 := J79.up t62
  have t84 := J79.up t63
  have t85 := J79.up t64
  have t86 := J79.up t65
  have q87 := J79.keep t62 (by decide) (K74 _ 12 2 _ q66)
  have t88 := J79.up t67
  have q89 := J79.keep t62 (by decide) (K74 _ 12 0 _ q68)
  have t90 := J79.up t69
  have q91 := J79.keep t62 (by decide) (K74 _ 12 12 _ q70)
  have q92 := J79.keep t67 (by decide) (K74 _ 10 0 _ q71)
  refine mv_i2l (v := v82.toInt64) d_TrustDesk_isBarred_60 rfl ?_
  refine tr_lastK tm_okF I80 t86 (by decide) (Or.inl (by decide)) d_TrustDesk_isBarred_61 (by unfold vp_in; decide) (fun M93 I94 K95 => ?_)
  refine mv_aload_n d_TrustDesk_isBarred_62 rfl rfl ?_
  refine tr_getK (k := 2) (K95 _ 12 2 _ q87) d_TrustDesk_isBarred_63 f_TrustDesk_26_12 ?_
  refine tr_getK (k := 0) (K95 _ 10 0 _ q92) d_TrustDesk_isBarred_66 f_TrustDesk_180_10 ?_
  refine mv_bipush (v := 12) d_TrustDesk_isBarred_69 (by decide) ?_
  refine mv_aload_n d_TrustDesk_isBarred_71 rfl rfl ?_
  obtain ⟨v97, q96⟩ := tm_atI I94 t84 (k := 4) rfl
  refine tr_getK q96 d_TrustDesk_isBarred_72 f_TrustDesk_372_6 ?_
  refine mv_callS (kc' := 0) (ks' := 0) (As := [.int v97]) (st9 := [.int v97, .int 12, .ref a53]) d_TrustDesk_isBarred_75 lS_TrustDesk_337 (tc_Integer_bitCount (d := (d + 3)) (x9 := x9) (x1 := v97)  I94.start) rfl (Nat.le_of_ble_eq_true rfl) (Nat.le_of_ble_eq_true rfl) (Nat.le_of_ble_eq_true rfl) (hst := rfl) (fun b98r M99 n100 b98 => ?_)
  obtain ⟨T101, J102, v104, rfl⟩ := b98
  have I103 := I94.call J102 (tm_sub (by decide)) (Or.inl rfl)
  have t105 := J102.up t83
  have t106 := J102.up t84
  have t107 := J102.up t85
  have t108 := J102.up t86
  have q109 := J102.keep t83 (by decide) (K95 _ 12 2 _ q87)
  have t110 := J102.up t88
  have q111 := J102.keep t83 (by decide) (K95 _ 12 0 _ q89)
  have t112 := J102.up t90
  have q113 := J102.keep t83 (by decide) (K95 _ 12 12 _ q91)
  have q114 := J102.keep t88 (by decide) (K95 _ 10 0 _ q92)
  have q115 := J102.keep t84 (by decide) q96
  refine mv_i2l (v := v104.toInt64) d_TrustDesk_isBarred_78 rfl ?_
  refine tr_lastK tm_okF I103 t108 (by decide) (Or.inl (by decide)) d_TrustDesk_isBarred_79 (by unfold vp_in; decide) (fun M116 I117 K118 => ?_)
  refine mv_iconst (v := 0) d_TrustDesk_isBarred_80 (by decide) ?_
  refine mv_istore (lv' := [(4, .int 0), (0, .ref o0), (1, .int x1), (2, .ref o2), (3, .ref o3)]) d_TrustDesk_isBarred_81 (by decide) rfl ?_
  have L83_119 : ∀ (k : Nat) (i4_119 : Int32) (T_119 : tm_H) (M_119 : mj_M) (n_119 : Nat), tm_I tm_FT (tm_in w_TrustDesk_isBarred) x9 T0 M0 n0 T_119 M_119 n_119 → T_119 o0 = some (0, 12, 0) → T_119 o2 = some (0, 6, 0) → T_119 o3 = some (0, 1, 0) → 0 ≤ i4_119.toInt → 2147483647 - i4_119.toInt < (k : Int) → mj_V g l kY_TrustDesk_isBarred (d + 4) 83 [(4, .int i4_119), (0, .ref o0), (1, .int x1), (2, .ref o2), (3, .ref o3)] [] M_119 n_119 0 0 (tm_Q tm_FT (tm_in w_TrustDesk_isBarred) x9 T0 M0 n0 (fun r _ _ => ∃ v : Int32, r = some (.int v) ∧ 0 ≤ v.toInt ∧ v.toInt ≤ 1)) := by
    intro k119
    induction k119 with
    | zero =>
      intro i4_119 T_119 M_119 n_119 I_119 h_q0_119 h_q2_119 h_q3_119 iv0_119 hk119
      have := mz_hi i4_119
      omega
    | succ k119 ih119 =>
      intro i4_119 T_119 M_119 n_119 I_119 h_q0_119 h_q2_119 h_q3_119 iv0_119 hk119
      refine mv_iload d_TrustDesk_isBarred_83 rfl ?_
      refine mv_aload_n d_TrustDesk_isBarred_85 rfl rfl ?_
      obtain ⟨a121, q120, t_a121⟩ := tm_atO I_119 h_q3_119 (k := 2) rfl
      refine tr_getK q120 d_TrustDesk_isBarred_86 f_TrustDesk_375_1 ?_
      obtain ⟨m123, n127, e124, N125, f126, h122⟩ := I_119.1 _ _ t_a121
      have := h122.2.1
      have : n127.toInt ≤ 20 := h122.2.2.1
      have q128 : tm_at M_119 a121 0 2 (.int n127) := ⟨_, h122.1, rfl⟩
      refine mv_callV_s (kc' := 0) (ks' := 0) [] [.ref a121, .int i4_119] d_TrustDesk_isBarred_89 lV_TrustDesk_97 h122.1 rfl (tc_L_size (d := (d + 3)) h122.1) rfl (Nat.le_of_ble_eq_true rfl) (Nat.le_of_ble_eq_true rfl) (Nat.le_of_ble_eq_true rfl) rfl ?_
      have := mz_hi i4_119
      have := mz_hi n127
      refine mv_icmp_geZ (tgt := 137) (a := i4_119.toInt) (b := n127.toInt) d_TrustDesk_isBarred_92 (by decide) rfl rfl (fun b129 => ?_) (fun b129 => ?_)
      · refine mv_iconst (v := 0) d_TrustDesk_isBarred_137 (by decide) ?_
        exact mv_iret d_TrustDesk_isBarred_138 rfl (by decide) ⟨_, I_119, _, rfl, by decide, by decide⟩
      · refine mv_aload_n d_TrustDesk_isBarred_95 rfl rfl ?_
        refine mv_iload d_TrustDesk_isBarred_96 rfl ?_
        obtain ⟨_, b136, -⟩ := I_119.1 _ _ h_q3_119
        refine mv_callV (kc' := 0) (ks' := 0) (As := [.int i4_119]) (st9 := [.int i4_119, .ref o3]) d_TrustDesk_isBarred_98 lV_TrustDesk_378 b136 rfl (tc_Act_barKind (d := (d + 3)) (x9 := x9) (o0 := o3) (x1 := i4_119) h_q3_119 I_119.start) rfl (Nat.le_of_ble_eq_true rfl) (Nat.le_of_ble_eq_true rfl) (Nat.le_of_ble_eq_true rfl) (hst := rfl) (fun b130r M131 n132 b130 => ?_)
        obtain ⟨T133, J134, v137, rfl⟩ := b130
        have I135 := I_119.call J134 (tm_sub (by decide)) (Or.inl rfl)
        have t138 := J134.up h_q0_119
        have t139 := J134.up h_q2_119
        have t140 := J134.up h_q3_119
        have q141 := J134.keep h_q3_119 (by decide) q120
        have t142 := J134.up t_a121
        have q143 := J134.keepL t_a121 (by decide) q128
        refine mv_iload_n d_TrustDesk_isBarred_101 rfl rfl ?_
        have := mz_hi v137
        have := mz_hi x1
        refine mv_icmp_neZ (tgt := 131) (a := v137.toInt) (b := x1.toInt) d_TrustDesk_isBarred_102 (by decide) rfl rfl (fun b144 => ?_) (fun b144 => ?_)
        · refine mv_iinc (v := (i4_119 + 1)) (lv' := [(4, .int (i4_119 + 1)), (0, .ref o0), (1, .int x1), (2, .ref o2), (3, .ref o3)]) d_TrustDesk_isBarred_131 rfl rfl (by decide) rfl ?_
          refine mv_goto (tgt := 83) d_TrustDesk_isBarred_134 (by decide) ?_
          have b145 : (i4_119 + 1).toInt = i4_119.toInt + 1 := mz_addn 1 1 (by decide) (by have := mz_lo i4_119; omega) (by have := mz_hi i4_119; omega)
          exact (ih119 (i4_119 + 1) T133 M131 n132 I135 t138 t139 t140 (by first | omega | decide) (by omega))
        · refine mv_aload_n d_TrustDesk_isBarred_105 rfl rfl ?_
          obtain ⟨a147, q146, t_a147⟩ := tm_atR I135 t138 (k := 2) rfl
          refine tr_getK q146 d_TrustDesk_isBarred_106 f_TrustDesk_26_12 ?_
          refine mv_aload_n d_TrustDesk_isBarred_109 rfl rfl ?_
          refine tr_getK (k := 2) q141 d_TrustDesk_isBarred_110 f_TrustDesk_375_1 ?_
          refine mv_iload d_TrustDesk_isBarred_113 rfl ?_
          obtain ⟨m149, e150, N151, f152, h148⟩ := tm_lsn I135 t142 q143
          obtain ⟨u153e, u153i, a154, u153f, u153t⟩ := tm_el (i := i4_119) h148 (by omega) (by omega)
          have t_a154 : T133 a154 = some (0, 2, 0) := u153t
          refine mv_callV_s (kc' := 0) (ks' := 0) [.int i4_119] [.int i4_119, .ref a121, .ref a147] d_TrustDesk_isBarred_115 lV_TrustDesk_158 h148.1 rfl (tc_L_get (d := (d + 1)) h148.1 u153e (by omega) (by omega) u153i u153f) rfl (Nat.le_of_ble_eq_true rfl) (Nat.le_of_ble_eq_true rfl) (Nat.le_of_ble_eq_true rfl) rfl ?_
          obtain ⟨_, b155, -⟩ := I135.1 _ _ t_a154
          refine mv_castS (T9 := kF_Code) (N := 1) d_TrustDesk_isBarred_118 (mj_in1 (List.mem_of_getElem? (i := 1099) (by decide +kernel)) rfl) b155 rfl ?_
          obtain ⟨_, b162, -⟩ := I135.1 _ _ t_a147
          refine mv_callV (kc' := 0) (ks' := 0) (As := [.ref a154]) (st9 := [.ref a154, .ref a147]) d_TrustDesk_isBarred_121 lV_TrustDesk_214 b162 rfl (tc_Reckoner_run (d := d) (x9 := x9) (o0 := a147) (o1 := a154) t_a147 t_a154 I135.start) rfl (Nat.le_of_ble_eq_true rfl) (Nat.le_of_ble_eq_true rfl) (Nat.le_of_ble_eq_true rfl) (hst := rfl) (fun b156r M157 n158 b156 => ?_)
          obtain ⟨T159, J160, v163, rfl⟩ := b156
          have I161 := I135.call J160 (tm_sub (by decide)) (Or.inl rfl)
          have t164 := J160.up t138
          have t165 := J160.up t139
          have t166 := J160.up t140
          have q167 := J160.keep t140 (by decide) q141
          have t168 := J160.up t142
          have q169 := J160.keepL t142 (by decide) q143
          have q170 := J160.keep t138 (by decide) q146
          have t171 := J160.up t_a147
          refine mv_lconst (v := 0) d_TrustDesk_isBarred_124 (by decide) ?_
          refine mv_leqZ (tgt := 131) (a := v163.toInt) (b := 0) d_TrustDesk_isBarred_125 d_TrustDesk_isBarred_126 (by decide) rfl (by decide) (fun b172 => ?_) (fun b172 => ?_)
          · refine mv_iinc (v := (i4_119 + 1)) (lv' := [(4, .int (i4_119 + 1)), (0, .ref o0), (1, .int x1), (2, .ref o2), (3, .ref o3)]) d_TrustDesk_isBarred_131 rfl rfl (by decide) rfl ?_
            refine mv_goto (tgt := 83) d_TrustDesk_isBarred_134 (by decide) ?_
            have b173 : (i4_119 + 1).toInt = i4_119.toInt + 1 := mz_addn 1 1 (by decide) (by have := mz_lo i4_119; omega) (by have := mz_hi i4_119; omega)
            exact (ih119 (i4_119 + 1) T159 M157 n158 I161 t164 t165 t166 (by first | omega | decide) (by omega))
          · refine mv_iconst (v := 1) d_TrustDesk_isBarred_129 (by decide) ?_
            exact mv_iret d_TrustDesk_isBarred_130 rfl (by decide) ⟨_, I161, _, rfl, by decide, by decide⟩
  exact mv_less (Nat.zero_le _) (Nat.zero_le _) (L83_119 4294967296 0 T101 M116 n100 I117 t105 t106 t107 (by first | omega | decide) (by show (2147483647 - (0 : Int) : Int) < _; decide))
theorem lV_TrustDesk_329 : mj_lV "TrustDesk" 329 kY_TrustDesk_isBarred 3 := ⟨⟨(mj_in1 (List.mem_of_getElem? (i := 1081) (by decide +kernel)) rfl), (mj_in1 (List.mem_of_getElem? (i := 1) (by decide +kernel)) rfl), (mj_in1 (List.mem_of_getElem? (i := 1084) (by decide +kernel)) rfl), by decide, rfl, by decide⟩, (mj_in1 (List.mem_of_getElem? (i := 1083) (by decide +kernel)) rfl), (mj_in (List.mem_append_left _ (List.mem_of_getElem? (i := 57) (by decide +kernel))) rfl)⟩
theorem d_TrustDesk_failureOf_43 : decode kY_TrustDesk_failureOf.2.1 43 = .ok (.ifCond .eq 5, 3) := by decide +kernel
theorem d_TrustDesk_failureOf_48 : decode kY_TrustDesk_failureOf.2.1 48 = .ok (.aload_n 0, 1) := by decide +kernel
theorem d_TrustDesk_failureOf_49 : decode kY_TrustDesk_failureOf.2.1 49 = .ok (.aload_n 1, 1) := by decide +kernel
theorem d_TrustDesk_failureOf_50 : decode kY_TrustDesk_failureOf.2.1 50 = .ok (.aload_n 2, 1) := by decide +kernel
theorem d_TrustDesk_failureOf_51 : decode kY_TrustDesk_failureOf.2.1 51 = .ok (.invokevirtual 333, 3) := by decide +kernel
abbrev kY_TrustDesk_marksLeft : mj_Y := (⟨"TrustDesk", "marksLeft", "(LTrustDesk$Scheme;LTrustDesk$Fund;)I"⟩, prog_1_method_29_code, 4, (Option.some Jvm.ClassFile.FieldType.int))
theorem d_TrustDesk_marksLeft_0 : decode kY_TrustDesk_marksLeft.2.1 0 = .ok (.aload_n 1, 1) := by decide +kernel
theorem d_TrustDesk_marksLeft_1 : decode kY_TrustDesk_marksLeft.2.1 1 = .ok (.getfield 308, 3) := by decide +kernel
theorem d_TrustDesk_marksLeft_4 : decode kY_TrustDesk_marksLeft.2.1 4 = .ok (.ifCond .ne 30, 3) := by decide +kernel
theorem d_TrustDesk_marksLeft_34 : decode kY_TrustDesk_marksLeft.2.1 34 = .ok (.aload_n 1, 1) := by decide +kernel
theorem d_TrustDesk_marksLeft_35 : decode kY_TrustDesk_marksLeft.2.1 35 = .ok (.getfield 308, 3) := by decide +kernel
theorem d_TrustDesk_marksLeft_38 : decode kY_TrustDesk_marksLeft.2.1 38 = .ok (.iconst 1, 1) := by decide +kernel
theorem d_TrustDesk_marksLeft_39 : decode kY_TrustDesk_marksLeft.2.1 39 = .ok (.if_icmp .ne 30, 3) := by decide +kernel
theorem d_TrustDesk_marksLeft_69 : decode kY_TrustDesk_marksLeft.2.1 69 = .ok (.aload_n 2, 1) := by decide +kernel
theorem d_TrustDesk_marksLeft_70 : decode kY_TrustDesk_marksLeft.2.1 70 = .ok (.getfield 372, 3) := by decide +kernel
theorem d_TrustDesk_marksLeft_73 : decode kY_TrustDesk_marksLeft.2.1 73 = .ok (.ireturn, 1) := by decide +kernel
theorem d_TrustDesk_marksLeft_42 : decode kY_TrustDesk_marksLeft.2.1 42 = .ok (.aload_n 0, 1) := by decide +kernel
theorem d_TrustDesk_marksLeft_43 : decode kY_TrustDesk_marksLeft.2.1 43 = .ok (.aload_n 1, 1) := by decide +kernel
theorem d_TrustDesk_marksLeft_44 : decode kY_TrustDesk_marksLeft.2.1 44 = .ok (.getfield 311, 3) := by decide +kernel
theorem d_TrustDesk_marksLeft_47 : decode kY_TrustDesk_marksLeft.2.1 47 = .ok (.invokevirtual 257, 3) := by decide +kernel
theorem d_TrustDesk_marksLeft_50 : decode kY_TrustDesk_marksLeft.2.1 50 = .ok (.astore_n 3, 1) := by decide +kernel
theorem d_TrustDesk_marksLeft_51 : decode kY_TrustDesk_marksLeft.2.1 51 = .ok (.aload_n 3, 1) := by decide +kernel
theorem d_TrustDesk_marksLeft_52 : decode kY_TrustDesk_marksLeft.2.1 52 = .ok (.ifnonnull 7, 3) := by decide +kernel
theorem d_TrustDesk_marksLeft_55 : decode kY_TrustDesk_marksLeft.2.1 55 = .ok (.iconst 0, 1) := by decide +kernel
theorem d_TrustDesk_marksLeft_56 : decode kY_TrustDesk_marksLeft.2.1 56 = .ok (.goto 12, 3) := by decide +kernel
theorem d_TrustDesk_marksLeft_68 : decode kY_TrustDesk_marksLeft.2.1 68 = .ok (.ireturn, 1) := by decide +kernel
theorem d_TrustDesk_marksLeft_59 : decode kY_TrustDesk_marksLeft.2.1 59 = .ok (.aload_n 3, 1) := by decide +kernel
theorem d_TrustDesk_marksLeft_60 : decode kY_TrustDesk_marksLeft.2.1 60 = .ok (.getfield 372, 3) := by decide +kernel
theorem d_TrustDesk_marksLeft_63 : decode kY_TrustDesk_marksLeft.2.1 63 = .ok (.aload_n 2, 1) := by decide +kernel
theorem d_TrustDesk_marksLeft_64 : decode kY_TrustDesk_marksLeft.2.1 64 = .ok (.getfield 372, 3) := by decide +kernel
theorem d_TrustDesk_marksLeft_67 : decode kY_TrustDesk_marksLeft.2.1 67 = .ok (.iand, 1) := by decide +kernel
theorem d_TrustDesk_marksLeft_7 : decode kY_TrustDesk_marksLeft.2.1 7 = .ok (.aload_n 0, 1) := by decide +kernel
theorem d_TrustDesk_marksLeft_8 : decode kY_TrustDesk_marksLeft.2.1 8 = .ok (.aload_n 1, 1) := by decide +kernel
theorem d_TrustDesk_marksLeft_9 : decode kY_TrustDesk_marksLeft.2.1 9 = .ok (.getfield 311, 3) := by decide +kernel
theorem d_TrustDesk_marksLeft_12 : decode kY_TrustDesk_marksLeft.2.1 12 = .ok (.invokevirtual 276, 3) := by decide +kernel
abbrev kY_TrustDesk_nearAt : mj_Y := (⟨"TrustDesk", "nearAt", "(I)LTrustDesk$NearEnd;"⟩, prog_1_method_62_code, 2, (Option.some (Jvm.ClassFile.FieldType.object "TrustDesk$NearEnd")))
theorem d_TrustDesk_nearAt_0 : decode kY_TrustDesk_nearAt.2.1 0 = .ok (.iload_n 1, 1) := by decide +kernel
theorem d_TrustDesk_nearAt_1 : decode kY_TrustDesk_nearAt.2.1 1 = .ok (.ifCond .lt 28, 3) := by decide +kernel
theorem d_TrustDesk_nearAt_29 : decode kY_TrustDesk_nearAt.2.1 29 = .ok (.aconst_null, 1) := by decide +kernel
theorem d_TrustDesk_nearAt_30 : decode kY_TrustDesk_nearAt.2.1 30 = .ok (.areturn, 1) := by decide +kernel
theorem d_TrustDesk_nearAt_4 : decode kY_TrustDesk_nearAt.2.1 4 = .ok (.iload_n 1, 1) := by decide +kernel
theorem d_TrustDesk_nearAt_5 : decode kY_TrustDesk_nearAt.2.1 5 = .ok (.aload_n 0, 1) := by decide +kernel
theorem d_TrustDesk_nearAt_6 : decode kY_TrustDesk_nearAt.2.1 6 = .ok (.getfield 56, 3) := by decide +kernel
theorem d_TrustDesk_nearAt_9 : decode kY_TrustDesk_nearAt.2.1 9 = .ok (.invokevirtual 97, 3) := by decide +kernel
theorem d_TrustDesk_nearAt_12 : decode kY_TrustDesk_nearAt.2.1 12 = .ok (.if_icmp .ge 17, 3) := by decide +kernel
theorem d_TrustDesk_nearAt_15 : decode kY_TrustDesk_nearAt.2.1 15 = .ok (.aload_n 0, 1) := by decide +kernel
theorem d_TrustDesk_nearAt_16 : decode kY_TrustDesk_nearAt.2.1 16 = .ok (.getfield 56, 3) := by decide +kernel
theorem d_TrustDesk_nearAt_19 : decode kY_TrustDesk_nearAt.2.1 19 = .ok (.iload_n 1, 1) := by decide +kernel
theorem d_TrustDesk_nearAt_20 : decode kY_TrustDesk_nearAt.2.1 20 = .ok (.invokevirtual 158, 3) := by decide +kernel
theorem d_TrustDesk_nearAt_23 : decode kY_TrustDesk_nearAt.2.1 23 = .ok (.checkcast 139, 3) := by decide +kernel
theorem d_TrustDesk_nearAt_26 : decode kY_TrustDesk_nearAt.2.1 26 = .ok (.goto 4, 3) := by decide +kernel
def w_TrustDesk_nearAt : List Nat := []
theorem tc_TrustDesk_nearAt {g : mj_G} {l : Launch} {d : Nat} {T0 : tm_H} {M0 : mj_M} {n0 x9 : Nat} {o0 : Nat} {x1 : Int32} (h_o0 : T0 o0 = some (0, 12, 0)) (I0 : tm_I tm_FT (tm_in w_TrustDesk_nearAt) x9 T0 M0 n0 T0 M0 n0) : mj_Met g l kY_TrustDesk_nearAt (d + 3) [.ref o0, .int x1] M0 n0 0 0 (tm_Q tm_FT (tm_in w_TrustDesk_nearAt) x9 T0 M0 n0 (fun r T _ => r = some .null ∨ ∃ b, r = some (.ref b) ∧ T b = some (0, 8, 0))) := by
  refine mj_enter (by decide) (Nat.le_of_ble_eq_true rfl) ?_
  refine mv_iload_n d_TrustDesk_nearAt_0 rfl rfl ?_
  have := mz_hi x1
  refine mv_if_ltZ (tgt := 29) (a := x1.toInt) d_TrustDesk_nearAt_1 (by decide) rfl (fun b1 => ?_) (fun b1 => ?_)
  · refine mv_null d_TrustDesk_nearAt_29 ?_
    exact mv_aret (r := none) d_TrustDesk_nearAt_30 rfl (by first | exact Or.inl ⟨_, rfl⟩ | exact Or.inr ⟨_, rfl⟩) ⟨_, I0, Or.inl rfl⟩
  · refine mv_iload_n d_TrustDesk_nearAt_4 rfl rfl ?_
    refine mv_aload_n d_TrustDesk_nearAt_5 rfl rfl ?_
    obtain ⟨a3, q2, t_a3⟩ := tm_atO I0 h_o0 (k := 7) rfl
    refine tr_getK q2 d_TrustDesk_nearAt_6 f_TrustDesk_56_12 ?_
    obtain ⟨m5, n9, e6, N7, f8, h4⟩ := I0.1 _ _ t_a3
    have := h4.2.1
    have : n9.toInt ≤ 12 := h4.2.2.1
    have q10 : tm_at M0 a3 0 2 (.int n9) := ⟨_, h4.1, rfl⟩
    refine mv_callV_s (kc' := 0) (ks' := 0) [] [.ref a3, .int x1] d_TrustDesk_nearAt_9 lV_TrustDesk_97 h4.1 rfl (tc_L_size (d := (d + 2)) h4.1) rfl (Nat.le_of_ble_eq_true rfl) (Nat.le_of_ble_eq_true rfl) (Nat.le_of_ble_eq_true rfl) rfl ?_
    have := mz_hi x1
    have := mz_hi n9
    refine mv_icmp_geZ (tgt := 29) (a := x1.toInt) (b := n9.toInt) d_TrustDesk_nearAt_12 (by decide) rfl rfl (fun b11 => ?_) (fun b11 => ?_)
    · refine mv_null d_TrustDesk_nearAt_29 ?_
      exact mv_aret (r := none) d_TrustDesk_nearAt_30 rfl (by first | exact Or.inl ⟨_, rfl⟩ | exact Or.inr ⟨_, rfl⟩) ⟨_, I0, Or.inl rfl⟩
    · refine mv_aload_n d_TrustDesk_nearAt_15 rfl rfl ?_
      refine tr_getK (k := 7) q2 d_TrustDesk_nearAt_16 f_TrustDesk_56_12 ?_
      refine mv_iload_n d_TrustDesk_nearAt_19 rfl rfl ?_
      obtain ⟨m13, e14, N15, f16, h12⟩ := tm_lsn I0 t_a3 q10
      obtain ⟨u17e, u17i, a18, u17f, u17t⟩ := tm_el (i := x1) h12 (by omega) (by omega)
      have t_a18 : T0 a18 = some (0, 8, 0) := u17t
      refine mv_callV_s (kc' := 0) (ks' := 0) [.int x1] [.int x1, .ref a3] d_TrustDesk_nearAt_20 lV_TrustDesk_158 h12.1 rfl (tc_L_get (d := d) h12.1 u17e (by omega) (by omega) u17i u17f) rfl (Nat.le_of_ble_eq_true rfl) (Nat.le_of_ble_eq_true rfl) (Nat.le_of_ble_eq_true rfl) rfl ?_
      obtain ⟨_, b19, -⟩ := I0.1 _ _ t_a18
      refine mv_castS (T9 := kF_NearEnd) (N := 2) d_TrustDesk_nearAt_23 (mj_in1 (List.mem_of_getElem? (i := 821) (by decide +kernel)) rfl) b19 rfl ?_
      refine mv_goto (tgt := 30) d_TrustDesk_nearAt_26 (by decide) ?_
      exact mv_aret (r := some a18) d_TrustDesk_nearAt_30 rfl (by first | exact Or.inl ⟨_, rfl⟩ | exact Or.inr ⟨_, rfl⟩) ⟨_, I0, Or.inr ⟨_, rfl, t_a18⟩⟩
theorem lV_TrustDesk_276 : mj_lV "TrustDesk" 276 kY_TrustDesk_nearAt 1 := ⟨⟨(mj_in1 (List.mem_of_getElem? (i := 957) (by decide +kernel)) rfl), (mj_in1 (List.mem_of_getElem? (i := 1) (by decide +kernel)) rfl), (mj_in1 (List.mem_of_getElem? (i := 960) (by decide +kernel)) rfl), by decide, rfl, by decide⟩, (mj_in1 (List.mem_of_getElem? (i := 959) (by decide +kernel)) rfl), (mj_in (List.mem_append_left _ (List.mem_of_getElem? (i := 51) (by decide +kernel))) rfl)⟩
theorem d_TrustDesk_marksLeft_15 : decode kY_TrustDesk_marksLeft.2.1 15 = .ok (.astore_n 3, 1) := by decide +kernel
theorem d_TrustDesk_marksLeft_16 : decode kY_TrustDesk_marksLeft.2.1 16 = .ok (.aload_n 3, 1) := by decide +kernel
theorem d_TrustDesk_marksLeft_17 : decode kY_TrustDesk_marksLeft.2.1 17 = .ok (.ifnonnull 7, 3) := by decide +kernel
theorem d_TrustDesk_marksLeft_20 : decode kY_TrustDesk_marksLeft.2.1 20 = .ok (.iconst 0, 1) := by decide +kernel
theorem d_TrustDesk_marksLeft_21 : decode kY_TrustDesk_marksLeft.2.1 21 = .ok (.goto 12, 3) := by decide +kernel
theorem d_TrustDesk_marksLeft_33 : decode kY_TrustDesk_marksLeft.2.1 33 = .ok (.ireturn, 1) := by decide +kernel
theorem d_TrustDesk_marksLeft_24 : decode kY_TrustDesk_marksLeft.2.1 24 = .ok (.aload_n 3, 1) := by decide +kernel
theorem d_TrustDesk_marksLeft_25 : decode kY_TrustDesk_marksLeft.2.1 25 = .ok (.getfield 383, 3) := by decide +kernel
theorem d_TrustDesk_marksLeft_28 : decode kY_TrustDesk_marksLeft.2.1 28 = .ok (.aload_n 2, 1) := by decide +kernel
theorem d_TrustDesk_marksLeft_29 : decode kY_TrustDesk_marksLeft.2.1 29 = .ok (.getfield 372, 3) := by decide +kernel
theorem d_TrustDesk_marksLeft_32 : decode kY_TrustDesk_marksLeft.2.1 32 = .ok (.iand, 1) := by decide +kernel
def w_TrustDesk_marksLeft : List Nat := []
theorem tc_TrustDesk_marksLeft {g : mj_G} {l : Launch} {d : Nat} {T0 : tm_H} {M0 : mj_M} {n0 x9 : Nat} {o0 : Nat} {o1 : Nat} {o2 : Nat} (h_o0 : T0 o0 = some (0, 12, 0)) (h_o1 : T0 o1 = some (0, 11, 0)) (h_o2 : T0 o2 = some (0, 6, 0)) (I0 : tm_I tm_FT (tm_in w_TrustDesk_marksLeft) x9 T0 M0 n0 T0 M0 n0) : mj_Met g l kY_TrustDesk_marksLeft (d + 4) [.ref o0, .ref o1, .ref o2] M0 n0 0 0 (tm_Q tm_FT (tm_in w_TrustDesk_marksLeft) x9 T0 M0 n0 (fun r _ _ => ∃ v : Int32, r = some (.int v))) := by
  refine mj_enter (by decide) (Nat.le_of_ble_eq_true rfl) ?_
  refine mv_aload_n d_TrustDesk_marksLeft_0 rfl rfl ?_
  obtain ⟨v2, q1⟩ := tm_atI I0 h_o1 (k := 0) rfl
  refine tr_getK q1 d_TrustDesk_marksLeft_1 f_TrustDesk_308_11 ?_
  have := mz_hi v2
  refine mv_if_neZ (tgt := 34) (a := v2.toInt) d_TrustDesk_marksLeft_4 (by decide) rfl (fun b3 => ?_) (fun b3 => ?_)
  · refine mv_aload_n d_TrustDesk_marksLeft_34 rfl rfl ?_
    refine tr_getK (k := 0) q1 d_TrustDesk_marksLeft_35 f_TrustDesk_308_11 ?_
    refine mv_iconst (v := 1) d_TrustDesk_marksLeft_38 (by decide) ?_
    have := mz_hi v2
    refine mv_icmp_neZ (tgt := 69) (a := v2.toInt) (b := 1) d_TrustDesk_marksLeft_39 (by decide) rfl (by decide) (fun b4 => ?_) (fun b4 => ?_)
    · refine mv_aload_n d_TrustDesk_marksLeft_69 rfl rfl ?_
      obtain ⟨v6, q5⟩ := tm_atI I0 h_o2 (k := 4) rfl
      refine tr_getK q5 d_TrustDesk_marksLeft_70 f_TrustDesk_372_6 ?_
      exact mv_iret d_TrustDesk_marksLeft_73 rfl (by first | rfl | decide) ⟨_, I0, _, rfl⟩
    · refine mv_aload_n d_TrustDesk_marksLeft_42 rfl rfl ?_
      refine mv_aload_n d_TrustDesk_marksLeft_43 rfl rfl ?_
      obtain ⟨v8, q7⟩ := tm_atI I0 h_o1 (k := 2) rfl
      refine tr_getK q7 d_TrustDesk_marksLeft_44 f_TrustDesk_311_11 ?_
      obtain ⟨_, b15, -⟩ := I0.1 _ _ h_o0
      refine mv_callV (kc' := 0) (ks' := 0) (As := [.int v8]) (st9 := [.int v8, .ref o0]) d_TrustDesk_marksLeft_47 lV_TrustDesk_257 b15 rfl (tc_TrustDesk_fundAt (d := d) (x9 := x9) (o0 := o0) (x1 := v8) h_o0 I0.start) rfl (Nat.le_of_ble_eq_true rfl) (Nat.le_of_ble_eq_true rfl) (Nat.le_of_ble_eq_true rfl) (hst := rfl) (fun b9r M10 n11 b9 => ?_)
      obtain ⟨T12, J13, b17⟩ := b9
      have I14 := I0.call J13 (tm_sub (by decide)) (Or.inl rfl)
      have t18 := J13.up h_o0
      have t19 := J13.up h_o1
      have t20 := J13.up h_o2
      have q21 := J13.keep h_o1 (by decide) q1
      have q22 := J13.keep h_o1 (by decide) q7
      rcases b17 with rfl | ⟨a16, rfl, t_a16⟩
      · refine mv_astore_nN (lv' := [(3, .null), (0, .ref o0), (1, .ref o1), (2, .ref o2)]) d_TrustDesk_marksLeft_50 rfl (by decide) rfl ?_
        refine mv_aload_nN d_TrustDesk_marksLeft_51 rfl rfl ?_
        refine mv_ifnonnullN d_TrustDesk_marksLeft_52 ?_
        refine mv_iconst (v := 0) d_TrustDesk_marksLeft_55 (by decide) ?_
        refine mv_goto (tgt := 68) d_TrustDesk_marksLeft_56 (by decide) ?_
        exact mv_iret d_TrustDesk_marksLeft_68 rfl (by first | rfl | decide) ⟨_, I14, _, rfl⟩
      · refine mv_astore_n (lv' := [(3, .ref a16), (0, .ref o0), (1, .ref o1), (2, .ref o2)]) d_TrustDesk_marksLeft_50 rfl (by decide) rfl ?_
        refine mv_aload_n d_TrustDesk_marksLeft_51 rfl rfl ?_
        refine mv_ifnonnull (tgt := 59) d_TrustDesk_marksLeft_52 (by decide) ?_
        refine mv_aload_n d_TrustDesk_marksLeft_59 rfl rfl ?_
        obtain ⟨v24, q23⟩ := tm_atI I14 t_a16 (k := 4) rfl
        refine tr_getK q23 d_TrustDesk_marksLeft_60 f_TrustDesk_372_6 ?_
        refine mv_aload_n d_TrustDesk_marksLeft_63 rfl rfl ?_
        obtain ⟨v26, q25⟩ := tm_atI I14 t20 (k := 4) rfl
        refine tr_getK q25 d_TrustDesk_marksLeft_64 f_TrustDesk_372_6 ?_
        refine mv_iand d_TrustDesk_marksLeft_67 ?_
        exact mv_iret d_TrustDesk_marksLeft_68 rfl (by first | rfl | decide) ⟨_, I14, _, rfl⟩
  · refine mv_aload_n d_TrustDesk_marksLeft_7 rfl rfl ?_
    refine mv_aload_n d_TrustDesk_marksLeft_8 rfl rfl ?_
    obtain ⟨v28, q27⟩ := tm_atI I0 h_o1 (k := 2) rfl
    refine tr_getK q27 d_TrustDesk_marksLeft_9 f_TrustDesk_311_11 ?_
    obtain ⟨_, b35, -⟩ := I0.1 _ _ h_o0
    refine mv_callV (kc' := 0) (ks' := 0) (As := [.int v28]) (st9 := [.int v28, .ref o0]) d_TrustDesk_marksLeft_12 lV_TrustDesk_276 b35 rfl (tc_TrustDesk_nearAt (d := d) (x9 := x9) (o0 := o0) (x1 := v28) h_o0 I0.start) rfl (Nat.le_of_ble_eq_true rfl) (Nat.le_of_ble_eq_true rfl) (Nat.le_of_ble_eq_true rfl) (hst := rfl) (fun b29r M30 n31 b29 => ?_)
    obtain ⟨T32, J33, b37⟩ := b29
    have I34 := I0.call J33 (tm_sub (by decide)) (Or.inl rfl)
    have t38 := J33.up h_o0
    have t39 := J33.up h_o1
    have t40 := J33.up h_o2
    have q41 := J33.keep h_o1 (by decide) q1
    have q42 := J33.keep h_o1 (by decide) q27
    rcases b37 with rfl | ⟨a36, rfl, t_a36⟩
    · refine mv_astore_nN (lv' := [(3, .null), (0, .ref o0), (1, .ref o1), (2, .ref o2)]) d_TrustDesk_marksLeft_15 rfl (by decide) rfl ?_
      refine mv_aload_nN d_TrustDesk_marksLeft_16 rfl rfl ?_
      refine mv_ifnonnullN d_TrustDesk_marksLeft_17 ?_
      refine mv_iconst (v := 0) d_TrustDesk_marksLeft_20 (by decide) ?_
      refine mv_goto (tgt := 33) d_TrustDesk_marksLeft_21 (by decide) ?_
      exact mv_iret d_TrustDesk_marksLeft_33 rfl (by first | rfl | decide) ⟨_, I34, _, rfl⟩
    · refine mv_astore_n (lv' := [(3, .ref a36), (0, .ref o0), (1, .ref o1), (2, .ref o2)]) d_TrustDesk_marksLeft_15 rfl (by decide) rfl ?_
      refine mv_aload_n d_TrustDesk_marksLeft_16 rfl rfl ?_
      refine mv_ifnonnull (tgt := 24) d_TrustDesk_marksLeft_17 (by decide) ?_
      refine mv_aload_n d_TrustDesk_marksLeft_24 rfl rfl ?_
      obtain ⟨v44, q43⟩ := tm_atI I34 t_a36 (k := 1) rfl
      refine tr_getK q43 d_TrustDesk_marksLeft_25 f_TrustDesk_383_8 ?_
      refine mv_aload_n d_TrustDesk_marksLeft_28 rfl rfl ?_
      obtain ⟨v46, q45⟩ := tm_atI I34 t40 (k := 4) rfl
      refine tr_getK q45 d_TrustDesk_marksLeft_29 f_TrustDesk_372_6 ?_
      refine mv_iand d_TrustDesk_marksLeft_32 ?_
      exact mv_iret d_TrustDesk_marksLeft_33 rfl (by first | rfl | decide) ⟨_, I34, _, rfl⟩
theorem lV_TrustDesk_333 : mj_lV "TrustDesk" 333 kY_TrustDesk_marksLeft 2 := ⟨⟨(mj_in1 (List.mem_of_getElem? (i := 1100) (by decide +kernel)) rfl), (mj_in1 (List.mem_of_getElem? (i := 1) (by decide +kernel)) rfl), (mj_in1 (List.mem_of_getElem? (i := 1103) (by decide +kernel)) rfl), by decide, rfl, by decide⟩, (mj_in1 (List.mem_of_getElem? (i := 1102) (by decide +kernel)) rfl), (mj_in (List.mem_append_left _ (List.mem_of_getElem? (i := 58) (by decide +kernel))) rfl)⟩
theorem d_TrustDesk_failureOf_54 : decode kY_TrustDesk_failureOf.2.1 54 = .ok (.invokestatic 337, 3) := by decide +kernel
theorem d_TrustDesk_failureOf_57 : decode kY_TrustDesk_failureOf.2.1 57 = .ok (.aload_n 3, 1) := by decide +kernel
theorem d_TrustDesk_failureOf_58 : decode kY_TrustDesk_failureOf.2.1 58 = .ok (.iconst 1, 1) := by decide +kernel
theorem d_TrustDesk_failureOf_59 : decode kY_TrustDesk_failureOf.2.1 59 = .ok (.invokevirtual 118, 3) := by decide +kernel
theorem d_TrustDesk_failureOf_62 : decode kY_TrustDesk_failureOf.2.1 62 = .ok (.if_icmp .ge 5, 3) := by decide +kernel
theorem d_TrustDesk_failureOf_67 : decode kY_TrustDesk_failureOf.2.1 67 = .ok (.aload_n 0, 1) := by decide +kernel
theorem d_TrustDesk_failureOf_68 : decode kY_TrustDesk_failureOf.2.1 68 = .ok (.aload_n 1, 1) := by decide +kernel
theorem d_TrustDesk_failureOf_69 : decode kY_TrustDesk_failureOf.2.1 69 = .ok (.aload_n 2, 1) := by decide +kernel
theorem d_TrustDesk_failureOf_70 : decode kY_TrustDesk_failureOf.2.1 70 = .ok (.invokevirtual 342, 3) := by decide +kernel
abbrev kY_TrustDesk_isCarried : mj_Y := (⟨"TrustDesk", "isCarried", "(LTrustDesk$Scheme;LTrustDesk$Fund;)Z"⟩, prog_1_method_30_code, 4, (Option.some Jvm.ClassFile.FieldType.boolean))
theorem d_TrustDesk_isCarried_0 : decode kY_TrustDesk_isCarried.2.1 0 = .ok (.aload_n 1, 1) := by decide +kernel
theorem d_TrustDesk_isCarried_1 : decode kY_TrustDesk_isCarried.2.1 1 = .ok (.aload_n 2, 1) := by decide +kernel
theorem d_TrustDesk_isCarried_2 : decode kY_TrustDesk_isCarried.2.1 2 = .ok (.invokevirtual 384, 3) := by decide +kernel
abbrev kY_Scheme_yesOf : mj_Y := (⟨"TrustDesk$Scheme", "yesOf", "(LTrustDesk$Fund;)I"⟩, prog_12_method_5_code, 4, (Option.some Jvm.ClassFile.FieldType.int))
theorem d_Scheme_yesOf_0 : decode kY_Scheme_yesOf.2.1 0 = .ok (.iconst 0, 1) := by decide +kernel
theorem d_Scheme_yesOf_1 : decode kY_Scheme_yesOf.2.1 1 = .ok (.istore_n 2, 1) := by decide +kernel
theorem d_Scheme_yesOf_2 : decode kY_Scheme_yesOf.2.1 2 = .ok (.iconst 0, 1) := by decide +kernel
theorem d_Scheme_yesOf_3 : decode kY_Scheme_yesOf.2.1 3 = .ok (.istore_n 3, 1) := by decide +kernel
theorem d_Scheme_yesOf_4 : decode kY_Scheme_yesOf.2.1 4 = .ok (.iload_n 3, 1) := by decide +kernel
theorem d_Scheme_yesOf_5 : decode kY_Scheme_yesOf.2.1 5 = .ok (.bipush 100, 2) := by decide +kernel
theorem d_Scheme_yesOf_7 : decode kY_Scheme_yesOf.2.1 7 = .ok (.if_icmp .ge 30, 3) := by decide +kernel
theorem d_Scheme_yesOf_37 : decode kY_Scheme_yesOf.2.1 37 = .ok (.iload_n 2, 1) := by decide +kernel
theorem d_Scheme_yesOf_38 : decode kY_Scheme_yesOf.2.1 38 = .ok (.ireturn, 1) := by decide +kernel
theorem d_Scheme_yesOf_10 : decode kY_Scheme_yesOf.2.1 10 = .ok (.aload_n 0, 1) := by decide +kernel
theorem d_Scheme_yesOf_11 : decode kY_Scheme_yesOf.2.1 11 = .ok (.getfield 19, 3) := by decide +kernel
theorem f_Scheme_19_11 : mj_fl "TrustDesk$Scheme" 19 11 11 := ⟨kR_Scheme, kF_Scheme, 12, "TrustDesk$Scheme", rfl, kg_11, by decide, (mj_in1 (List.mem_of_getElem? (i := 987) (by decide +kernel)) rfl), Or.inl rfl⟩
theorem d_Scheme_yesOf_14 : decode kY_Scheme_yesOf.2.1 14 = .ok (.iload_n 3, 1) := by decide +kernel
theorem d_Scheme_yesOf_15 : decode kY_Scheme_yesOf.2.1 15 = .ok (.baload, 1) := by decide +kernel
theorem d_Scheme_yesOf_16 : decode kY_Scheme_yesOf.2.1 16 = .ok (.iconst 1, 1) := by decide +kernel
theorem d_Scheme_yesOf_17 : decode kY_Scheme_yesOf.2.1 17 = .ok (.if_icmp .ne 14, 3) := by decide +kernel
theorem d_Scheme_yesOf_31 : decode kY_Scheme_yesOf.2.1 31 = .ok (.iinc 3 1, 3) := by decide +kernel
theorem d_Scheme_yesOf_34 : decode kY_Scheme_yesOf.2.1 34 = .ok (.goto (-30), 3) := by decide +kernel
theorem d_Scheme_yesOf_20 : decode kY_Scheme_yesOf.2.1 20 = .ok (.aload_n 1, 1) := by decide +kernel
theorem d_Scheme_yesOf_21 : decode kY_Scheme_yesOf.2.1 21 = .ok (.iload_n 3, 1) := by decide +kernel
theorem d_Scheme_yesOf_22 : decode kY_Scheme_yesOf.2.1 22 = .ok (.invokevirtual 47, 3) := by decide +kernel
abbrev kY_Fund_hasTrustee : mj_Y := (⟨"TrustDesk$Fund", "hasTrustee", "(I)Z"⟩, prog_7_method_11_code, 2, (Option.some Jvm.ClassFile.FieldType.boolean))
theorem d_Fund_hasTrustee_0 : decode kY_Fund_hasTrustee.2.1 0 = .ok (.iload_n 1, 1) := by decide +kernel
theorem d_Fund_hasTrustee_1 : decode kY_Fund_hasTrustee.2.1 1 = .ok (.ifCond .lt 22, 3) := by decide +kernel
theorem d_Fund_hasTrustee_23 : decode kY_Fund_hasTrustee.2.1 23 = .ok (.iconst 0, 1) := by decide +kernel
theorem d_Fund_hasTrustee_24 : decode kY_Fund_hasTrustee.2.1 24 = .ok (.ireturn, 1) := by decide +kernel
theorem d_Fund_hasTrustee_4 : decode kY_Fund_hasTrustee.2.1 4 = .ok (.iload_n 1, 1) := by decide +kernel
theorem d_Fund_hasTrustee_5 : decode kY_Fund_hasTrustee.2.1 5 = .ok (.bipush 100, 2) := by decide +kernel
theorem d_Fund_hasTrustee_7 : decode kY_Fund_hasTrustee.2.1 7 = .ok (.if_icmp .ge 16, 3) := by decide +kernel
theorem d_Fund_hasTrustee_10 : decode kY_Fund_hasTrustee.2.1 10 = .ok (.aload_n 0, 1) := by decide +kernel
theorem d_Fund_hasTrustee_11 : decode kY_Fund_hasTrustee.2.1 11 = .ok (.getfield 32, 3) := by decide +kernel
theorem f_Fund_32_6 : mj_fl "TrustDesk$Fund" 32 6 13 := ⟨kR_Fund, kF_Fund, 15, "TrustDesk$Fund", rfl, kg_6, by decide, (mj_in1 (List.mem_of_getElem? (i := 692) (by decide +kernel)) rfl), Or.inl rfl⟩
theorem d_Fund_hasTrustee_14 : decode kY_Fund_hasTrustee.2.1 14 = .ok (.iload_n 1, 1) := by decide +kernel
theorem d_Fund_hasTrustee_15 : decode kY_Fund_hasTrustee.2.1 15 = .ok (.baload, 1) := by decide +kernel
theorem d_Fund_hasTrustee_16 : decode kY_Fund_hasTrustee.2.1 16 = .ok (.ifCond .eq 7, 3) := by decide +kernel
theorem d_Fund_hasTrustee_19 : decode kY_Fund_hasTrustee.2.1 19 = .ok (.iconst 1, 1) := by decide +kernel
theorem d_Fund_hasTrustee_20 : decode kY_Fund_hasTrustee.2.1 20 = .ok (.goto 4, 3) := by decide +kernel
def w_Fund_hasTrustee : List Nat := []
theorem tc_Fund_hasTrustee {g : mj_G} {l : Launch} {d : Nat} {T0 : tm_H} {M0 : mj_M} {n0 x9 : Nat} {o0 : Nat} {x1 : Int32} (h_o0 : T0 o0 = some (0, 6, 0)) (I0 : tm_I tm_FT (tm_in w_Fund_hasTrustee) x9 T0 M0 n0 T0 M0 n0) : mj_Met g l kY_Fund_hasTrustee d [.ref o0, .int x1] M0 n0 0 0 (tm_Q tm_FT (tm_in w_Fund_hasTrustee) x9 T0 M0 n0 (fun r _ _ => ∃ v : Int32, r = some (.int v) ∧ 0 ≤ v.toInt ∧ v.toInt ≤ 1)) := by
  refine mj_enter (by decide) (Nat.le_of_ble_eq_true rfl) ?_
  refine mv_iload_n d_Fund_hasTrustee_0 rfl rfl ?_
  have := mz_hi x1
  refine mv_if_ltZ (tgt := 23) (a := x1.toInt) d_Fund_hasTrustee_1 (by decide) rfl (fun b1 => ?_) (fun b1 => ?_)
  · refine mv_iconst (v := 0) d_Fund_hasTrustee_23 (by decide) ?_
    exact mv_iret d_Fund_hasTrustee_24 rfl (by decide) ⟨_, I0, _, rfl, by decide, by decide⟩
  · refine mv_iload_n d_Fund_hasTrustee_4 rfl rfl ?_
    refine mv_bipush (v := 100) d_Fund_hasTrustee_5 (by decide) ?_
    have := mz_hi x1
    refine mv_icmp_geZ (tgt := 23) (a := x1.toInt) (b := 100) d_Fund_hasTrustee_7 (by decide) rfl (by decide) (fun b2 => ?_) (fun b2 => ?_)
    · refine mv_iconst (v := 0) d_Fund_hasTrustee_23 (by decide) ?_
      exact mv_iret d_Fund_hasTrustee_24 rfl (by decide) ⟨_, I0, _, rfl, by decide, by decide⟩
    · refine mv_aload_n d_Fund_hasTrustee_10 rfl rfl ?_
      obtain ⟨a4, q3, t_a4⟩ := tm_atR I0 h_o0 (k := 13) rfl
      refine tr_getK q3 d_Fund_hasTrustee_11 f_Fund_32_6 ?_
      refine mv_iload_n d_Fund_hasTrustee_14 rfl rfl ?_
      refine tr_zald I0 t_a4 (by decide) d_Fund_hasTrustee_15 (vp_in_iff.mpr (by omega)) (fun v5 => ?_)
      have := mz_hi v5
      refine mv_if_eqZ (tgt := 23) (a := v5.toInt) d_Fund_hasTrustee_16 (by decide) rfl (fun b6 => ?_) (fun b6 => ?_)
      · refine mv_iconst (v := 0) d_Fund_hasTrustee_23 (by decide) ?_
        exact mv_iret d_Fund_hasTrustee_24 rfl (by decide) ⟨_, I0, _, rfl, by decide, by decide⟩
      · refine mv_iconst (v := 1) d_Fund_hasTrustee_19 (by decide) ?_
        refine mv_goto (tgt := 24) d_Fund_hasTrustee_20 (by decide) ?_
        exact mv_iret d_Fund_hasTrustee_24 rfl (by decide) ⟨_, I0, _, rfl, by decide, by decide⟩
theorem lV_Scheme_47 : mj_lV "TrustDesk$Scheme" 47 kY_Fund_hasTrustee 1 := ⟨⟨(mj_in1 (List.mem_of_getElem? (i := 1112) (by decide +kernel)) rfl), (mj_in1 (List.mem_of_getElem? (i := 21) (by decide +kernel)) rfl), (mj_in1 (List.mem_of_getElem? (i := 1044) (by decide +kernel)) rfl), by decide, rfl, by decide⟩, (mj_in1 (List.mem_of_getElem? (i := 1042) (by decide +kernel)) rfl), (mj_in1 (List.mem_of_getElem? (i := 1043) (by decide +kernel)) rfl)⟩
theorem d_Scheme_yesOf_25 : decode kY_Scheme_yesOf.2.1 25 = .ok (.ifCond .eq 6, 3) := by decide +kernel
theorem d_Scheme_yesOf_28 : decode kY_Scheme_yesOf.2.1 28 = .ok (.iinc 2 1, 3) := by decide +kernel
def w_Scheme_yesOf : List Nat := []
theorem tc_Scheme_yesOf {g : mj_G} {l : Launch} {d : Nat} {T0 : tm_H} {M0 : mj_M} {n0 x9 : Nat} {o0 : Nat} {o1 : Nat} (h_o0 : T0 o0 = some (0, 11, 0)) (h_o1 : T0 o1 = some (0, 6, 0)) (I0 : tm_I tm_FT (tm_in w_Scheme_yesOf) x9 T0 M0 n0 T0 M0 n0) : mj_Met g l kY_Scheme_yesOf (d + 1) [.ref o0, .ref o1] M0 n0 0 0 (tm_Q tm_FT (tm_in w_Scheme_yesOf) x9 T0 M0 n0 (fun r _ _ => ∃ v : Int32, r = some (.int v))) := by
  refine mj_enter (by decide) (Nat.le_of_ble_eq_true rfl) ?_
  refine mv_iconst (v := 0) d_Scheme_yesOf_0 (by decide) ?_
  refine mv_istore_n (lv' := [(2, .int 0), (0, .ref o0), (1, .ref o1)]) d_Scheme_yesOf_1 rfl (by decide) rfl ?_
  refine mv_iconst (v := 0) d_Scheme_yesOf_2 (by decide) ?_
  refine mv_istore_n (lv' := [(3, .int 0), (2, .int 0), (0, .ref o0), (1, .ref o1)]) d_Scheme_yesOf_3 rfl (by decide) rfl ?_
  have L4_1 : ∀ (k : Nat) (i3_1 : Int32) (i2_1 : Int32) (T_1 : tm_H) (M_1 : mj_M) (n_1 : Nat), tm_I tm_FT (tm_in w_Scheme_yesOf) x9 T0 M0 n0 T_1 M_1 n_1 → T_1 o0 = some (0, 11, 0) → T_1 o1 = some (0, 6, 0) → 0 ≤ i3_1.toInt → 2147483647 - i3_1.toInt < (k : Int) → mj_V g l kY_Scheme_yesOf (d + 1) 4 [(3, .int i3_1), (2, .int i2_1), (0, .ref o0), (1, .ref o1)] [] M_1 n_1 0 0 (tm_Q tm_FT (tm_in w_Scheme_yesOf) x9 T0 M0 n0 (fun r _ _ => ∃ v : Int32, r = some (.int v))) := by
    intro k1
    induction k1 with
    | zero =>
      intro i3_1 i2_1 T_1 M_1 n_1 I_1 h_q0_1 h_q1_1 iv0_1 hk1
      have := mz_hi i3_1
      omega
    | succ k1 ih1 =>
      intro i3_1 i2_1 T_1 M_1 n_1 I_1 h_q0_1 h_q1_1 iv0_1 hk1
      refine mv_iload_n d_Scheme_yesOf_4 rfl rfl ?_
      refine mv_bipush (v := 100) d_Scheme_yesOf_5 (by decide) ?_
      have := mz_hi i3_1
      refine mv_icmp_geZ (tgt := 37) (a := i3_1.toInt) (b := 100) d_Scheme_yesOf_7 (by decide) rfl (by decide) (fun b2 => ?_) (fun b2 => ?_)
      · refine mv_iload_n d_Scheme_yesOf_37 rfl rfl ?_
        exact mv_iret d_Scheme_yesOf_38 rfl (by first | rfl | decide) ⟨_, I_1, _, rfl⟩
      · refine mv_aload_n d_Scheme_yesOf_10 rfl rfl ?_
        obtain ⟨a4, q3, t_a4⟩ := tm_atR I_1 h_q0_1 (k := 11) rfl
        refine tr_getK q3 d_Scheme_yesOf_11 f_Scheme_19_11 ?_
        refine mv_iload_n d_Scheme_yesOf_14 rfl rfl ?_
        refine tr_bald I_1 t_a4 (by decide) d_Scheme_yesOf_15 (vp_in_iff.mpr (by omega)) (fun v5 => ?_)
        refine mv_iconst (v := 1) d_Scheme_yesOf_16 (by decide) ?_
        have := mz_hi v5
        refine mv_icmp_neZ (tgt := 31) (a := v5.toInt) (b := 1) d_Scheme_yesOf_17 (by decide) rfl (by decide) (fun b6 => ?_) (fun b6 => ?_)
        · refine mv_iinc (v := (i3_1 + 1)) (lv' := [(3, .int (i3_1 + 1)), (2, .int i2_1), (0, .ref o0), (1, .ref o1)]) d_Scheme_yesOf_31 rfl rfl (by decide) rfl ?_
          refine mv_goto (tgt := 4) d_Scheme_yesOf_34 (by decide) ?_
          have b7 : (i3_1 + 1).toInt = i3_1.toInt + 1 := mz_addn 1 1 (by decide) (by have := mz_lo i3_1; omega) (by have := mz_hi i3_1; omega)
          exact (ih1 (i3_1 + 1) i2_1 T_1 M_1 n_1 I_1 h_q0_1 h_q1_1 (by first | omega | decide) (by omega))
        · refine mv_aload_n d_Scheme_yesOf_20 rfl rfl ?_
          refine mv_iload_n d_Scheme_yesOf_21 rfl rfl ?_
          obtain ⟨_, b14, -⟩ := I_1.1 _ _ h_q1_1
          refine mv_callV (kc' := 0) (ks' := 0) (As := [.int i3_1]) (st9 := [.int i3_1, .ref o1]) d_Scheme_yesOf_22 lV_Scheme_47 b14 rfl (tc_Fund_hasTrustee (d := d) (x9 := x9) (o0 := o1) (x1 := i3_1) h_q1_1 I_1.start) rfl (Nat.le_of_ble_eq_true rfl) (Nat.le_of_ble_eq_true rfl) (Nat.le_of_ble_eq_true rfl) (hst := rfl) (fun b8r M9 n10 b8 => ?_)
          obtain ⟨T11, J12, v15, rfl, b16, b17⟩ := b8
          have I13 := I_1.call J12 (tm_sub (by decide)) (Or.inl rfl)
          have t18 := J12.up h_q0_1
          have t19 := J12.up h_q1_1
          have q20 := J12.keep h_q0_1 (by decide) q3
          have t21 := J12.up t_a4
          have := mz_hi v15
          refine mv_if_eqZ (tgt := 31) (a := v15.toInt) d_Scheme_yesOf_25 (by decide) rfl (fun b22 => ?_) (fun b22 => ?_)
          · refine mv_iinc (v := (i3_1 + 1)) (lv' := [(3, .int (i3_1 + 1)), (2, .int i2_1), (0, .ref o0), (1, .ref o1)]) d_Scheme_yesOf_31 rfl rfl (by decide) rfl ?_
            refine mv_goto (tgt := 4) d_Scheme_yesOf_34 (by decide) ?_
            have b23 : (i3_1 + 1).toInt = i3_1.toInt + 1 := mz_addn 1 1 (by decide) (by have := mz_lo i3_1; omega) (by have := mz_hi i3_1; omega)
            exact (ih1 (i3_1 + 1) i2_1 T11 M9 n10 I13 t18 t19 (by first | omega | decide) (by omega))
          · refine mv_iinc (v := (i2_1 + 1)) (lv' := [(2, .int (i2_1 + 1)), (3, .int i3_1), (0, .ref o0), (1, .ref o1)]) d_Scheme_yesOf_28 rfl rfl (by decide) rfl ?_
            refine mv_iinc (v := (i3_1 + 1)) (lv' := [(3, .int (i3_1 + 1)), (2, .int (i2_1 + 1)), (0, .ref o0), (1, .ref o1)]) d_Scheme_yesOf_31 rfl rfl (by decide) rfl ?_
            refine mv_goto (tgt := 4) d_Scheme_yesOf_34 (by decide) ?_
            have b24 : (i3_1 + 1).toInt = i3_1.toInt + 1 := mz_addn 1 1 (by decide) (by have := mz_lo i3_1; omega) (by have := mz_hi i3_1; omega)
            exact (ih1 (i3_1 + 1) (i2_1 + 1) T11 M9 n10 I13 t18 t19 (by first | omega | decide) (by omega))
  exact mv_less (Nat.zero_le _) (Nat.zero_le _) (L4_1 4294967296 0 0 T0 M0 n0 I0 h_o0 h_o1 (by first | omega | decide) (by show (2147483647 - (0 : Int) : Int) < _; decide))
theorem lV_TrustDesk_384 : mj_lV "TrustDesk" 384 kY_Scheme_yesOf 1 := ⟨⟨(mj_in1 (List.mem_of_getElem? (i := 1108) (by decide +kernel)) rfl), (mj_in1 (List.mem_of_getElem? (i := 25) (by decide +kernel)) rfl), (mj_in1 (List.mem_of_getElem? (i := 1111) (by decide +kernel)) rfl), by decide, rfl, by decide⟩, (mj_in1 (List.mem_of_getElem? (i := 1109) (by decide +kernel)) rfl), (mj_in1 (List.mem_of_getElem? (i := 1110) (by decide +kernel)) rfl)⟩
theorem d_TrustDesk_isCarried_5 : decode kY_TrustDesk_isCarried.2.1 5 = .ok (.aload_n 2, 1) := by decide +kernel
theorem d_TrustDesk_isCarried_6 : decode kY_TrustDesk_isCarried.2.1 6 = .ok (.getfield 388, 3) := by decide +kernel
theorem f_TrustDesk_388_6 : mj_fl "TrustDesk" 388 6 6 := ⟨kR_Fund, kF_Fund, 15, "TrustDesk$Fund", rfl, kg_6, by decide, (mj_in1 (List.mem_of_getElem? (i := 681) (by decide +kernel)) rfl), Or.inl rfl⟩
theorem d_TrustDesk_isCarried_9 : decode kY_TrustDesk_isCarried.2.1 9 = .ok (.if_icmp .ge 5, 3) := by decide +kernel
theorem d_TrustDesk_isCarried_14 : decode kY_TrustDesk_isCarried.2.1 14 = .ok (.aload_n 1, 1) := by decide +kernel
theorem d_TrustDesk_isCarried_15 : decode kY_TrustDesk_isCarried.2.1 15 = .ok (.getfield 308, 3) := by decide +kernel
theorem d_TrustDesk_isCarried_18 : decode kY_TrustDesk_isCarried.2.1 18 = .ok (.iconst 1, 1) := by decide +kernel
theorem d_TrustDesk_isCarried_19 : decode kY_TrustDesk_isCarried.2.1 19 = .ok (.if_icmp .ne 14, 3) := by decide +kernel
theorem d_TrustDesk_isCarried_33 : decode kY_TrustDesk_isCarried.2.1 33 = .ok (.aconst_null, 1) := by decide +kernel
theorem d_TrustDesk_isCarried_34 : decode kY_TrustDesk_isCarried.2.1 34 = .ok (.astore_n 3, 1) := by decide +kernel
theorem d_TrustDesk_isCarried_35 : decode kY_TrustDesk_isCarried.2.1 35 = .ok (.aload_n 3, 1) := by decide +kernel
theorem d_TrustDesk_isCarried_36 : decode kY_TrustDesk_isCarried.2.1 36 = .ok (.ifnull 15, 3) := by decide +kernel
theorem d_TrustDesk_isCarried_51 : decode kY_TrustDesk_isCarried.2.1 51 = .ok (.iconst 1, 1) := by decide +kernel
theorem d_TrustDesk_isCarried_52 : decode kY_TrustDesk_isCarried.2.1 52 = .ok (.goto 4, 3) := by decide +kernel
theorem d_TrustDesk_isCarried_56 : decode kY_TrustDesk_isCarried.2.1 56 = .ok (.ireturn, 1) := by decide +kernel
theorem d_TrustDesk_isCarried_22 : decode kY_TrustDesk_isCarried.2.1 22 = .ok (.aload_n 0, 1) := by decide +kernel
theorem d_TrustDesk_isCarried_23 : decode kY_TrustDesk_isCarried.2.1 23 = .ok (.aload_n 1, 1) := by decide +kernel
theorem d_TrustDesk_isCarried_24 : decode kY_TrustDesk_isCarried.2.1 24 = .ok (.getfield 311, 3) := by decide +kernel
theorem d_TrustDesk_isCarried_27 : decode kY_TrustDesk_isCarried.2.1 27 = .ok (.invokevirtual 257, 3) := by decide +kernel
theorem d_TrustDesk_isCarried_30 : decode kY_TrustDesk_isCarried.2.1 30 = .ok (.goto 4, 3) := by decide +kernel
theorem d_TrustDesk_isCarried_39 : decode kY_TrustDesk_isCarried.2.1 39 = .ok (.aload_n 1, 1) := by decide +kernel
theorem d_TrustDesk_isCarried_40 : decode kY_TrustDesk_isCarried.2.1 40 = .ok (.aload_n 3, 1) := by decide +kernel
theorem d_TrustDesk_isCarried_41 : decode kY_TrustDesk_isCarried.2.1 41 = .ok (.invokevirtual 384, 3) := by decide +kernel
theorem d_TrustDesk_isCarried_44 : decode kY_TrustDesk_isCarried.2.1 44 = .ok (.aload_n 3, 1) := by decide +kernel
theorem d_TrustDesk_isCarried_45 : decode kY_TrustDesk_isCarried.2.1 45 = .ok (.getfield 388, 3) := by decide +kernel
theorem d_TrustDesk_isCarried_48 : decode kY_TrustDesk_isCarried.2.1 48 = .ok (.if_icmp .lt 7, 3) := by decide +kernel
theorem d_TrustDesk_isCarried_55 : decode kY_TrustDesk_isCarried.2.1 55 = .ok (.iconst 0, 1) := by decide +kernel
theorem d_TrustDesk_isCarried_12 : decode kY_TrustDesk_isCarried.2.1 12 = .ok (.iconst 0, 1) := by decide +kernel
theorem d_TrustDesk_isCarried_13 : decode kY_TrustDesk_isCarried.2.1 13 = .ok (.ireturn, 1) := by decide +kernel
def w_TrustDesk_isCarried : List Nat := []
theorem tc_TrustDesk_isCarried {g : mj_G} {l : Launch} {d : Nat} {T0 : tm_H} {M0 : mj_M} {n0 x9 : Nat} {o0 : Nat} {o1 : Nat} {o2 : Nat} (h_o0 : T0 o0 = some (0, 12, 0)) (h_o1 : T0 o1 = some (0, 11, 0)) (h_o2 : T0 o2 = some (0, 6, 0)) (I0 : tm_I tm_FT (tm_in w_TrustDesk_isCarried) x9 T0 M0 n0 T0 M0 n0) : mj_Met g l kY_TrustDesk_isCarried (d + 4) [.ref o0, .ref o1, .ref o2] M0 n0 0 0 (tm_Q tm_FT (tm_in w_TrustDesk_isCarried) x9 T0 M0 n0 (fun r _ _ => ∃ v : Int32, r = some (.int v) ∧ 0 ≤ v.toInt ∧ v.toInt ≤ 1)) := by
  refine mj_enter (by decide) (Nat.le_of_ble_eq_true rfl) ?_
  refine mv_aload_n d_TrustDesk_isCarried_0 rfl rfl ?_
  refine mv_aload_n d_TrustDesk_isCarried_1 rfl rfl ?_
  obtain ⟨_, b7, -⟩ := I0.1 _ _ h_o1
  refine mv_callV (kc' := 0) (ks' := 0) (As := [.ref o2]) (st9 := [.ref o2, .ref o1]) d_TrustDesk_isCarried_2 lV_TrustDesk_384 b7 rfl (tc_Scheme_yesOf (d := (d + 2)) (x9 := x9) (o0 := o1) (o1 := o2) h_o1 h_o2 I0.start) rfl (Nat.le_of_ble_eq_true rfl) (Nat.le_of_ble_eq_true rfl) (Nat.le_of_ble_eq_true rfl) (hst := rfl) (fun b1r M2 n3 b1 => ?_)
  obtain ⟨T4, J5, v8, rfl⟩ := b1
  have I6 := I0.call J5 (tm_sub (by decide)) (Or.inl rfl)
  have t9 := J5.up h_o0
  have t10 := J5.up h_o1
  have t11 := J5.up h_o2
  refine mv_aload_n d_TrustDesk_isCarried_5 rfl rfl ?_
  obtain ⟨v13, q12⟩ := tm_atI I6 t11 (k := 6) rfl
  refine tr_getK q12 d_TrustDesk_isCarried_6 f_TrustDesk_388_6 ?_
  have := mz_hi v8
  have := mz_hi v13
  refine mv_icmp_geZ (tgt := 14) (a := v8.toInt) (b := v13.toInt) d_TrustDesk_isCarried_9 (by decide) rfl rfl (fun b14 => ?_) (fun b14 => ?_)
  · refine mv_aload_n d_TrustDesk_isCarried_14 rfl rfl ?_
    obtain ⟨v16, q15⟩ := tm_atI I6 t10 (k := 0) rfl
    refine tr_getK q15 d_TrustDesk_isCarried_15 f_TrustDesk_308_11 ?_
    refine mv_iconst (v := 1) d_TrustDesk_isCarried_18 (by decide) ?_
    have := mz_hi v16
    refine mv_icmp_neZ (tgt := 33) (a := v16.toInt) (b := 1) d_TrustDesk_isCarried_19 (by decide) rfl (by decide) (fun b17 => ?_) (fun b17 => ?_)
    · refine mv_null d_TrustDesk_isCarried_33 ?_
      refine mv_astore_nN (lv' := [(3, .null), (0, .ref o0), (1, .ref o1), (2, .ref o2)]) d_TrustDesk_isCarried_34 rfl (by decide) rfl ?_
      refine mv_aload_nN d_TrustDesk_isCarried_35 rfl rfl ?_
      refine mv_ifnullN (tgt := 51) d_TrustDesk_isCarried_36 (by decide) ?_
      refine mv_iconst (v := 1) d_TrustDesk_isCarried_51 (by decide) ?_
      refine mv_goto (tgt := 56) d_TrustDesk_isCarried_52 (by decide) ?_
      exact mv_iret d_TrustDesk_isCarried_56 rfl (by decide) ⟨_, I6, _, rfl, by decide, by decide⟩
    · refine mv_aload_n d_TrustDesk_isCarried_22 rfl rfl ?_
      refine mv_aload_n d_TrustDesk_isCarried_23 rfl rfl ?_
      obtain ⟨v19, q18⟩ := tm_atI I6 t10 (k := 2) rfl
      refine tr_getK q18 d_TrustDesk_isCarried_24 f_TrustDesk_311_11 ?_
      obtain ⟨_, b26, -⟩ := I6.1 _ _ t9
      refine mv_callV (kc' := 0) (ks' := 0) (As := [.int v19]) (st9 := [.int v19, .ref o0]) d_TrustDesk_isCarried_27 lV_TrustDesk_257 b26 rfl (tc_TrustDesk_fundAt (d := d) (x9 := x9) (o0 := o0) (x1 := v19) t9 I6.start) rfl (Nat.le_of_ble_eq_true rfl) (Nat.le_of_ble_eq_true rfl) (Nat.le_of_ble_eq_true rfl) (hst := rfl) (fun b20r M21 n22 b20 => ?_)
      obtain ⟨T23, J24, b28⟩ := b20
      have I25 := I6.call J24 (tm_sub (by decide)) (Or.inl rfl)
      have t29 := J24.up t9
      have t30 := J24.up t10
      have t31 := J24.up t11
      have q32 := J24.keep t11 (by decide) q12
      have q33 := J24.keep t10 (by decide) q15
      have q34 := J24.keep t10 (by decide) q18
      rcases b28 with rfl | ⟨a27, rfl, t_a27⟩
      · refine mv_goto (tgt := 34) d_TrustDesk_isCarried_30 (by decide) ?_
        refine mv_astore_nN (lv' := [(3, .null), (0, .ref o0), (1, .ref o1), (2, .ref o2)]) d_TrustDesk_isCarried_34 rfl (by decide) rfl ?_
        refine mv_aload_nN d_TrustDesk_isCarried_35 rfl rfl ?_
        refine mv_ifnullN (tgt := 51) d_TrustDesk_isCarried_36 (by decide) ?_
        refine mv_iconst (v := 1) d_TrustDesk_isCarried_51 (by decide) ?_
        refine mv_goto (tgt := 56) d_TrustDesk_isCarried_52 (by decide) ?_
        exact mv_iret d_TrustDesk_isCarried_56 rfl (by decide) ⟨_, I25, _, rfl, by decide, by decide⟩
      · refine mv_goto (tgt := 34) d_TrustDesk_isCarried_30 (by decide) ?_
        refine mv_astore_n (lv' := [(3, .ref a27), (0, .ref o0), (1, .ref o1), (2, .ref o2)]) d_TrustDesk_isCarried_34 rfl (by decide) rfl ?_
        refine mv_aload_n d_TrustDesk_isCarried_35 rfl rfl ?_
        refine mv_ifnull d_TrustDesk_isCarried_36 ?_
        refine mv_aload_n d_TrustDesk_isCarried_39 rfl rfl ?_
        refine mv_aload_n d_TrustDesk_isCarried_40 rfl rfl ?_
        obtain ⟨_, b41, -⟩ := I25.1 _ _ t30
        refine mv_callV (kc' := 0) (ks' := 0) (As := [.ref a27]) (st9 := [.ref a27, .ref o1]) d_TrustDesk_isCarried_41 lV_TrustDesk_384 b41 rfl (tc_Scheme_yesOf (d := (d + 2)) (x9 := x9) (o0 := o1) (o1 := a27) t30 t_a27 I25.start) rfl (Nat.le_of_ble_eq_true rfl) (Nat.le_of_ble_eq_true rfl) (Nat.le_of_ble_eq_true rfl) (hst := rfl) (fun b35r M36 n37 b35 => ?_)
        obtain ⟨T38, J39, v42, rfl⟩ := b35
        have I40 := I25.call J39 (tm_sub (by decide)) (Or.inl rfl)
        have t43 := J39.up t_a27
        have t44 := J39.up t29
        have t45 := J39.up t30
        have t46 := J39.up t31
        have q47 := J39.keep t31 (by decide) q32
        have q48 := J39.keep t30 (by decide) q33
        have q49 := J39.keep t30 (by decide) q34
        refine mv_aload_n d_TrustDesk_isCarried_44 rfl rfl ?_
        obtain ⟨v51, q50⟩ := tm_atI I40 t43 (k := 6) rfl
        refine tr_getK q50 d_TrustDesk_isCarried_45 f_TrustDesk_388_6 ?_
        have := mz_hi v42
        have := mz_hi v51
        refine mv_icmp_ltZ (tgt := 55) (a := v42.toInt) (b := v51.toInt) d_TrustDesk_isCarried_48 (by decide) rfl rfl (fun b52 => ?_) (fun b52 => ?_)
        · refine mv_iconst (v := 0) d_TrustDesk_isCarried_55 (by decide) ?_
          exact mv_iret d_TrustDesk_isCarried_56 rfl (by decide) ⟨_, I40, _, rfl, by decide, by decide⟩
        · refine mv_iconst (v := 1) d_TrustDesk_isCarried_51 (by decide) ?_
          refine mv_goto (tgt := 56) d_TrustDesk_isCarried_52 (by decide) ?_
          exact mv_iret d_TrustDesk_isCarried_56 rfl (by decide) ⟨_, I40, _, rfl, by decide, by decide⟩
  · refine mv_iconst (v := 0) d_TrustDesk_isCarried_12 (by decide) ?_
    exact mv_iret d_TrustDesk_isCarried_13 rfl (by decide) ⟨_, I6, _, rfl, by decide, by decide⟩
theorem lV_TrustDesk_342 : mj_lV "TrustDesk" 342 kY_TrustDesk_isCarried 2 := ⟨⟨(mj_in1 (List.mem_of_getElem? (i := 1104) (by decide +kernel)) rfl), (mj_in1 (List.mem_of_getElem? (i := 1) (by decide +kernel)) rfl), (mj_in1 (List.mem_of_getElem? (i := 1107) (by decide +kernel)) rfl), by decide, rfl, by decide⟩, (mj_in1 (List.mem_of_getElem? (i := 1106) (by decide +kernel)) rfl), (mj_in (List.mem_append_left _ (List.mem_of_getElem? (i := 59) (by decide +kernel))) rfl)⟩
theorem d_TrustDesk_failureOf_73 : decode kY_TrustDesk_failureOf.2.1 73 = .ok (.ifCond .ne 5, 3) := by decide +kernel
theorem d_TrustDesk_failureOf_78 : decode kY_TrustDesk_failureOf.2.1 78 = .ok (.aload_n 1, 1) := by decide +kernel
theorem d_TrustDesk_failureOf_79 : decode kY_TrustDesk_failureOf.2.1 79 = .ok (.getfield 345, 3) := by decide +kernel
theorem f_TrustDesk_345_11 : mj_fl "TrustDesk" 345 11 7 := ⟨kR_Scheme, kF_Scheme, 12, "TrustDesk$Scheme", rfl, kg_11, by decide, (mj_in1 (List.mem_of_getElem? (i := 981) (by decide +kernel)) rfl), Or.inl rfl⟩
theorem d_TrustDesk_failureOf_82 : decode kY_TrustDesk_failureOf.2.1 82 = .ok (.ifCond .le 7, 3) := by decide +kernel
theorem d_TrustDesk_failureOf_89 : decode kY_TrustDesk_failureOf.2.1 89 = .ok (.iconst 0, 1) := by decide +kernel
theorem d_TrustDesk_failureOf_90 : decode kY_TrustDesk_failureOf.2.1 90 = .ok (.ireturn, 1) := by decide +kernel
theorem d_TrustDesk_failureOf_85 : decode kY_TrustDesk_failureOf.2.1 85 = .ok (.iconst 5, 1) := by decide +kernel
theorem d_TrustDesk_failureOf_86 : decode kY_TrustDesk_failureOf.2.1 86 = .ok (.goto 4, 3) := by decide +kernel
theorem d_TrustDesk_failureOf_76 : decode kY_TrustDesk_failureOf.2.1 76 = .ok (.iconst 4, 1) := by decide +kernel
theorem d_TrustDesk_failureOf_77 : decode kY_TrustDesk_failureOf.2.1 77 = .ok (.ireturn, 1) := by decide +kernel
theorem d_TrustDesk_failureOf_65 : decode kY_TrustDesk_failureOf.2.1 65 = .ok (.iconst 3, 1) := by decide +kernel
theorem d_TrustDesk_failureOf_66 : decode kY_TrustDesk_failureOf.2.1 66 = .ok (.ireturn, 1) := by decide +kernel
theorem d_TrustDesk_failureOf_46 : decode kY_TrustDesk_failureOf.2.1 46 = .ok (.iconst 2, 1) := by decide +kernel
theorem d_TrustDesk_failureOf_47 : decode kY_TrustDesk_failureOf.2.1 47 = .ok (.ireturn, 1) := by decide +kernel
