set_option maxHeartbeats 100000000 in theorem tg_Reader_openBracket {E r7 : Nat} {K K1 : Int} (hK9 : K1 = K + 1 ∧ 0 ≤ K ∧ K ≤ 3) (H_sum : ∀ {g : mj_G} {l : Launch} {d : Nat} {T0 : tm_H} {M0 : mj_M} {n0 x9 : Nat} {o0 : Nat} (h_o0 : T0 o0 = some (0, 9, 0)) {p : Int32} (hO : tm_at M0 o0 9 16 (.int p)) (hp : K1 ≤ p.toInt)  (hp2 : p.toInt ≤ K1) {pb : Nat → Int} {pn : Nat} {pa : Int} {ps : p_S} (yC : qC M0 o0 pb pn pa) (yD : qS M0 o0 pb pn ps) (yw : ps.1 = 0) (I0 : tm_I tm_FT (tm_in w_Reader_sum_q0_x) x9 T0 M0 n0 T0 M0 n0), mj_Met g l kY_Reader_sum (d + E + 4) [.ref o0] M0 n0 0 0 (tm_Q tm_FT (tm_in w_Reader_sum_q0_x) x9 T0 M0 n0 (fun r _ M => ∃ v : Int32, r = some (.int v) ∧ 0 ≤ v.toInt ∧ v.toInt ≤ 1 ∧ (v.toInt = 1 → tm_at M o0 9 16 (.int p)) ∧ (qS M o0 pb pn (p_sum pb pn pa (p_op pb pn pa r7) ps)) ∧ (v.toInt = 1 ∧ (p_sum pb pn pa (p_op pb pn pa r7) ps).1 = 0 ∨ v.toInt = 0 ∧ (p_sum pb pn pa (p_op pb pn pa r7) ps).1 ≠ 0)))) (H_condition : ∀ {g : mj_G} {l : Launch} {d : Nat} {T0 : tm_H} {M0 : mj_M} {n0 x9 : Nat} {o0 : Nat} (h_o0 : T0 o0 = some (0, 9, 0)) {p : Int32} (hO : tm_at M0 o0 9 16 (.int p)) (hp : K1 ≤ p.toInt)  (hp2 : p.toInt ≤ K1) {pb : Nat → Int} {pn : Nat} {pa : Int} {ps : p_S} (yC : qC M0 o0 pb pn pa) (yD : qS M0 o0 pb pn ps) (yw : ps.1 = 0) (I0 : tm_I tm_FT (tm_in w_Reader_condition_q0_x) x9 T0 M0 n0 T0 M0 n0), mj_Met g l kY_Reader_condition (d + E + 7) [.ref o0] M0 n0 0 0 (tm_Q tm_FT (tm_in w_Reader_condition_q0_x) x9 T0 M0 n0 (fun r _ M => ∃ v : Int32, r = some (.int v) ∧ 0 ≤ v.toInt ∧ v.toInt ≤ 1 ∧ (v.toInt = 1 → tm_at M o0 9 16 (.int p)) ∧ (qS M o0 pb pn (p_con pb pn pa r7 (p_oc pb pn pa r7) ps)) ∧ (v.toInt = 1 ∧ (p_con pb pn pa r7 (p_oc pb pn pa r7) ps).1 = 0 ∨ v.toInt = 0 ∧ (p_con pb pn pa r7 (p_oc pb pn pa r7) ps).1 ≠ 0)))) {g : mj_G} {l : Launch} {d : Nat} {T0 : tm_H} {M0 : mj_M} {n0 x9 : Nat} {o0 : Nat} (h_o0 : T0 o0 = some (0, 9, 0)) {p : Int32} (hO : tm_at M0 o0 9 16 (.int p)) (hp : K ≤ p.toInt)  (hp2 : p.toInt ≤ K) {pb : Nat → Int} {pn : Nat} {pa : Int} {ps : p_S} (yC : qC M0 o0 pb pn pa) (yD : qS M0 o0 pb pn ps) (yw : ps.1 = 0) (yz : p_ki pb pn ps.2.2 ≠ 0) (I0 : tm_I tm_FT (tm_in w_Reader_openBracket_q0_x) x9 T0 M0 n0 T0 M0 n0) : mj_Met g l kY_Reader_openBracket (d + 1) [.ref o0] M0 n0 0 0 (tm_Q tm_FT (tm_in w_Reader_openBracket_q0_x) x9 T0 M0 n0 (fun r _ M => ∃ v : Int32, r = some (.int v) ∧ 0 ≤ v.toInt ∧ v.toInt ≤ 1 ∧ (v.toInt = 1 → p.toInt < 4 ∧ tm_at M o0 9 16 (.int (p + 1))) ∧ (qS M o0 pb pn (p_nx ps)) ∧ (v.toInt = 1 ∧ (p_nx ps).1 = 0 ∨ v.toInt = 0 ∧ (p_nx ps).1 ≠ 0))) := by
  refine mj_enter (by decide) (Nat.le_of_ble_eq_true rfl) ?_
  have hK : ∀ {T : tm_H} {M : mj_M} {n : Nat}, tm_I tm_FT (tm_in w_Reader_openBracket_q0_x) x9 T0 M0 n0 T M n → qC M o0 pb pn pa := fun I => yC.keep I0.1 I h_o0 (qW_of (by decide +kernel))
  obtain ⟨v1, v2, v3, v4, v5, v6, v7, q8, q9, q10, q11, q12, q13, q14, h15, h16, h17⟩ := yD
  replace h16 := Im.i h16
  replace h17 := Im.i h17
  have := yC.kn ps.2.2
  refine mv_aload_n d_Reader_openBracket_0 rfl rfl ?_
  refine tr_getK (k := 16) hO d_Reader_openBracket_1 f_Reader_73_9 ?_
  refine mv_iconst (v := 4) d_Reader_openBracket_4 (by decide) ?_
  have := mz_hi p
  refine mv_icmp_ltZ (tgt := 14) (a := p.toInt) (b := 4) d_Reader_openBracket_5 (by decide) rfl (by decide) (fun b18 => ?_) (fun b18 => ?_)
  · refine mv_aload_n d_Reader_openBracket_14 rfl rfl ?_
    refine mv_dup d_Reader_openBracket_15 rfl ?_
    refine tr_getK (k := 16) hO d_Reader_openBracket_16 f_Reader_73_9 ?_
    refine mv_iconst (v := 1) d_Reader_openBracket_19 (by decide) ?_
    refine mv_iadd d_Reader_openBracket_20 ?_
    refine tr_putK tm_okF I0 h_o0 (k := 16) rfl ⟨_, rfl⟩ (Or.inl (by decide)) d_Reader_openBracket_21 p_Reader_73_9 rfl rfl (fun M19 I20 q21 K22 => ?_)
    refine mv_aload_n d_Reader_openBracket_24 rfl rfl ?_
    obtain ⟨_, b29, -⟩ := I20.1 _ _ h_o0
    refine mv_callV (kc' := 0) (ks' := 0) (As := []) (st9 := [.ref o0]) d_Reader_openBracket_25 lV_Reader_82 b29 rfl (tc_Reader_advance_x (d := d) (x9 := x9) (o0 := o0) h_o0 (hK I20) (qS.a (show qS M19 o0 pb pn ps from ⟨_, _, _, _, _, _, _, (K22 _ 9 1 _ rfl q8), (K22 _ 9 2 _ rfl q9), (K22 _ 9 9 _ rfl q10), (K22 _ 9 10 _ rfl q11), (K22 _ 9 11 _ rfl q12), (K22 _ 9 12 _ rfl q13), (K22 _ 9 13 _ rfl q14), h15, Im.o h16, Im.o h17⟩)) (by show ps.2.2 + 1 ≤ 401; omega) I20.start) rfl (Nat.le_of_ble_eq_true rfl) (Nat.le_of_ble_eq_true rfl) (Nat.le_of_ble_eq_true rfl) (hst := rfl) (fun b23r M24 n25 b23 => ?_)
    obtain ⟨T26, J27, rfl, f30⟩ := b23
    have I28 := I20.call J27 (tm_sub (by decide)) (Or.inl rfl)
    have t31 := J27.up h_o0
    have q32 := J27.keep h_o0 (by decide) (K22 _ 9 1 _ rfl q8)
    have q33 := J27.keep h_o0 (by decide) (K22 _ 9 2 _ rfl q9)
    have q34 := J27.keep h_o0 (by decide) q21
    obtain ⟨s35, e36⟩ : ∃ s9 : p_S, p_nx ps = s9 := ⟨_, rfl⟩
    rw [e36] at f30
    have : s35.1 = 0 := by rw [← e36]; show ps.1 = 0; omega
    obtain ⟨v37, v38, v39, v40, v41, v42, v43, q44, q45, q46, q47, q48, q49, q50, h51, h52, h53⟩ := f30
    replace h52 := Im.i h52
    replace h53 := Im.i h53
    refine mv_iconst (v := 1) d_Reader_openBracket_28 (by decide) ?_
    exact mv_iret d_Reader_openBracket_29 rfl (by decide) ⟨_, I28, _, rfl, by decide, by decide, fun _ => ⟨by omega, q34⟩, (by have eT : p_nx ps = s35 := (by (try simp only [e36])); rw [eT]; exact ⟨⟨_, _, _, _, _, _, _, q44, q45, q46, q47, q48, q49, q50, h51, Im.o h52, Im.o h53⟩, (Or.inl ⟨by first | decide | omega, by omega⟩)⟩)⟩
  · refine mv_aload_n d_Reader_openBracket_8 rfl rfl ?_
    refine mv_iconst (v := 4) d_Reader_openBracket_9 (by decide) ?_
    obtain ⟨_, b54, -⟩ := I0.1 _ _ h_o0
    refine mv_callV (kc1 := 0) (ks1 := 0) (kc' := 0) (ks' := 0) (As := [.int 4]) (st9 := [.int 4, .ref o0]) d_Reader_openBracket_10 lV_Reader_56 b54 rfl (mj_enter (by decide) (Nat.le_of_ble_eq_true rfl) ?_) rfl (Nat.le_of_ble_eq_true rfl) (Nat.le_of_ble_eq_true rfl) (Nat.le_of_ble_eq_true rfl) (hst := rfl) (fun _ _ _ h => h)
    refine mv_aload_n d_Reader_refuse_0 rfl rfl ?_
    refine mv_iload_n d_Reader_refuse_1 rfl rfl ?_
    refine tr_putK tm_okF I0 h_o0 (k := 1) rfl ⟨_, rfl⟩ (Or.inl (by decide)) d_Reader_refuse_2 p_Reader_70_9 rfl rfl (fun M55 I56 q57 K58 => ?_)
    refine mv_aload_n d_Reader_refuse_5 rfl rfl ?_
    refine mv_aload_n d_Reader_refuse_6 rfl rfl ?_
    refine tr_getK (k := 11) (K58 _ 9 11 _ rfl q12) d_Reader_refuse_7 f_Reader_175_9 ?_
    refine tr_putK tm_okF I56 h_o0 (k := 2) rfl ⟨_, rfl⟩ (Or.inl (by decide)) d_Reader_refuse_10 p_Reader_11_9 rfl rfl (fun M59 I60 q61 K62 => ?_)
    refine mv_iconst (v := 0) d_Reader_refuse_13 (by decide) ?_
    obtain ⟨s63, e64⟩ : ∃ s9 : p_S, p_fl pb pn 4 ps = s9 := ⟨_, rfl⟩
    have h65 := q_fl e64 (by omega) (by decide)
    have h66 : (4 : Int32).toInt = s63.1 := (by have e9 : (4 : Int32).toInt = 4 := (by decide); omega)
    have h67 : Im (s63.1 ≠ 0 → v5.toInt = (s63.2.1 : Int)) := Im.i (fun _ => by have := (Im.o h17) (by omega); omega)
    have h68 : Im (s63.1 = 0 → v3.toInt = (s63.2.2 : Int) ∧ v4.toInt = p_ki pb pn s63.2.2 ∧ v5.toInt = (p_st pb pn s63.2.2 : Int) ∧ v6.toInt = (p_sp pb pn s63.2.2 : Int) ∧ v7.toInt = p_va pb pn s63.2.2 ∧ v5.toInt = -1) := Im.i (fun z9 => absurd z9 h65.2.2)
    refine mv_iret d_Reader_refuse_14 rfl (by decide) ?_
    exact mv_iret d_Reader_openBracket_13 rfl (by decide) ⟨_, I60, _, rfl, by decide, by decide, fun h => absurd h (by decide), (by exfalso; omega)⟩
set_option maxHeartbeats 100000000 in theorem tg_Reader_factor {E r7 : Nat} {K K1 : Int} (hK9 : K1 = K + 1 ∧ 0 ≤ K ∧ K ≤ 3) (H_sum : ∀ {g : mj_G} {l : Launch} {d : Nat} {T0 : tm_H} {M0 : mj_M} {n0 x9 : Nat} {o0 : Nat} (h_o0 : T0 o0 = some (0, 9, 0)) {p : Int32} (hO : tm_at M0 o0 9 16 (.int p)) (hp : K1 ≤ p.toInt)  (hp2 : p.toInt ≤ K1) {pb : Nat → Int} {pn : Nat} {pa : Int} {ps : p_S} (yC : qC M0 o0 pb pn pa) (yD : qS M0 o0 pb pn ps) (yw : ps.1 = 0) (I0 : tm_I tm_FT (tm_in w_Reader_sum_q0_x) x9 T0 M0 n0 T0 M0 n0), mj_Met g l kY_Reader_sum (d + E + 4) [.ref o0] M0 n0 0 0 (tm_Q tm_FT (tm_in w_Reader_sum_q0_x) x9 T0 M0 n0 (fun r _ M => ∃ v : Int32, r = some (.int v) ∧ 0 ≤ v.toInt ∧ v.toInt ≤ 1 ∧ (v.toInt = 1 → tm_at M o0 9 16 (.int p)) ∧ (qS M o0 pb pn (p_sum pb pn pa (p_op pb pn pa r7) ps)) ∧ (v.toInt = 1 ∧ (p_sum pb pn pa (p_op pb pn pa r7) ps).1 = 0 ∨ v.toInt = 0 ∧ (p_sum pb pn pa (p_op pb pn pa r7) ps).1 ≠ 0)))) (H_condition : ∀ {g : mj_G} {l : Launch} {d : Nat} {T0 : tm_H} {M0 : mj_M} {n0 x9 : Nat} {o0 : Nat} (h_o0 : T0 o0 = some (0, 9, 0)) {p : Int32} (hO : tm_at M0 o0 9 16 (.int p)) (hp : K1 ≤ p.toInt)  (hp2 : p.toInt ≤ K1) {pb : Nat → Int} {pn : Nat} {pa : Int} {ps : p_S} (yC : qC M0 o0 pb pn pa) (yD : qS M0 o0 pb pn ps) (yw : ps.1 = 0) (I0 : tm_I tm_FT (tm_in w_Reader_condition_q0_x) x9 T0 M0 n0 T0 M0 n0), mj_Met g l kY_Reader_condition (d + E + 7) [.ref o0] M0 n0 0 0 (tm_Q tm_FT (tm_in w_Reader_condition_q0_x) x9 T0 M0 n0 (fun r _ M => ∃ v : Int32, r = some (.int v) ∧ 0 ≤ v.toInt ∧ v.toInt ≤ 1 ∧ (v.toInt = 1 → tm_at M o0 9 16 (.int p)) ∧ (qS M o0 pb pn (p_con pb pn pa r7 (p_oc pb pn pa r7) ps)) ∧ (v.toInt = 1 ∧ (p_con pb pn pa r7 (p_oc pb pn pa r7) ps).1 = 0 ∨ v.toInt = 0 ∧ (p_con pb pn pa r7 (p_oc pb pn pa r7) ps).1 ≠ 0)))) {g : mj_G} {l : Launch} {d : Nat} {T0 : tm_H} {M0 : mj_M} {n0 x9 : Nat} {o0 : Nat} (h_o0 : T0 o0 = some (0, 9, 0)) {p : Int32} (hO : tm_at M0 o0 9 16 (.int p)) (hp : K ≤ p.toInt)  (hp2 : p.toInt ≤ K) {pb : Nat → Int} {pn : Nat} {pa : Int} {ps : p_S} (yC : qC M0 o0 pb pn pa) (yD : qS M0 o0 pb pn ps) (yw : ps.1 = 0) (I0 : tm_I tm_FT (tm_in w_Reader_factor_q0_x) x9 T0 M0 n0 T0 M0 n0) : mj_Met g l kY_Reader_factor (d + E + 5) [.ref o0] M0 n0 0 0 (tm_Q tm_FT (tm_in w_Reader_factor_q0_x) x9 T0 M0 n0 (fun r _ M => ∃ v : Int32, r = some (.int v) ∧ 0 ≤ v.toInt ∧ v.toInt ≤ 1 ∧ (v.toInt = 1 → tm_at M o0 9 16 (.int p)) ∧ (qS M o0 pb pn (p_fac pb pn pa (p_op pb pn pa (r7 + 1)) ps)) ∧ (v.toInt = 1 ∧ (p_fac pb pn pa (p_op pb pn pa (r7 + 1)) ps).1 = 0 ∨ v.toInt = 0 ∧ (p_fac pb pn pa (p_op pb pn pa (r7 + 1)) ps).1 ≠ 0))) := by
  refine mj_enter (by decide) (Nat.le_of_ble_eq_true rfl) ?_
  have hK : ∀ {T : tm_H} {M : mj_M} {n : Nat}, tm_I tm_FT (tm_in w_Reader_factor_q0_x) x9 T0 M0 n0 T M n → qC M o0 pb pn pa := fun I => yC.keep I0.1 I h_o0 (qW_of (by decide +kernel))
  obtain ⟨v1, v2, v3, v4, v5, v6, v7, q8, q9, q10, q11, q12, q13, q14, h15, h16, h17⟩ := yD
  replace h16 := Im.i h16
  replace h17 := Im.i h17
  refine mv_aload_n d_Reader_factor_0 rfl rfl ?_
  refine tr_getK (k := 10) q11 d_Reader_factor_1 f_Reader_41_9 ?_
  refine mv_iconst (v := 2) d_Reader_factor_4 (by decide) ?_
  have := mz_hi v4
  refine mv_icmp_neZ (tgt := 32) (a := v4.toInt) (b := 2) d_Reader_factor_5 (by decide) rfl (by decide) (fun b18 => ?_) (fun b18 => ?_)
  · refine mv_aload_n d_Reader_factor_32 rfl rfl ?_
    refine tr_getK (k := 10) q11 d_Reader_factor_33 f_Reader_41_9 ?_
    refine mv_iconst (v := 1) d_Reader_factor_36 (by decide) ?_
    have := mz_hi v4
    refine mv_icmp_neZ (tgt := 73) (a := v4.toInt) (b := 1) d_Reader_factor_37 (by decide) rfl (by decide) (fun b19 => ?_) (fun b19 => ?_)
    · refine mv_aload_n d_Reader_factor_73 rfl rfl ?_
      refine mv_bipush (v := 40) d_Reader_factor_74 (by decide) ?_
      obtain ⟨_, b20, -⟩ := I0.1 _ _ h_o0
      refine mv_callV (kc1 := 0) (ks1 := 0) (kc' := 0) (ks' := 0) (As := [.int 40]) (st9 := [.int 40, .ref o0]) d_Reader_factor_76 lV_Reader_209 b20 rfl (mj_enter (by decide) (Nat.le_of_ble_eq_true rfl) ?_) rfl (Nat.le_of_ble_eq_true rfl) (Nat.le_of_ble_eq_true rfl) (Nat.le_of_ble_eq_true rfl) (hst := rfl) (fun _ _ _ h => h)
      refine mv_aload_n d_Reader_isSign_0 rfl rfl ?_
      refine tr_getK (k := 10) q11 d_Reader_isSign_1 f_Reader_41_9 ?_
      refine mv_iconst (v := 3) d_Reader_isSign_4 (by decide) ?_
      have := mz_hi v4
      refine mv_icmp_neZ (tgt := 20) (a := v4.toInt) (b := 3) d_Reader_isSign_5 (by decide) rfl (by decide) (fun b21 => ?_) (fun b21 => ?_)
      · refine mv_iconst (v := 0) d_Reader_isSign_20 (by decide) ?_
        refine mv_iret d_Reader_isSign_21 rfl (by decide) ?_
        refine mv_if_ne_f (tgt := 88) d_Reader_factor_79 (by decide) (by decide) ?_
        refine mv_aload_n d_Reader_factor_82 rfl rfl ?_
        refine mv_iconst (v := 1) d_Reader_factor_83 (by decide) ?_
        obtain ⟨_, b22, -⟩ := I0.1 _ _ h_o0
        refine mv_callV (kc1 := 0) (ks1 := 0) (kc' := 0) (ks' := 0) (As := [.int 1]) (st9 := [.int 1, .ref o0]) d_Reader_factor_84 lV_Reader_56 b22 rfl (mj_enter (by decide) (Nat.le_of_ble_eq_true rfl) ?_) rfl (Nat.le_of_ble_eq_true rfl) (Nat.le_of_ble_eq_true rfl) (Nat.le_of_ble_eq_true rfl) (hst := rfl) (fun _ _ _ h => h)
        refine mv_aload_n d_Reader_refuse_0 rfl rfl ?_
        refine mv_iload_n d_Reader_refuse_1 rfl rfl ?_
        refine tr_putK tm_okF I0 h_o0 (k := 1) rfl ⟨_, rfl⟩ (Or.inl (by decide)) d_Reader_refuse_2 p_Reader_70_9 rfl rfl (fun M23 I24 q25 K26 => ?_)
        refine mv_aload_n d_Reader_refuse_5 rfl rfl ?_
        refine mv_aload_n d_Reader_refuse_6 rfl rfl ?_
        refine tr_getK (k := 11) (K26 _ 9 11 _ rfl q12) d_Reader_refuse_7 f_Reader_175_9 ?_
        refine tr_putK tm_okF I24 h_o0 (k := 2) rfl ⟨_, rfl⟩ (Or.inl (by decide)) d_Reader_refuse_10 p_Reader_11_9 rfl rfl (fun M27 I28 q29 K30 => ?_)
        refine mv_iconst (v := 0) d_Reader_refuse_13 (by decide) ?_
        obtain ⟨s31, e32⟩ : ∃ s9 : p_S, p_fl pb pn 1 ps = s9 := ⟨_, rfl⟩
        have h33 := q_fl e32 (by omega) (by decide)
        have h34 : (1 : Int32).toInt = s31.1 := (by have e9 : (1 : Int32).toInt = 1 := (by decide); omega)
        have h35 : Im (s31.1 ≠ 0 → v5.toInt = (s31.2.1 : Int)) := Im.i (fun _ => by have := (Im.o h17) (by omega); omega)
        have h36 : Im (s31.1 = 0 → v3.toInt = (s31.2.2 : Int) ∧ v4.toInt = p_ki pb pn s31.2.2 ∧ v5.toInt = (p_st pb pn s31.2.2 : Int) ∧ v6.toInt = (p_sp pb pn s31.2.2 : Int) ∧ v7.toInt = p_va pb pn s31.2.2 ∧ v5.toInt = -1) := Im.i (fun z9 => absurd z9 h33.2.2)
        refine mv_iret d_Reader_refuse_14 rfl (by decide) ?_
        exact mv_iret d_Reader_factor_87 rfl (by decide) ⟨_, I28, _, rfl, by decide, by decide, fun h => absurd h (by decide), (by have := (Im.o h17) (by omega); have := yC.d ps.2.2; have := yC.kn ps.2.2; have hb : s31.1 ≠ 0 := (by omega); have z1 : ∀ c, p_sg pb pn c s31 = s31 := (fun c => p_sg_Z s31 hb); have z2 : ∀ c, p_wd pb pn c s31 = s31 := (fun c => p_wd_Z s31 hb); have z3 : ∀ op, p_sum pb pn pa op s31 = s31 := (fun op => p_sum_Z s31 hb); have z4 : ∀ r oc, p_con pb pn pa r oc s31 = s31 := (fun r oc => p_con_Z s31 hb); have z5 : p_prt pb pn s31 = s31 := p_prt_Z s31 hb; have eT : p_fac pb pn pa (p_op pb pn pa (r7 + 1)) ps = s31 := (by have hop : p_op pb pn pa (r7 + 1) ps = p_sg pb pn 41 (p_sum pb pn pa (p_op pb pn pa r7) (p_nx ps)) := rfl; unfold p_fac; (try simp only [hop]); (try simp only [e32, z1, z2, z3, z4, z5]); ((repeat' (first | (with_reducible rfl) | split)) <;> (first | ((try simp only [e32, z1, z2, z3, z4, z5]); done) | (exfalso; omega)))); rw [eT]; exact ⟨⟨_, _, _, _, _, _, _, (K30 _ 9 1 _ rfl q25), q29, (K30 _ 9 9 _ rfl (K26 _ 9 9 _ rfl q10)), (K30 _ 9 10 _ rfl (K26 _ 9 10 _ rfl q11)), (K30 _ 9 11 _ rfl (K26 _ 9 11 _ rfl q12)), (K30 _ 9 12 _ rfl (K26 _ 9 12 _ rfl q13)), (K30 _ 9 13 _ rfl (K26 _ 9 13 _ rfl q14)), h34, Im.o h35, Im.o h36⟩, (Or.inr ⟨by first | decide | omega, by omega⟩)⟩)⟩
      · refine mv_aload_n d_Reader_isSign_8 rfl rfl ?_
        refine tr_getK (k := 13) q14 d_Reader_isSign_9 f_Reader_241_9 ?_
        refine mv_iload_n d_Reader_isSign_12 rfl rfl ?_
        have := mz_hi v7
        refine mv_icmp_neZ (tgt := 20) (a := v7.toInt) (b := 40) d_Reader_isSign_13 (by decide) rfl (by decide) (fun b37 => ?_) (fun b37 => ?_)
        · refine mv_iconst (v := 0) d_Reader_isSign_20 (by decide) ?_
          refine mv_iret d_Reader_isSign_21 rfl (by decide) ?_
          refine mv_if_ne_f (tgt := 88) d_Reader_factor_79 (by decide) (by decide) ?_
          refine mv_aload_n d_Reader_factor_82 rfl rfl ?_
          refine mv_iconst (v := 1) d_Reader_factor_83 (by decide) ?_
          obtain ⟨_, b38, -⟩ := I0.1 _ _ h_o0
          refine mv_callV (kc1 := 0) (ks1 := 0) (kc' := 0) (ks' := 0) (As := [.int 1]) (st9 := [.int 1, .ref o0]) d_Reader_factor_84 lV_Reader_56 b38 rfl (mj_enter (by decide) (Nat.le_of_ble_eq_true rfl) ?_) rfl (Nat.le_of_ble_eq_true rfl) (Nat.le_of_ble_eq_true rfl) (Nat.le_of_ble_eq_true rfl) (hst := rfl) (fun _ _ _ h => h)
          refine mv_aload_n d_Reader_refuse_0 rfl rfl ?_
          refine mv_iload_n d_Reader_refuse_1 rfl rfl ?_
          refine tr_putK tm_okF I0 h_o0 (k := 1) rfl ⟨_, rfl⟩ (Or.inl (by decide)) d_Reader_refuse_2 p_Reader_70_9 rfl rfl (fun M39 I40 q41 K42 => ?_)
          refine mv_aload_n d_Reader_refuse_5 rfl rfl ?_
          refine mv_aload_n d_Reader_refuse_6 rfl rfl ?_
          refine tr_getK (k := 11) (K42 _ 9 11 _ rfl q12) d_Reader_refuse_7 f_Reader_175_9 ?_
          refine tr_putK tm_okF I40 h_o0 (k := 2) rfl ⟨_, rfl⟩ (Or.inl (by decide)) d_Reader_refuse_10 p_Reader_11_9 rfl rfl (fun M43 I44 q45 K46 => ?_)
          refine mv_iconst (v := 0) d_Reader_refuse_13 (by decide) ?_
          obtain ⟨s47, e48⟩ : ∃ s9 : p_S, p_fl pb pn 1 ps = s9 := ⟨_, rfl⟩
          have h49 := q_fl e48 (by omega) (by decide)
          have h50 : (1 : Int32).toInt = s47.1 := (by have e9 : (1 : Int32).toInt = 1 := (by decide); omega)
          have h51 : Im (s47.1 ≠ 0 → v5.toInt = (s47.2.1 : Int)) := Im.i (fun _ => by have := (Im.o h17) (by omega); omega)
          have h52 : Im (s47.1 = 0 → v3.toInt = (s47.2.2 : Int) ∧ v4.toInt = p_ki pb pn s47.2.2 ∧ v5.toInt = (p_st pb pn s47.2.2 : Int) ∧ v6.toInt = (p_sp pb pn s47.2.2 : Int) ∧ v7.toInt = p_va pb pn s47.2.2 ∧ v5.toInt = -1) := Im.i (fun z9 => absurd z9 h49.2.2)
          refine mv_iret d_Reader_refuse_14 rfl (by decide) ?_
          exact mv_iret d_Reader_factor_87 rfl (by decide) ⟨_, I44, _, rfl, by decide, by decide, fun h => absurd h (by decide), (by have := (Im.o h17) (by omega); have := yC.d ps.2.2; have := yC.kn ps.2.2; have hb : s47.1 ≠ 0 := (by omega); have z1 : ∀ c, p_sg pb pn c s47 = s47 := (fun c => p_sg_Z s47 hb); have z2 : ∀ c, p_wd pb pn c s47 = s47 := (fun c => p_wd_Z s47 hb); have z3 : ∀ op, p_sum pb pn pa op s47 = s47 := (fun op => p_sum_Z s47 hb); have z4 : ∀ r oc, p_con pb pn pa r oc s47 = s47 := (fun r oc => p_con_Z s47 hb); have z5 : p_prt pb pn s47 = s47 := p_prt_Z s47 hb; have eT : p_fac pb pn pa (p_op pb pn pa (r7 + 1)) ps = s47 := (by have hop : p_op pb pn pa (r7 + 1) ps = p_sg pb pn 41 (p_sum pb pn pa (p_op pb pn pa r7) (p_nx ps)) := rfl; unfold p_fac; (try simp only [hop]); (try simp only [e48, z1, z2, z3, z4, z5]); ((repeat' (first | (with_reducible rfl) | split)) <;> (first | ((try simp only [e48, z1, z2, z3, z4, z5]); done) | (exfalso; omega)))); rw [eT]; exact ⟨⟨_, _, _, _, _, _, _, (K46 _ 9 1 _ rfl q41), q45, (K46 _ 9 9 _ rfl (K42 _ 9 9 _ rfl q10)), (K46 _ 9 10 _ rfl (K42 _ 9 10 _ rfl q11)), (K46 _ 9 11 _ rfl (K42 _ 9 11 _ rfl q12)), (K46 _ 9 12 _ rfl (K42 _ 9 12 _ rfl q13)), (K46 _ 9 13 _ rfl (K42 _ 9 13 _ rfl q14)), h50, Im.o h51, Im.o h52⟩, (Or.inr ⟨by first | decide | omega, by omega⟩)⟩)⟩
        · refine mv_iconst (v := 1) d_Reader_isSign_16 (by decide) ?_
          refine mv_goto (tgt := 21) d_Reader_isSign_17 (by decide) ?_
          refine mv_iret d_Reader_isSign_21 rfl (by decide) ?_
          refine mv_if_ne_t (tgt := 88) d_Reader_factor_79 (by decide) (by decide) ?_
          refine mv_aload_n d_Reader_factor_88 rfl rfl ?_
          obtain ⟨_, b59, -⟩ := I0.1 _ _ h_o0
          refine mv_callV (kc' := 0) (ks' := 0) (As := []) (st9 := [.ref o0]) d_Reader_factor_89 lV_Reader_212 b59 rfl (tg_Reader_openBracket hK9 H_sum H_condition (d := (d + E + 3)) (x9 := x9) (o0 := o0) h_o0 (p := p) hO (by omega) (by first | omega | decide) (hK I0) ⟨_, _, _, _, _, _, _, q8, q9, q10, q11, q12, q13, q14, h15, Im.o h16, Im.o h17⟩ (by omega) (by have := (Im.o h17) (by omega); have := yC.d ps.2.2; have := yC.kn ps.2.2; show p_ki pb pn ps.2.2 ≠ 0; omega) I0.start) rfl (Nat.le_of_ble_eq_true rfl) (Nat.le_of_ble_eq_true rfl) (Nat.le_of_ble_eq_true rfl) (hst := rfl) (fun b53r M54 n55 b53 => ?_)
          obtain ⟨T56, J57, v60, rfl, b61, b62, o63, f64, f65⟩ := b53
          have I58 := I0.call J57 (tm_sub (by decide)) (Or.inl rfl)
          have t66 := J57.up h_o0
          obtain ⟨s67, e68⟩ : ∃ s9 : p_S, p_nx ps = s9 := ⟨_, rfl⟩
          rw [e68] at f64 f65
          have : s67.1 = 0 := by rw [← e68]; show ps.1 = 0; omega
          obtain ⟨v69, v70, v71, v72, v73, v74, v75, q76, q77, q78, q79, q80, q81, q82, h83, h84, h85⟩ := f64
          replace h84 := Im.i h84
          replace h85 := Im.i h85
          have := mz_hi v60
          refine mv_if_eqZ (tgt := 102) (a := v60.toInt) d_Reader_factor_92 (by decide) rfl (fun b86 => ?_) (fun b86 => ?_)
          · refine mv_iconst (v := 0) d_Reader_factor_102 (by decide) ?_
            exact mv_iret d_Reader_factor_103 rfl (by decide) ⟨_, I58, _, rfl, by decide, by decide, fun h => absurd h (by decide), (by have := (Im.o h17) (by omega); have := yC.d ps.2.2; have := yC.kn ps.2.2; have hb : s67.1 ≠ 0 := (by omega); have z1 : ∀ c, p_sg pb pn c s67 = s67 := (fun c => p_sg_Z s67 hb); have z2 : ∀ c, p_wd pb pn c s67 = s67 := (fun c => p_wd_Z s67 hb); have z3 : ∀ op, p_sum pb pn pa op s67 = s67 := (fun op => p_sum_Z s67 hb); have z4 : ∀ r oc, p_con pb pn pa r oc s67 = s67 := (fun r oc => p_con_Z s67 hb); have z5 : p_prt pb pn s67 = s67 := p_prt_Z s67 hb; have eT : p_fac pb pn pa (p_op pb pn pa (r7 + 1)) ps = s67 := (by have hop : p_op pb pn pa (r7 + 1) ps = p_sg pb pn 41 (p_sum pb pn pa (p_op pb pn pa r7) (p_nx ps)) := rfl; unfold p_fac; (try simp only [hop]); (try simp only [e68, z1, z2, z3, z4, z5]); ((repeat' (first | (with_reducible rfl) | split)) <;> (first | ((try simp only [e68, z1, z2, z3, z4, z5]); done) | (exfalso; omega)))); rw [eT]; exact ⟨⟨_, _, _, _, _, _, _, q76, q77, q78, q79, q80, q81, q82, h83, Im.o h84, Im.o h85⟩, (Or.inl ⟨by first | decide | omega, by omega⟩)⟩)⟩
          · obtain ⟨b88, q87⟩ := o63 (by omega)
            have b89 : (p + 1).toInt = p.toInt + 1 := mz_addn 1 1 (by decide) (by have := mz_lo p; omega) (by have := mz_hi p; omega)
            refine mv_aload_n d_Reader_factor_95 rfl rfl ?_
            obtain ⟨_, b96, -⟩ := I58.1 _ _ t66
            refine mv_callV (kc' := 0) (ks' := 0) (As := []) (st9 := [.ref o0]) d_Reader_factor_96 lV_Reader_186 b96 rfl (H_sum (d := d) (x9 := x9) (o0 := o0) t66 (p := (p + 1)) q87 (by omega) (by first | omega | decide) (hK I58) ⟨_, _, _, _, _, _, _, q76, q77, q78, q79, q80, q81, q82, h83, Im.o h84, Im.o h85⟩ (by omega) I58.start) rfl (Nat.le_of_ble_eq_true rfl) (Nat.le_of_ble_eq_true rfl) (Nat.le_of_ble_eq_true rfl) (hst := rfl) (fun b90r M91 n92 b90 => ?_)
            obtain ⟨T93, J94, v97, rfl, b98, b99, o100, f101, f102⟩ := b90
            have I95 := I58.call J94 (tm_sub (by decide)) (Or.inl rfl)
            have t103 := J94.up t66
            obtain ⟨s104, e105⟩ : ∃ s9 : p_S, p_sum pb pn pa (p_op pb pn pa r7) s67 = s9 := ⟨_, rfl⟩
            rw [e105] at f101 f102
            obtain ⟨v106, v107, v108, v109, v110, v111, v112, q113, q114, q115, q116, q117, q118, q119, h120, h121, h122⟩ := f101
            replace h121 := Im.i h121
            replace h122 := Im.i h122
            have := mz_hi v97
            refine mv_if_neZ (tgt := 104) (a := v97.toInt) d_Reader_factor_99 (by decide) rfl (fun b123 => ?_) (fun b123 => ?_)
            · have q124 := o100 (by omega)
              refine mv_aload_n d_Reader_factor_104 rfl rfl ?_
              refine mv_dup d_Reader_factor_105 rfl ?_
              refine tr_getK (k := 16) q124 d_Reader_factor_106 f_Reader_73_9 ?_
              refine mv_iconst (v := 1) d_Reader_factor_109 (by decide) ?_
              refine mv_isubv (v := p) d_Reader_factor_110 (Int32.add_sub_cancel _ _) ?_
              refine tr_putK tm_okF I95 t103 (k := 16) rfl ⟨_, rfl⟩ (Or.inl (by decide)) d_Reader_factor_111 p_Reader_73_9 rfl rfl (fun M125 I126 q127 K128 => ?_)
              refine mv_aload_n d_Reader_factor_114 rfl rfl ?_
              refine mv_bipush (v := 41) d_Reader_factor_115 (by decide) ?_
              obtain ⟨_, b135, -⟩ := I126.1 _ _ t103
              refine mv_callV (kc' := 0) (ks' := 0) (As := [.int 41]) (st9 := [.int 41, .ref o0]) d_Reader_factor_117 lV_Reader_63 b135 rfl (tc_Reader_sign_x (d := (d + E + 3)) (x9 := x9) (o0 := o0) (x1 := 41) t103 (hK I126) ⟨_, _, _, _, _, _, _, (K128 _ 9 1 _ rfl q113), (K128 _ 9 2 _ rfl q114), (K128 _ 9 9 _ rfl q115), (K128 _ 9 10 _ rfl q116), (K128 _ 9 11 _ rfl q117), (K128 _ 9 12 _ rfl q118), (K128 _ 9 13 _ rfl q119), h120, Im.o h121, Im.o h122⟩ (by omega) (by first | omega | decide) I126.start) rfl (Nat.le_of_ble_eq_true rfl) (Nat.le_of_ble_eq_true rfl) (Nat.le_of_ble_eq_true rfl) (hst := rfl) (fun b129r M130 n131 b129 => ?_)
              obtain ⟨T132, J133, v136, rfl, b137, b138, f139, f140⟩ := b129
              have I134 := I126.call J133 (tm_sub (by decide)) (Or.inl rfl)
              have t141 := J133.up t103
              have q142 := J133.keep t103 (by decide) q127
              rw [show (41 : Int32).toInt = 41 from by decide] at f139 f140
              obtain ⟨s143, e144⟩ : ∃ s9 : p_S, p_sg pb pn 41 s104 = s9 := ⟨_, rfl⟩
              rw [e144] at f139 f140
              obtain ⟨v145, v146, v147, v148, v149, v150, v151, q152, q153, q154, q155, q156, q157, q158, h159, h160, h161⟩ := f139
              replace h160 := Im.i h160
              replace h161 := Im.i h161
              exact mv_iret d_Reader_factor_120 rfl (mz_nb (by omega) (by omega)) ⟨_, I134, _, rfl, by omega, by omega, fun _ => q142, (by have := (Im.o h17) (by omega); have := yC.d ps.2.2; have := yC.kn ps.2.2; have eT : p_fac pb pn pa (p_op pb pn pa (r7 + 1)) ps = s143 := (by have hop : p_op pb pn pa (r7 + 1) ps = p_sg pb pn 41 (p_sum pb pn pa (p_op pb pn pa r7) (p_nx ps)) := rfl; unfold p_fac; (try simp only [hop]); (try simp only [e68, e105, e144]); ((repeat' (first | (with_reducible rfl) | split)) <;> (first | ((try simp only [e68, e105, e144]); done) | (exfalso; omega)))); rw [eT]; exact ⟨⟨_, _, _, _, _, _, _, q152, q153, q154, q155, q156, q157, q158, h159, Im.o h160, Im.o h161⟩, (by omega)⟩)⟩
            · refine mv_iconst (v := 0) d_Reader_factor_102 (by decide) ?_
              exact mv_iret d_Reader_factor_103 rfl (by decide) ⟨_, I95, _, rfl, by decide, by decide, fun h => absurd h (by decide), (by have := (Im.o h17) (by omega); have := yC.d ps.2.2; have := yC.kn ps.2.2; have hb : s104.1 ≠ 0 := (by omega); have z1 : ∀ c, p_sg pb pn c s104 = s104 := (fun c => p_sg_Z s104 hb); have z2 : ∀ c, p_wd pb pn c s104 = s104 := (fun c => p_wd_Z s104 hb); have z3 : ∀ op, p_sum pb pn pa op s104 = s104 := (fun op => p_sum_Z s104 hb); have z4 : ∀ r oc, p_con pb pn pa r oc s104 = s104 := (fun r oc => p_con_Z s104 hb); have z5 : p_prt pb pn s104 = s104 := p_prt_Z s104 hb; have eT : p_fac pb pn pa (p_op pb pn pa (r7 + 1)) ps = s104 := (by have hop : p_op pb pn pa (r7 + 1) ps = p_sg pb pn 41 (p_sum pb pn pa (p_op pb pn pa r7) (p_nx ps)) := rfl; unfold p_fac; (try simp only [hop]); (try simp only [e68, e105, z1, z2, z3, z4, z5]); ((repeat' (first | (with_reducible rfl) | split)) <;> (first | ((try simp only [e68, e105, z1, z2, z3, z4, z5]); done) | (exfalso; omega)))); rw [eT]; exact ⟨⟨_, _, _, _, _, _, _, q113, q114, q115, q116, q117, q118, q119, h120, Im.o h121, Im.o h122⟩, (Or.inr ⟨by first | decide | omega, by omega⟩)⟩)⟩
    · refine mv_aload_n d_Reader_factor_40 rfl rfl ?_
      refine mv_iconst (v := 0) d_Reader_factor_41 (by decide) ?_
      refine mv_aload_n d_Reader_factor_42 rfl rfl ?_
      obtain ⟨v163, q162⟩ := tm_atI I0 h_o0 (k := 15) rfl
      refine tr_getK q162 d_Reader_factor_43 f_Reader_67_9 ?_
      have := tm_rv q162
      have := (hK I0).2.1
      have := (hK I0).2.2.1
      obtain ⟨_, b164, -⟩ := I0.1 _ _ h_o0
      refine mv_callV (kc1 := 0) (ks1 := 0) (kc' := 0) (ks' := 0) (As := [.int 0, .int v163]) (st9 := [.int v163, .int 0, .ref o0]) d_Reader_factor_46 lV_Reader_85 b164 rfl (mj_enter (by decide) (Nat.le_of_ble_eq_true rfl) ?_) rfl (Nat.le_of_ble_eq_true rfl) (Nat.le_of_ble_eq_true rfl) (Nat.le_of_ble_eq_true rfl) (hst := rfl) (fun _ _ _ h => h)
      refine mv_aload_n d_Reader_valueAmong_0 rfl rfl ?_
      refine tr_getK (k := 10) q11 d_Reader_valueAmong_1 f_Reader_41_9 ?_
      refine mv_iconst (v := 1) d_Reader_valueAmong_4 (by decide) ?_
      have := mz_hi v4
      refine mv_icmp_neZ (tgt := 35) (a := v4.toInt) (b := 1) d_Reader_valueAmong_5 (by decide) rfl (by decide) (fun b165 => absurd b165 (by omega)) (fun b165 => ?_)
      refine mv_aload_n d_Reader_valueAmong_8 rfl rfl ?_
      refine tr_getK (k := 13) q14 d_Reader_valueAmong_9 f_Reader_241_9 ?_
      refine mv_iload_n d_Reader_valueAmong_12 rfl rfl ?_
      have := mz_hi v7
      refine mv_icmp_ltZ (tgt := 35) (a := v7.toInt) (b := 0) d_Reader_valueAmong_13 (by decide) rfl (by decide) (fun b166 => ?_) (fun b166 => ?_)
      · refine mv_iconst (v := (-1)) d_Reader_valueAmong_35 (by decide) ?_
        refine mv_iret d_Reader_valueAmong_36 rfl (by first | rfl | decide) ?_
        refine mv_istore_n (lv' := [(1, .int (-1)), (0, .ref o0)]) d_Reader_factor_49 rfl (by decide) rfl ?_
        refine mv_iload_n d_Reader_factor_50 rfl rfl ?_
        refine mv_iconst (v := (-1)) d_Reader_factor_51 (by decide) ?_
        refine mv_icmp_ne_f (tgt := 61) d_Reader_factor_52 (by decide) (by decide) ?_
        refine mv_aload_n d_Reader_factor_55 rfl rfl ?_
        refine mv_iconst (v := 3) d_Reader_factor_56 (by decide) ?_
        obtain ⟨_, b167, -⟩ := I0.1 _ _ h_o0
        refine mv_callV (kc1 := 0) (ks1 := 0) (kc' := 0) (ks' := 0) (As := [.int 3]) (st9 := [.int 3, .ref o0]) d_Reader_factor_57 lV_Reader_56 b167 rfl (mj_enter (by decide) (Nat.le_of_ble_eq_true rfl) ?_) rfl (Nat.le_of_ble_eq_true rfl) (Nat.le_of_ble_eq_true rfl) (Nat.le_of_ble_eq_true rfl) (hst := rfl) (fun _ _ _ h => h)
        refine mv_aload_n d_Reader_refuse_0 rfl rfl ?_
        refine mv_iload_n d_Reader_refuse_1 rfl rfl ?_
        refine tr_putK tm_okF I0 h_o0 (k := 1) rfl ⟨_, rfl⟩ (Or.inl (by decide)) d_Reader_refuse_2 p_Reader_70_9 rfl rfl (fun M168 I169 q170 K171 => ?_)
        refine mv_aload_n d_Reader_refuse_5 rfl rfl ?_
        refine mv_aload_n d_Reader_refuse_6 rfl rfl ?_
        refine tr_getK (k := 11) (K171 _ 9 11 _ rfl q12) d_Reader_refuse_7 f_Reader_175_9 ?_
        refine tr_putK tm_okF I169 h_o0 (k := 2) rfl ⟨_, rfl⟩ (Or.inl (by decide)) d_Reader_refuse_10 p_Reader_11_9 rfl rfl (fun M172 I173 q174 K175 => ?_)
        refine mv_iconst (v := 0) d_Reader_refuse_13 (by decide) ?_
        obtain ⟨s176, e177⟩ : ∃ s9 : p_S, p_fl pb pn 3 ps = s9 := ⟨_, rfl⟩
        have h178 := q_fl e177 (by omega) (by decide)
        have h179 : (3 : Int32).toInt = s176.1 := (by have e9 : (3 : Int32).toInt = 3 := (by decide); omega)
        have h180 : Im (s176.1 ≠ 0 → v5.toInt = (s176.2.1 : Int)) := Im.i (fun _ => by have := (Im.o h17) (by omega); omega)
        have h181 : Im (s176.1 = 0 → v3.toInt = (s176.2.2 : Int) ∧ v4.toInt = p_ki pb pn s176.2.2 ∧ v5.toInt = (p_st pb pn s176.2.2 : Int) ∧ v6.toInt = (p_sp pb pn s176.2.2 : Int) ∧ v7.toInt = p_va pb pn s176.2.2 ∧ v5.toInt = -1) := Im.i (fun z9 => absurd z9 h178.2.2)
        refine mv_iret d_Reader_refuse_14 rfl (by decide) ?_
        exact mv_iret d_Reader_factor_60 rfl (by decide) ⟨_, I173, _, rfl, by decide, by decide, fun h => absurd h (by decide), (by have := (Im.o h17) (by omega); have := yC.d ps.2.2; have := yC.kn ps.2.2; have hb : s176.1 ≠ 0 := (by omega); have z1 : ∀ c, p_sg pb pn c s176 = s176 := (fun c => p_sg_Z s176 hb); have z2 : ∀ c, p_wd pb pn c s176 = s176 := (fun c => p_wd_Z s176 hb); have z3 : ∀ op, p_sum pb pn pa op s176 = s176 := (fun op => p_sum_Z s176 hb); have z4 : ∀ r oc, p_con pb pn pa r oc s176 = s176 := (fun r oc => p_con_Z s176 hb); have z5 : p_prt pb pn s176 = s176 := p_prt_Z s176 hb; have eT : p_fac pb pn pa (p_op pb pn pa (r7 + 1)) ps = s176 := (by have hop : p_op pb pn pa (r7 + 1) ps = p_sg pb pn 41 (p_sum pb pn pa (p_op pb pn pa r7) (p_nx ps)) := rfl; unfold p_fac; (try simp only [hop]); (try simp only [e177, z1, z2, z3, z4, z5]); ((repeat' (first | (with_reducible rfl) | split)) <;> (first | ((try simp only [e177, z1, z2, z3, z4, z5]); done) | (exfalso; omega)))); rw [eT]; exact ⟨⟨_, _, _, _, _, _, _, (K175 _ 9 1 _ rfl q170), q174, (K175 _ 9 9 _ rfl (K171 _ 9 9 _ rfl q10)), (K175 _ 9 10 _ rfl (K171 _ 9 10 _ rfl q11)), (K175 _ 9 11 _ rfl (K171 _ 9 11 _ rfl q12)), (K175 _ 9 12 _ rfl (K171 _ 9 12 _ rfl q13)), (K175 _ 9 13 _ rfl (K171 _ 9 13 _ rfl q14)), h179, Im.o h180, Im.o h181⟩, (Or.inr ⟨by first | decide | omega, by omega⟩)⟩)⟩
      · refine mv_aload_n d_Reader_valueAmong_16 rfl rfl ?_
        refine tr_getK (k := 13) q14 d_Reader_valueAmong_17 f_Reader_241_9 ?_
        refine mv_iload_n d_Reader_valueAmong_20 rfl rfl ?_
        refine mv_iload_n d_Reader_valueAmong_21 rfl rfl ?_
        refine mv_iaddv (v := v163) d_Reader_valueAmong_22 (Int32.zero_add _) ?_
        have := mz_hi v7
        have := mz_hi v163
        refine mv_icmp_geZ (tgt := 35) (a := v7.toInt) (b := v163.toInt) d_Reader_valueAmong_23 (by decide) rfl rfl (fun b182 => ?_) (fun b182 => ?_)
        · refine mv_iconst (v := (-1)) d_Reader_valueAmong_35 (by decide) ?_
          refine mv_iret d_Reader_valueAmong_36 rfl (by first | rfl | decide) ?_
          refine mv_istore_n (lv' := [(1, .int (-1)), (0, .ref o0)]) d_Reader_factor_49 rfl (by decide) rfl ?_
          refine mv_iload_n d_Reader_factor_50 rfl rfl ?_
          refine mv_iconst (v := (-1)) d_Reader_factor_51 (by decide) ?_
          refine mv_icmp_ne_f (tgt := 61) d_Reader_factor_52 (by decide) (by decide) ?_
          refine mv_aload_n d_Reader_factor_55 rfl rfl ?_
          refine mv_iconst (v := 3) d_Reader_factor_56 (by decide) ?_
          obtain ⟨_, b183, -⟩ := I0.1 _ _ h_o0
          refine mv_callV (kc1 := 0) (ks1 := 0) (kc' := 0) (ks' := 0) (As := [.int 3]) (st9 := [.int 3, .ref o0]) d_Reader_factor_57 lV_Reader_56 b183 rfl (mj_enter (by decide) (Nat.le_of_ble_eq_true rfl) ?_) rfl (Nat.le_of_ble_eq_true rfl) (Nat.le_of_ble_eq_true rfl) (Nat.le_of_ble_eq_true rfl) (hst := rfl) (fun _ _ _ h => h)
          refine mv_aload_n d_Reader_refuse_0 rfl rfl ?_
          refine mv_iload_n d_Reader_refuse_1 rfl rfl ?_
          refine tr_putK tm_okF I0 h_o0 (k := 1) rfl ⟨_, rfl⟩ (Or.inl (by decide)) d_Reader_refuse_2 p_Reader_70_9 rfl rfl (fun M184 I185 q186 K187 => ?_)
          refine mv_aload_n d_Reader_refuse_5 rfl rfl ?_
          refine mv_aload_n d_Reader_refuse_6 rfl rfl ?_
          refine tr_getK (k := 11) (K187 _ 9 11 _ rfl q12) d_Reader_refuse_7 f_Reader_175_9 ?_
          refine tr_putK tm_okF I185 h_o0 (k := 2) rfl ⟨_, rfl⟩ (Or.inl (by decide)) d_Reader_refuse_10 p_Reader_11_9 rfl rfl (fun M188 I189 q190 K191 => ?_)
          refine mv_iconst (v := 0) d_Reader_refuse_13 (by decide) ?_
          obtain ⟨s192, e193⟩ : ∃ s9 : p_S, p_fl pb pn 3 ps = s9 := ⟨_, rfl⟩
          have h194 := q_fl e193 (by omega) (by decide)
          have h195 : (3 : Int32).toInt = s192.1 := (by have e9 : (3 : Int32).toInt = 3 := (by decide); omega)
          have h196 : Im (s192.1 ≠ 0 → v5.toInt = (s192.2.1 : Int)) := Im.i (fun _ => by have := (Im.o h17) (by omega); omega)
          have h197 : Im (s192.1 = 0 → v3.toInt = (s192.2.2 : Int) ∧ v4.toInt = p_ki pb pn s192.2.2 ∧ v5.toInt = (p_st pb pn s192.2.2 : Int) ∧ v6.toInt = (p_sp pb pn s192.2.2 : Int) ∧ v7.toInt = p_va pb pn s192.2.2 ∧ v5.toInt = -1) := Im.i (fun z9 => absurd z9 h194.2.2)
          refine mv_iret d_Reader_refuse_14 rfl (by decide) ?_
          exact mv_iret d_Reader_factor_60 rfl (by decide) ⟨_, I189, _, rfl, by decide, by decide, fun h => absurd h (by decide), (by have := (Im.o h17) (by omega); have := yC.d ps.2.2; have := yC.kn ps.2.2; have hb : s192.1 ≠ 0 := (by omega); have z1 : ∀ c, p_sg pb pn c s192 = s192 := (fun c => p_sg_Z s192 hb); have z2 : ∀ c, p_wd pb pn c s192 = s192 := (fun c => p_wd_Z s192 hb); have z3 : ∀ op, p_sum pb pn pa op s192 = s192 := (fun op => p_sum_Z s192 hb); have z4 : ∀ r oc, p_con pb pn pa r oc s192 = s192 := (fun r oc => p_con_Z s192 hb); have z5 : p_prt pb pn s192 = s192 := p_prt_Z s192 hb; have eT : p_fac pb pn pa (p_op pb pn pa (r7 + 1)) ps = s192 := (by have hop : p_op pb pn pa (r7 + 1) ps = p_sg pb pn 41 (p_sum pb pn pa (p_op pb pn pa r7) (p_nx ps)) := rfl; unfold p_fac; (try simp only [hop]); (try simp only [e193, z1, z2, z3, z4, z5]); ((repeat' (first | (with_reducible rfl) | split)) <;> (first | ((try simp only [e193, z1, z2, z3, z4, z5]); done) | (exfalso; omega)))); rw [eT]; exact ⟨⟨_, _, _, _, _, _, _, (K191 _ 9 1 _ rfl q186), q190, (K191 _ 9 9 _ rfl (K187 _ 9 9 _ rfl q10)), (K191 _ 9 10 _ rfl (K187 _ 9 10 _ rfl q11)), (K191 _ 9 11 _ rfl (K187 _ 9 11 _ rfl q12)), (K191 _ 9 12 _ rfl (K187 _ 9 12 _ rfl q13)), (K191 _ 9 13 _ rfl (K187 _ 9 13 _ rfl q14)), h195, Im.o h196, Im.o h197⟩, (Or.inr ⟨by first | decide | omega, by omega⟩)⟩)⟩
        · refine mv_aload_n d_Reader_valueAmong_26 rfl rfl ?_
          refine tr_getK (k := 13) q14 d_Reader_valueAmong_27 f_Reader_241_9 ?_
          refine mv_iload_n d_Reader_valueAmong_30 rfl rfl ?_
          refine mv_isub d_Reader_valueAmong_31 ?_
          refine mv_goto (tgt := 36) d_Reader_valueAmong_32 (by decide) ?_
          refine mv_iret d_Reader_valueAmong_36 rfl (by first | rfl | decide) ?_
          refine mv_istore_n (lv' := [(1, .int (v7 - 0)), (0, .ref o0)]) d_Reader_factor_49 rfl (by decide) rfl ?_
          refine mv_iload_n d_Reader_factor_50 rfl rfl ?_
          refine mv_iconst (v := (-1)) d_Reader_factor_51 (by decide) ?_
          have : ((v7 - 0) : Int32).toInt = v7.toInt - 0 := mz_sub2 rfl (by decide) (by omega) (by omega)
          have := mz_hi (v7 - 0)
          refine mv_icmp_neZ (tgt := 61) (a := (v7 - 0).toInt) (b := (-1)) d_Reader_factor_52 (by decide) rfl (by decide) (fun b198 => ?_) (fun b198 => ?_)
          · refine mv_aload_n d_Reader_factor_61 rfl rfl ?_
            refine mv_iconst (v := 1) d_Reader_factor_62 (by decide) ?_
            refine mv_iload_n d_Reader_factor_63 rfl rfl ?_
            obtain ⟨_, b205, -⟩ := I0.1 _ _ h_o0
            refine mv_callV (kc' := 0) (ks' := 0) (As := [.int 1, .int (v7 - 0)]) (st9 := [.int (v7 - 0), .int 1, .ref o0]) d_Reader_factor_64 lV_Reader_203 b205 rfl (tc_Reader_emit (d := (d + E + 4)) (x9 := x9) (o0 := o0) (x1 := 1) (x2 := (v7 - 0)) h_o0 I0.start) rfl (Nat.le_of_ble_eq_true rfl) (Nat.le_of_ble_eq_true rfl) (Nat.le_of_ble_eq_true rfl) (hst := rfl) (fun b199r M200 n201 b199 => ?_)
            obtain ⟨T202, J203, rfl⟩ := b199
            have I204 := I0.call J203 (tm_sub (by decide)) (Or.inl rfl)
            have t206 := J203.up h_o0
            have q207 := J203.keep h_o0 (by decide) hO
            have q208 := J203.keep h_o0 (by decide) q8
            have q209 := J203.keep h_o0 (by decide) q9
            have q210 := J203.keep h_o0 (by decide) q10
            have q211 := J203.keep h_o0 (by decide) q11
            have q212 := J203.keep h_o0 (by decide) q12
            have q213 := J203.keep h_o0 (by decide) q13
            have q214 := J203.keep h_o0 (by decide) q14
            have q215 := J203.keep h_o0 (by decide) q162
            refine mv_aload_n d_Reader_factor_67 rfl rfl ?_
            obtain ⟨_, b222, -⟩ := I204.1 _ _ t206
            refine mv_callV (kc' := 0) (ks' := 0) (As := []) (st9 := [.ref o0]) d_Reader_factor_68 lV_Reader_82 b222 rfl (tc_Reader_advance_x (d := (d + E + 4)) (x9 := x9) (o0 := o0) t206 (hK I204) (qS.a (show qS M200 o0 pb pn ps from ⟨_, _, _, _, _, _, _, q208, q209, q210, q211, q212, q213, q214, h15, Im.o h16, Im.o h17⟩)) (by have := (Im.o h17) (by omega); have := yC.d ps.2.2; have := yC.kn ps.2.2; show ps.2.2 + 1 ≤ 401; omega) I204.start) rfl (Nat.le_of_ble_eq_true rfl) (Nat.le_of_ble_eq_true rfl) (Nat.le_of_ble_eq_true rfl) (hst := rfl) (fun b216r M217 n218 b216 => ?_)
            obtain ⟨T219, J220, rfl, f223⟩ := b216
            have I221 := I204.call J220 (tm_sub (by decide)) (Or.inl rfl)
            have t224 := J220.up t206
            have q225 := J220.keep t206 (by decide) q207
            have q226 := J220.keep t206 (by decide) q208
            have q227 := J220.keep t206 (by decide) q209
            have q228 := J220.keep t206 (by decide) q215
            obtain ⟨s229, e230⟩ : ∃ s9 : p_S, p_nx ps = s9 := ⟨_, rfl⟩
            rw [e230] at f223
            have : s229.1 = 0 := by rw [← e230]; show ps.1 = 0; omega
            obtain ⟨v231, v232, v233, v234, v235, v236, v237, q238, q239, q240, q241, q242, q243, q244, h245, h246, h247⟩ := f223
            replace h246 := Im.i h246
            replace h247 := Im.i h247
            refine mv_iconst (v := 1) d_Reader_factor_71 (by decide) ?_
            exact mv_iret d_Reader_factor_72 rfl (by decide) ⟨_, I221, _, rfl, by decide, by decide, fun _ => q225, (by have := (Im.o h17) (by omega); have := yC.d ps.2.2; have := yC.kn ps.2.2; have eT : p_fac pb pn pa (p_op pb pn pa (r7 + 1)) ps = s229 := (by have hop : p_op pb pn pa (r7 + 1) ps = p_sg pb pn 41 (p_sum pb pn pa (p_op pb pn pa r7) (p_nx ps)) := rfl; unfold p_fac; (try simp only [hop]); (try simp only [e230]); ((repeat' (first | (with_reducible rfl) | split)) <;> (first | ((try simp only [e230]); done) | (exfalso; omega)))); rw [eT]; exact ⟨⟨_, _, _, _, _, _, _, q238, q239, q240, q241, q242, q243, q244, h245, Im.o h246, Im.o h247⟩, (Or.inl ⟨by first | decide | omega, by omega⟩)⟩)⟩
          · refine mv_aload_n d_Reader_factor_55 rfl rfl ?_
            refine mv_iconst (v := 3) d_Reader_factor_56 (by decide) ?_
            obtain ⟨_, b248, -⟩ := I0.1 _ _ h_o0
            refine mv_callV (kc1 := 0) (ks1 := 0) (kc' := 0) (ks' := 0) (As := [.int 3]) (st9 := [.int 3, .ref o0]) d_Reader_factor_57 lV_Reader_56 b248 rfl (mj_enter (by decide) (Nat.le_of_ble_eq_true rfl) ?_) rfl (Nat.le_of_ble_eq_true rfl) (Nat.le_of_ble_eq_true rfl) (Nat.le_of_ble_eq_true rfl) (hst := rfl) (fun _ _ _ h => h)
            refine mv_aload_n d_Reader_refuse_0 rfl rfl ?_
            refine mv_iload_n d_Reader_refuse_1 rfl rfl ?_
            refine tr_putK tm_okF I0 h_o0 (k := 1) rfl ⟨_, rfl⟩ (Or.inl (by decide)) d_Reader_refuse_2 p_Reader_70_9 rfl rfl (fun M249 I250 q251 K252 => ?_)
            refine mv_aload_n d_Reader_refuse_5 rfl rfl ?_
            refine mv_aload_n d_Reader_refuse_6 rfl rfl ?_
            refine tr_getK (k := 11) (K252 _ 9 11 _ rfl q12) d_Reader_refuse_7 f_Reader_175_9 ?_
            refine tr_putK tm_okF I250 h_o0 (k := 2) rfl ⟨_, rfl⟩ (Or.inl (by decide)) d_Reader_refuse_10 p_Reader_11_9 rfl rfl (fun M253 I254 q255 K256 => ?_)
            refine mv_iconst (v := 0) d_Reader_refuse_13 (by decide) ?_
            obtain ⟨s257, e258⟩ : ∃ s9 : p_S, p_fl pb pn 3 ps = s9 := ⟨_, rfl⟩
            have h259 := q_fl e258 (by omega) (by decide)
            have h260 : (3 : Int32).toInt = s257.1 := (by have e9 : (3 : Int32).toInt = 3 := (by decide); omega)
            have h261 : Im (s257.1 ≠ 0 → v5.toInt = (s257.2.1 : Int)) := Im.i (fun _ => by have := (Im.o h17) (by omega); omega)
            have h262 : Im (s257.1 = 0 → v3.toInt = (s257.2.2 : Int) ∧ v4.toInt = p_ki pb pn s257.2.2 ∧ v5.toInt = (p_st pb pn s257.2.2 : Int) ∧ v6.toInt = (p_sp pb pn s257.2.2 : Int) ∧ v7.toInt = p_va pb pn s257.2.2 ∧ v5.toInt = -1) := Im.i (fun z9 => absurd z9 h259.2.2)
            refine mv_iret d_Reader_refuse_14 rfl (by decide) ?_
            exact mv_iret d_Reader_factor_60 rfl (by decide) ⟨_, I254, _, rfl, by decide, by decide, fun h => absurd h (by decide), (by have := (Im.o h17) (by omega); have := yC.d ps.2.2; have := yC.kn ps.2.2; have hb : s257.1 ≠ 0 := (by omega); have z1 : ∀ c, p_sg pb pn c s257 = s257 := (fun c => p_sg_Z s257 hb); have z2 : ∀ c, p_wd pb pn c s257 = s257 := (fun c => p_wd_Z s257 hb); have z3 : ∀ op, p_sum pb pn pa op s257 = s257 := (fun op => p_sum_Z s257 hb); have z4 : ∀ r oc, p_con pb pn pa r oc s257 = s257 := (fun r oc => p_con_Z s257 hb); have z5 : p_prt pb pn s257 = s257 := p_prt_Z s257 hb; have eT : p_fac pb pn pa (p_op pb pn pa (r7 + 1)) ps = s257 := (by have hop : p_op pb pn pa (r7 + 1) ps = p_sg pb pn 41 (p_sum pb pn pa (p_op pb pn pa r7) (p_nx ps)) := rfl; unfold p_fac; (try simp only [hop]); (try simp only [e258, z1, z2, z3, z4, z5]); ((repeat' (first | (with_reducible rfl) | split)) <;> (first | ((try simp only [e258, z1, z2, z3, z4, z5]); done) | (exfalso; omega)))); rw [eT]; exact ⟨⟨_, _, _, _, _, _, _, (K256 _ 9 1 _ rfl q251), q255, (K256 _ 9 9 _ rfl (K252 _ 9 9 _ rfl q10)), (K256 _ 9 10 _ rfl (K252 _ 9 10 _ rfl q11)), (K256 _ 9 11 _ rfl (K252 _ 9 11 _ rfl q12)), (K256 _ 9 12 _ rfl (K252 _ 9 12 _ rfl q13)), (K256 _ 9 13 _ rfl (K252 _ 9 13 _ rfl q14)), h260, Im.o h261, Im.o h262⟩, (Or.inr ⟨by first | decide | omega, by omega⟩)⟩)⟩
  · refine mv_aload_n d_Reader_factor_8 rfl rfl ?_
    refine mv_iconst (v := 0) d_Reader_factor_9 (by decide) ?_
    refine mv_sipush (v := 9999) d_Reader_factor_10 (by decide) ?_
    obtain ⟨_, b269, -⟩ := I0.1 _ _ h_o0
    refine mv_callV (kc' := 0) (ks' := 0) (As := [.int 0, .int 9999]) (st9 := [.int 9999, .int 0, .ref o0]) d_Reader_factor_13 lV_Reader_107 b269 rfl (tc_Reader_numeral_x (d := (d + E + 3)) (x9 := x9) (o0 := o0) (x1 := 0) (x2 := 9999) h_o0 (hK I0) ⟨_, _, _, _, _, _, _, q8, q9, q10, q11, q12, q13, q14, h15, Im.o h16, Im.o h17⟩ (by omega) I0.start) rfl (Nat.le_of_ble_eq_true rfl) (Nat.le_of_ble_eq_true rfl) (Nat.le_of_ble_eq_true rfl) (hst := rfl) (fun b263r M264 n265 b263 => ?_)
    obtain ⟨T266, J267, v270, rfl, b271, b272, f273, f274, f275⟩ := b263
    have I268 := I0.call J267 (tm_sub (by decide)) (Or.inl rfl)
    have t276 := J267.up h_o0
    have q277 := J267.keep h_o0 (by decide) hO
    rw [show (0 : Int32).toInt = 0 from by decide] at f273 f274
    rw [show (9999 : Int32).toInt = 9999 from by decide] at f273 f274
    obtain ⟨s278, e279⟩ : ∃ s9 : p_S, p_num pb pn 0 9999 ps = s9 := ⟨_, rfl⟩
    rw [e279] at f273 f274
    replace e279 := (p_num_99 (b := pb) (n := pn) (s := ps) (by omega)).symm.trans e279
    obtain ⟨v280, v281, v282, v283, v284, v285, v286, q287, q288, q289, q290, q291, q292, q293, h294, h295, h296⟩ := f273
    replace h295 := Im.i h295
    replace h296 := Im.i h296
    obtain ⟨v297, q298, h299⟩ := f275
    have := mz_hi v270
    refine mv_if_neZ (tgt := 21) (a := v270.toInt) d_Reader_factor_16 (by decide) rfl (fun b300 => ?_) (fun b300 => ?_)
    · refine mv_aload_n d_Reader_factor_21 rfl rfl ?_
      refine mv_iconst (v := 0) d_Reader_factor_22 (by decide) ?_
      refine mv_aload_n d_Reader_factor_23 rfl rfl ?_
      refine tr_getK (k := 14) q298 d_Reader_factor_24 f_Reader_111_9 ?_
      obtain ⟨_, b307, -⟩ := I268.1 _ _ t276
      refine mv_callV (kc' := 0) (ks' := 0) (As := [.int 0, .int v297]) (st9 := [.int v297, .int 0, .ref o0]) d_Reader_factor_27 lV_Reader_203 b307 rfl (tc_Reader_emit (d := (d + E + 4)) (x9 := x9) (o0 := o0) (x1 := 0) (x2 := v297) t276 I268.start) rfl (Nat.le_of_ble_eq_true rfl) (Nat.le_of_ble_eq_true rfl) (Nat.le_of_ble_eq_true rfl) (hst := rfl) (fun b301r M302 n303 b301 => ?_)
      obtain ⟨T304, J305, rfl⟩ := b301
      have I306 := I268.call J305 (tm_sub (by decide)) (Or.inl rfl)
      have t308 := J305.up t276
      have q309 := J305.keep t276 (by decide) q277
      have q310 := J305.keep (I268.up h_o0) (by decide) q287
      have q311 := J305.keep (I268.up h_o0) (by decide) q288
      have q312 := J305.keep (I268.up h_o0) (by decide) q289
      have q313 := J305.keep (I268.up h_o0) (by decide) q290
      have q314 := J305.keep (I268.up h_o0) (by decide) q291
      have q315 := J305.keep (I268.up h_o0) (by decide) q292
      have q316 := J305.keep (I268.up h_o0) (by decide) q293
      have q317 := J305.keep (I268.up h_o0) (by decide) q298
      refine mv_iconst (v := 1) d_Reader_factor_30 (by decide) ?_
      exact mv_iret d_Reader_factor_31 rfl (by decide) ⟨_, I306, _, rfl, by decide, by decide, fun _ => q309, (by have := (Im.o h17) (by omega); have := yC.d ps.2.2; have := yC.kn ps.2.2; have eT : p_fac pb pn pa (p_op pb pn pa (r7 + 1)) ps = s278 := (by have hop : p_op pb pn pa (r7 + 1) ps = p_sg pb pn 41 (p_sum pb pn pa (p_op pb pn pa r7) (p_nx ps)) := rfl; unfold p_fac; (try simp only [hop]); (try simp only [e279]); ((repeat' (first | (with_reducible rfl) | split)) <;> (first | ((try simp only [e279]); done) | (exfalso; omega)))); rw [eT]; exact ⟨⟨_, _, _, _, _, _, _, q310, q311, q312, q313, q314, q315, q316, h294, Im.o h295, Im.o h296⟩, (Or.inl ⟨by first | decide | omega, by omega⟩)⟩)⟩
    · refine mv_iconst (v := 0) d_Reader_factor_19 (by decide) ?_
      exact mv_iret d_Reader_factor_20 rfl (by decide) ⟨_, I268, _, rfl, by decide, by decide, fun h => absurd h (by decide), (by have := (Im.o h17) (by omega); have := yC.d ps.2.2; have := yC.kn ps.2.2; have hb : s278.1 ≠ 0 := (by omega); have z1 : ∀ c, p_sg pb pn c s278 = s278 := (fun c => p_sg_Z s278 hb); have z2 : ∀ c, p_wd pb pn c s278 = s278 := (fun c => p_wd_Z s278 hb); have z3 : ∀ op, p_sum pb pn pa op s278 = s278 := (fun op => p_sum_Z s278 hb); have z4 : ∀ r oc, p_con pb pn pa r oc s278 = s278 := (fun r oc => p_con_Z s278 hb); have z5 : p_prt pb pn s278 = s278 := p_prt_Z s278 hb; have eT : p_fac pb pn pa (p_op pb pn pa (r7 + 1)) ps = s278 := (by have hop : p_op pb pn pa (r7 + 1) ps = p_sg pb pn 41 (p_sum pb pn pa (p_op pb pn pa r7) (p_nx ps)) := rfl; unfold p_fac; (try simp only [hop]); (try simp only [e279, z1, z2, z3, z4, z5]); ((repeat' (first | (with_reducible rfl) | split)) <;> (first | ((try simp only [e279, z1, z2, z3, z4, z5]); done) | (exfalso; omega)))); rw [eT]; exact ⟨⟨_, _, _, _, _, _, _, q287, q288, q289, q290, q291, q292, q293, h294, Im.o h295, Im.o h296⟩, (Or.inr ⟨by first | decide | omega, by omega⟩)⟩)⟩
set_option maxHeartbeats 100000000 in theorem tg_Reader_product {E r7 : Nat} {K K1 : Int} (hK9 : K1 = K + 1 ∧ 0 ≤ K ∧ K ≤ 3) (H_sum : ∀ {g : mj_G} {l : Launch} {d : Nat} {T0 : tm_H} {M0 : mj_M} {n0 x9 : Nat} {o0 : Nat} (h_o0 : T0 o0 = some (0, 9, 0)) {p : Int32} (hO : tm_at M0 o0 9 16 (.int p)) (hp : K1 ≤ p.toInt)  (hp2 : p.toInt ≤ K1) {pb : Nat → Int} {pn : Nat} {pa : Int} {ps : p_S} (yC : qC M0 o0 pb pn pa) (yD : qS M0 o0 pb pn ps) (yw : ps.1 = 0) (I0 : tm_I tm_FT (tm_in w_Reader_sum_q0_x) x9 T0 M0 n0 T0 M0 n0), mj_Met g l kY_Reader_sum (d + E + 4) [.ref o0] M0 n0 0 0 (tm_Q tm_FT (tm_in w_Reader_sum_q0_x) x9 T0 M0 n0 (fun r _ M => ∃ v : Int32, r = some (.int v) ∧ 0 ≤ v.toInt ∧ v.toInt ≤ 1 ∧ (v.toInt = 1 → tm_at M o0 9 16 (.int p)) ∧ (qS M o0 pb pn (p_sum pb pn pa (p_op pb pn pa r7) ps)) ∧ (v.toInt = 1 ∧ (p_sum pb pn pa (p_op pb pn pa r7) ps).1 = 0 ∨ v.toInt = 0 ∧ (p_sum pb pn pa (p_op pb pn pa r7) ps).1 ≠ 0)))) (H_condition : ∀ {g : mj_G} {l : Launch} {d : Nat} {T0 : tm_H} {M0 : mj_M} {n0 x9 : Nat} {o0 : Nat} (h_o0 : T0 o0 = some (0, 9, 0)) {p : Int32} (hO : tm_at M0 o0 9 16 (.int p)) (hp : K1 ≤ p.toInt)  (hp2 : p.toInt ≤ K1) {pb : Nat → Int} {pn : Nat} {pa : Int} {ps : p_S} (yC : qC M0 o0 pb pn pa) (yD : qS M0 o0 pb pn ps) (yw : ps.1 = 0) (I0 : tm_I tm_FT (tm_in w_Reader_condition_q0_x) x9 T0 M0 n0 T0 M0 n0), mj_Met g l kY_Reader_condition (d + E + 7) [.ref o0] M0 n0 0 0 (tm_Q tm_FT (tm_in w_Reader_condition_q0_x) x9 T0 M0 n0 (fun r _ M => ∃ v : Int32, r = some (.int v) ∧ 0 ≤ v.toInt ∧ v.toInt ≤ 1 ∧ (v.toInt = 1 → tm_at M o0 9 16 (.int p)) ∧ (qS M o0 pb pn (p_con pb pn pa r7 (p_oc pb pn pa r7) ps)) ∧ (v.toInt = 1 ∧ (p_con pb pn pa r7 (p_oc pb pn pa r7) ps).1 = 0 ∨ v.toInt = 0 ∧ (p_con pb pn pa r7 (p_oc pb pn pa r7) ps).1 ≠ 0)))) {g : mj_G} {l : Launch} {d : Nat} {T0 : tm_H} {M0 : mj_M} {n0 x9 : Nat} {o0 : Nat} (h_o0 : T0 o0 = some (0, 9, 0)) {p : Int32} (hO : tm_at M0 o0 9 16 (.int p)) (hp : K ≤ p.toInt)  (hp2 : p.toInt ≤ K) {pb : Nat → Int} {pn : Nat} {pa : Int} {ps : p_S} (yC : qC M0 o0 pb pn pa) (yD : qS M0 o0 pb pn ps) (yw : ps.1 = 0) (I0 : tm_I tm_FT (tm_in w_Reader_product_q0_x) x9 T0 M0 n0 T0 M0 n0) : mj_Met g l kY_Reader_product (d + E + 6) [.ref o0] M0 n0 0 0 (tm_Q tm_FT (tm_in w_Reader_product_q0_x) x9 T0 M0 n0 (fun r _ M => ∃ v : Int32, r = some (.int v) ∧ 0 ≤ v.toInt ∧ v.toInt ≤ 1 ∧ (v.toInt = 1 → tm_at M o0 9 16 (.int p)) ∧ (qS M o0 pb pn (p_pro pb pn pa (p_op pb pn pa (r7 + 1)) ps)) ∧ (v.toInt = 1 ∧ (p_pro pb pn pa (p_op pb pn pa (r7 + 1)) ps).1 = 0 ∨ v.toInt = 0 ∧ (p_pro pb pn pa (p_op pb pn pa (r7 + 1)) ps).1 ≠ 0))) := by
  refine mj_enter (by decide) (Nat.le_of_ble_eq_true rfl) ?_
  have hK : ∀ {T : tm_H} {M : mj_M} {n : Nat}, tm_I tm_FT (tm_in w_Reader_product_q0_x) x9 T0 M0 n0 T M n → qC M o0 pb pn pa := fun I => yC.keep I0.1 I h_o0 (qW_of (by decide +kernel))
  obtain ⟨v1, v2, v3, v4, v5, v6, v7, q8, q9, q10, q11, q12, q13, q14, h15, h16, h17⟩ := yD
  replace h16 := Im.i h16
  replace h17 := Im.i h17
  refine mv_aload_n d_Reader_product_0 rfl rfl ?_
  obtain ⟨_, b24, -⟩ := I0.1 _ _ h_o0
  refine mv_callV (kc' := 0) (ks' := 0) (As := []) (st9 := [.ref o0]) d_Reader_product_1 lV_Reader_221 b24 rfl (tg_Reader_factor hK9 H_sum H_condition (d := d) (x9 := x9) (o0 := o0) h_o0 (p := p) hO (by omega) (by first | omega | decide) (hK I0) ⟨_, _, _, _, _, _, _, q8, q9, q10, q11, q12, q13, q14, h15, Im.o h16, Im.o h17⟩ (by omega) I0.start) rfl (Nat.le_of_ble_eq_true rfl) (Nat.le_of_ble_eq_true rfl) (Nat.le_of_ble_eq_true rfl) (hst := rfl) (fun b18r M19 n20 b18 => ?_)
  obtain ⟨T21, J22, v25, rfl, b26, b27, o28, f29, f30⟩ := b18
  have I23 := I0.call J22 (tm_sub (by decide)) (Or.inl rfl)
  have t31 := J22.up h_o0
  obtain ⟨s32, e33⟩ : ∃ s9 : p_S, p_fac pb pn pa (p_op pb pn pa (r7 + 1)) ps = s9 := ⟨_, rfl⟩
  rw [e33] at f29 f30
  obtain ⟨v34, v35, v36, v37, v38, v39, v40, q41, q42, q43, q44, q45, q46, q47, h48, h49, h50⟩ := f29
  replace h49 := Im.i h49
  replace h50 := Im.i h50
  have := mz_hi v25
  refine mv_if_neZ (tgt := 9) (a := v25.toInt) d_Reader_product_4 (by decide) rfl (fun b51 => ?_) (fun b51 => ?_)
  · have q52 := o28 (by omega)
    refine mv_iconst (v := 0) d_Reader_product_9 (by decide) ?_
    refine mv_istore_n (lv' := [(1, .int 0), (0, .ref o0)]) d_Reader_product_10 rfl (by decide) rfl ?_
    have L11_53 : ∀ (k : Nat) (i1_53 : Int32) (T_53 : tm_H) (M_53 : mj_M) (n_53 : Nat), tm_I tm_FT (tm_in w_Reader_product_q0_x) x9 T0 M0 n0 T_53 M_53 n_53 → T_53 o0 = some (0, 9, 0) → 0 ≤ i1_53.toInt → tm_at M_53 o0 9 16 (.int p) → (∃ s1 : p_S, qS M_53 o0 pb pn s1 ∧ s1.1 = 0 ∧ i1_53.toInt ≤ (s1.2.2 : Int) ∧ p_lp pn (p_pr1 pb pn pa (p_op pb pn pa (r7 + 1))) s1 = p_pro pb pn pa (p_op pb pn pa (r7 + 1)) ps) → 2147483647 - i1_53.toInt < (k : Int) → mj_V g l kY_Reader_product (d + E + 6) 11 [(1, .int i1_53), (0, .ref o0)] [] M_53 n_53 0 0 (tm_Q tm_FT (tm_in w_Reader_product_q0_x) x9 T0 M0 n0 (fun r _ M => ∃ v : Int32, r = some (.int v) ∧ 0 ≤ v.toInt ∧ v.toInt ≤ 1 ∧ (v.toInt = 1 → tm_at M o0 9 16 (.int p)) ∧ (qS M o0 pb pn (p_pro pb pn pa (p_op pb pn pa (r7 + 1)) ps)) ∧ (v.toInt = 1 ∧ (p_pro pb pn pa (p_op pb pn pa (r7 + 1)) ps).1 = 0 ∨ v.toInt = 0 ∧ (p_pro pb pn pa (p_op pb pn pa (r7 + 1)) ps).1 ≠ 0))) := by
      intro k53
      induction k53 with
      | zero =>
        intro i1_53 T_53 M_53 n_53 I_53 h_q0_53 iv0_53 kp0_53 kKT9_53 hk53
        have := mz_hi i1_53
        omega
      | succ k53 ih53 =>
        intro i1_53 T_53 M_53 n_53 I_53 h_q0_53 iv0_53 kp0_53 kKT9_53 hk53
        obtain ⟨s54, f55, h56, h57, e58⟩ := kKT9_53
        obtain ⟨v59, v60, v61, v62, v63, v64, v65, q66, q67, q68, q69, q70, q71, q72, h73, h74, h75⟩ := f55
        replace h74 := Im.i h74
        replace h75 := Im.i h75
        refine mv_iload_n d_Reader_product_11 rfl rfl ?_
        refine mv_sipush (v := 400) d_Reader_product_12 (by decide) ?_
        have := mz_hi i1_53
        refine mv_icmp_geZ (tgt := 52) (a := i1_53.toInt) (b := 400) d_Reader_product_15 (by decide) rfl (by decide) (fun b76 => ?_) (fun b76 => ?_)
        · refine mv_iconst (v := 1) d_Reader_product_52 (by decide) ?_
          exact mv_iret d_Reader_product_53 rfl (by decide) ⟨_, I_53, _, rfl, by decide, by decide, fun _ => kp0_53, (by have := (Im.o h75) (by omega); have := yC.d s54.2.2; have := yC.kn s54.2.2; have hX := e58.symm.trans (p_lp_stop (show (p_pr1 pb pn pa (p_op pb pn pa (r7 + 1))) s54 = s54 from if_neg (fun h9 => by omega))); have eT : p_pro pb pn pa (p_op pb pn pa (r7 + 1)) ps = s54 := (by exact hX); rw [eT]; exact ⟨⟨_, _, _, _, _, _, _, q66, q67, q68, q69, q70, q71, q72, h73, Im.o h74, Im.o h75⟩, (Or.inl ⟨by first | decide | omega, by omega⟩)⟩)⟩
        · refine mv_aload_n d_Reader_product_18 rfl rfl ?_
          refine mv_bipush (v := 42) d_Reader_product_19 (by decide) ?_
          obtain ⟨_, b77, -⟩ := I_53.1 _ _ h_q0_53
          refine mv_callV (kc1 := 0) (ks1 := 0) (kc' := 0) (ks' := 0) (As := [.int 42]) (st9 := [.int 42, .ref o0]) d_Reader_product_21 lV_Reader_209 b77 rfl (mj_enter (by decide) (Nat.le_of_ble_eq_true rfl) ?_) rfl (Nat.le_of_ble_eq_true rfl) (Nat.le_of_ble_eq_true rfl) (Nat.le_of_ble_eq_true rfl) (hst := rfl) (fun _ _ _ h => h)
          refine mv_aload_n d_Reader_isSign_0 rfl rfl ?_
          refine tr_getK (k := 10) q69 d_Reader_isSign_1 f_Reader_41_9 ?_
          refine mv_iconst (v := 3) d_Reader_isSign_4 (by decide) ?_
          have := mz_hi v62
          refine mv_icmp_neZ (tgt := 20) (a := v62.toInt) (b := 3) d_Reader_isSign_5 (by decide) rfl (by decide) (fun b78 => ?_) (fun b78 => ?_)
          · refine mv_iconst (v := 0) d_Reader_isSign_20 (by decide) ?_
            refine mv_iret d_Reader_isSign_21 rfl (by decide) ?_
            refine mv_if_eq_t (tgt := 52) d_Reader_product_24 (by decide) (by decide) ?_
            refine mv_iconst (v := 1) d_Reader_product_52 (by decide) ?_
            exact mv_iret d_Reader_product_53 rfl (by decide) ⟨_, I_53, _, rfl, by decide, by decide, fun _ => kp0_53, (by have := (Im.o h75) (by omega); have := yC.d s54.2.2; have := yC.kn s54.2.2; have hX := e58.symm.trans (p_lp_stop (show (p_pr1 pb pn pa (p_op pb pn pa (r7 + 1))) s54 = s54 from if_neg (fun h9 => by omega))); have eT : p_pro pb pn pa (p_op pb pn pa (r7 + 1)) ps = s54 := (by exact hX); rw [eT]; exact ⟨⟨_, _, _, _, _, _, _, q66, q67, q68, q69, q70, q71, q72, h73, Im.o h74, Im.o h75⟩, (Or.inl ⟨by first | decide | omega, by omega⟩)⟩)⟩
          · refine mv_aload_n d_Reader_isSign_8 rfl rfl ?_
            refine tr_getK (k := 13) q72 d_Reader_isSign_9 f_Reader_241_9 ?_
            refine mv_iload_n d_Reader_isSign_12 rfl rfl ?_
            have := mz_hi v65
            refine mv_icmp_neZ (tgt := 20) (a := v65.toInt) (b := 42) d_Reader_isSign_13 (by decide) rfl (by decide) (fun b79 => ?_) (fun b79 => ?_)
            · refine mv_iconst (v := 0) d_Reader_isSign_20 (by decide) ?_
              refine mv_iret d_Reader_isSign_21 rfl (by decide) ?_
              refine mv_if_eq_t (tgt := 52) d_Reader_product_24 (by decide) (by decide) ?_
              refine mv_iconst (v := 1) d_Reader_product_52 (by decide) ?_
              exact mv_iret d_Reader_product_53 rfl (by decide) ⟨_, I_53, _, rfl, by decide, by decide, fun _ => kp0_53, (by have := (Im.o h75) (by omega); have := yC.d s54.2.2; have := yC.kn s54.2.2; have hX := e58.symm.trans (p_lp_stop (show (p_pr1 pb pn pa (p_op pb pn pa (r7 + 1))) s54 = s54 from if_neg (fun h9 => by omega))); have eT : p_pro pb pn pa (p_op pb pn pa (r7 + 1)) ps = s54 := (by exact hX); rw [eT]; exact ⟨⟨_, _, _, _, _, _, _, q66, q67, q68, q69, q70, q71, q72, h73, Im.o h74, Im.o h75⟩, (Or.inl ⟨by first | decide | omega, by omega⟩)⟩)⟩
            · refine mv_iconst (v := 1) d_Reader_isSign_16 (by decide) ?_
              refine mv_goto (tgt := 21) d_Reader_isSign_17 (by decide) ?_
              refine mv_iret d_Reader_isSign_21 rfl (by decide) ?_
              refine mv_if_eq_f (tgt := 52) d_Reader_product_24 (by decide) (by decide) ?_
              refine mv_aload_n d_Reader_product_27 rfl rfl ?_
              obtain ⟨_, b86, -⟩ := I_53.1 _ _ h_q0_53
              refine mv_callV (kc' := 0) (ks' := 0) (As := []) (st9 := [.ref o0]) d_Reader_product_28 lV_Reader_82 b86 rfl (tc_Reader_advance_x (d := (d + E + 5)) (x9 := x9) (o0 := o0) h_q0_53 (hK I_53) (qS.a (show qS M_53 o0 pb pn s54 from ⟨_, _, _, _, _, _, _, q66, q67, q68, q69, q70, q71, q72, h73, Im.o h74, Im.o h75⟩)) (by have := (Im.o h75) (by omega); have := yC.d s54.2.2; have := yC.kn s54.2.2; show s54.2.2 + 1 ≤ 401; omega) I_53.start) rfl (Nat.le_of_ble_eq_true rfl) (Nat.le_of_ble_eq_true rfl) (Nat.le_of_ble_eq_true rfl) (hst := rfl) (fun b80r M81 n82 b80 => ?_)
              obtain ⟨T83, J84, rfl, f87⟩ := b80
              have I85 := I_53.call J84 (tm_sub (by decide)) (Or.inl rfl)
              have t88 := J84.up h_q0_53
              have q89 := J84.keep h_q0_53 (by decide) kp0_53
              have q90 := J84.keep h_q0_53 (by decide) q66
              have q91 := J84.keep h_q0_53 (by decide) q67
              obtain ⟨s92, e93⟩ : ∃ s9 : p_S, p_nx s54 = s9 := ⟨_, rfl⟩
              rw [e93] at f87
              have : s92.1 = 0 := by rw [← e93]; show s54.1 = 0; omega
              obtain ⟨v94, v95, v96, v97, v98, v99, v100, q101, q102, q103, q104, q105, q106, q107, h108, h109, h110⟩ := f87
              replace h109 := Im.i h109
              replace h110 := Im.i h110
              refine mv_aload_n d_Reader_product_31 rfl rfl ?_
              obtain ⟨_, b117, -⟩ := I85.1 _ _ t88
              refine mv_callV (kc' := 0) (ks' := 0) (As := []) (st9 := [.ref o0]) d_Reader_product_32 lV_Reader_221 b117 rfl (tg_Reader_factor hK9 H_sum H_condition (d := d) (x9 := x9) (o0 := o0) t88 (p := p) q89 (by omega) (by first | omega | decide) (hK I85) ⟨_, _, _, _, _, _, _, q101, q102, q103, q104, q105, q106, q107, h108, Im.o h109, Im.o h110⟩ (by omega) I85.start) rfl (Nat.le_of_ble_eq_true rfl) (Nat.le_of_ble_eq_true rfl) (Nat.le_of_ble_eq_true rfl) (hst := rfl) (fun b111r M112 n113 b111 => ?_)
              obtain ⟨T114, J115, v118, rfl, b119, b120, o121, f122, f123⟩ := b111
              have I116 := I85.call J115 (tm_sub (by decide)) (Or.inl rfl)
              have t124 := J115.up t88
              obtain ⟨s125, e126⟩ : ∃ s9 : p_S, p_fac pb pn pa (p_op pb pn pa (r7 + 1)) s92 = s9 := ⟨_, rfl⟩
              rw [e126] at f122 f123
              obtain ⟨v127, v128, v129, v130, v131, v132, v133, q134, q135, q136, q137, q138, q139, q140, h141, h142, h143⟩ := f122
              replace h142 := Im.i h142
              replace h143 := Im.i h143
              have := mz_hi v118
              refine mv_if_neZ (tgt := 40) (a := v118.toInt) d_Reader_product_35 (by decide) rfl (fun b144 => ?_) (fun b144 => ?_)
              · have q145 := o121 (by omega)
                refine mv_aload_n d_Reader_product_40 rfl rfl ?_
                refine mv_iconst (v := 4) d_Reader_product_41 (by decide) ?_
                refine mv_iconst (v := 0) d_Reader_product_42 (by decide) ?_
                obtain ⟨_, b152, -⟩ := I116.1 _ _ t124
                refine mv_callV (kc' := 0) (ks' := 0) (As := [.int 4, .int 0]) (st9 := [.int 0, .int 4, .ref o0]) d_Reader_product_43 lV_Reader_203 b152 rfl (tc_Reader_emit (d := (d + E + 5)) (x9 := x9) (o0 := o0) (x1 := 4) (x2 := 0) t124 I116.start) rfl (Nat.le_of_ble_eq_true rfl) (Nat.le_of_ble_eq_true rfl) (Nat.le_of_ble_eq_true rfl) (hst := rfl) (fun b146r M147 n148 b146 => ?_)
                obtain ⟨T149, J150, rfl⟩ := b146
                have I151 := I116.call J150 (tm_sub (by decide)) (Or.inl rfl)
                have t153 := J150.up t124
                have q154 := J150.keep (I116.up h_o0) (by decide) q134
                have q155 := J150.keep (I116.up h_o0) (by decide) q135
                have q156 := J150.keep (I116.up h_o0) (by decide) q136
                have q157 := J150.keep (I116.up h_o0) (by decide) q137
                have q158 := J150.keep (I116.up h_o0) (by decide) q138
                have q159 := J150.keep (I116.up h_o0) (by decide) q139
                have q160 := J150.keep (I116.up h_o0) (by decide) q140
                have q161 := J150.keep t124 (by decide) q145
                refine mv_iinc (v := (i1_53 + 1)) (lv' := [(1, .int (i1_53 + 1)), (0, .ref o0)]) d_Reader_product_46 rfl rfl (by decide) rfl ?_
                refine mv_goto (tgt := 11) d_Reader_product_49 (by decide) ?_
                have : (i1_53 + 1 : Int32).toInt = i1_53.toInt + 1 := mz_addn 1 1 (by decide) (by omega) (by omega)
                have T162 : ∃ s1 : p_S, qS M147 o0 pb pn s1 ∧ s1.1 = 0 ∧ (i1_53 + 1).toInt ≤ (s1.2.2 : Int) ∧ p_lp pn (p_pr1 pb pn pa (p_op pb pn pa (r7 + 1))) s1 = p_pro pb pn pa (p_op pb pn pa (r7 + 1)) ps := ⟨s125, ⟨_, _, _, _, _, _, _, q154, q155, q156, q157, q158, q159, q160, h141, Im.o h142, Im.o h143⟩, by omega, (by have h9 : s54.2.2 + 1 ≤ s125.2.2 := (by rw [← e126, ← e93]; exact p_fac_M (p_op_M _) (p_nx s54)); omega), (by have := (Im.o h75) (by omega); have := yC.d s54.2.2; have := yC.kn s54.2.2; have st : (p_pr1 pb pn pa (p_op pb pn pa (r7 + 1))) s54 = s125 := (by rw [show (p_pr1 pb pn pa (p_op pb pn pa (r7 + 1))) s54 = p_fac pb pn pa (p_op pb pn pa (r7 + 1)) (p_nx s54) from if_pos ⟨by omega, by omega⟩]; simp only [e93, e126]); rw [← st, p_P.go (p_pr1_P (p_op_M _)) s54]; exact e58)⟩
                have b163 : (i1_53 + 1).toInt = i1_53.toInt + 1 := mz_addn 1 1 (by decide) (by have := mz_lo i1_53; omega) (by have := mz_hi i1_53; omega)
                exact (ih53 (i1_53 + 1) T149 M147 n148 I151 t153 (by first | omega | decide) q161 T162 (by omega))
              · refine mv_iconst (v := 0) d_Reader_product_38 (by decide) ?_
                exact mv_iret d_Reader_product_39 rfl (by decide) ⟨_, I116, _, rfl, by decide, by decide, fun h => absurd h (by decide), (by have := (Im.o h75) (by omega); have := yC.d s54.2.2; have := yC.kn s54.2.2; have hb : s125.1 ≠ 0 := (by omega); have z1 : ∀ c, p_sg pb pn c s125 = s125 := (fun c => p_sg_Z s125 hb); have z2 : ∀ c, p_wd pb pn c s125 = s125 := (fun c => p_wd_Z s125 hb); have z3 : ∀ op, p_sum pb pn pa op s125 = s125 := (fun op => p_sum_Z s125 hb); have z4 : ∀ r oc, p_con pb pn pa r oc s125 = s125 := (fun r oc => p_con_Z s125 hb); have z5 : p_prt pb pn s125 = s125 := p_prt_Z s125 hb; have st : (p_pr1 pb pn pa (p_op pb pn pa (r7 + 1))) s54 = s125 := (by rw [show (p_pr1 pb pn pa (p_op pb pn pa (r7 + 1))) s54 = p_fac pb pn pa (p_op pb pn pa (r7 + 1)) (p_nx s54) from if_pos ⟨by omega, by omega⟩]; simp only [e93, e126]); have eT : p_pro pb pn pa (p_op pb pn pa (r7 + 1)) ps = s125 := (by rw [← e58, ← p_P.go (p_pr1_P (p_op_M _)) s54, st]; exact p_lp_stop (p_pr1_Z s125 hb)); rw [eT]; exact ⟨⟨_, _, _, _, _, _, _, q134, q135, q136, q137, q138, q139, q140, h141, Im.o h142, Im.o h143⟩, (Or.inr ⟨by first | decide | omega, by omega⟩)⟩)⟩
    have T164 : ∃ s1 : p_S, qS M19 o0 pb pn s1 ∧ s1.1 = 0 ∧ 0 ≤ (s1.2.2 : Int) ∧ p_lp pn (p_pr1 pb pn pa (p_op pb pn pa (r7 + 1))) s1 = p_pro pb pn pa (p_op pb pn pa (r7 + 1)) ps := ⟨s32, ⟨_, _, _, _, _, _, _, q41, q42, q43, q44, q45, q46, q47, h48, Im.o h49, Im.o h50⟩, by omega, (by show (0 : Int) ≤ _; omega), (by rw [← e33]; rfl)⟩
    exact mv_less (Nat.zero_le _) (Nat.zero_le _) (L11_53 4294967296 0 T21 M19 n20 I23 t31 (by first | omega | decide) q52 T164 (by show (2147483647 - (0 : Int) : Int) < _; decide))
  · refine mv_iconst (v := 0) d_Reader_product_7 (by decide) ?_
    exact mv_iret d_Reader_product_8 rfl (by decide) ⟨_, I23, _, rfl, by decide, by decide, fun h => absurd h (by decide), (by have hb : s32.1 ≠ 0 := (by omega); have z1 : ∀ c, p_sg pb pn c s32 = s32 := (fun c => p_sg_Z s32 hb); have z2 : ∀ c, p_wd pb pn c s32 = s32 := (fun c => p_wd_Z s32 hb); have z3 : ∀ op, p_sum pb pn pa op s32 = s32 := (fun op => p_sum_Z s32 hb); have z4 : ∀ r oc, p_con pb pn pa r oc s32 = s32 := (fun r oc => p_con_Z s32 hb); have z5 : p_prt pb pn s32 = s32 := p_prt_Z s32 hb; have eT : p_pro pb pn pa (p_op pb pn pa (r7 + 1)) ps = s32 := (by unfold p_pro; simp only [e33]; exact p_lp_stop (p_pr1_Z s32 hb)); rw [eT]; exact ⟨⟨_, _, _, _, _, _, _, q41, q42, q43, q44, q45, q46, q47, h48, Im.o h49, Im.o h50⟩, (Or.inr ⟨by first | decide | omega, by omega⟩)⟩)⟩
set_option maxHeartbeats 100000000 in theorem tg_Reader_sum {E r7 : Nat} {K K1 : Int} (hK9 : K1 = K + 1 ∧ 0 ≤ K ∧ K ≤ 3) (H_sum : ∀ {g : mj_G} {l : Launch} {d : Nat} {T0 : tm_H} {M0 : mj_M} {n0 x9 : Nat} {o0 : Nat} (h_o0 : T0 o0 = some (0, 9, 0)) {p : Int32} (hO : tm_at M0 o0 9 16 (.int p)) (hp : K1 ≤ p.toInt)  (hp2 : p.toInt ≤ K1) {pb : Nat → Int} {pn : Nat} {pa : Int} {ps : p_S} (yC : qC M0 o0 pb pn pa) (yD : qS M0 o0 pb pn ps) (yw : ps.1 = 0) (I0 : tm_I tm_FT (tm_in w_Reader_sum_q0_x) x9 T0 M0 n0 T0 M0 n0), mj_Met g l kY_Reader_sum (d + E + 4) [.ref o0] M0 n0 0 0 (tm_Q tm_FT (tm_in w_Reader_sum_q0_x) x9 T0 M0 n0 (fun r _ M => ∃ v : Int32, r = some (.int v) ∧ 0 ≤ v.toInt ∧ v.toInt ≤ 1 ∧ (v.toInt = 1 → tm_at M o0 9 16 (.int p)) ∧ (qS M o0 pb pn (p_sum pb pn pa (p_op pb pn pa r7) ps)) ∧ (v.toInt = 1 ∧ (p_sum pb pn pa (p_op pb pn pa r7) ps).1 = 0 ∨ v.toInt = 0 ∧ (p_sum pb pn pa (p_op pb pn pa r7) ps).1 ≠ 0)))) (H_condition : ∀ {g : mj_G} {l : Launch} {d : Nat} {T0 : tm_H} {M0 : mj_M} {n0 x9 : Nat} {o0 : Nat} (h_o0 : T0 o0 = some (0, 9, 0)) {p : Int32} (hO : tm_at M0 o0 9 16 (.int p)) (hp : K1 ≤ p.toInt)  (hp2 : p.toInt ≤ K1) {pb : Nat → Int} {pn : Nat} {pa : Int} {ps : p_S} (yC : qC M0 o0 pb pn pa) (yD : qS M0 o0 pb pn ps) (yw : ps.1 = 0) (I0 : tm_I tm_FT (tm_in w_Reader_condition_q0_x) x9 T0 M0 n0 T0 M0 n0), mj_Met g l kY_Reader_condition (d + E + 7) [.ref o0] M0 n0 0 0 (tm_Q tm_FT (tm_in w_Reader_condition_q0_x) x9 T0 M0 n0 (fun r _ M => ∃ v : Int32, r = some (.int v) ∧ 0 ≤ v.toInt ∧ v.toInt ≤ 1 ∧ (v.toInt = 1 → tm_at M o0 9 16 (.int p)) ∧ (qS M o0 pb pn (p_con pb pn pa r7 (p_oc pb pn pa r7) ps)) ∧ (v.toInt = 1 ∧ (p_con pb pn pa r7 (p_oc pb pn pa r7) ps).1 = 0 ∨ v.toInt = 0 ∧ (p_con pb pn pa r7 (p_oc pb pn pa r7) ps).1 ≠ 0)))) {g : mj_G} {l : Launch} {d : Nat} {T0 : tm_H} {M0 : mj_M} {n0 x9 : Nat} {o0 : Nat} (h_o0 : T0 o0 = some (0, 9, 0)) {p : Int32} (hO : tm_at M0 o0 9 16 (.int p)) (hp : K ≤ p.toInt)  (hp2 : p.toInt ≤ K) {pb : Nat → Int} {pn : Nat} {pa : Int} {ps : p_S} (yC : qC M0 o0 pb pn pa) (yD : qS M0 o0 pb pn ps) (yw : ps.1 = 0) (I0 : tm_I tm_FT (tm_in w_Reader_sum_q0_x) x9 T0 M0 n0 T0 M0 n0) : mj_Met g l kY_Reader_sum (d + E + 7) [.ref o0] M0 n0 0 0 (tm_Q tm_FT (tm_in w_Reader_sum_q0_x) x9 T0 M0 n0 (fun r _ M => ∃ v : Int32, r = some (.int v) ∧ 0 ≤ v.toInt ∧ v.toInt ≤ 1 ∧ (v.toInt = 1 → tm_at M o0 9 16 (.int p)) ∧ (qS M o0 pb pn (p_sum pb pn pa (p_op pb pn pa (r7 + 1)) ps)) ∧ (v.toInt = 1 ∧ (p_sum pb pn pa (p_op pb pn pa (r7 + 1)) ps).1 = 0 ∨ v.toInt = 0 ∧ (p_sum pb pn pa (p_op pb pn pa (r7 + 1)) ps).1 ≠ 0))) := by
  refine mj_enter (by decide) (Nat.le_of_ble_eq_true rfl) ?_
  have hK : ∀ {T : tm_H} {M : mj_M} {n : Nat}, tm_I tm_FT (tm_in w_Reader_sum_q0_x) x9 T0 M0 n0 T M n → qC M o0 pb pn pa := fun I => yC.keep I0.1 I h_o0 (qW_of (by decide +kernel))
  obtain ⟨v1, v2, v3, v4, v5, v6, v7, q8, q9, q10, q11, q12, q13, q14, h15, h16, h17⟩ := yD
  replace h16 := Im.i h16
  replace h17 := Im.i h17
  refine mv_aload_n d_Reader_sum_0 rfl rfl ?_
  obtain ⟨_, b24, -⟩ := I0.1 _ _ h_o0
  refine mv_callV (kc' := 0) (ks' := 0) (As := []) (st9 := [.ref o0]) d_Reader_sum_1 lV_Reader_218 b24 rfl (tg_Reader_product hK9 H_sum H_condition (d := d) (x9 := x9) (o0 := o0) h_o0 (p := p) hO (by omega) (by first | omega | decide) (hK I0) ⟨_, _, _, _, _, _, _, q8, q9, q10, q11, q12, q13, q14, h15, Im.o h16, Im.o h17⟩ (by omega) I0.start) rfl (Nat.le_of_ble_eq_true rfl) (Nat.le_of_ble_eq_true rfl) (Nat.le_of_ble_eq_true rfl) (hst := rfl) (fun b18r M19 n20 b18 => ?_)
  obtain ⟨T21, J22, v25, rfl, b26, b27, o28, f29, f30⟩ := b18
  have I23 := I0.call J22 (tm_sub (by decide)) (Or.inl rfl)
  have t31 := J22.up h_o0
  obtain ⟨s32, e33⟩ : ∃ s9 : p_S, p_pro pb pn pa (p_op pb pn pa (r7 + 1)) ps = s9 := ⟨_, rfl⟩
  rw [e33] at f29 f30
  obtain ⟨v34, v35, v36, v37, v38, v39, v40, q41, q42, q43, q44, q45, q46, q47, h48, h49, h50⟩ := f29
  replace h49 := Im.i h49
  replace h50 := Im.i h50
  have := mz_hi v25
  refine mv_if_neZ (tgt := 9) (a := v25.toInt) d_Reader_sum_4 (by decide) rfl (fun b51 => ?_) (fun b51 => ?_)
  · have q52 := o28 (by omega)
    refine mv_iconst (v := 0) d_Reader_sum_9 (by decide) ?_
    refine mv_istore_n (lv' := [(1, .int 0), (0, .ref o0)]) d_Reader_sum_10 rfl (by decide) rfl ?_
    have L11_53 : ∀ (k : Nat) (i1_53 : Int32) (T_53 : tm_H) (M_53 : mj_M) (n_53 : Nat), tm_I tm_FT (tm_in w_Reader_sum_q0_x) x9 T0 M0 n0 T_53 M_53 n_53 → T_53 o0 = some (0, 9, 0) → 0 ≤ i1_53.toInt → tm_at M_53 o0 9 16 (.int p) → (∃ s1 : p_S, qS M_53 o0 pb pn s1 ∧ s1.1 = 0 ∧ i1_53.toInt ≤ (s1.2.2 : Int) ∧ p_lp pn (p_su1 pb pn pa (p_op pb pn pa (r7 + 1))) s1 = p_sum pb pn pa (p_op pb pn pa (r7 + 1)) ps) → 2147483647 - i1_53.toInt < (k : Int) → mj_V g l kY_Reader_sum (d + E + 7) 11 [(1, .int i1_53), (0, .ref o0)] [] M_53 n_53 0 0 (tm_Q tm_FT (tm_in w_Reader_sum_q0_x) x9 T0 M0 n0 (fun r _ M => ∃ v : Int32, r = some (.int v) ∧ 0 ≤ v.toInt ∧ v.toInt ≤ 1 ∧ (v.toInt = 1 → tm_at M o0 9 16 (.int p)) ∧ (qS M o0 pb pn (p_sum pb pn pa (p_op pb pn pa (r7 + 1)) ps)) ∧ (v.toInt = 1 ∧ (p_sum pb pn pa (p_op pb pn pa (r7 + 1)) ps).1 = 0 ∨ v.toInt = 0 ∧ (p_sum pb pn pa (p_op pb pn pa (r7 + 1)) ps).1 ≠ 0))) := by
      intro k53
      induction k53 with
      | zero =>
        intro i1_53 T_53 M_53 n_53 I_53 h_q0_53 iv0_53 kp0_53 kKT9_53 hk53
        have := mz_hi i1_53
        omega
      | succ k53 ih53 =>
        intro i1_53 T_53 M_53 n_53 I_53 h_q0_53 iv0_53 kp0_53 kKT9_53 hk53
        obtain ⟨s54, f55, h56, h57, e58⟩ := kKT9_53
        obtain ⟨v59, v60, v61, v62, v63, v64, v65, q66, q67, q68, q69, q70, q71, q72, h73, h74, h75⟩ := f55
        replace h74 := Im.i h74
        replace h75 := Im.i h75
        refine mv_iload_n d_Reader_sum_11 rfl rfl ?_
        refine mv_sipush (v := 400) d_Reader_sum_12 (by decide) ?_
        have := mz_hi i1_53
        refine mv_icmp_geZ (tgt := 76) (a := i1_53.toInt) (b := 400) d_Reader_sum_15 (by decide) rfl (by decide) (fun b76 => ?_) (fun b76 => ?_)
        · refine mv_iconst (v := 1) d_Reader_sum_76 (by decide) ?_
          exact mv_iret d_Reader_sum_77 rfl (by decide) ⟨_, I_53, _, rfl, by decide, by decide, fun _ => kp0_53, (by have := (Im.o h75) (by omega); have := yC.d s54.2.2; have := yC.kn s54.2.2; have hX := e58.symm.trans (p_lp_stop (show (p_su1 pb pn pa (p_op pb pn pa (r7 + 1))) s54 = s54 from if_neg (fun h9 => by omega))); have eT : p_sum pb pn pa (p_op pb pn pa (r7 + 1)) ps = s54 := (by exact hX); rw [eT]; exact ⟨⟨_, _, _, _, _, _, _, q66, q67, q68, q69, q70, q71, q72, h73, Im.o h74, Im.o h75⟩, (Or.inl ⟨by first | decide | omega, by omega⟩)⟩)⟩
        · refine mv_aload_n d_Reader_sum_18 rfl rfl ?_
          refine mv_bipush (v := 43) d_Reader_sum_19 (by decide) ?_
          obtain ⟨_, b77, -⟩ := I_53.1 _ _ h_q0_53
          refine mv_callV (kc1 := 0) (ks1 := 0) (kc' := 0) (ks' := 0) (As := [.int 43]) (st9 := [.int 43, .ref o0]) d_Reader_sum_21 lV_Reader_209 b77 rfl (mj_enter (by decide) (Nat.le_of_ble_eq_true rfl) ?_) rfl (Nat.le_of_ble_eq_true rfl) (Nat.le_of_ble_eq_true rfl) (Nat.le_of_ble_eq_true rfl) (hst := rfl) (fun _ _ _ h => h)
          refine mv_aload_n d_Reader_isSign_0 rfl rfl ?_
          refine tr_getK (k := 10) q69 d_Reader_isSign_1 f_Reader_41_9 ?_
          refine mv_iconst (v := 3) d_Reader_isSign_4 (by decide) ?_
          have := mz_hi v62
          refine mv_icmp_neZ (tgt := 20) (a := v62.toInt) (b := 3) d_Reader_isSign_5 (by decide) rfl (by decide) (fun b78 => ?_) (fun b78 => ?_)
          · refine mv_iconst (v := 0) d_Reader_isSign_20 (by decide) ?_
            refine mv_iret d_Reader_isSign_21 rfl (by decide) ?_
            refine mv_if_ne_f (tgt := 36) d_Reader_sum_24 (by decide) (by decide) ?_
            refine mv_aload_n d_Reader_sum_27 rfl rfl ?_
            refine mv_bipush (v := 45) d_Reader_sum_28 (by decide) ?_
            obtain ⟨_, b79, -⟩ := I_53.1 _ _ h_q0_53
            refine mv_callV (kc1 := 0) (ks1 := 0) (kc' := 0) (ks' := 0) (As := [.int 45]) (st9 := [.int 45, .ref o0]) d_Reader_sum_30 lV_Reader_209 b79 rfl (mj_enter (by decide) (Nat.le_of_ble_eq_true rfl) ?_) rfl (Nat.le_of_ble_eq_true rfl) (Nat.le_of_ble_eq_true rfl) (Nat.le_of_ble_eq_true rfl) (hst := rfl) (fun _ _ _ h => h)
            refine mv_aload_n d_Reader_isSign_0 rfl rfl ?_
            refine tr_getK (k := 10) q69 d_Reader_isSign_1 f_Reader_41_9 ?_
            refine mv_iconst (v := 3) d_Reader_isSign_4 (by decide) ?_
            have := mz_hi v62
            refine mv_icmp_neZ (tgt := 20) (a := v62.toInt) (b := 3) d_Reader_isSign_5 (by decide) rfl (by decide) (fun b80 => ?_) (fun b80 => absurd b80 (by omega))
            refine mv_iconst (v := 0) d_Reader_isSign_20 (by decide) ?_
            refine mv_iret d_Reader_isSign_21 rfl (by decide) ?_
            refine mv_if_eq_t (tgt := 76) d_Reader_sum_33 (by decide) (by decide) ?_
            refine mv_iconst (v := 1) d_Reader_sum_76 (by decide) ?_
            exact mv_iret d_Reader_sum_77 rfl (by decide) ⟨_, I_53, _, rfl, by decide, by decide, fun _ => kp0_53, (by have := (Im.o h75) (by omega); have := yC.d s54.2.2; have := yC.kn s54.2.2; have hX := e58.symm.trans (p_lp_stop (show (p_su1 pb pn pa (p_op pb pn pa (r7 + 1))) s54 = s54 from if_neg (fun h9 => by omega))); have eT : p_sum pb pn pa (p_op pb pn pa (r7 + 1)) ps = s54 := (by exact hX); rw [eT]; exact ⟨⟨_, _, _, _, _, _, _, q66, q67, q68, q69, q70, q71, q72, h73, Im.o h74, Im.o h75⟩, (Or.inl ⟨by first | decide | omega, by omega⟩)⟩)⟩
          · refine mv_aload_n d_Reader_isSign_8 rfl rfl ?_
            refine tr_getK (k := 13) q72 d_Reader_isSign_9 f_Reader_241_9 ?_
            refine mv_iload_n d_Reader_isSign_12 rfl rfl ?_
            have := mz_hi v65
            refine mv_icmp_neZ (tgt := 20) (a := v65.toInt) (b := 43) d_Reader_isSign_13 (by decide) rfl (by decide) (fun b81 => ?_) (fun b81 => ?_)
            · refine mv_iconst (v := 0) d_Reader_isSign_20 (by decide) ?_
              refine mv_iret d_Reader_isSign_21 rfl (by decide) ?_
              refine mv_if_ne_f (tgt := 36) d_Reader_sum_24 (by decide) (by decide) ?_
              refine mv_aload_n d_Reader_sum_27 rfl rfl ?_
              refine mv_bipush (v := 45) d_Reader_sum_28 (by decide) ?_
              obtain ⟨_, b82, -⟩ := I_53.1 _ _ h_q0_53
              refine mv_callV (kc1 := 0) (ks1 := 0) (kc' := 0) (ks' := 0) (As := [.int 45]) (st9 := [.int 45, .ref o0]) d_Reader_sum_30 lV_Reader_209 b82 rfl (mj_enter (by decide) (Nat.le_of_ble_eq_true rfl) ?_) rfl (Nat.le_of_ble_eq_true rfl) (Nat.le_of_ble_eq_true rfl) (Nat.le_of_ble_eq_true rfl) (hst := rfl) (fun _ _ _ h => h)
              refine mv_aload_n d_Reader_isSign_0 rfl rfl ?_
              refine tr_getK (k := 10) q69 d_Reader_isSign_1 f_Reader_41_9 ?_
              refine mv_iconst (v := 3) d_Reader_isSign_4 (by decide) ?_
              have := mz_hi v62
              refine mv_icmp_neZ (tgt := 20) (a := v62.toInt) (b := 3) d_Reader_isSign_5 (by decide) rfl (by decide) (fun b83 => absurd b83 (by omega)) (fun b83 => ?_)
              refine mv_aload_n d_Reader_isSign_8 rfl rfl ?_
              refine tr_getK (k := 13) q72 d_Reader_isSign_9 f_Reader_241_9 ?_
              refine mv_iload_n d_Reader_isSign_12 rfl rfl ?_
              have := mz_hi v65
              refine mv_icmp_neZ (tgt := 20) (a := v65.toInt) (b := 45) d_Reader_isSign_13 (by decide) rfl (by decide) (fun b84 => ?_) (fun b84 => ?_)
              · refine mv_iconst (v := 0) d_Reader_isSign_20 (by decide) ?_
                refine mv_iret d_Reader_isSign_21 rfl (by decide) ?_
                refine mv_if_eq_t (tgt := 76) d_Reader_sum_33 (by decide) (by decide) ?_
                refine mv_iconst (v := 1) d_Reader_sum_76 (by decide) ?_
                exact mv_iret d_Reader_sum_77 rfl (by decide) ⟨_, I_53, _, rfl, by decide, by decide, fun _ => kp0_53, (by have := (Im.o h75) (by omega); have := yC.d s54.2.2; have := yC.kn s54.2.2; have hX := e58.symm.trans (p_lp_stop (show (p_su1 pb pn pa (p_op pb pn pa (r7 + 1))) s54 = s54 from if_neg (fun h9 => by omega))); have eT : p_sum pb pn pa (p_op pb pn pa (r7 + 1)) ps = s54 := (by exact hX); rw [eT]; exact ⟨⟨_, _, _, _, _, _, _, q66, q67, q68, q69, q70, q71, q72, h73, Im.o h74, Im.o h75⟩, (Or.inl ⟨by first | decide | omega, by omega⟩)⟩)⟩
              · refine mv_iconst (v := 1) d_Reader_isSign_16 (by decide) ?_
                refine mv_goto (tgt := 21) d_Reader_isSign_17 (by decide) ?_
                refine mv_iret d_Reader_isSign_21 rfl (by decide) ?_
                refine mv_if_eq_f (tgt := 76) d_Reader_sum_33 (by decide) (by decide) ?_
                refine mv_aload_n d_Reader_sum_36 rfl rfl ?_
                refine mv_bipush (v := 43) d_Reader_sum_37 (by decide) ?_
                obtain ⟨_, b85, -⟩ := I_53.1 _ _ h_q0_53
                refine mv_callV (kc1 := 0) (ks1 := 0) (kc' := 0) (ks' := 0) (As := [.int 43]) (st9 := [.int 43, .ref o0]) d_Reader_sum_39 lV_Reader_209 b85 rfl (mj_enter (by decide) (Nat.le_of_ble_eq_true rfl) ?_) rfl (Nat.le_of_ble_eq_true rfl) (Nat.le_of_ble_eq_true rfl) (Nat.le_of_ble_eq_true rfl) (hst := rfl) (fun _ _ _ h => h)
                refine mv_aload_n d_Reader_isSign_0 rfl rfl ?_
                refine tr_getK (k := 10) q69 d_Reader_isSign_1 f_Reader_41_9 ?_
                refine mv_iconst (v := 3) d_Reader_isSign_4 (by decide) ?_
                have := mz_hi v62
                refine mv_icmp_neZ (tgt := 20) (a := v62.toInt) (b := 3) d_Reader_isSign_5 (by decide) rfl (by decide) (fun b86 => absurd b86 (by omega)) (fun b86 => ?_)
                refine mv_aload_n d_Reader_isSign_8 rfl rfl ?_
                refine tr_getK (k := 13) q72 d_Reader_isSign_9 f_Reader_241_9 ?_
                refine mv_iload_n d_Reader_isSign_12 rfl rfl ?_
                have := mz_hi v65
                refine mv_icmp_neZ (tgt := 20) (a := v65.toInt) (b := 43) d_Reader_isSign_13 (by decide) rfl (by decide) (fun b87 => ?_) (fun b87 => absurd b87 (by omega))
                refine mv_iconst (v := 0) d_Reader_isSign_20 (by decide) ?_
                refine mv_iret d_Reader_isSign_21 rfl (by decide) ?_
                refine mv_if_eq_t (tgt := 49) d_Reader_sum_42 (by decide) (by decide) ?_
                refine mv_iconst (v := 3) d_Reader_sum_49 (by decide) ?_
                refine mv_istore_n (lv' := [(2, .int 3), (1, .int i1_53), (0, .ref o0)]) d_Reader_sum_50 rfl (by decide) rfl ?_
                refine mv_aload_n d_Reader_sum_51 rfl rfl ?_
                obtain ⟨_, b94, -⟩ := I_53.1 _ _ h_q0_53
                refine mv_callV (kc' := 0) (ks' := 0) (As := []) (st9 := [.ref o0]) d_Reader_sum_52 lV_Reader_82 b94 rfl (tc_Reader_advance_x (d := (d + E + 6)) (x9 := x9) (o0 := o0) h_q0_53 (hK I_53) (qS.a (show qS M_53 o0 pb pn s54 from ⟨_, _, _, _, _, _, _, q66, q67, q68, q69, q70, q71, q72, h73, Im.o h74, Im.o h75⟩)) (by have := (Im.o h75) (by omega); have := yC.d s54.2.2; have := yC.kn s54.2.2; show s54.2.2 + 1 ≤ 401; omega) I_53.start) rfl (Nat.le_of_ble_eq_true rfl) (Nat.le_of_ble_eq_true rfl) (Nat.le_of_ble_eq_true rfl) (hst := rfl) (fun b88r M89 n90 b88 => ?_)
                obtain ⟨T91, J92, rfl, f95⟩ := b88
                have I93 := I_53.call J92 (tm_sub (by decide)) (Or.inl rfl)
                have t96 := J92.up h_q0_53
                have q97 := J92.keep h_q0_53 (by decide) kp0_53
                have q98 := J92.keep h_q0_53 (by decide) q66
                have q99 := J92.keep h_q0_53 (by decide) q67
                obtain ⟨s100, e101⟩ : ∃ s9 : p_S, p_nx s54 = s9 := ⟨_, rfl⟩
                rw [e101] at f95
                have : s100.1 = 0 := by rw [← e101]; show s54.1 = 0; omega
                obtain ⟨v102, v103, v104, v105, v106, v107, v108, q109, q110, q111, q112, q113, q114, q115, h116, h117, h118⟩ := f95
                replace h117 := Im.i h117
                replace h118 := Im.i h118
                refine mv_aload_n d_Reader_sum_55 rfl rfl ?_
                obtain ⟨_, b125, -⟩ := I93.1 _ _ t96
                refine mv_callV (kc' := 0) (ks' := 0) (As := []) (st9 := [.ref o0]) d_Reader_sum_56 lV_Reader_218 b125 rfl (tg_Reader_product hK9 H_sum H_condition (d := d) (x9 := x9) (o0 := o0) t96 (p := p) q97 (by omega) (by first | omega | decide) (hK I93) ⟨_, _, _, _, _, _, _, q109, q110, q111, q112, q113, q114, q115, h116, Im.o h117, Im.o h118⟩ (by omega) I93.start) rfl (Nat.le_of_ble_eq_true rfl) (Nat.le_of_ble_eq_true rfl) (Nat.le_of_ble_eq_true rfl) (hst := rfl) (fun b119r M120 n121 b119 => ?_)
                obtain ⟨T122, J123, v126, rfl, b127, b128, o129, f130, f131⟩ := b119
                have I124 := I93.call J123 (tm_sub (by decide)) (Or.inl rfl)
                have t132 := J123.up t96
                obtain ⟨s133, e134⟩ : ∃ s9 : p_S, p_pro pb pn pa (p_op pb pn pa (r7 + 1)) s100 = s9 := ⟨_, rfl⟩
                rw [e134] at f130 f131
                obtain ⟨v135, v136, v137, v138, v139, v140, v141, q142, q143, q144, q145, q146, q147, q148, h149, h150, h151⟩ := f130
                replace h150 := Im.i h150
                replace h151 := Im.i h151
                have := mz_hi v126
                refine mv_if_neZ (tgt := 64) (a := v126.toInt) d_Reader_sum_59 (by decide) rfl (fun b152 => ?_) (fun b152 => ?_)
                · have q153 := o129 (by omega)
                  refine mv_aload_n d_Reader_sum_64 rfl rfl ?_
                  refine mv_iload_n d_Reader_sum_65 rfl rfl ?_
                  refine mv_iconst (v := 0) d_Reader_sum_66 (by decide) ?_
                  obtain ⟨_, b160, -⟩ := I124.1 _ _ t132
                  refine mv_callV (kc' := 0) (ks' := 0) (As := [.int 3, .int 0]) (st9 := [.int 0, .int 3, .ref o0]) d_Reader_sum_67 lV_Reader_203 b160 rfl (tc_Reader_emit (d := (d + E + 6)) (x9 := x9) (o0 := o0) (x1 := 3) (x2 := 0) t132 I124.start) rfl (Nat.le_of_ble_eq_true rfl) (Nat.le_of_ble_eq_true rfl) (Nat.le_of_ble_eq_true rfl) (hst := rfl) (fun b154r M155 n156 b154 => ?_)
                  obtain ⟨T157, J158, rfl⟩ := b154
                  have I159 := I124.call J158 (tm_sub (by decide)) (Or.inl rfl)
                  have t161 := J158.up t132
                  have q162 := J158.keep (I124.up h_o0) (by decide) q142
                  have q163 := J158.keep (I124.up h_o0) (by decide) q143
                  have q164 := J158.keep (I124.up h_o0) (by decide) q144
                  have q165 := J158.keep (I124.up h_o0) (by decide) q145
                  have q166 := J158.keep (I124.up h_o0) (by decide) q146
                  have q167 := J158.keep (I124.up h_o0) (by decide) q147
                  have q168 := J158.keep (I124.up h_o0) (by decide) q148
                  have q169 := J158.keep t132 (by decide) q153
                  refine mv_iinc (v := (i1_53 + 1)) (lv' := [(1, .int (i1_53 + 1)), (2, .int 3), (0, .ref o0)]) d_Reader_sum_70 rfl rfl (by decide) rfl ?_
                  refine mv_goto (tgt := 11) d_Reader_sum_73 (by decide) ?_
                  have : (i1_53 + 1 : Int32).toInt = i1_53.toInt + 1 := mz_addn 1 1 (by decide) (by omega) (by omega)
                  have T170 : ∃ s1 : p_S, qS M155 o0 pb pn s1 ∧ s1.1 = 0 ∧ (i1_53 + 1).toInt ≤ (s1.2.2 : Int) ∧ p_lp pn (p_su1 pb pn pa (p_op pb pn pa (r7 + 1))) s1 = p_sum pb pn pa (p_op pb pn pa (r7 + 1)) ps := ⟨s133, ⟨_, _, _, _, _, _, _, q162, q163, q164, q165, q166, q167, q168, h149, Im.o h150, Im.o h151⟩, by omega, (by have h9 : s54.2.2 + 1 ≤ s133.2.2 := (by rw [← e134, ← e101]; exact p_pro_M (p_op_M _) (p_nx s54)); omega), (by have := (Im.o h75) (by omega); have := yC.d s54.2.2; have := yC.kn s54.2.2; have st : (p_su1 pb pn pa (p_op pb pn pa (r7 + 1))) s54 = s133 := (by rw [show (p_su1 pb pn pa (p_op pb pn pa (r7 + 1))) s54 = p_pro pb pn pa (p_op pb pn pa (r7 + 1)) (p_nx s54) from if_pos ⟨by omega, by omega⟩]; simp only [e101, e134]); rw [← st, p_P.go (p_su1_P (p_op_M _)) s54]; exact e58)⟩
                  refine mv_locals (lv' := [(1, .int (i1_53 + 1)), (0, .ref o0)]) (by intro q hq; simp only [List.mem_cons, List.not_mem_nil, or_false] at hq; rcases hq with rfl | rfl <;> rfl) ?_
                  have b171 : (i1_53 + 1).toInt = i1_53.toInt + 1 := mz_addn 1 1 (by decide) (by have := mz_lo i1_53; omega) (by have := mz_hi i1_53; omega)
                  exact (ih53 (i1_53 + 1) T157 M155 n156 I159 t161 (by first | omega | decide) q169 T170 (by omega))
                · refine mv_iconst (v := 0) d_Reader_sum_62 (by decide) ?_
                  exact mv_iret d_Reader_sum_63 rfl (by decide) ⟨_, I124, _, rfl, by decide, by decide, fun h => absurd h (by decide), (by have := (Im.o h75) (by omega); have := yC.d s54.2.2; have := yC.kn s54.2.2; have hb : s133.1 ≠ 0 := (by omega); have z1 : ∀ c, p_sg pb pn c s133 = s133 := (fun c => p_sg_Z s133 hb); have z2 : ∀ c, p_wd pb pn c s133 = s133 := (fun c => p_wd_Z s133 hb); have z3 : ∀ op, p_sum pb pn pa op s133 = s133 := (fun op => p_sum_Z s133 hb); have z4 : ∀ r oc, p_con pb pn pa r oc s133 = s133 := (fun r oc => p_con_Z s133 hb); have z5 : p_prt pb pn s133 = s133 := p_prt_Z s133 hb; have st : (p_su1 pb pn pa (p_op pb pn pa (r7 + 1))) s54 = s133 := (by rw [show (p_su1 pb pn pa (p_op pb pn pa (r7 + 1))) s54 = p_pro pb pn pa (p_op pb pn pa (r7 + 1)) (p_nx s54) from if_pos ⟨by omega, by omega⟩]; simp only [e101, e134]); have eT : p_sum pb pn pa (p_op pb pn pa (r7 + 1)) ps = s133 := (by rw [← e58, ← p_P.go (p_su1_P (p_op_M _)) s54, st]; exact p_lp_stop (p_su1_Z s133 hb)); rw [eT]; exact ⟨⟨_, _, _, _, _, _, _, q142, q143, q144, q145, q146, q147, q148, h149, Im.o h150, Im.o h151⟩, (Or.inr ⟨by first | decide | omega, by omega⟩)⟩)⟩
            · refine mv_iconst (v := 1) d_Reader_isSign_16 (by decide) ?_
              refine mv_goto (tgt := 21) d_Reader_isSign_17 (by decide) ?_
              refine mv_iret d_Reader_isSign_21 rfl (by decide) ?_
              refine mv_if_ne_t (tgt := 36) d_Reader_sum_24 (by decide) (by decide) ?_
              refine mv_aload_n d_Reader_sum_36 rfl rfl ?_
              refine mv_bipush (v := 43) d_Reader_sum_37 (by decide) ?_
              obtain ⟨_, b172, -⟩ := I_53.1 _ _ h_q0_53
              refine mv_callV (kc1 := 0) (ks1 := 0) (kc' := 0) (ks' := 0) (As := [.int 43]) (st9 := [.int 43, .ref o0]) d_Reader_sum_39 lV_Reader_209 b172 rfl (mj_enter (by decide) (Nat.le_of_ble_eq_true rfl) ?_) rfl (Nat.le_of_ble_eq_true rfl) (Nat.le_of_ble_eq_true rfl) (Nat.le_of_ble_eq_true rfl) (hst := rfl) (fun _ _ _ h => h)
              refine mv_aload_n d_Reader_isSign_0 rfl rfl ?_
              refine tr_getK (k := 10) q69 d_Reader_isSign_1 f_Reader_41_9 ?_
              refine mv_iconst (v := 3) d_Reader_isSign_4 (by decide) ?_
              have := mz_hi v62
              refine mv_icmp_neZ (tgt := 20) (a := v62.toInt) (b := 3) d_Reader_isSign_5 (by decide) rfl (by decide) (fun b173 => absurd b173 (by omega)) (fun b173 => ?_)
              refine mv_aload_n d_Reader_isSign_8 rfl rfl ?_
              refine tr_getK (k := 13) q72 d_Reader_isSign_9 f_Reader_241_9 ?_
              refine mv_iload_n d_Reader_isSign_12 rfl rfl ?_
              have := mz_hi v65
              refine mv_icmp_neZ (tgt := 20) (a := v65.toInt) (b := 43) d_Reader_isSign_13 (by decide) rfl (by decide) (fun b174 => absurd b174 (by omega)) (fun b174 => ?_)
              refine mv_iconst (v := 1) d_Reader_isSign_16 (by decide) ?_
              refine mv_goto (tgt := 21) d_Reader_isSign_17 (by decide) ?_
              refine mv_iret d_Reader_isSign_21 rfl (by decide) ?_
              refine mv_if_eq_f (tgt := 49) d_Reader_sum_42 (by decide) (by decide) ?_
              refine mv_iconst (v := 2) d_Reader_sum_45 (by decide) ?_
              refine mv_goto (tgt := 50) d_Reader_sum_46 (by decide) ?_
              refine mv_istore_n (lv' := [(2, .int 2), (1, .int i1_53), (0, .ref o0)]) d_Reader_sum_50 rfl (by decide) rfl ?_
              refine mv_aload_n d_Reader_sum_51 rfl rfl ?_
              obtain ⟨_, b181, -⟩ := I_53.1 _ _ h_q0_53
              refine mv_callV (kc' := 0) (ks' := 0) (As := []) (st9 := [.ref o0]) d_Reader_sum_52 lV_Reader_82 b181 rfl (tc_Reader_advance_x (d := (d + E + 6)) (x9 := x9) (o0 := o0) h_q0_53 (hK I_53) (qS.a (show qS M_53 o0 pb pn s54 from ⟨_, _, _, _, _, _, _, q66, q67, q68, q69, q70, q71, q72, h73, Im.o h74, Im.o h75⟩)) (by have := (Im.o h75) (by omega); have := yC.d s54.2.2; have := yC.kn s54.2.2; show s54.2.2 + 1 ≤ 401; omega) I_53.start) rfl (Nat.le_of_ble_eq_true rfl) (Nat.le_of_ble_eq_true rfl) (Nat.le_of_ble_eq_true rfl) (hst := rfl) (fun b175r M176 n177 b175 => ?_)
              obtain ⟨T178, J179, rfl, f182⟩ := b175
              have I180 := I_53.call J179 (tm_sub (by decide)) (Or.inl rfl)
              have t183 := J179.up h_q0_53
              have q184 := J179.keep h_q0_53 (by decide) kp0_53
              have q185 := J179.keep h_q0_53 (by decide) q66
              have q186 := J179.keep h_q0_53 (by decide) q67
              obtain ⟨s187, e188⟩ : ∃ s9 : p_S, p_nx s54 = s9 := ⟨_, rfl⟩
              rw [e188] at f182
              have : s187.1 = 0 := by rw [← e188]; show s54.1 = 0; omega
              obtain ⟨v189, v190, v191, v192, v193, v194, v195, q196, q197, q198, q199, q200, q201, q202, h203, h204, h205⟩ := f182
              replace h204 := Im.i h204
              replace h205 := Im.i h205
              refine mv_aload_n d_Reader_sum_55 rfl rfl ?_
              obtain ⟨_, b212, -⟩ := I180.1 _ _ t183
              refine mv_callV (kc' := 0) (ks' := 0) (As := []) (st9 := [.ref o0]) d_Reader_sum_56 lV_Reader_218 b212 rfl (tg_Reader_product hK9 H_sum H_condition (d := d) (x9 := x9) (o0 := o0) t183 (p := p) q184 (by omega) (by first | omega | decide) (hK I180) ⟨_, _, _, _, _, _, _, q196, q197, q198, q199, q200, q201, q202, h203, Im.o h204, Im.o h205⟩ (by omega) I180.start) rfl (Nat.le_of_ble_eq_true rfl) (Nat.le_of_ble_eq_true rfl) (Nat.le_of_ble_eq_true rfl) (hst := rfl) (fun b206r M207 n208 b206 => ?_)
              obtain ⟨T209, J210, v213, rfl, b214, b215, o216, f217, f218⟩ := b206
              have I211 := I180.call J210 (tm_sub (by decide)) (Or.inl rfl)
              have t219 := J210.up t183
              obtain ⟨s220, e221⟩ : ∃ s9 : p_S, p_pro pb pn pa (p_op pb pn pa (r7 + 1)) s187 = s9 := ⟨_, rfl⟩
              rw [e221] at f217 f218
              obtain ⟨v222, v223, v224, v225, v226, v227, v228, q229, q230, q231, q232, q233, q234, q235, h236, h237, h238⟩ := f217
              replace h237 := Im.i h237
              replace h238 := Im.i h238
              have := mz_hi v213
              refine mv_if_neZ (tgt := 64) (a := v213.toInt) d_Reader_sum_59 (by decide) rfl (fun b239 => ?_) (fun b239 => ?_)
              · have q240 := o216 (by omega)
                refine mv_aload_n d_Reader_sum_64 rfl rfl ?_
                refine mv_iload_n d_Reader_sum_65 rfl rfl ?_
                refine mv_iconst (v := 0) d_Reader_sum_66 (by decide) ?_
                obtain ⟨_, b247, -⟩ := I211.1 _ _ t219
                refine mv_callV (kc' := 0) (ks' := 0) (As := [.int 2, .int 0]) (st9 := [.int 0, .int 2, .ref o0]) d_Reader_sum_67 lV_Reader_203 b247 rfl (tc_Reader_emit (d := (d + E + 6)) (x9 := x9) (o0 := o0) (x1 := 2) (x2 := 0) t219 I211.start) rfl (Nat.le_of_ble_eq_true rfl) (Nat.le_of_ble_eq_true rfl) (Nat.le_of_ble_eq_true rfl) (hst := rfl) (fun b241r M242 n243 b241 => ?_)
                obtain ⟨T244, J245, rfl⟩ := b241
                have I246 := I211.call J245 (tm_sub (by decide)) (Or.inl rfl)
                have t248 := J245.up t219
                have q249 := J245.keep (I211.up h_o0) (by decide) q229
                have q250 := J245.keep (I211.up h_o0) (by decide) q230
                have q251 := J245.keep (I211.up h_o0) (by decide) q231
                have q252 := J245.keep (I211.up h_o0) (by decide) q232
                have q253 := J245.keep (I211.up h_o0) (by decide) q233
                have q254 := J245.keep (I211.up h_o0) (by decide) q234
                have q255 := J245.keep (I211.up h_o0) (by decide) q235
                have q256 := J245.keep t219 (by decide) q240
                refine mv_iinc (v := (i1_53 + 1)) (lv' := [(1, .int (i1_53 + 1)), (2, .int 2), (0, .ref o0)]) d_Reader_sum_70 rfl rfl (by decide) rfl ?_
                refine mv_goto (tgt := 11) d_Reader_sum_73 (by decide) ?_
                have : (i1_53 + 1 : Int32).toInt = i1_53.toInt + 1 := mz_addn 1 1 (by decide) (by omega) (by omega)
                have T257 : ∃ s1 : p_S, qS M242 o0 pb pn s1 ∧ s1.1 = 0 ∧ (i1_53 + 1).toInt ≤ (s1.2.2 : Int) ∧ p_lp pn (p_su1 pb pn pa (p_op pb pn pa (r7 + 1))) s1 = p_sum pb pn pa (p_op pb pn pa (r7 + 1)) ps := ⟨s220, ⟨_, _, _, _, _, _, _, q249, q250, q251, q252, q253, q254, q255, h236, Im.o h237, Im.o h238⟩, by omega, (by have h9 : s54.2.2 + 1 ≤ s220.2.2 := (by rw [← e221, ← e188]; exact p_pro_M (p_op_M _) (p_nx s54)); omega), (by have := (Im.o h75) (by omega); have := yC.d s54.2.2; have := yC.kn s54.2.2; have st : (p_su1 pb pn pa (p_op pb pn pa (r7 + 1))) s54 = s220 := (by rw [show (p_su1 pb pn pa (p_op pb pn pa (r7 + 1))) s54 = p_pro pb pn pa (p_op pb pn pa (r7 + 1)) (p_nx s54) from if_pos ⟨by omega, by omega⟩]; simp only [e188, e221]); rw [← st, p_P.go (p_su1_P (p_op_M _)) s54]; exact e58)⟩
                refine mv_locals (lv' := [(1, .int (i1_53 + 1)), (0, .ref o0)]) (by intro q hq; simp only [List.mem_cons, List.not_mem_nil, or_false] at hq; rcases hq with rfl | rfl <;> rfl) ?_
                have b258 : (i1_53 + 1).toInt = i1_53.toInt + 1 := mz_addn 1 1 (by decide) (by have := mz_lo i1_53; omega) (by have := mz_hi i1_53; omega)
                exact (ih53 (i1_53 + 1) T244 M242 n243 I246 t248 (by first | omega | decide) q256 T257 (by omega))
              · refine mv_iconst (v := 0) d_Reader_sum_62 (by decide) ?_
                exact mv_iret d_Reader_sum_63 rfl (by decide) ⟨_, I211, _, rfl, by decide, by decide, fun h => absurd h (by decide), (by have := (Im.o h75) (by omega); have := yC.d s54.2.2; have := yC.kn s54.2.2; have hb : s220.1 ≠ 0 := (by omega); have z1 : ∀ c, p_sg pb pn c s220 = s220 := (fun c => p_sg_Z s220 hb); have z2 : ∀ c, p_wd pb pn c s220 = s220 := (fun c => p_wd_Z s220 hb); have z3 : ∀ op, p_sum pb pn pa op s220 = s220 := (fun op => p_sum_Z s220 hb); have z4 : ∀ r oc, p_con pb pn pa r oc s220 = s220 := (fun r oc => p_con_Z s220 hb); have z5 : p_prt pb pn s220 = s220 := p_prt_Z s220 hb; have st : (p_su1 pb pn pa (p_op pb pn pa (r7 + 1))) s54 = s220 := (by rw [show (p_su1 pb pn pa (p_op pb pn pa (r7 + 1))) s54 = p_pro pb pn pa (p_op pb pn pa (r7 + 1)) (p_nx s54) from if_pos ⟨by omega, by omega⟩]; simp only [e188, e221]); have eT : p_sum pb pn pa (p_op pb pn pa (r7 + 1)) ps = s220 := (by rw [← e58, ← p_P.go (p_su1_P (p_op_M _)) s54, st]; exact p_lp_stop (p_su1_Z s220 hb)); rw [eT]; exact ⟨⟨_, _, _, _, _, _, _, q229, q230, q231, q232, q233, q234, q235, h236, Im.o h237, Im.o h238⟩, (Or.inr ⟨by first | decide | omega, by omega⟩)⟩)⟩
    have T259 : ∃ s1 : p_S, qS M19 o0 pb pn s1 ∧ s1.1 = 0 ∧ 0 ≤ (s1.2.2 : Int) ∧ p_lp pn (p_su1 pb pn pa (p_op pb pn pa (r7 + 1))) s1 = p_sum pb pn pa (p_op pb pn pa (r7 + 1)) ps := ⟨s32, ⟨_, _, _, _, _, _, _, q41, q42, q43, q44, q45, q46, q47, h48, Im.o h49, Im.o h50⟩, by omega, (by show (0 : Int) ≤ _; omega), (by rw [← e33]; rfl)⟩
    exact mv_less (Nat.zero_le _) (Nat.zero_le _) (L11_53 4294967296 0 T21 M19 n20 I23 t31 (by first | omega | decide) q52 T259 (by show (2147483647 - (0 : Int) : Int) < _; decide))
  · refine mv_iconst (v := 0) d_Reader_sum_7 (by decide) ?_
    exact mv_iret d_Reader_sum_8 rfl (by decide) ⟨_, I23, _, rfl, by decide, by decide, fun h => absurd h (by decide), (by have hb : s32.1 ≠ 0 := (by omega); have z1 : ∀ c, p_sg pb pn c s32 = s32 := (fun c => p_sg_Z s32 hb); have z2 : ∀ c, p_wd pb pn c s32 = s32 := (fun c => p_wd_Z s32 hb); have z3 : ∀ op, p_sum pb pn pa op s32 = s32 := (fun op => p_sum_Z s32 hb); have z4 : ∀ r oc, p_con pb pn pa r oc s32 = s32 := (fun r oc => p_con_Z s32 hb); have z5 : p_prt pb pn s32 = s32 := p_prt_Z s32 hb; have eT : p_sum pb pn pa (p_op pb pn pa (r7 + 1)) ps = s32 := (by unfold p_sum; simp only [e33]; exact p_lp_stop (p_su1_Z s32 hb)); rw [eT]; exact ⟨⟨_, _, _, _, _, _, _, q41, q42, q43, q44, q45, q46, q47, h48, Im.o h49, Im.o h50⟩, (Or.inr ⟨by first | decide | omega, by omega⟩)⟩)⟩
set_option maxHeartbeats 100000000 in theorem tg_Reader_term {E r7 : Nat} {K K1 : Int} (hK9 : K1 = K + 1 ∧ 0 ≤ K ∧ K ≤ 3) (H_sum : ∀ {g : mj_G} {l : Launch} {d : Nat} {T0 : tm_H} {M0 : mj_M} {n0 x9 : Nat} {o0 : Nat} (h_o0 : T0 o0 = some (0, 9, 0)) {p : Int32} (hO : tm_at M0 o0 9 16 (.int p)) (hp : K1 ≤ p.toInt)  (hp2 : p.toInt ≤ K1) {pb : Nat → Int} {pn : Nat} {pa : Int} {ps : p_S} (yC : qC M0 o0 pb pn pa) (yD : qS M0 o0 pb pn ps) (yw : ps.1 = 0) (I0 : tm_I tm_FT (tm_in w_Reader_sum_q0_x) x9 T0 M0 n0 T0 M0 n0), mj_Met g l kY_Reader_sum (d + E + 4) [.ref o0] M0 n0 0 0 (tm_Q tm_FT (tm_in w_Reader_sum_q0_x) x9 T0 M0 n0 (fun r _ M => ∃ v : Int32, r = some (.int v) ∧ 0 ≤ v.toInt ∧ v.toInt ≤ 1 ∧ (v.toInt = 1 → tm_at M o0 9 16 (.int p)) ∧ (qS M o0 pb pn (p_sum pb pn pa (p_op pb pn pa r7) ps)) ∧ (v.toInt = 1 ∧ (p_sum pb pn pa (p_op pb pn pa r7) ps).1 = 0 ∨ v.toInt = 0 ∧ (p_sum pb pn pa (p_op pb pn pa r7) ps).1 ≠ 0)))) (H_condition : ∀ {g : mj_G} {l : Launch} {d : Nat} {T0 : tm_H} {M0 : mj_M} {n0 x9 : Nat} {o0 : Nat} (h_o0 : T0 o0 = some (0, 9, 0)) {p : Int32} (hO : tm_at M0 o0 9 16 (.int p)) (hp : K1 ≤ p.toInt)  (hp2 : p.toInt ≤ K1) {pb : Nat → Int} {pn : Nat} {pa : Int} {ps : p_S} (yC : qC M0 o0 pb pn pa) (yD : qS M0 o0 pb pn ps) (yw : ps.1 = 0) (I0 : tm_I tm_FT (tm_in w_Reader_condition_q0_x) x9 T0 M0 n0 T0 M0 n0), mj_Met g l kY_Reader_condition (d + E + 7) [.ref o0] M0 n0 0 0 (tm_Q tm_FT (tm_in w_Reader_condition_q0_x) x9 T0 M0 n0 (fun r _ M => ∃ v : Int32, r = some (.int v) ∧ 0 ≤ v.toInt ∧ v.toInt ≤ 1 ∧ (v.toInt = 1 → tm_at M o0 9 16 (.int p)) ∧ (qS M o0 pb pn (p_con pb pn pa r7 (p_oc pb pn pa r7) ps)) ∧ (v.toInt = 1 ∧ (p_con pb pn pa r7 (p_oc pb pn pa r7) ps).1 = 0 ∨ v.toInt = 0 ∧ (p_con pb pn pa r7 (p_oc pb pn pa r7) ps).1 ≠ 0)))) {g : mj_G} {l : Launch} {d : Nat} {T0 : tm_H} {M0 : mj_M} {n0 x9 : Nat} {o0 : Nat} (h_o0 : T0 o0 = some (0, 9, 0)) {p : Int32} (hO : tm_at M0 o0 9 16 (.int p)) (hp : K ≤ p.toInt)  (hp2 : p.toInt ≤ K) {pb : Nat → Int} {pn : Nat} {pa : Int} {ps : p_S} (yC : qC M0 o0 pb pn pa) (yD : qS M0 o0 pb pn ps) (yw : ps.1 = 0) (I0 : tm_I tm_FT (tm_in w_Reader_term_q0_x) x9 T0 M0 n0 T0 M0 n0) : mj_Met g l kY_Reader_term (d + E + 8) [.ref o0] M0 n0 0 0 (tm_Q tm_FT (tm_in w_Reader_term_q0_x) x9 T0 M0 n0 (fun r _ M => ∃ v : Int32, r = some (.int v) ∧ 0 ≤ v.toInt ∧ v.toInt ≤ 1 ∧ (v.toInt = 1 → tm_at M o0 9 16 (.int p)) ∧ (qS M o0 pb pn (p_ter pb pn pa (r7 + 1) (p_oc pb pn pa (r7 + 1)) ps)) ∧ (v.toInt = 1 ∧ (p_ter pb pn pa (r7 + 1) (p_oc pb pn pa (r7 + 1)) ps).1 = 0 ∨ v.toInt = 0 ∧ (p_ter pb pn pa (r7 + 1) (p_oc pb pn pa (r7 + 1)) ps).1 ≠ 0))) := by
  refine mj_enter (by decide) (Nat.le_of_ble_eq_true rfl) ?_
  have hK : ∀ {T : tm_H} {M : mj_M} {n : Nat}, tm_I tm_FT (tm_in w_Reader_term_q0_x) x9 T0 M0 n0 T M n → qC M o0 pb pn pa := fun I => yC.keep I0.1 I h_o0 (qW_of (by decide +kernel))
  obtain ⟨v1, v2, v3, v4, v5, v6, v7, q8, q9, q10, q11, q12, q13, q14, h15, h16, h17⟩ := yD
  replace h16 := Im.i h16
  replace h17 := Im.i h17
  refine mv_iconst (v := 0) d_Reader_term_0 (by decide) ?_
  refine mv_istore_n (lv' := [(1, .int 0), (0, .ref o0)]) d_Reader_term_1 rfl (by decide) rfl ?_
  refine mv_iconst (v := 0) d_Reader_term_2 (by decide) ?_
  refine mv_istore_n (lv' := [(2, .int 0), (1, .int 0), (0, .ref o0)]) d_Reader_term_3 rfl (by decide) rfl ?_
  have L4_18 : ∀ (k : Nat) (i2_18 : Int32) (i1_18 : Int32) (T_18 : tm_H) (M_18 : mj_M) (n_18 : Nat), tm_I tm_FT (tm_in w_Reader_term_q0_x) x9 T0 M0 n0 T_18 M_18 n_18 → T_18 o0 = some (0, 9, 0) → 0 ≤ i2_18.toInt → tm_at M_18 o0 9 16 (.int p) → (∃ s1 : p_S, qS M_18 o0 pb pn s1 ∧ s1.1 = 0 ∧ i2_18.toInt ≤ (s1.2.2 : Int) ∧ p_lp pn (p_no1 pb pn) s1 = p_lp pn (p_no1 pb pn) ps) → 2147483647 - i2_18.toInt < (k : Int) → mj_V g l kY_Reader_term (d + E + 8) 4 [(2, .int i2_18), (1, .int i1_18), (0, .ref o0)] [] M_18 n_18 0 0 (tm_Q tm_FT (tm_in w_Reader_term_q0_x) x9 T0 M0 n0 (fun r _ M => ∃ v : Int32, r = some (.int v) ∧ 0 ≤ v.toInt ∧ v.toInt ≤ 1 ∧ (v.toInt = 1 → tm_at M o0 9 16 (.int p)) ∧ (qS M o0 pb pn (p_ter pb pn pa (r7 + 1) (p_oc pb pn pa (r7 + 1)) ps)) ∧ (v.toInt = 1 ∧ (p_ter pb pn pa (r7 + 1) (p_oc pb pn pa (r7 + 1)) ps).1 = 0 ∨ v.toInt = 0 ∧ (p_ter pb pn pa (r7 + 1) (p_oc pb pn pa (r7 + 1)) ps).1 ≠ 0))) := by
    intro k18
    induction k18 with
    | zero =>
      intro i2_18 i1_18 T_18 M_18 n_18 I_18 h_q0_18 iv0_18 kp0_18 kKT9_18 hk18
      have := mz_hi i2_18
      omega
    | succ k18 ih18 =>
      intro i2_18 i1_18 T_18 M_18 n_18 I_18 h_q0_18 iv0_18 kp0_18 kKT9_18 hk18
      obtain ⟨s19, f20, h21, h22, e23⟩ := kKT9_18
      obtain ⟨v24, v25, v26, v27, v28, v29, v30, q31, q32, q33, q34, q35, q36, q37, h38, h39, h40⟩ := f20
      replace h39 := Im.i h39
      replace h40 := Im.i h40
      refine mv_iload_n d_Reader_term_4 rfl rfl ?_
      refine mv_sipush (v := 400) d_Reader_term_5 (by decide) ?_
      have := mz_hi i2_18
      refine mv_icmp_geZ (tgt := 40) (a := i2_18.toInt) (b := 400) d_Reader_term_8 (by decide) rfl (by decide) (fun b41 => ?_) (fun b41 => ?_)
      · refine mv_aload_n d_Reader_term_40 rfl rfl ?_
        refine mv_bipush (v := 91) d_Reader_term_41 (by decide) ?_
        obtain ⟨_, b42, -⟩ := I_18.1 _ _ h_q0_18
        refine mv_callV (kc1 := 0) (ks1 := 0) (kc' := 0) (ks' := 0) (As := [.int 91]) (st9 := [.int 91, .ref o0]) d_Reader_term_43 lV_Reader_209 b42 rfl (mj_enter (by decide) (Nat.le_of_ble_eq_true rfl) ?_) rfl (Nat.le_of_ble_eq_true rfl) (Nat.le_of_ble_eq_true rfl) (Nat.le_of_ble_eq_true rfl) (hst := rfl) (fun _ _ _ h => h)
        refine mv_aload_n d_Reader_isSign_0 rfl rfl ?_
        refine tr_getK (k := 10) q34 d_Reader_isSign_1 f_Reader_41_9 ?_
        refine mv_iconst (v := 3) d_Reader_isSign_4 (by decide) ?_
        have := mz_hi v27
        refine mv_icmp_neZ (tgt := 20) (a := v27.toInt) (b := 3) d_Reader_isSign_5 (by decide) rfl (by decide) (fun b43 => ?_) (fun b43 => ?_)
        · refine mv_iconst (v := 0) d_Reader_isSign_20 (by decide) ?_
          refine mv_iret d_Reader_isSign_21 rfl (by decide) ?_
          refine mv_if_eq_t (tgt := 86) d_Reader_term_46 (by decide) (by decide) ?_
          refine mv_aload_n d_Reader_term_86 rfl rfl ?_
          obtain ⟨_, b50, -⟩ := I_18.1 _ _ h_q0_18
          refine mv_callV (kc' := 0) (ks' := 0) (As := []) (st9 := [.ref o0]) d_Reader_term_87 lV_Reader_186 b50 rfl (tg_Reader_sum hK9 H_sum H_condition (d := d) (x9 := x9) (o0 := o0) h_q0_18 (p := p) kp0_18 (by omega) (by first | omega | decide) (hK I_18) ⟨_, _, _, _, _, _, _, q31, q32, q33, q34, q35, q36, q37, h38, Im.o h39, Im.o h40⟩ (by omega) I_18.start) rfl (Nat.le_of_ble_eq_true rfl) (Nat.le_of_ble_eq_true rfl) (Nat.le_of_ble_eq_true rfl) (hst := rfl) (fun b44r M45 n46 b44 => ?_)
          obtain ⟨T47, J48, v51, rfl, b52, b53, o54, f55, f56⟩ := b44
          have I49 := I_18.call J48 (tm_sub (by decide)) (Or.inl rfl)
          have t57 := J48.up h_q0_18
          obtain ⟨s58, e59⟩ : ∃ s9 : p_S, p_sum pb pn pa (p_op pb pn pa (r7 + 1)) s19 = s9 := ⟨_, rfl⟩
          rw [e59] at f55 f56
          obtain ⟨v60, v61, v62, v63, v64, v65, v66, q67, q68, q69, q70, q71, q72, q73, h74, h75, h76⟩ := f55
          replace h75 := Im.i h75
          replace h76 := Im.i h76
          have := mz_hi v51
          refine mv_if_neZ (tgt := 95) (a := v51.toInt) d_Reader_term_90 (by decide) rfl (fun b77 => ?_) (fun b77 => ?_)
          · have q78 := o54 (by omega)
            refine mv_aload_n d_Reader_term_95 rfl rfl ?_
            obtain ⟨_, b79, -⟩ := I49.1 _ _ t57
            refine mv_callV (kc1 := 0) (ks1 := 0) (kc' := 0) (ks' := 0) (As := []) (st9 := [.ref o0]) d_Reader_term_96 lV_Reader_215 b79 rfl (mj_enter (by decide) (Nat.le_of_ble_eq_true rfl) ?_) rfl (Nat.le_of_ble_eq_true rfl) (Nat.le_of_ble_eq_true rfl) (Nat.le_of_ble_eq_true rfl) (hst := rfl) (fun _ _ _ h => h)
            refine mv_aload_n d_Reader_comparisonHere_0 rfl rfl ?_
            refine mv_bipush (v := 60) d_Reader_comparisonHere_1 (by decide) ?_
            obtain ⟨_, b80, -⟩ := I49.1 _ _ t57
            refine mv_callV (kc1 := 0) (ks1 := 0) (kc' := 0) (ks' := 0) (As := [.int 60]) (st9 := [.int 60, .ref o0]) d_Reader_comparisonHere_3 lV_Reader_209 b80 rfl (mj_enter (by decide) (Nat.le_of_ble_eq_true rfl) ?_) rfl (Nat.le_of_ble_eq_true rfl) (Nat.le_of_ble_eq_true rfl) (Nat.le_of_ble_eq_true rfl) (hst := rfl) (fun _ _ _ h => h)
            refine mv_aload_n d_Reader_isSign_0 rfl rfl ?_
            refine tr_getK (k := 10) q70 d_Reader_isSign_1 f_Reader_41_9 ?_
            refine mv_iconst (v := 3) d_Reader_isSign_4 (by decide) ?_
            have := mz_hi v63
            refine mv_icmp_neZ (tgt := 20) (a := v63.toInt) (b := 3) d_Reader_isSign_5 (by decide) rfl (by decide) (fun b81 => ?_) (fun b81 => ?_)
            · refine mv_iconst (v := 0) d_Reader_isSign_20 (by decide) ?_
              refine mv_iret d_Reader_isSign_21 rfl (by decide) ?_
              refine mv_if_eq_t (tgt := 11) d_Reader_comparisonHere_6 (by decide) (by decide) ?_
              refine mv_aload_n d_Reader_comparisonHere_11 rfl rfl ?_
              refine mv_bipush (v := 62) d_Reader_comparisonHere_12 (by decide) ?_
              obtain ⟨_, b82, -⟩ := I49.1 _ _ t57
              refine mv_callV (kc1 := 0) (ks1 := 0) (kc' := 0) (ks' := 0) (As := [.int 62]) (st9 := [.int 62, .ref o0]) d_Reader_comparisonHere_14 lV_Reader_209 b82 rfl (mj_enter (by decide) (Nat.le_of_ble_eq_true rfl) ?_) rfl (Nat.le_of_ble_eq_true rfl) (Nat.le_of_ble_eq_true rfl) (Nat.le_of_ble_eq_true rfl) (hst := rfl) (fun _ _ _ h => h)
              refine mv_aload_n d_Reader_isSign_0 rfl rfl ?_
              refine tr_getK (k := 10) q70 d_Reader_isSign_1 f_Reader_41_9 ?_
              refine mv_iconst (v := 3) d_Reader_isSign_4 (by decide) ?_
              have := mz_hi v63
              refine mv_icmp_neZ (tgt := 20) (a := v63.toInt) (b := 3) d_Reader_isSign_5 (by decide) rfl (by decide) (fun b83 => ?_) (fun b83 => absurd b83 (by omega))
              refine mv_iconst (v := 0) d_Reader_isSign_20 (by decide) ?_
              refine mv_iret d_Reader_isSign_21 rfl (by decide) ?_
              refine mv_if_eq_t (tgt := 23) d_Reader_comparisonHere_17 (by decide) (by decide) ?_
              refine mv_aload_n d_Reader_comparisonHere_23 rfl rfl ?_
              refine mv_bipush (v := 61) d_Reader_comparisonHere_24 (by decide) ?_
              obtain ⟨_, b84, -⟩ := I49.1 _ _ t57
              refine mv_callV (kc1 := 0) (ks1 := 0) (kc' := 0) (ks' := 0) (As := [.int 61]) (st9 := [.int 61, .ref o0]) d_Reader_comparisonHere_26 lV_Reader_209 b84 rfl (mj_enter (by decide) (Nat.le_of_ble_eq_true rfl) ?_) rfl (Nat.le_of_ble_eq_true rfl) (Nat.le_of_ble_eq_true rfl) (Nat.le_of_ble_eq_true rfl) (hst := rfl) (fun _ _ _ h => h)
              refine mv_aload_n d_Reader_isSign_0 rfl rfl ?_
              refine tr_getK (k := 10) q70 d_Reader_isSign_1 f_Reader_41_9 ?_
              refine mv_iconst (v := 3) d_Reader_isSign_4 (by decide) ?_
              have := mz_hi v63
              refine mv_icmp_neZ (tgt := 20) (a := v63.toInt) (b := 3) d_Reader_isSign_5 (by decide) rfl (by decide) (fun b85 => ?_) (fun b85 => absurd b85 (by omega))
              refine mv_iconst (v := 0) d_Reader_isSign_20 (by decide) ?_
              refine mv_iret d_Reader_isSign_21 rfl (by decide) ?_
              refine mv_if_eq_t (tgt := 37) d_Reader_comparisonHere_29 (by decide) (by decide) ?_
              refine mv_iconst (v := (-1)) d_Reader_comparisonHere_37 (by decide) ?_
              refine mv_iret d_Reader_comparisonHere_38 rfl (by first | rfl | decide) ?_
              refine mv_istore_n (lv' := [(2, .int (-1)), (1, .int i1_18), (0, .ref o0)]) d_Reader_term_99 rfl (by decide) rfl ?_
              refine mv_iload_n d_Reader_term_100 rfl rfl ?_
              refine mv_iconst (v := (-1)) d_Reader_term_101 (by decide) ?_
              refine mv_icmp_ne_f (tgt := 111) d_Reader_term_102 (by decide) (by decide) ?_
              refine mv_aload_n d_Reader_term_105 rfl rfl ?_
              refine mv_iconst (v := 1) d_Reader_term_106 (by decide) ?_
              obtain ⟨_, b86, -⟩ := I49.1 _ _ t57
              refine mv_callV (kc1 := 0) (ks1 := 0) (kc' := 0) (ks' := 0) (As := [.int 1]) (st9 := [.int 1, .ref o0]) d_Reader_term_107 lV_Reader_56 b86 rfl (mj_enter (by decide) (Nat.le_of_ble_eq_true rfl) ?_) rfl (Nat.le_of_ble_eq_true rfl) (Nat.le_of_ble_eq_true rfl) (Nat.le_of_ble_eq_true rfl) (hst := rfl) (fun _ _ _ h => h)
              refine mv_aload_n d_Reader_refuse_0 rfl rfl ?_
              refine mv_iload_n d_Reader_refuse_1 rfl rfl ?_
              refine tr_putK tm_okF I49 t57 (k := 1) rfl ⟨_, rfl⟩ (Or.inl (by decide)) d_Reader_refuse_2 p_Reader_70_9 rfl rfl (fun M87 I88 q89 K90 => ?_)
              refine mv_aload_n d_Reader_refuse_5 rfl rfl ?_
              refine mv_aload_n d_Reader_refuse_6 rfl rfl ?_
              refine tr_getK (k := 11) (K90 _ 9 11 _ rfl q71) d_Reader_refuse_7 f_Reader_175_9 ?_
              refine tr_putK tm_okF I88 t57 (k := 2) rfl ⟨_, rfl⟩ (Or.inl (by decide)) d_Reader_refuse_10 p_Reader_11_9 rfl rfl (fun M91 I92 q93 K94 => ?_)
              refine mv_iconst (v := 0) d_Reader_refuse_13 (by decide) ?_
              obtain ⟨s95, e96⟩ : ∃ s9 : p_S, p_fl pb pn 1 s58 = s9 := ⟨_, rfl⟩
              have h97 := q_fl e96 (by omega) (by decide)
              have h98 : (1 : Int32).toInt = s95.1 := (by have e9 : (1 : Int32).toInt = 1 := (by decide); omega)
              have h99 : Im (s95.1 ≠ 0 → v64.toInt = (s95.2.1 : Int)) := Im.i (fun _ => by have := (Im.o h76) (by omega); omega)
              have h100 : Im (s95.1 = 0 → v62.toInt = (s95.2.2 : Int) ∧ v63.toInt = p_ki pb pn s95.2.2 ∧ v64.toInt = (p_st pb pn s95.2.2 : Int) ∧ v65.toInt = (p_sp pb pn s95.2.2 : Int) ∧ v66.toInt = p_va pb pn s95.2.2 ∧ v64.toInt = -1) := Im.i (fun z9 => absurd z9 h97.2.2)
              refine mv_iret d_Reader_refuse_14 rfl (by decide) ?_
              exact mv_iret d_Reader_term_110 rfl (by decide) ⟨_, I92, _, rfl, by decide, by decide, fun h => absurd h (by decide), (by have := (Im.o h40) (by omega); have := yC.d s19.2.2; have := yC.kn s19.2.2; have := (Im.o h76) (by omega); have := yC.d s58.2.2; have := yC.kn s58.2.2; have hb : s95.1 ≠ 0 := (by omega); have z1 : ∀ c, p_sg pb pn c s95 = s95 := (fun c => p_sg_Z s95 hb); have z2 : ∀ c, p_wd pb pn c s95 = s95 := (fun c => p_wd_Z s95 hb); have z3 : ∀ op, p_sum pb pn pa op s95 = s95 := (fun op => p_sum_Z s95 hb); have z4 : ∀ r oc, p_con pb pn pa r oc s95 = s95 := (fun r oc => p_con_Z s95 hb); have z5 : p_prt pb pn s95 = s95 := p_prt_Z s95 hb; have eT : p_ter pb pn pa (r7 + 1) (p_oc pb pn pa (r7 + 1)) ps = s95 := (by have hop : p_oc pb pn pa (r7 + 1) s19 = p_sg pb pn 93 (p_con pb pn pa r7 (p_oc pb pn pa r7) (p_nx s19)) := rfl; have hX := e23.symm.trans (p_lp_stop (show (p_no1 pb pn) s19 = s19 from if_neg (fun h9 => by omega))); unfold p_ter; rw [hX]; unfold p_te1; unfold p_cmp; (try simp only [hop]); (try simp only [e59, e96, z1, z2, z3, z4, z5]); ((repeat' (first | (with_reducible rfl) | split)) <;> (first | ((try simp only [e59, e96, z1, z2, z3, z4, z5]); done) | (exfalso; omega)))); rw [eT]; exact ⟨⟨_, _, _, _, _, _, _, (K94 _ 9 1 _ rfl q89), q93, (K94 _ 9 9 _ rfl (K90 _ 9 9 _ rfl q69)), (K94 _ 9 10 _ rfl (K90 _ 9 10 _ rfl q70)), (K94 _ 9 11 _ rfl (K90 _ 9 11 _ rfl q71)), (K94 _ 9 12 _ rfl (K90 _ 9 12 _ rfl q72)), (K94 _ 9 13 _ rfl (K90 _ 9 13 _ rfl q73)), h98, Im.o h99, Im.o h100⟩, (Or.inr ⟨by first | decide | omega, by omega⟩)⟩)⟩
            · refine mv_aload_n d_Reader_isSign_8 rfl rfl ?_
              refine tr_getK (k := 13) q73 d_Reader_isSign_9 f_Reader_241_9 ?_
              refine mv_iload_n d_Reader_isSign_12 rfl rfl ?_
              have := mz_hi v66
              refine mv_icmp_neZ (tgt := 20) (a := v66.toInt) (b := 60) d_Reader_isSign_13 (by decide) rfl (by decide) (fun b101 => ?_) (fun b101 => ?_)
              · refine mv_iconst (v := 0) d_Reader_isSign_20 (by decide) ?_
                refine mv_iret d_Reader_isSign_21 rfl (by decide) ?_
                refine mv_if_eq_t (tgt := 11) d_Reader_comparisonHere_6 (by decide) (by decide) ?_
                refine mv_aload_n d_Reader_comparisonHere_11 rfl rfl ?_
                refine mv_bipush (v := 62) d_Reader_comparisonHere_12 (by decide) ?_
                obtain ⟨_, b102, -⟩ := I49.1 _ _ t57
                refine mv_callV (kc1 := 0) (ks1 := 0) (kc' := 0) (ks' := 0) (As := [.int 62]) (st9 := [.int 62, .ref o0]) d_Reader_comparisonHere_14 lV_Reader_209 b102 rfl (mj_enter (by decide) (Nat.le_of_ble_eq_true rfl) ?_) rfl (Nat.le_of_ble_eq_true rfl) (Nat.le_of_ble_eq_true rfl) (Nat.le_of_ble_eq_true rfl) (hst := rfl) (fun _ _ _ h => h)
                refine mv_aload_n d_Reader_isSign_0 rfl rfl ?_
                refine tr_getK (k := 10) q70 d_Reader_isSign_1 f_Reader_41_9 ?_
                refine mv_iconst (v := 3) d_Reader_isSign_4 (by decide) ?_
                have := mz_hi v63
                refine mv_icmp_neZ (tgt := 20) (a := v63.toInt) (b := 3) d_Reader_isSign_5 (by decide) rfl (by decide) (fun b103 => absurd b103 (by omega)) (fun b103 => ?_)
                refine mv_aload_n d_Reader_isSign_8 rfl rfl ?_
                refine tr_getK (k := 13) q73 d_Reader_isSign_9 f_Reader_241_9 ?_
                refine mv_iload_n d_Reader_isSign_12 rfl rfl ?_
                have := mz_hi v66
                refine mv_icmp_neZ (tgt := 20) (a := v66.toInt) (b := 62) d_Reader_isSign_13 (by decide) rfl (by decide) (fun b104 => ?_) (fun b104 => ?_)
                · refine mv_iconst (v := 0) d_Reader_isSign_20 (by decide) ?_
                  refine mv_iret d_Reader_isSign_21 rfl (by decide) ?_
                  refine mv_if_eq_t (tgt := 23) d_Reader_comparisonHere_17 (by decide) (by decide) ?_
                  refine mv_aload_n d_Reader_comparisonHere_23 rfl rfl ?_
                  refine mv_bipush (v := 61) d_Reader_comparisonHere_24 (by decide) ?_
                  obtain ⟨_, b105, -⟩ := I49.1 _ _ t57
                  refine mv_callV (kc1 := 0) (ks1 := 0) (kc' := 0) (ks' := 0) (As := [.int 61]) (st9 := [.int 61, .ref o0]) d_Reader_comparisonHere_26 lV_Reader_209 b105 rfl (mj_enter (by decide) (Nat.le_of_ble_eq_true rfl) ?_) rfl (Nat.le_of_ble_eq_true rfl) (Nat.le_of_ble_eq_true rfl) (Nat.le_of_ble_eq_true rfl) (hst := rfl) (fun _ _ _ h => h)
                  refine mv_aload_n d_Reader_isSign_0 rfl rfl ?_
                  refine tr_getK (k := 10) q70 d_Reader_isSign_1 f_Reader_41_9 ?_
                  refine mv_iconst (v := 3) d_Reader_isSign_4 (by decide) ?_
                  have := mz_hi v63
                  refine mv_icmp_neZ (tgt := 20) (a := v63.toInt) (b := 3) d_Reader_isSign_5 (by decide) rfl (by decide) (fun b106 => absurd b106 (by omega)) (fun b106 => ?_)
                  refine mv_aload_n d_Reader_isSign_8 rfl rfl ?_
                  refine tr_getK (k := 13) q73 d_Reader_isSign_9 f_Reader_241_9 ?_
                  refine mv_iload_n d_Reader_isSign_12 rfl rfl ?_
                  have := mz_hi v66
                  refine mv_icmp_neZ (tgt := 20) (a := v66.toInt) (b := 61) d_Reader_isSign_13 (by decide) rfl (by decide) (fun b107 => ?_) (fun b107 => ?_)
                  · refine mv_iconst (v := 0) d_Reader_isSign_20 (by decide) ?_
                    refine mv_iret d_Reader_isSign_21 rfl (by decide) ?_
                    refine mv_if_eq_t (tgt := 37) d_Reader_comparisonHere_29 (by decide) (by decide) ?_
                    refine mv_iconst (v := (-1)) d_Reader_comparisonHere_37 (by decide) ?_
                    refine mv_iret d_Reader_comparisonHere_38 rfl (by first | rfl | decide) ?_
                    refine mv_istore_n (lv' := [(2, .int (-1)), (1, .int i1_18), (0, .ref o0)]) d_Reader_term_99 rfl (by decide) rfl ?_
                    refine mv_iload_n d_Reader_term_100 rfl rfl ?_
                    refine mv_iconst (v := (-1)) d_Reader_term_101 (by decide) ?_
                    refine mv_icmp_ne_f (tgt := 111) d_Reader_term_102 (by decide) (by decide) ?_
                    refine mv_aload_n d_Reader_term_105 rfl rfl ?_
                    refine mv_iconst (v := 1) d_Reader_term_106 (by decide) ?_
                    obtain ⟨_, b108, -⟩ := I49.1 _ _ t57
                    refine mv_callV (kc1 := 0) (ks1 := 0) (kc' := 0) (ks' := 0) (As := [.int 1]) (st9 := [.int 1, .ref o0]) d_Reader_term_107 lV_Reader_56 b108 rfl (mj_enter (by decide) (Nat.le_of_ble_eq_true rfl) ?_) rfl (Nat.le_of_ble_eq_true rfl) (Nat.le_of_ble_eq_true rfl) (Nat.le_of_ble_eq_true rfl) (hst := rfl) (fun _ _ _ h => h)
                    refine mv_aload_n d_Reader_refuse_0 rfl rfl ?_
                    refine mv_iload_n d_Reader_refuse_1 rfl rfl ?_
                    refine tr_putK tm_okF I49 t57 (k := 1) rfl ⟨_, rfl⟩ (Or.inl (by decide)) d_Reader_refuse_2 p_Reader_70_9 rfl rfl (fun M109 I110 q111 K112 => ?_)
                    refine mv_aload_n d_Reader_refuse_5 rfl rfl ?_
                    refine mv_aload_n d_Reader_refuse_6 rfl rfl ?_
                    refine tr_getK (k := 11) (K112 _ 9 11 _ rfl q71) d_Reader_refuse_7 f_Reader_175_9 ?_
                    refine tr_putK tm_okF I110 t57 (k := 2) rfl ⟨_, rfl⟩ (Or.inl (by decide)) d_Reader_refuse_10 p_Reader_11_9 rfl rfl (fun M113 I114 q115 K116 => ?_)
                    refine mv_iconst (v := 0) d_Reader_refuse_13 (by decide) ?_
                    obtain ⟨s117, e118⟩ : ∃ s9 : p_S, p_fl pb pn 1 s58 = s9 := ⟨_, rfl⟩
                    have h119 := q_fl e118 (by omega) (by decide)
                    have h120 : (1 : Int32).toInt = s117.1 := (by have e9 : (1 : Int32).toInt = 1 := (by decide); omega)
                    have h121 : Im (s117.1 ≠ 0 → v64.toInt = (s117.2.1 : Int)) := Im.i (fun _ => by have := (Im.o h76) (by omega); omega)
                    have h122 : Im (s117.1 = 0 → v62.toInt = (s117.2.2 : Int) ∧ v63.toInt = p_ki pb pn s117.2.2 ∧ v64.toInt = (p_st pb pn s117.2.2 : Int) ∧ v65.toInt = (p_sp pb pn s117.2.2 : Int) ∧ v66.toInt = p_va pb pn s117.2.2 ∧ v64.toInt = -1) := Im.i (fun z9 => absurd z9 h119.2.2)
                    refine mv_iret d_Reader_refuse_14 rfl (by decide) ?_
                    exact mv_iret d_Reader_term_110 rfl (by decide) ⟨_, I114, _, rfl, by decide, by decide, fun h => absurd h (by decide), (by have := (Im.o h40) (by omega); have := yC.d s19.2.2; have := yC.kn s19.2.2; have := (Im.o h76) (by omega); have := yC.d s58.2.2; have := yC.kn s58.2.2; have hb : s117.1 ≠ 0 := (by omega); have z1 : ∀ c, p_sg pb pn c s117 = s117 := (fun c => p_sg_Z s117 hb); have z2 : ∀ c, p_wd pb pn c s117 = s117 := (fun c => p_wd_Z s117 hb); have z3 : ∀ op, p_sum pb pn pa op s117 = s117 := (fun op => p_sum_Z s117 hb); have z4 : ∀ r oc, p_con pb pn pa r oc s117 = s117 := (fun r oc => p_con_Z s117 hb); have z5 : p_prt pb pn s117 = s117 := p_prt_Z s117 hb; have eT : p_ter pb pn pa (r7 + 1) (p_oc pb pn pa (r7 + 1)) ps = s117 := (by have hop : p_oc pb pn pa (r7 + 1) s19 = p_sg pb pn 93 (p_con pb pn pa r7 (p_oc pb pn pa r7) (p_nx s19)) := rfl; have hX := e23.symm.trans (p_lp_stop (show (p_no1 pb pn) s19 = s19 from if_neg (fun h9 => by omega))); unfold p_ter; rw [hX]; unfold p_te1; unfold p_cmp; (try simp only [hop]); (try simp only [e59, e118, z1, z2, z3, z4, z5]); ((repeat' (first | (with_reducible rfl) | split)) <;> (first | ((try simp only [e59, e118, z1, z2, z3, z4, z5]); done) | (exfalso; omega)))); rw [eT]; exact ⟨⟨_, _, _, _, _, _, _, (K116 _ 9 1 _ rfl q111), q115, (K116 _ 9 9 _ rfl (K112 _ 9 9 _ rfl q69)), (K116 _ 9 10 _ rfl (K112 _ 9 10 _ rfl q70)), (K116 _ 9 11 _ rfl (K112 _ 9 11 _ rfl q71)), (K116 _ 9 12 _ rfl (K112 _ 9 12 _ rfl q72)), (K116 _ 9 13 _ rfl (K112 _ 9 13 _ rfl q73)), h120, Im.o h121, Im.o h122⟩, (Or.inr ⟨by first | decide | omega, by omega⟩)⟩)⟩
                  · refine mv_iconst (v := 1) d_Reader_isSign_16 (by decide) ?_
                    refine mv_goto (tgt := 21) d_Reader_isSign_17 (by decide) ?_
                    refine mv_iret d_Reader_isSign_21 rfl (by decide) ?_
                    refine mv_if_eq_f (tgt := 37) d_Reader_comparisonHere_29 (by decide) (by decide) ?_
                    refine mv_bipush (v := 7) d_Reader_comparisonHere_32 (by decide) ?_
                    refine mv_goto (tgt := 38) d_Reader_comparisonHere_34 (by decide) ?_
                    refine mv_iret d_Reader_comparisonHere_38 rfl (by first | rfl | decide) ?_
                    refine mv_istore_n (lv' := [(2, .int 7), (1, .int i1_18), (0, .ref o0)]) d_Reader_term_99 rfl (by decide) rfl ?_
                    refine mv_iload_n d_Reader_term_100 rfl rfl ?_
                    refine mv_iconst (v := (-1)) d_Reader_term_101 (by decide) ?_
                    refine mv_icmp_ne_t (tgt := 111) d_Reader_term_102 (by decide) (by decide) ?_
                    refine mv_aload_n d_Reader_term_111 rfl rfl ?_
                    obtain ⟨_, b129, -⟩ := I49.1 _ _ t57
                    refine mv_callV (kc' := 0) (ks' := 0) (As := []) (st9 := [.ref o0]) d_Reader_term_112 lV_Reader_82 b129 rfl (tc_Reader_advance_x (d := (d + E + 7)) (x9 := x9) (o0 := o0) t57 (hK I49) (qS.a (show qS M45 o0 pb pn s58 from ⟨_, _, _, _, _, _, _, q67, q68, q69, q70, q71, q72, q73, h74, Im.o h75, Im.o h76⟩)) (by have := (Im.o h40) (by omega); have := yC.d s19.2.2; have := yC.kn s19.2.2; have := (Im.o h76) (by omega); have := yC.d s58.2.2; have := yC.kn s58.2.2; show s58.2.2 + 1 ≤ 401; omega) I49.start) rfl (Nat.le_of_ble_eq_true rfl) (Nat.le_of_ble_eq_true rfl) (Nat.le_of_ble_eq_true rfl) (hst := rfl) (fun b123r M124 n125 b123 => ?_)
                    obtain ⟨T126, J127, rfl, f130⟩ := b123
                    have I128 := I49.call J127 (tm_sub (by decide)) (Or.inl rfl)
                    have t131 := J127.up t57
                    have q132 := J127.keep (I49.up h_o0) (by decide) q67
                    have q133 := J127.keep (I49.up h_o0) (by decide) q68
                    have q134 := J127.keep t57 (by decide) q78
                    obtain ⟨s135, e136⟩ : ∃ s9 : p_S, p_nx s58 = s9 := ⟨_, rfl⟩
                    rw [e136] at f130
                    have : s135.1 = 0 := by rw [← e136]; show s58.1 = 0; omega
                    obtain ⟨v137, v138, v139, v140, v141, v142, v143, q144, q145, q146, q147, q148, q149, q150, h151, h152, h153⟩ := f130
                    replace h152 := Im.i h152
                    replace h153 := Im.i h153
                    refine mv_aload_n d_Reader_term_115 rfl rfl ?_
                    obtain ⟨_, b160, -⟩ := I128.1 _ _ t131
                    refine mv_callV (kc' := 0) (ks' := 0) (As := []) (st9 := [.ref o0]) d_Reader_term_116 lV_Reader_186 b160 rfl (tg_Reader_sum hK9 H_sum H_condition (d := d) (x9 := x9) (o0 := o0) t131 (p := p) q134 (by omega) (by first | omega | decide) (hK I128) ⟨_, _, _, _, _, _, _, q144, q145, q146, q147, q148, q149, q150, h151, Im.o h152, Im.o h153⟩ (by omega) I128.start) rfl (Nat.le_of_ble_eq_true rfl) (Nat.le_of_ble_eq_true rfl) (Nat.le_of_ble_eq_true rfl) (hst := rfl) (fun b154r M155 n156 b154 => ?_)
                    obtain ⟨T157, J158, v161, rfl, b162, b163, o164, f165, f166⟩ := b154
                    have I159 := I128.call J158 (tm_sub (by decide)) (Or.inl rfl)
                    have t167 := J158.up t131
                    obtain ⟨s168, e169⟩ : ∃ s9 : p_S, p_sum pb pn pa (p_op pb pn pa (r7 + 1)) s135 = s9 := ⟨_, rfl⟩
                    rw [e169] at f165 f166
                    obtain ⟨v170, v171, v172, v173, v174, v175, v176, q177, q178, q179, q180, q181, q182, q183, h184, h185, h186⟩ := f165
                    replace h185 := Im.i h185
                    replace h186 := Im.i h186
                    have := mz_hi v161
                    refine mv_if_neZ (tgt := 124) (a := v161.toInt) d_Reader_term_119 (by decide) rfl (fun b187 => ?_) (fun b187 => ?_)
                    · have q188 := o164 (by omega)
                      refine mv_aload_n d_Reader_term_124 rfl rfl ?_
                      refine mv_iload_n d_Reader_term_125 rfl rfl ?_
                      refine mv_iconst (v := 0) d_Reader_term_126 (by decide) ?_
                      obtain ⟨_, b195, -⟩ := I159.1 _ _ t167
                      refine mv_callV (kc' := 0) (ks' := 0) (As := [.int 7, .int 0]) (st9 := [.int 0, .int 7, .ref o0]) d_Reader_term_127 lV_Reader_203 b195 rfl (tc_Reader_emit (d := (d + E + 7)) (x9 := x9) (o0 := o0) (x1 := 7) (x2 := 0) t167 I159.start) rfl (Nat.le_of_ble_eq_true rfl) (Nat.le_of_ble_eq_true rfl) (Nat.le_of_ble_eq_true rfl) (hst := rfl) (fun b189r M190 n191 b189 => ?_)
                      obtain ⟨T192, J193, rfl⟩ := b189
                      have I194 := I159.call J193 (tm_sub (by decide)) (Or.inl rfl)
                      have t196 := J193.up t167
                      have q197 := J193.keep (I159.up h_o0) (by decide) q177
                      have q198 := J193.keep (I159.up h_o0) (by decide) q178
                      have q199 := J193.keep (I159.up h_o0) (by decide) q179
                      have q200 := J193.keep (I159.up h_o0) (by decide) q180
                      have q201 := J193.keep (I159.up h_o0) (by decide) q181
                      have q202 := J193.keep (I159.up h_o0) (by decide) q182
                      have q203 := J193.keep (I159.up h_o0) (by decide) q183
                      have q204 := J193.keep t167 (by decide) q188
                      refine mv_iload_n d_Reader_term_130 rfl rfl ?_
                      have := mz_hi i1_18
                      refine mv_if_eqZ (tgt := 141) (a := i1_18.toInt) d_Reader_term_131 (by decide) rfl (fun b205 => ?_) (fun b205 => ?_)
                      · refine mv_iconst (v := 1) d_Reader_term_141 (by decide) ?_
                        exact mv_iret d_Reader_term_142 rfl (by decide) ⟨_, I194, _, rfl, by decide, by decide, fun _ => q204, (by have := (Im.o h40) (by omega); have := yC.d s19.2.2; have := yC.kn s19.2.2; have := (Im.o h76) (by omega); have := yC.d s58.2.2; have := yC.kn s58.2.2; have eT : p_ter pb pn pa (r7 + 1) (p_oc pb pn pa (r7 + 1)) ps = s168 := (by have hop : p_oc pb pn pa (r7 + 1) s19 = p_sg pb pn 93 (p_con pb pn pa r7 (p_oc pb pn pa r7) (p_nx s19)) := rfl; have hX := e23.symm.trans (p_lp_stop (show (p_no1 pb pn) s19 = s19 from if_neg (fun h9 => by omega))); unfold p_ter; rw [hX]; unfold p_te1; unfold p_cmp; (try simp only [hop]); (try simp only [e59, e136, e169]); ((repeat' (first | (with_reducible rfl) | split)) <;> (first | ((try simp only [e59, e136, e169]); done) | (exfalso; omega)))); rw [eT]; exact ⟨⟨_, _, _, _, _, _, _, q197, q198, q199, q200, q201, q202, q203, h184, Im.o h185, Im.o h186⟩, (Or.inl ⟨by first | decide | omega, by omega⟩)⟩)⟩
                      · refine mv_aload_n d_Reader_term_134 rfl rfl ?_
                        refine mv_bipush (v := 8) d_Reader_term_135 (by decide) ?_
                        refine mv_iconst (v := 0) d_Reader_term_137 (by decide) ?_
                        obtain ⟨_, b212, -⟩ := I194.1 _ _ t196
                        refine mv_callV (kc' := 0) (ks' := 0) (As := [.int 8, .int 0]) (st9 := [.int 0, .int 8, .ref o0]) d_Reader_term_138 lV_Reader_203 b212 rfl (tc_Reader_emit (d := (d + E + 7)) (x9 := x9) (o0 := o0) (x1 := 8) (x2 := 0) t196 I194.start) rfl (Nat.le_of_ble_eq_true rfl) (Nat.le_of_ble_eq_true rfl) (Nat.le_of_ble_eq_true rfl) (hst := rfl) (fun b206r M207 n208 b206 => ?_)
                        obtain ⟨T209, J210, rfl⟩ := b206
                        have I211 := I194.call J210 (tm_sub (by decide)) (Or.inl rfl)
                        have t213 := J210.up t196
                        have q214 := J210.keep t196 (by decide) q197
                        have q215 := J210.keep t196 (by decide) q198
                        have q216 := J210.keep t196 (by decide) q199
                        have q217 := J210.keep t196 (by decide) q200
                        have q218 := J210.keep t196 (by decide) q201
                        have q219 := J210.keep t196 (by decide) q202
                        have q220 := J210.keep t196 (by decide) q203
                        have q221 := J210.keep t196 (by decide) q204
                        refine mv_iconst (v := 1) d_Reader_term_141 (by decide) ?_
                        exact mv_iret d_Reader_term_142 rfl (by decide) ⟨_, I211, _, rfl, by decide, by decide, fun _ => q221, (by have := (Im.o h40) (by omega); have := yC.d s19.2.2; have := yC.kn s19.2.2; have := (Im.o h76) (by omega); have := yC.d s58.2.2; have := yC.kn s58.2.2; have eT : p_ter pb pn pa (r7 + 1) (p_oc pb pn pa (r7 + 1)) ps = s168 := (by have hop : p_oc pb pn pa (r7 + 1) s19 = p_sg pb pn 93 (p_con pb pn pa r7 (p_oc pb pn pa r7) (p_nx s19)) := rfl; have hX := e23.symm.trans (p_lp_stop (show (p_no1 pb pn) s19 = s19 from if_neg (fun h9 => by omega))); unfold p_ter; rw [hX]; unfold p_te1; unfold p_cmp; (try simp only [hop]); (try simp only [e59, e136, e169]); ((repeat' (first | (with_reducible rfl) | split)) <;> (first | ((try simp only [e59, e136, e169]); done) | (exfalso; omega)))); rw [eT]; exact ⟨⟨_, _, _, _, _, _, _, q214, q215, q216, q217, q218, q219, q220, h184, Im.o h185, Im.o h186⟩, (Or.inl ⟨by first | decide | omega, by omega⟩)⟩)⟩
                    · refine mv_iconst (v := 0) d_Reader_term_122 (by decide) ?_
                      exact mv_iret d_Reader_term_123 rfl (by decide) ⟨_, I159, _, rfl, by decide, by decide, fun h => absurd h (by decide), (by have := (Im.o h40) (by omega); have := yC.d s19.2.2; have := yC.kn s19.2.2; have := (Im.o h76) (by omega); have := yC.d s58.2.2; have := yC.kn s58.2.2; have hb : s168.1 ≠ 0 := (by omega); have z1 : ∀ c, p_sg pb pn c s168 = s168 := (fun c => p_sg_Z s168 hb); have z2 : ∀ c, p_wd pb pn c s168 = s168 := (fun c => p_wd_Z s168 hb); have z3 : ∀ op, p_sum pb pn pa op s168 = s168 := (fun op => p_sum_Z s168 hb); have z4 : ∀ r oc, p_con pb pn pa r oc s168 = s168 := (fun r oc => p_con_Z s168 hb); have z5 : p_prt pb pn s168 = s168 := p_prt_Z s168 hb; have eT : p_ter pb pn pa (r7 + 1) (p_oc pb pn pa (r7 + 1)) ps = s168 := (by have hop : p_oc pb pn pa (r7 + 1) s19 = p_sg pb pn 93 (p_con pb pn pa r7 (p_oc pb pn pa r7) (p_nx s19)) := rfl; have hX := e23.symm.trans (p_lp_stop (show (p_no1 pb pn) s19 = s19 from if_neg (fun h9 => by omega))); unfold p_ter; rw [hX]; unfold p_te1; unfold p_cmp; (try simp only [hop]); (try simp only [e59, e136, e169, z1, z2, z3, z4, z5]); ((repeat' (first | (with_reducible rfl) | split)) <;> (first | ((try simp only [e59, e136, e169, z1, z2, z3, z4, z5]); done) | (exfalso; omega)))); rw [eT]; exact ⟨⟨_, _, _, _, _, _, _, q177, q178, q179, q180, q181, q182, q183, h184, Im.o h185, Im.o h186⟩, (Or.inr ⟨by first | decide | omega, by omega⟩)⟩)⟩
                · refine mv_iconst (v := 1) d_Reader_isSign_16 (by decide) ?_
                  refine mv_goto (tgt := 21) d_Reader_isSign_17 (by decide) ?_
                  refine mv_iret d_Reader_isSign_21 rfl (by decide) ?_
                  refine mv_if_eq_f (tgt := 23) d_Reader_comparisonHere_17 (by decide) (by decide) ?_
                  refine mv_bipush (v := 6) d_Reader_comparisonHere_20 (by decide) ?_
                  refine mv_iret d_Reader_comparisonHere_22 rfl (by first | rfl | decide) ?_
                  refine mv_istore_n (lv' := [(2, .int 6), (1, .int i1_18), (0, .ref o0)]) d_Reader_term_99 rfl (by decide) rfl ?_
                  refine mv_iload_n d_Reader_term_100 rfl rfl ?_
                  refine mv_iconst (v := (-1)) d_Reader_term_101 (by decide) ?_
                  refine mv_icmp_ne_t (tgt := 111) d_Reader_term_102 (by decide) (by decide) ?_
                  refine mv_aload_n d_Reader_term_111 rfl rfl ?_
                  obtain ⟨_, b228, -⟩ := I49.1 _ _ t57
                  refine mv_callV (kc' := 0) (ks' := 0) (As := []) (st9 := [.ref o0]) d_Reader_term_112 lV_Reader_82 b228 rfl (tc_Reader_advance_x (d := (d + E + 7)) (x9 := x9) (o0 := o0) t57 (hK I49) (qS.a (show qS M45 o0 pb pn s58 from ⟨_, _, _, _, _, _, _, q67, q68, q69, q70, q71, q72, q73, h74, Im.o h75, Im.o h76⟩)) (by have := (Im.o h40) (by omega); have := yC.d s19.2.2; have := yC.kn s19.2.2; have := (Im.o h76) (by omega); have := yC.d s58.2.2; have := yC.kn s58.2.2; show s58.2.2 + 1 ≤ 401; omega) I49.start) rfl (Nat.le_of_ble_eq_true rfl) (Nat.le_of_ble_eq_true rfl) (Nat.le_of_ble_eq_true rfl) (hst := rfl) (fun b222r M223 n224 b222 => ?_)
                  obtain ⟨T225, J226, rfl, f229⟩ := b222
                  have I227 := I49.call J226 (tm_sub (by decide)) (Or.inl rfl)
                  have t230 := J226.up t57
                  have q231 := J226.keep (I49.up h_o0) (by decide) q67
                  have q232 := J226.keep (I49.up h_o0) (by decide) q68
                  have q233 := J226.keep t57 (by decide) q78
                  obtain ⟨s234, e235⟩ : ∃ s9 : p_S, p_nx s58 = s9 := ⟨_, rfl⟩
                  rw [e235] at f229
                  have : s234.1 = 0 := by rw [← e235]; show s58.1 = 0; omega
                  obtain ⟨v236, v237, v238, v239, v240, v241, v242, q243, q244, q245, q246, q247, q248, q249, h250, h251, h252⟩ := f229
                  replace h251 := Im.i h251
                  replace h252 := Im.i h252
                  refine mv_aload_n d_Reader_term_115 rfl rfl ?_
                  obtain ⟨_, b259, -⟩ := I227.1 _ _ t230
                  refine mv_callV (kc' := 0) (ks' := 0) (As := []) (st9 := [.ref o0]) d_Reader_term_116 lV_Reader_186 b259 rfl (tg_Reader_sum hK9 H_sum H_condition (d := d) (x9 := x9) (o0 := o0) t230 (p := p) q233 (by omega) (by first | omega | decide) (hK I227) ⟨_, _, _, _, _, _, _, q243, q244, q245, q246, q247, q248, q249, h250, Im.o h251, Im.o h252⟩ (by omega) I227.start) rfl (Nat.le_of_ble_eq_true rfl) (Nat.le_of_ble_eq_true rfl) (Nat.le_of_ble_eq_true rfl) (hst := rfl) (fun b253r M254 n255 b253 => ?_)
                  obtain ⟨T256, J257, v260, rfl, b261, b262, o263, f264, f265⟩ := b253
                  have I258 := I227.call J257 (tm_sub (by decide)) (Or.inl rfl)
                  have t266 := J257.up t230
                  obtain ⟨s267, e268⟩ : ∃ s9 : p_S, p_sum pb pn pa (p_op pb pn pa (r7 + 1)) s234 = s9 := ⟨_, rfl⟩
                  rw [e268] at f264 f265
                  obtain ⟨v269, v270, v271, v272, v273, v274, v275, q276, q277, q278, q279, q280, q281, q282, h283, h284, h285⟩ := f264
                  replace h284 := Im.i h284
                  replace h285 := Im.i h285
                  have := mz_hi v260
                  refine mv_if_neZ (tgt := 124) (a := v260.toInt) d_Reader_term_119 (by decide) rfl (fun b286 => ?_) (fun b286 => ?_)
                  · have q287 := o263 (by omega)
                    refine mv_aload_n d_Reader_term_124 rfl rfl ?_
                    refine mv_iload_n d_Reader_term_125 rfl rfl ?_
                    refine mv_iconst (v := 0) d_Reader_term_126 (by decide) ?_
                    obtain ⟨_, b294, -⟩ := I258.1 _ _ t266
                    refine mv_callV (kc' := 0) (ks' := 0) (As := [.int 6, .int 0]) (st9 := [.int 0, .int 6, .ref o0]) d_Reader_term_127 lV_Reader_203 b294 rfl (tc_Reader_emit (d := (d + E + 7)) (x9 := x9) (o0 := o0) (x1 := 6) (x2 := 0) t266 I258.start) rfl (Nat.le_of_ble_eq_true rfl) (Nat.le_of_ble_eq_true rfl) (Nat.le_of_ble_eq_true rfl) (hst := rfl) (fun b288r M289 n290 b288 => ?_)
                    obtain ⟨T291, J292, rfl⟩ := b288
                    have I293 := I258.call J292 (tm_sub (by decide)) (Or.inl rfl)
                    have t295 := J292.up t266
                    have q296 := J292.keep (I258.up h_o0) (by decide) q276
                    have q297 := J292.keep (I258.up h_o0) (by decide) q277
                    have q298 := J292.keep (I258.up h_o0) (by decide) q278
                    have q299 := J292.keep (I258.up h_o0) (by decide) q279
                    have q300 := J292.keep (I258.up h_o0) (by decide) q280
                    have q301 := J292.keep (I258.up h_o0) (by decide) q281
                    have q302 := J292.keep (I258.up h_o0) (by decide) q282
                    have q303 := J292.keep t266 (by decide) q287
                    refine mv_iload_n d_Reader_term_130 rfl rfl ?_
                    have := mz_hi i1_18
                    refine mv_if_eqZ (tgt := 141) (a := i1_18.toInt) d_Reader_term_131 (by decide) rfl (fun b304 => ?_) (fun b304 => ?_)
                    · refine mv_iconst (v := 1) d_Reader_term_141 (by decide) ?_
                      exact mv_iret d_Reader_term_142 rfl (by decide) ⟨_, I293, _, rfl, by decide, by decide, fun _ => q303, (by have := (Im.o h40) (by omega); have := yC.d s19.2.2; have := yC.kn s19.2.2; have := (Im.o h76) (by omega); have := yC.d s58.2.2; have := yC.kn s58.2.2; have eT : p_ter pb pn pa (r7 + 1) (p_oc pb pn pa (r7 + 1)) ps = s267 := (by have hop : p_oc pb pn pa (r7 + 1) s19 = p_sg pb pn 93 (p_con pb pn pa r7 (p_oc pb pn pa r7) (p_nx s19)) := rfl; have hX := e23.symm.trans (p_lp_stop (show (p_no1 pb pn) s19 = s19 from if_neg (fun h9 => by omega))); unfold p_ter; rw [hX]; unfold p_te1; unfold p_cmp; (try simp only [hop]); (try simp only [e59, e235, e268]); ((repeat' (first | (with_reducible rfl) | split)) <;> (first | ((try simp only [e59, e235, e268]); done) | (exfalso; omega)))); rw [eT]; exact ⟨⟨_, _, _, _, _, _, _, q296, q297, q298, q299, q300, q301, q302, h283, Im.o h284, Im.o h285⟩, (Or.inl ⟨by first | decide | omega, by omega⟩)⟩)⟩
                    · refine mv_aload_n d_Reader_term_134 rfl rfl ?_
                      refine mv_bipush (v := 8) d_Reader_term_135 (by decide) ?_
                      refine mv_iconst (v := 0) d_Reader_term_137 (by decide) ?_
                      obtain ⟨_, b311, -⟩ := I293.1 _ _ t295
                      refine mv_callV (kc' := 0) (ks' := 0) (As := [.int 8, .int 0]) (st9 := [.int 0, .int 8, .ref o0]) d_Reader_term_138 lV_Reader_203 b311 rfl (tc_Reader_emit (d := (d + E + 7)) (x9 := x9) (o0 := o0) (x1 := 8) (x2 := 0) t295 I293.start) rfl (Nat.le_of_ble_eq_true rfl) (Nat.le_of_ble_eq_true rfl) (Nat.le_of_ble_eq_true rfl) (hst := rfl) (fun b305r M306 n307 b305 => ?_)
                      obtain ⟨T308, J309, rfl⟩ := b305
                      have I310 := I293.call J309 (tm_sub (by decide)) (Or.inl rfl)
                      have t312 := J309.up t295
                      have q313 := J309.keep t295 (by decide) q296
                      have q314 := J309.keep t295 (by decide) q297
                      have q315 := J309.keep t295 (by decide) q298
                      have q316 := J309.keep t295 (by decide) q299
                      have q317 := J309.keep t295 (by decide) q300
                      have q318 := J309.keep t295 (by decide) q301
                      have q319 := J309.keep t295 (by decide) q302
                      have q320 := J309.keep t295 (by decide) q303
                      refine mv_iconst (v := 1) d_Reader_term_141 (by decide) ?_
                      exact mv_iret d_Reader_term_142 rfl (by decide) ⟨_, I310, _, rfl, by decide, by decide, fun _ => q320, (by have := (Im.o h40) (by omega); have := yC.d s19.2.2; have := yC.kn s19.2.2; have := (Im.o h76) (by omega); have := yC.d s58.2.2; have := yC.kn s58.2.2; have eT : p_ter pb pn pa (r7 + 1) (p_oc pb pn pa (r7 + 1)) ps = s267 := (by have hop : p_oc pb pn pa (r7 + 1) s19 = p_sg pb pn 93 (p_con pb pn pa r7 (p_oc pb pn pa r7) (p_nx s19)) := rfl; have hX := e23.symm.trans (p_lp_stop (show (p_no1 pb pn) s19 = s19 from if_neg (fun h9 => by omega))); unfold p_ter; rw [hX]; unfold p_te1; unfold p_cmp; (try simp only [hop]); (try simp only [e59, e235, e268]); ((repeat' (first | (with_reducible rfl) | split)) <;> (first | ((try simp only [e59, e235, e268]); done) | (exfalso; omega)))); rw [eT]; exact ⟨⟨_, _, _, _, _, _, _, q313, q314, q315, q316, q317, q318, q319, h283, Im.o h284, Im.o h285⟩, (Or.inl ⟨by first | decide | omega, by omega⟩)⟩)⟩
                  · refine mv_iconst (v := 0) d_Reader_term_122 (by decide) ?_
                    exact mv_iret d_Reader_term_123 rfl (by decide) ⟨_, I258, _, rfl, by decide, by decide, fun h => absurd h (by decide), (by have := (Im.o h40) (by omega); have := yC.d s19.2.2; have := yC.kn s19.2.2; have := (Im.o h76) (by omega); have := yC.d s58.2.2; have := yC.kn s58.2.2; have hb : s267.1 ≠ 0 := (by omega); have z1 : ∀ c, p_sg pb pn c s267 = s267 := (fun c => p_sg_Z s267 hb); have z2 : ∀ c, p_wd pb pn c s267 = s267 := (fun c => p_wd_Z s267 hb); have z3 : ∀ op, p_sum pb pn pa op s267 = s267 := (fun op => p_sum_Z s267 hb); have z4 : ∀ r oc, p_con pb pn pa r oc s267 = s267 := (fun r oc => p_con_Z s267 hb); have z5 : p_prt pb pn s267 = s267 := p_prt_Z s267 hb; have eT : p_ter pb pn pa (r7 + 1) (p_oc pb pn pa (r7 + 1)) ps = s267 := (by have hop : p_oc pb pn pa (r7 + 1) s19 = p_sg pb pn 93 (p_con pb pn pa r7 (p_oc pb pn pa r7) (p_nx s19)) := rfl; have hX := e23.symm.trans (p_lp_stop (show (p_no1 pb pn) s19 = s19 from if_neg (fun h9 => by omega))); unfold p_ter; rw [hX]; unfold p_te1; unfold p_cmp; (try simp only [hop]); (try simp only [e59, e235, e268, z1, z2, z3, z4, z5]); ((repeat' (first | (with_reducible rfl) | split)) <;> (first | ((try simp only [e59, e235, e268, z1, z2, z3, z4, z5]); done) | (exfalso; omega)))); rw [eT]; exact ⟨⟨_, _, _, _, _, _, _, q276, q277, q278, q279, q280, q281, q282, h283, Im.o h284, Im.o h285⟩, (Or.inr ⟨by first | decide | omega, by omega⟩)⟩)⟩
              · refine mv_iconst (v := 1) d_Reader_isSign_16 (by decide) ?_
                refine mv_goto (tgt := 21) d_Reader_isSign_17 (by decide) ?_
                refine mv_iret d_Reader_isSign_21 rfl (by decide) ?_
                refine mv_if_eq_f (tgt := 11) d_Reader_comparisonHere_6 (by decide) (by decide) ?_
                refine mv_iconst (v := 5) d_Reader_comparisonHere_9 (by decide) ?_
                refine mv_iret d_Reader_comparisonHere_10 rfl (by first | rfl | decide) ?_
                refine mv_istore_n (lv' := [(2, .int 5), (1, .int i1_18), (0, .ref o0)]) d_Reader_term_99 rfl (by decide) rfl ?_
                refine mv_iload_n d_Reader_term_100 rfl rfl ?_
                refine mv_iconst (v := (-1)) d_Reader_term_101 (by decide) ?_
                refine mv_icmp_ne_t (tgt := 111) d_Reader_term_102 (by decide) (by decide) ?_
                refine mv_aload_n d_Reader_term_111 rfl rfl ?_
                obtain ⟨_, b327, -⟩ := I49.1 _ _ t57
                refine mv_callV (kc' := 0) (ks' := 0) (As := []) (st9 := [.ref o0]) d_Reader_term_112 lV_Reader_82 b327 rfl (tc_Reader_advance_x (d := (d + E + 7)) (x9 := x9) (o0 := o0) t57 (hK I49) (qS.a (show qS M45 o0 pb pn s58 from ⟨_, _, _, _, _, _, _, q67, q68, q69, q70, q71, q72, q73, h74, Im.o h75, Im.o h76⟩)) (by have := (Im.o h40) (by omega); have := yC.d s19.2.2; have := yC.kn s19.2.2; have := (Im.o h76) (by omega); have := yC.d s58.2.2; have := yC.kn s58.2.2; show s58.2.2 + 1 ≤ 401; omega) I49.start) rfl (Nat.le_of_ble_eq_true rfl) (Nat.le_of_ble_eq_true rfl) (Nat.le_of_ble_eq_true rfl) (hst := rfl) (fun b321r M322 n323 b321 => ?_)
                obtain ⟨T324, J325, rfl, f328⟩ := b321
                have I326 := I49.call J325 (tm_sub (by decide)) (Or.inl rfl)
                have t329 := J325.up t57
                have q330 := J325.keep (I49.up h_o0) (by decide) q67
                have q331 := J325.keep (I49.up h_o0) (by decide) q68
                have q332 := J325.keep t57 (by decide) q78
                obtain ⟨s333, e334⟩ : ∃ s9 : p_S, p_nx s58 = s9 := ⟨_, rfl⟩
                rw [e334] at f328
                have : s333.1 = 0 := by rw [← e334]; show s58.1 = 0; omega
                obtain ⟨v335, v336, v337, v338, v339, v340, v341, q342, q343, q344, q345, q346, q347, q348, h349, h350, h351⟩ := f328
                replace h350 := Im.i h350
                replace h351 := Im.i h351
                refine mv_aload_n d_Reader_term_115 rfl rfl ?_
                obtain ⟨_, b358, -⟩ := I326.1 _ _ t329
                refine mv_callV (kc' := 0) (ks' := 0) (As := []) (st9 := [.ref o0]) d_Reader_term_116 lV_Reader_186 b358 rfl (tg_Reader_sum hK9 H_sum H_condition (d := d) (x9 := x9) (o0 := o0) t329 (p := p) q332 (by omega) (by first | omega | decide) (hK I326) ⟨_, _, _, _, _, _, _, q342, q343, q344, q345, q346, q347, q348, h349, Im.o h350, Im.o h351⟩ (by omega) I326.start) rfl (Nat.le_of_ble_eq_true rfl) (Nat.le_of_ble_eq_true rfl) (Nat.le_of_ble_eq_true rfl) (hst := rfl) (fun b352r M353 n354 b352 => ?_)
                obtain ⟨T355, J356, v359, rfl, b360, b361, o362, f363, f364⟩ := b352
                have I357 := I326.call J356 (tm_sub (by decide)) (Or.inl rfl)
                have t365 := J356.up t329
                obtain ⟨s366, e367⟩ : ∃ s9 : p_S, p_sum pb pn pa (p_op pb pn pa (r7 + 1)) s333 = s9 := ⟨_, rfl⟩
                rw [e367] at f363 f364
                obtain ⟨v368, v369, v370, v371, v372, v373, v374, q375, q376, q377, q378, q379, q380, q381, h382, h383, h384⟩ := f363
                replace h383 := Im.i h383
                replace h384 := Im.i h384
                have := mz_hi v359
                refine mv_if_neZ (tgt := 124) (a := v359.toInt) d_Reader_term_119 (by decide) rfl (fun b385 => ?_) (fun b385 => ?_)
                · have q386 := o362 (by omega)
                  refine mv_aload_n d_Reader_term_124 rfl rfl ?_
                  refine mv_iload_n d_Reader_term_125 rfl rfl ?_
                  refine mv_iconst (v := 0) d_Reader_term_126 (by decide) ?_
                  obtain ⟨_, b393, -⟩ := I357.1 _ _ t365
                  refine mv_callV (kc' := 0) (ks' := 0) (As := [.int 5, .int 0]) (st9 := [.int 0, .int 5, .ref o0]) d_Reader_term_127 lV_Reader_203 b393 rfl (tc_Reader_emit (d := (d + E + 7)) (x9 := x9) (o0 := o0) (x1 := 5) (x2 := 0) t365 I357.start) rfl (Nat.le_of_ble_eq_true rfl) (Nat.le_of_ble_eq_true rfl) (Nat.le_of_ble_eq_true rfl) (hst := rfl) (fun b387r M388 n389 b387 => ?_)
                  obtain ⟨T390, J391, rfl⟩ := b387
                  have I392 := I357.call J391 (tm_sub (by decide)) (Or.inl rfl)
                  have t394 := J391.up t365
                  have q395 := J391.keep (I357.up h_o0) (by decide) q375
                  have q396 := J391.keep (I357.up h_o0) (by decide) q376
                  have q397 := J391.keep (I357.up h_o0) (by decide) q377
                  have q398 := J391.keep (I357.up h_o0) (by decide) q378
                  have q399 := J391.keep (I357.up h_o0) (by decide) q379
                  have q400 := J391.keep (I357.up h_o0) (by decide) q380
                  have q401 := J391.keep (I357.up h_o0) (by decide) q381
                  have q402 := J391.keep t365 (by decide) q386
                  refine mv_iload_n d_Reader_term_130 rfl rfl ?_
                  have := mz_hi i1_18
                  refine mv_if_eqZ (tgt := 141) (a := i1_18.toInt) d_Reader_term_131 (by decide) rfl (fun b403 => ?_) (fun b403 => ?_)
                  · refine mv_iconst (v := 1) d_Reader_term_141 (by decide) ?_
                    exact mv_iret d_Reader_term_142 rfl (by decide) ⟨_, I392, _, rfl, by decide, by decide, fun _ => q402, (by have := (Im.o h40) (by omega); have := yC.d s19.2.2; have := yC.kn s19.2.2; have := (Im.o h76) (by omega); have := yC.d s58.2.2; have := yC.kn s58.2.2; have eT : p_ter pb pn pa (r7 + 1) (p_oc pb pn pa (r7 + 1)) ps = s366 := (by have hop : p_oc pb pn pa (r7 + 1) s19 = p_sg pb pn 93 (p_con pb pn pa r7 (p_oc pb pn pa r7) (p_nx s19)) := rfl; have hX := e23.symm.trans (p_lp_stop (show (p_no1 pb pn) s19 = s19 from if_neg (fun h9 => by omega))); unfold p_ter; rw [hX]; unfold p_te1; unfold p_cmp; (try simp only [hop]); (try simp only [e59, e334, e367]); ((repeat' (first | (with_reducible rfl) | split)) <;> (first | ((try simp only [e59, e334, e367]); done) | (exfalso; omega)))); rw [eT]; exact ⟨⟨_, _, _, _, _, _, _, q395, q396, q397, q398, q399, q400, q401, h382, Im.o h383, Im.o h384⟩, (Or.inl ⟨by first | decide | omega, by omega⟩)⟩)⟩
                  · refine mv_aload_n d_Reader_term_134 rfl rfl ?_
                    refine mv_bipush (v := 8) d_Reader_term_135 (by decide) ?_
                    refine mv_iconst (v := 0) d_Reader_term_137 (by decide) ?_
                    obtain ⟨_, b410, -⟩ := I392.1 _ _ t394
                    refine mv_callV (kc' := 0) (ks' := 0) (As := [.int 8, .int 0]) (st9 := [.int 0, .int 8, .ref o0]) d_Reader_term_138 lV_Reader_203 b410 rfl (tc_Reader_emit (d := (d + E + 7)) (x9 := x9) (o0 := o0) (x1 := 8) (x2 := 0) t394 I392.start) rfl (Nat.le_of_ble_eq_true rfl) (Nat.le_of_ble_eq_true rfl) (Nat.le_of_ble_eq_true rfl) (hst := rfl) (fun b404r M405 n406 b404 => ?_)
                    obtain ⟨T407, J408, rfl⟩ := b404
                    have I409 := I392.call J408 (tm_sub (by decide)) (Or.inl rfl)
                    have t411 := J408.up t394
                    have q412 := J408.keep t394 (by decide) q395
                    have q413 := J408.keep t394 (by decide) q396
                    have q414 := J408.keep t394 (by decide) q397
                    have q415 := J408.keep t394 (by decide) q398
                    have q416 := J408.keep t394 (by decide) q399
                    have q417 := J408.keep t394 (by decide) q400
                    have q418 := J408.keep t394 (by decide) q401
                    have q419 := J408.keep t394 (by decide) q402
                    refine mv_iconst (v := 1) d_Reader_term_141 (by decide) ?_
                    exact mv_iret d_Reader_term_142 rfl (by decide) ⟨_, I409, _, rfl, by decide, by decide, fun _ => q419, (by have := (Im.o h40) (by omega); have := yC.d s19.2.2; have := yC.kn s19.2.2; have := (Im.o h76) (by omega); have := yC.d s58.2.2; have := yC.kn s58.2.2; have eT : p_ter pb pn pa (r7 + 1) (p_oc pb pn pa (r7 + 1)) ps = s366 := (by have hop : p_oc pb pn pa (r7 + 1) s19 = p_sg pb pn 93 (p_con pb pn pa r7 (p_oc pb pn pa r7) (p_nx s19)) := rfl; have hX := e23.symm.trans (p_lp_stop (show (p_no1 pb pn) s19 = s19 from if_neg (fun h9 => by omega))); unfold p_ter; rw [hX]; unfold p_te1; unfold p_cmp; (try simp only [hop]); (try simp only [e59, e334, e367]); ((repeat' (first | (with_reducible rfl) | split)) <;> (first | ((try simp only [e59, e334, e367]); done) | (exfalso; omega)))); rw [eT]; exact ⟨⟨_, _, _, _, _, _, _, q412, q413, q414, q415, q416, q417, q418, h382, Im.o h383, Im.o h384⟩, (Or.inl ⟨by first | decide | omega, by omega⟩)⟩)⟩
                · refine mv_iconst (v := 0) d_Reader_term_122 (by decide) ?_
                  exact mv_iret d_Reader_term_123 rfl (by decide) ⟨_, I357, _, rfl, by decide, by decide, fun h => absurd h (by decide), (by have := (Im.o h40) (by omega); have := yC.d s19.2.2; have := yC.kn s19.2.2; have := (Im.o h76) (by omega); have := yC.d s58.2.2; have := yC.kn s58.2.2; have hb : s366.1 ≠ 0 := (by omega); have z1 : ∀ c, p_sg pb pn c s366 = s366 := (fun c => p_sg_Z s366 hb); have z2 : ∀ c, p_wd pb pn c s366 = s366 := (fun c => p_wd_Z s366 hb); have z3 : ∀ op, p_sum pb pn pa op s366 = s366 := (fun op => p_sum_Z s366 hb); have z4 : ∀ r oc, p_con pb pn pa r oc s366 = s366 := (fun r oc => p_con_Z s366 hb); have z5 : p_prt pb pn s366 = s366 := p_prt_Z s366 hb; have eT : p_ter pb pn pa (r7 + 1) (p_oc pb pn pa (r7 + 1)) ps = s366 := (by have hop : p_oc pb pn pa (r7 + 1) s19 = p_sg pb pn 93 (p_con pb pn pa r7 (p_oc pb pn pa r7) (p_nx s19)) := rfl; have hX := e23.symm.trans (p_lp_stop (show (p_no1 pb pn) s19 = s19 from if_neg (fun h9 => by omega))); unfold p_ter; rw [hX]; unfold p_te1; unfold p_cmp; (try simp only [hop]); (try simp only [e59, e334, e367, z1, z2, z3, z4, z5]); ((repeat' (first | (with_reducible rfl) | split)) <;> (first | ((try simp only [e59, e334, e367, z1, z2, z3, z4, z5]); done) | (exfalso; omega)))); rw [eT]; exact ⟨⟨_, _, _, _, _, _, _, q375, q376, q377, q378, q379, q380, q381, h382, Im.o h383, Im.o h384⟩, (Or.inr ⟨by first | decide | omega, by omega⟩)⟩)⟩
          · refine mv_iconst (v := 0) d_Reader_term_93 (by decide) ?_
            exact mv_iret d_Reader_term_94 rfl (by decide) ⟨_, I49, _, rfl, by decide, by decide, fun h => absurd h (by decide), (by have := (Im.o h40) (by omega); have := yC.d s19.2.2; have := yC.kn s19.2.2; have hb : s58.1 ≠ 0 := (by omega); have z1 : ∀ c, p_sg pb pn c s58 = s58 := (fun c => p_sg_Z s58 hb); have z2 : ∀ c, p_wd pb pn c s58 = s58 := (fun c => p_wd_Z s58 hb); have z3 : ∀ op, p_sum pb pn pa op s58 = s58 := (fun op => p_sum_Z s58 hb); have z4 : ∀ r oc, p_con pb pn pa r oc s58 = s58 := (fun r oc => p_con_Z s58 hb); have z5 : p_prt pb pn s58 = s58 := p_prt_Z s58 hb; have eT : p_ter pb pn pa (r7 + 1) (p_oc pb pn pa (r7 + 1)) ps = s58 := (by have hop : p_oc pb pn pa (r7 + 1) s19 = p_sg pb pn 93 (p_con pb pn pa r7 (p_oc pb pn pa r7) (p_nx s19)) := rfl; have hX := e23.symm.trans (p_lp_stop (show (p_no1 pb pn) s19 = s19 from if_neg (fun h9 => by omega))); unfold p_ter; rw [hX]; unfold p_te1; unfold p_cmp; (try simp only [hop]); (try simp only [e59, z1, z2, z3, z4, z5]); ((repeat' (first | (with_reducible rfl) | split)) <;> (first | ((try simp only [e59, z1, z2, z3, z4, z5]); done) | (exfalso; omega)))); rw [eT]; exact ⟨⟨_, _, _, _, _, _, _, q67, q68, q69, q70, q71, q72, q73, h74, Im.o h75, Im.o h76⟩, (Or.inr ⟨by first | decide | omega, by omega⟩)⟩)⟩
        · refine mv_aload_n d_Reader_isSign_8 rfl rfl ?_
          refine tr_getK (k := 13) q37 d_Reader_isSign_9 f_Reader_241_9 ?_
          refine mv_iload_n d_Reader_isSign_12 rfl rfl ?_
          have := mz_hi v30
          refine mv_icmp_neZ (tgt := 20) (a := v30.toInt) (b := 91) d_Reader_isSign_13 (by decide) rfl (by decide) (fun b420 => ?_) (fun b420 => ?_)
          · refine mv_iconst (v := 0) d_Reader_isSign_20 (by decide) ?_
            refine mv_iret d_Reader_isSign_21 rfl (by decide) ?_
            refine mv_if_eq_t (tgt := 86) d_Reader_term_46 (by decide) (by decide) ?_
            refine mv_aload_n d_Reader_term_86 rfl rfl ?_
            obtain ⟨_, b427, -⟩ := I_18.1 _ _ h_q0_18
            refine mv_callV (kc' := 0) (ks' := 0) (As := []) (st9 := [.ref o0]) d_Reader_term_87 lV_Reader_186 b427 rfl (tg_Reader_sum hK9 H_sum H_condition (d := d) (x9 := x9) (o0 := o0) h_q0_18 (p := p) kp0_18 (by omega) (by first | omega | decide) (hK I_18) ⟨_, _, _, _, _, _, _, q31, q32, q33, q34, q35, q36, q37, h38, Im.o h39, Im.o h40⟩ (by omega) I_18.start) rfl (Nat.le_of_ble_eq_true rfl) (Nat.le_of_ble_eq_true rfl) (Nat.le_of_ble_eq_true rfl) (hst := rfl) (fun b421r M422 n423 b421 => ?_)
            obtain ⟨T424, J425, v428, rfl, b429, b430, o431, f432, f433⟩ := b421
            have I426 := I_18.call J425 (tm_sub (by decide)) (Or.inl rfl)
            have t434 := J425.up h_q0_18
            obtain ⟨s435, e436⟩ : ∃ s9 : p_S, p_sum pb pn pa (p_op pb pn pa (r7 + 1)) s19 = s9 := ⟨_, rfl⟩
            rw [e436] at f432 f433
            obtain ⟨v437, v438, v439, v440, v441, v442, v443, q444, q445, q446, q447, q448, q449, q450, h451, h452, h453⟩ := f432
            replace h452 := Im.i h452
            replace h453 := Im.i h453
            have := mz_hi v428
            refine mv_if_neZ (tgt := 95) (a := v428.toInt) d_Reader_term_90 (by decide) rfl (fun b454 => ?_) (fun b454 => ?_)
            · have q455 := o431 (by omega)
              refine mv_aload_n d_Reader_term_95 rfl rfl ?_
              obtain ⟨_, b456, -⟩ := I426.1 _ _ t434
              refine mv_callV (kc1 := 0) (ks1 := 0) (kc' := 0) (ks' := 0) (As := []) (st9 := [.ref o0]) d_Reader_term_96 lV_Reader_215 b456 rfl (mj_enter (by decide) (Nat.le_of_ble_eq_true rfl) ?_) rfl (Nat.le_of_ble_eq_true rfl) (Nat.le_of_ble_eq_true rfl) (Nat.le_of_ble_eq_true rfl) (hst := rfl) (fun _ _ _ h => h)
              refine mv_aload_n d_Reader_comparisonHere_0 rfl rfl ?_
              refine mv_bipush (v := 60) d_Reader_comparisonHere_1 (by decide) ?_
              obtain ⟨_, b457, -⟩ := I426.1 _ _ t434
              refine mv_callV (kc1 := 0) (ks1 := 0) (kc' := 0) (ks' := 0) (As := [.int 60]) (st9 := [.int 60, .ref o0]) d_Reader_comparisonHere_3 lV_Reader_209 b457 rfl (mj_enter (by decide) (Nat.le_of_ble_eq_true rfl) ?_) rfl (Nat.le_of_ble_eq_true rfl) (Nat.le_of_ble_eq_true rfl) (Nat.le_of_ble_eq_true rfl) (hst := rfl) (fun _ _ _ h => h)
              refine mv_aload_n d_Reader_isSign_0 rfl rfl ?_
              refine tr_getK (k := 10) q447 d_Reader_isSign_1 f_Reader_41_9 ?_
              refine mv_iconst (v := 3) d_Reader_isSign_4 (by decide) ?_
              have := mz_hi v440
              refine mv_icmp_neZ (tgt := 20) (a := v440.toInt) (b := 3) d_Reader_isSign_5 (by decide) rfl (by decide) (fun b458 => ?_) (fun b458 => ?_)
              · refine mv_iconst (v := 0) d_Reader_isSign_20 (by decide) ?_
                refine mv_iret d_Reader_isSign_21 rfl (by decide) ?_
                refine mv_if_eq_t (tgt := 11) d_Reader_comparisonHere_6 (by decide) (by decide) ?_
                refine mv_aload_n d_Reader_comparisonHere_11 rfl rfl ?_
                refine mv_bipush (v := 62) d_Reader_comparisonHere_12 (by decide) ?_
                obtain ⟨_, b459, -⟩ := I426.1 _ _ t434
                refine mv_callV (kc1 := 0) (ks1 := 0) (kc' := 0) (ks' := 0) (As := [.int 62]) (st9 := [.int 62, .ref o0]) d_Reader_comparisonHere_14 lV_Reader_209 b459 rfl (mj_enter (by decide) (Nat.le_of_ble_eq_true rfl) ?_) rfl (Nat.le_of_ble_eq_true rfl) (Nat.le_of_ble_eq_true rfl) (Nat.le_of_ble_eq_true rfl) (hst := rfl) (fun _ _ _ h => h)
                refine mv_aload_n d_Reader_isSign_0 rfl rfl ?_
                refine tr_getK (k := 10) q447 d_Reader_isSign_1 f_Reader_41_9 ?_
                refine mv_iconst (v := 3) d_Reader_isSign_4 (by decide) ?_
                have := mz_hi v440
                refine mv_icmp_neZ (tgt := 20) (a := v440.toInt) (b := 3) d_Reader_isSign_5 (by decide) rfl (by decide) (fun b460 => ?_) (fun b460 => absurd b460 (by omega))
                refine mv_iconst (v := 0) d_Reader_isSign_20 (by decide) ?_
                refine mv_iret d_Reader_isSign_21 rfl (by decide) ?_
                refine mv_if_eq_t (tgt := 23) d_Reader_comparisonHere_17 (by decide) (by decide) ?_
                refine mv_aload_n d_Reader_comparisonHere_23 rfl rfl ?_
                refine mv_bipush (v := 61) d_Reader_comparisonHere_24 (by decide) ?_
                obtain ⟨_, b461, -⟩ := I426.1 _ _ t434
                refine mv_callV (kc1 := 0) (ks1 := 0) (kc' := 0) (ks' := 0) (As := [.int 61]) (st9 := [.int 61, .ref o0]) d_Reader_comparisonHere_26 lV_Reader_209 b461 rfl (mj_enter (by decide) (Nat.le_of_ble_eq_true rfl) ?_) rfl (Nat.le_of_ble_eq_true rfl) (Nat.le_of_ble_eq_true rfl) (Nat.le_of_ble_eq_true rfl) (hst := rfl) (fun _ _ _ h => h)
                refine mv_aload_n d_Reader_isSign_0 rfl rfl ?_
                refine tr_getK (k := 10) q447 d_Reader_isSign_1 f_Reader_41_9 ?_
                refine mv_iconst (v := 3) d_Reader_isSign_4 (by decide) ?_
                have := mz_hi v440
                refine mv_icmp_neZ (tgt := 20) (a := v440.toInt) (b := 3) d_Reader_isSign_5 (by decide) rfl (by decide) (fun b462 => ?_) (fun b462 => absurd b462 (by omega))
                refine mv_iconst (v := 0) d_Reader_isSign_20 (by decide) ?_
                refine mv_iret d_Reader_isSign_21 rfl (by decide) ?_
                refine mv_if_eq_t (tgt := 37) d_Reader_comparisonHere_29 (by decide) (by decide) ?_
                refine mv_iconst (v := (-1)) d_Reader_comparisonHere_37 (by decide) ?_
                refine mv_iret d_Reader_comparisonHere_38 rfl (by first | rfl | decide) ?_
                refine mv_istore_n (lv' := [(2, .int (-1)), (1, .int i1_18), (0, .ref o0)]) d_Reader_term_99 rfl (by decide) rfl ?_
                refine mv_iload_n d_Reader_term_100 rfl rfl ?_
                refine mv_iconst (v := (-1)) d_Reader_term_101 (by decide) ?_
                refine mv_icmp_ne_f (tgt := 111) d_Reader_term_102 (by decide) (by decide) ?_
                refine mv_aload_n d_Reader_term_105 rfl rfl ?_
                refine mv_iconst (v := 1) d_Reader_term_106 (by decide) ?_
                obtain ⟨_, b463, -⟩ := I426.1 _ _ t434
                refine mv_callV (kc1 := 0) (ks1 := 0) (kc' := 0) (ks' := 0) (As := [.int 1]) (st9 := [.int 1, .ref o0]) d_Reader_term_107 lV_Reader_56 b463 rfl (mj_enter (by decide) (Nat.le_of_ble_eq_true rfl) ?_) rfl (Nat.le_of_ble_eq_true rfl) (Nat.le_of_ble_eq_true rfl) (Nat.le_of_ble_eq_true rfl) (hst := rfl) (fun _ _ _ h => h)
                refine mv_aload_n d_Reader_refuse_0 rfl rfl ?_
                refine mv_iload_n d_Reader_refuse_1 rfl rfl ?_
                refine tr_putK tm_okF I426 t434 (k := 1) rfl ⟨_, rfl⟩ (Or.inl (by decide)) d_Reader_refuse_2 p_Reader_70_9 rfl rfl (fun M464 I465 q466 K467 => ?_)
                refine mv_aload_n d_Reader_refuse_5 rfl rfl ?_
                refine mv_aload_n d_Reader_refuse_6 rfl rfl ?_
                refine tr_getK (k := 11) (K467 _ 9 11 _ rfl q448) d_Reader_refuse_7 f_Reader_175_9 ?_
                refine tr_putK tm_okF I465 t434 (k := 2) rfl ⟨_, rfl⟩ (Or.inl (by decide)) d_Reader_refuse_10 p_Reader_11_9 rfl rfl (fun M468 I469 q470 K471 => ?_)
                refine mv_iconst (v := 0) d_Reader_refuse_13 (by decide) ?_
                obtain ⟨s472, e473⟩ : ∃ s9 : p_S, p_fl pb pn 1 s435 = s9 := ⟨_, rfl⟩
                have h474 := q_fl e473 (by omega) (by decide)
                have h475 : (1 : Int32).toInt = s472.1 := (by have e9 : (1 : Int32).toInt = 1 := (by decide); omega)
                have h476 : Im (s472.1 ≠ 0 → v441.toInt = (s472.2.1 : Int)) := Im.i (fun _ => by have := (Im.o h453) (by omega); omega)
                have h477 : Im (s472.1 = 0 → v439.toInt = (s472.2.2 : Int) ∧ v440.toInt = p_ki pb pn s472.2.2 ∧ v441.toInt = (p_st pb pn s472.2.2 : Int) ∧ v442.toInt = (p_sp pb pn s472.2.2 : Int) ∧ v443.toInt = p_va pb pn s472.2.2 ∧ v441.toInt = -1) := Im.i (fun z9 => absurd z9 h474.2.2)
                refine mv_iret d_Reader_refuse_14 rfl (by decide) ?_
                exact mv_iret d_Reader_term_110 rfl (by decide) ⟨_, I469, _, rfl, by decide, by decide, fun h => absurd h (by decide), (by have := (Im.o h40) (by omega); have := yC.d s19.2.2; have := yC.kn s19.2.2; have := (Im.o h453) (by omega); have := yC.d s435.2.2; have := yC.kn s435.2.2; have hb : s472.1 ≠ 0 := (by omega); have z1 : ∀ c, p_sg pb pn c s472 = s472 := (fun c => p_sg_Z s472 hb); have z2 : ∀ c, p_wd pb pn c s472 = s472 := (fun c => p_wd_Z s472 hb); have z3 : ∀ op, p_sum pb pn pa op s472 = s472 := (fun op => p_sum_Z s472 hb); have z4 : ∀ r oc, p_con pb pn pa r oc s472 = s472 := (fun r oc => p_con_Z s472 hb); have z5 : p_prt pb pn s472 = s472 := p_prt_Z s472 hb; have eT : p_ter pb pn pa (r7 + 1) (p_oc pb pn pa (r7 + 1)) ps = s472 := (by have hop : p_oc pb pn pa (r7 + 1) s19 = p_sg pb pn 93 (p_con pb pn pa r7 (p_oc pb pn pa r7) (p_nx s19)) := rfl; have hX := e23.symm.trans (p_lp_stop (show (p_no1 pb pn) s19 = s19 from if_neg (fun h9 => by omega))); unfold p_ter; rw [hX]; unfold p_te1; unfold p_cmp; (try simp only [hop]); (try simp only [e436, e473, z1, z2, z3, z4, z5]); ((repeat' (first | (with_reducible rfl) | split)) <;> (first | ((try simp only [e436, e473, z1, z2, z3, z4, z5]); done) | (exfalso; omega)))); rw [eT]; exact ⟨⟨_, _, _, _, _, _, _, (K471 _ 9 1 _ rfl q466), q470, (K471 _ 9 9 _ rfl (K467 _ 9 9 _ rfl q446)), (K471 _ 9 10 _ rfl (K467 _ 9 10 _ rfl q447)), (K471 _ 9 11 _ rfl (K467 _ 9 11 _ rfl q448)), (K471 _ 9 12 _ rfl (K467 _ 9 12 _ rfl q449)), (K471 _ 9 13 _ rfl (K467 _ 9 13 _ rfl q450)), h475, Im.o h476, Im.o h477⟩, (Or.inr ⟨by first | decide | omega, by omega⟩)⟩)⟩
              · refine mv_aload_n d_Reader_isSign_8 rfl rfl ?_
                refine tr_getK (k := 13) q450 d_Reader_isSign_9 f_Reader_241_9 ?_
                refine mv_iload_n d_Reader_isSign_12 rfl rfl ?_
                have := mz_hi v443
                refine mv_icmp_neZ (tgt := 20) (a := v443.toInt) (b := 60) d_Reader_isSign_13 (by decide) rfl (by decide) (fun b478 => ?_) (fun b478 => ?_)
                · refine mv_iconst (v := 0) d_Reader_isSign_20 (by decide) ?_
                  refine mv_iret d_Reader_isSign_21 rfl (by decide) ?_
                  refine mv_if_eq_t (tgt := 11) d_Reader_comparisonHere_6 (by decide) (by decide) ?_
                  refine mv_aload_n d_Reader_comparisonHere_11 rfl rfl ?_
                  refine mv_bipush (v := 62) d_Reader_comparisonHere_12 (by decide) ?_
                  obtain ⟨_, b479, -⟩ := I426.1 _ _ t434
                  refine mv_callV (kc1 := 0) (ks1 := 0) (kc' := 0) (ks' := 0) (As := [.int 62]) (st9 := [.int 62, .ref o0]) d_Reader_comparisonHere_14 lV_Reader_209 b479 rfl (mj_enter (by decide) (Nat.le_of_ble_eq_true rfl) ?_) rfl (Nat.le_of_ble_eq_true rfl) (Nat.le_of_ble_eq_true rfl) (Nat.le_of_ble_eq_true rfl) (hst := rfl) (fun _ _ _ h => h)
                  refine mv_aload_n d_Reader_isSign_0 rfl rfl ?_
                  refine tr_getK (k := 10) q447 d_Reader_isSign_1 f_Reader_41_9 ?_
                  refine mv_iconst (v := 3) d_Reader_isSign_4 (by decide) ?_
                  have := mz_hi v440
                  refine mv_icmp_neZ (tgt := 20) (a := v440.toInt) (b := 3) d_Reader_isSign_5 (by decide) rfl (by decide) (fun b480 => absurd b480 (by omega)) (fun b480 => ?_)
                  refine mv_aload_n d_Reader_isSign_8 rfl rfl ?_
                  refine tr_getK (k := 13) q450 d_Reader_isSign_9 f_Reader_241_9 ?_
                  refine mv_iload_n d_Reader_isSign_12 rfl rfl ?_
                  have := mz_hi v443
                  refine mv_icmp_neZ (tgt := 20) (a := v443.toInt) (b := 62) d_Reader_isSign_13 (by decide) rfl (by decide) (fun b481 => ?_) (fun b481 => ?_)
                  · refine mv_iconst (v := 0) d_Reader_isSign_20 (by decide) ?_
                    refine mv_iret d_Reader_isSign_21 rfl (by decide) ?_
                    refine mv_if_eq_t (tgt := 23) d_Reader_comparisonHere_17 (by decide) (by decide) ?_
                    refine mv_aload_n d_Reader_comparisonHere_23 rfl rfl ?_
                    refine mv_bipush (v := 61) d_Reader_comparisonHere_24 (by decide) ?_
                    obtain ⟨_, b482, -⟩ := I426.1 _ _ t434
                    refine mv_callV (kc1 := 0) (ks1 := 0) (kc' := 0) (ks' := 0) (As := [.int 61]) (st9 := [.int 61, .ref o0]) d_Reader_comparisonHere_26 lV_Reader_209 b482 rfl (mj_enter (by decide) (Nat.le_of_ble_eq_true rfl) ?_) rfl (Nat.le_of_ble_eq_true rfl) (Nat.le_of_ble_eq_true rfl) (Nat.le_of_ble_eq_true rfl) (hst := rfl) (fun _ _ _ h => h)
                    refine mv_aload_n d_Reader_isSign_0 rfl rfl ?_
                    refine tr_getK (k := 10) q447 d_Reader_isSign_1 f_Reader_41_9 ?_
                    refine mv_iconst (v := 3) d_Reader_isSign_4 (by decide) ?_
                    have := mz_hi v440
                    refine mv_icmp_neZ (tgt := 20) (a := v440.toInt) (b := 3) d_Reader_isSign_5 (by decide) rfl (by decide) (fun b483 => absurd b483 (by omega)) (fun b483 => ?_)
                    refine mv_aload_n d_Reader_isSign_8 rfl rfl ?_
                    refine tr_getK (k := 13) q450 d_Reader_isSign_9 f_Reader_241_9 ?_
                    refine mv_iload_n d_Reader_isSign_12 rfl rfl ?_
                    have := mz_hi v443
                    refine mv_icmp_neZ (tgt := 20) (a := v443.toInt) (b := 61) d_Reader_isSign_13 (by decide) rfl (by decide) (fun b484 => ?_) (fun b484 => ?_)
                    · refine mv_iconst (v := 0) d_Reader_isSign_20 (by decide) ?_
                      refine mv_iret d_Reader_isSign_21 rfl (by decide) ?_
                      refine mv_if_eq_t (tgt := 37) d_Reader_comparisonHere_29 (by decide) (by decide) ?_
                      refine mv_iconst (v := (-1)) d_Reader_comparisonHere_37 (by decide) ?_
                      refine mv_iret d_Reader_comparisonHere_38 rfl (by first | rfl | decide) ?_
                      refine mv_istore_n (lv' := [(2, .int (-1)), (1, .int i1_18), (0, .ref o0)]) d_Reader_term_99 rfl (by decide) rfl ?_
                      refine mv_iload_n d_Reader_term_100 rfl rfl ?_
                      refine mv_iconst (v := (-1)) d_Reader_term_101 (by decide) ?_
                      refine mv_icmp_ne_f (tgt := 111) d_Reader_term_102 (by decide) (by decide) ?_
                      refine mv_aload_n d_Reader_term_105 rfl rfl ?_
                      refine mv_iconst (v := 1) d_Reader_term_106 (by decide) ?_
                      obtain ⟨_, b485, -⟩ := I426.1 _ _ t434
                      refine mv_callV (kc1 := 0) (ks1 := 0) (kc' := 0) (ks' := 0) (As := [.int 1]) (st9 := [.int 1, .ref o0]) d_Reader_term_107 lV_Reader_56 b485 rfl (mj_enter (by decide) (Nat.le_of_ble_eq_true rfl) ?_) rfl (Nat.le_of_ble_eq_true rfl) (Nat.le_of_ble_eq_true rfl) (Nat.le_of_ble_eq_true rfl) (hst := rfl) (fun _ _ _ h => h)
                      refine mv_aload_n d_Reader_refuse_0 rfl rfl ?_
                      refine mv_iload_n d_Reader_refuse_1 rfl rfl ?_
                      refine tr_putK tm_okF I426 t434 (k := 1) rfl ⟨_, rfl⟩ (Or.inl (by decide)) d_Reader_refuse_2 p_Reader_70_9 rfl rfl (fun M486 I487 q488 K489 => ?_)
                      refine mv_aload_n d_Reader_refuse_5 rfl rfl ?_
                      refine mv_aload_n d_Reader_refuse_6 rfl rfl ?_
                      refine tr_getK (k := 11) (K489 _ 9 11 _ rfl q448) d_Reader_refuse_7 f_Reader_175_9 ?_
                      refine tr_putK tm_okF I487 t434 (k := 2) rfl ⟨_, rfl⟩ (Or.inl (by decide)) d_Reader_refuse_10 p_Reader_11_9 rfl rfl (fun M490 I491 q492 K493 => ?_)
                      refine mv_iconst (v := 0) d_Reader_refuse_13 (by decide) ?_
                      obtain ⟨s494, e495⟩ : ∃ s9 : p_S, p_fl pb pn 1 s435 = s9 := ⟨_, rfl⟩
                      have h496 := q_fl e495 (by omega) (by decide)
                      have h497 : (1 : Int32).toInt = s494.1 := (by have e9 : (1 : Int32).toInt = 1 := (by decide); omega)
                      have h498 : Im (s494.1 ≠ 0 → v441.toInt = (s494.2.1 : Int)) := Im.i (fun _ => by have := (Im.o h453) (by omega); omega)
                      have h499 : Im (s494.1 = 0 → v439.toInt = (s494.2.2 : Int) ∧ v440.toInt = p_ki pb pn s494.2.2 ∧ v441.toInt = (p_st pb pn s494.2.2 : Int) ∧ v442.toInt = (p_sp pb pn s494.2.2 : Int) ∧ v443.toInt = p_va pb pn s494.2.2 ∧ v441.toInt = -1) := Im.i (fun z9 => absurd z9 h496.2.2)
                      refine mv_iret d_Reader_refuse_14 rfl (by decide) ?_
                      exact mv_iret d_Reader_term_110 rfl (by decide) ⟨_, I491, _, rfl, by decide, by decide, fun h => absurd h (by decide), (by have := (Im.o h40) (by omega); have := yC.d s19.2.2; have := yC.kn s19.2.2; have := (Im.o h453) (by omega); have := yC.d s435.2.2; have := yC.kn s435.2.2; have hb : s494.1 ≠ 0 := (by omega); have z1 : ∀ c, p_sg pb pn c s494 = s494 := (fun c => p_sg_Z s494 hb); have z2 : ∀ c, p_wd pb pn c s494 = s494 := (fun c => p_wd_Z s494 hb); have z3 : ∀ op, p_sum pb pn pa op s494 = s494 := (fun op => p_sum_Z s494 hb); have z4 : ∀ r oc, p_con pb pn pa r oc s494 = s494 := (fun r oc => p_con_Z s494 hb); have z5 : p_prt pb pn s494 = s494 := p_prt_Z s494 hb; have eT : p_ter pb pn pa (r7 + 1) (p_oc pb pn pa (r7 + 1)) ps = s494 := (by have hop : p_oc pb pn pa (r7 + 1) s19 = p_sg pb pn 93 (p_con pb pn pa r7 (p_oc pb pn pa r7) (p_nx s19)) := rfl; have hX := e23.symm.trans (p_lp_stop (show (p_no1 pb pn) s19 = s19 from if_neg (fun h9 => by omega))); unfold p_ter; rw [hX]; unfold p_te1; unfold p_cmp; (try simp only [hop]); (try simp only [e436, e495, z1, z2, z3, z4, z5]); ((repeat' (first | (with_reducible rfl) | split)) <;> (first | ((try simp only [e436, e495, z1, z2, z3, z4, z5]); done) | (exfalso; omega)))); rw [eT]; exact ⟨⟨_, _, _, _, _, _, _, (K493 _ 9 1 _ rfl q488), q492, (K493 _ 9 9 _ rfl (K489 _ 9 9 _ rfl q446)), (K493 _ 9 10 _ rfl (K489 _ 9 10 _ rfl q447)), (K493 _ 9 11 _ rfl (K489 _ 9 11 _ rfl q448)), (K493 _ 9 12 _ rfl (K489 _ 9 12 _ rfl q449)), (K493 _ 9 13 _ rfl (K489 _ 9 13 _ rfl q450)), h497, Im.o h498, Im.o h499⟩, (Or.inr ⟨by first | decide | omega, by omega⟩)⟩)⟩
                    · refine mv_iconst (v := 1) d_Reader_isSign_16 (by decide) ?_
                      refine mv_goto (tgt := 21) d_Reader_isSign_17 (by decide) ?_
                      refine mv_iret d_Reader_isSign_21 rfl (by decide) ?_
                      refine mv_if_eq_f (tgt := 37) d_Reader_comparisonHere_29 (by decide) (by decide) ?_
                      refine mv_bipush (v := 7) d_Reader_comparisonHere_32 (by decide) ?_
                      refine mv_goto (tgt := 38) d_Reader_comparisonHere_34 (by decide) ?_
                      refine mv_iret d_Reader_comparisonHere_38 rfl (by first | rfl | decide) ?_
                      refine mv_istore_n (lv' := [(2, .int 7), (1, .int i1_18), (0, .ref o0)]) d_Reader_term_99 rfl (by decide) rfl ?_
                      refine mv_iload_n d_Reader_term_100 rfl rfl ?_
                      refine mv_iconst (v := (-1)) d_Reader_term_101 (by decide) ?_
                      refine mv_icmp_ne_t (tgt := 111) d_Reader_term_102 (by decide) (by decide) ?_
                      refine mv_aload_n d_Reader_term_111 rfl rfl ?_
                      obtain ⟨_, b506, -⟩ := I426.1 _ _ t434
                      refine mv_callV (kc' := 0) (ks' := 0) (As := []) (st9 := [.ref o0]) d_Reader_term_112 lV_Reader_82 b506 rfl (tc_Reader_advance_x (d := (d + E + 7)) (x9 := x9) (o0 := o0) t434 (hK I426) (qS.a (show qS M422 o0 pb pn s435 from ⟨_, _, _, _, _, _, _, q444, q445, q446, q447, q448, q449, q450, h451, Im.o h452, Im.o h453⟩)) (by have := (Im.o h40) (by omega); have := yC.d s19.2.2; have := yC.kn s19.2.2; have := (Im.o h453) (by omega); have := yC.d s435.2.2; have := yC.kn s435.2.2; show s435.2.2 + 1 ≤ 401; omega) I426.start) rfl (Nat.le_of_ble_eq_true rfl) (Nat.le_of_ble_eq_true rfl) (Nat.le_of_ble_eq_true rfl) (hst := rfl) (fun b500r M501 n502 b500 => ?_)
                      obtain ⟨T503, J504, rfl, f507⟩ := b500
                      have I505 := I426.call J504 (tm_sub (by decide)) (Or.inl rfl)
                      have t508 := J504.up t434
                      have q509 := J504.keep (I426.up h_o0) (by decide) q444
                      have q510 := J504.keep (I426.up h_o0) (by decide) q445
                      have q511 := J504.keep t434 (by decide) q455
                      obtain ⟨s512, e513⟩ : ∃ s9 : p_S, p_nx s435 = s9 := ⟨_, rfl⟩
                      rw [e513] at f507
                      have : s512.1 = 0 := by rw [← e513]; show s435.1 = 0; omega
                      obtain ⟨v514, v515, v516, v517, v518, v519, v520, q521, q522, q523, q524, q525, q526, q527, h528, h529, h530⟩ := f507
                      replace h529 := Im.i h529
                      replace h530 := Im.i h530
                      refine mv_aload_n d_Reader_term_115 rfl rfl ?_
                      obtain ⟨_, b537, -⟩ := I505.1 _ _ t508
                      refine mv_callV (kc' := 0) (ks' := 0) (As := []) (st9 := [.ref o0]) d_Reader_term_116 lV_Reader_186 b537 rfl (tg_Reader_sum hK9 H_sum H_condition (d := d) (x9 := x9) (o0 := o0) t508 (p := p) q511 (by omega) (by first | omega | decide) (hK I505) ⟨_, _, _, _, _, _, _, q521, q522, q523, q524, q525, q526, q527, h528, Im.o h529, Im.o h530⟩ (by omega) I505.start) rfl (Nat.le_of_ble_eq_true rfl) (Nat.le_of_ble_eq_true rfl) (Nat.le_of_ble_eq_true rfl) (hst := rfl) (fun b531r M532 n533 b531 => ?_)
                      obtain ⟨T534, J535, v538, rfl, b539, b540, o541, f542, f543⟩ := b531
                      have I536 := I505.call J535 (tm_sub (by decide)) (Or.inl rfl)
                      have t544 := J535.up t508
                      obtain ⟨s545, e546⟩ : ∃ s9 : p_S, p_sum pb pn pa (p_op pb pn pa (r7 + 1)) s512 = s9 := ⟨_, rfl⟩
                      rw [e546] at f542 f543
                      obtain ⟨v547, v548, v549, v550, v551, v552, v553, q554, q555, q556, q557, q558, q559, q560, h561, h562, h563⟩ := f542
                      replace h562 := Im.i h562
                      replace h563 := Im.i h563
                      have := mz_hi v538
                      refine mv_if_neZ (tgt := 124) (a := v538.toInt) d_Reader_term_119 (by decide) rfl (fun b564 => ?_) (fun b564 => ?_)
                      · have q565 := o541 (by omega)
                        refine mv_aload_n d_Reader_term_124 rfl rfl ?_
                        refine mv_iload_n d_Reader_term_125 rfl rfl ?_
                        refine mv_iconst (v := 0) d_Reader_term_126 (by decide) ?_
                        obtain ⟨_, b572, -⟩ := I536.1 _ _ t544
                        refine mv_callV (kc' := 0) (ks' := 0) (As := [.int 7, .int 0]) (st9 := [.int 0, .int 7, .ref o0]) d_Reader_term_127 lV_Reader_203 b572 rfl (tc_Reader_emit (d := (d + E + 7)) (x9 := x9) (o0 := o0) (x1 := 7) (x2 := 0) t544 I536.start) rfl (Nat.le_of_ble_eq_true rfl) (Nat.le_of_ble_eq_true rfl) (Nat.le_of_ble_eq_true rfl) (hst := rfl) (fun b566r M567 n568 b566 => ?_)
                        obtain ⟨T569, J570, rfl⟩ := b566
                        have I571 := I536.call J570 (tm_sub (by decide)) (Or.inl rfl)
                        have t573 := J570.up t544
                        have q574 := J570.keep (I536.up h_o0) (by decide) q554
                        have q575 := J570.keep (I536.up h_o0) (by decide) q555
                        have q576 := J570.keep (I536.up h_o0) (by decide) q556
                        have q577 := J570.keep (I536.up h_o0) (by decide) q557
                        have q578 := J570.keep (I536.up h_o0) (by decide) q558
                        have q579 := J570.keep (I536.up h_o0) (by decide) q559
                        have q580 := J570.keep (I536.up h_o0) (by decide) q560
                        have q581 := J570.keep t544 (by decide) q565
                        refine mv_iload_n d_Reader_term_130 rfl rfl ?_
                        have := mz_hi i1_18
                        refine mv_if_eqZ (tgt := 141) (a := i1_18.toInt) d_Reader_term_131 (by decide) rfl (fun b582 => ?_) (fun b582 => ?_)
                        · refine mv_iconst (v := 1) d_Reader_term_141 (by decide) ?_
                          exact mv_iret d_Reader_term_142 rfl (by decide) ⟨_, I571, _, rfl, by decide, by decide, fun _ => q581, (by have := (Im.o h40) (by omega); have := yC.d s19.2.2; have := yC.kn s19.2.2; have := (Im.o h453) (by omega); have := yC.d s435.2.2; have := yC.kn s435.2.2; have eT : p_ter pb pn pa (r7 + 1) (p_oc pb pn pa (r7 + 1)) ps = s545 := (by have hop : p_oc pb pn pa (r7 + 1) s19 = p_sg pb pn 93 (p_con pb pn pa r7 (p_oc pb pn pa r7) (p_nx s19)) := rfl; have hX := e23.symm.trans (p_lp_stop (show (p_no1 pb pn) s19 = s19 from if_neg (fun h9 => by omega))); unfold p_ter; rw [hX]; unfold p_te1; unfold p_cmp; (try simp only [hop]); (try simp only [e436, e513, e546]); ((repeat' (first | (with_reducible rfl) | split)) <;> (first | ((try simp only [e436, e513, e546]); done) | (exfalso; omega)))); rw [eT]; exact ⟨⟨_, _, _, _, _, _, _, q574, q575, q576, q577, q578, q579, q580, h561, Im.o h562, Im.o h563⟩, (Or.inl ⟨by first | decide | omega, by omega⟩)⟩)⟩
                        · refine mv_aload_n d_Reader_term_134 rfl rfl ?_
                          refine mv_bipush (v := 8) d_Reader_term_135 (by decide) ?_
                          refine mv_iconst (v := 0) d_Reader_term_137 (by decide) ?_
                          obtain ⟨_, b589, -⟩ := I571.1 _ _ t573
                          refine mv_callV (kc' := 0) (ks' := 0) (As := [.int 8, .int 0]) (st9 := [.int 0, .int 8, .ref o0]) d_Reader_term_138 lV_Reader_203 b589 rfl (tc_Reader_emit (d := (d + E + 7)) (x9 := x9) (o0 := o0) (x1 := 8) (x2 := 0) t573 I571.start) rfl (Nat.le_of_ble_eq_true rfl) (Nat.le_of_ble_eq_true rfl) (Nat.le_of_ble_eq_true rfl) (hst := rfl) (fun b583r M584 n585 b583 => ?_)
                          obtain ⟨T586, J587, rfl⟩ := b583
                          have I588 := I571.call J587 (tm_sub (by decide)) (Or.inl rfl)
                          have t590 := J587.up t573
                          have q591 := J587.keep t573 (by decide) q574
                          have q592 := J587.keep t573 (by decide) q575
                          have q593 := J587.keep t573 (by decide) q576
                          have q594 := J587.keep t573 (by decide) q577
                          have q595 := J587.keep t573 (by decide) q578
                          have q596 := J587.keep t573 (by decide) q579
                          have q597 := J587.keep t573 (by decide) q580
                          have q598 := J587.keep t573 (by decide) q581
                          refine mv_iconst (v := 1) d_Reader_term_141 (by decide) ?_
                          exact mv_iret d_Reader_term_142 rfl (by decide) ⟨_, I588, _, rfl, by decide, by decide, fun _ => q598, (by have := (Im.o h40) (by omega); have := yC.d s19.2.2; have := yC.kn s19.2.2; have := (Im.o h453) (by omega); have := yC.d s435.2.2; have := yC.kn s435.2.2; have eT : p_ter pb pn pa (r7 + 1) (p_oc pb pn pa (r7 + 1)) ps = s545 := (by have hop : p_oc pb pn pa (r7 + 1) s19 = p_sg pb pn 93 (p_con pb pn pa r7 (p_oc pb pn pa r7) (p_nx s19)) := rfl; have hX := e23.symm.trans (p_lp_stop (show (p_no1 pb pn) s19 = s19 from if_neg (fun h9 => by omega))); unfold p_ter; rw [hX]; unfold p_te1; unfold p_cmp; (try simp only [hop]); (try simp only [e436, e513, e546]); ((repeat' (first | (with_reducible rfl) | split)) <;> (first | ((try simp only [e436, e513, e546]); done) | (exfalso; omega)))); rw [eT]; exact ⟨⟨_, _, _, _, _, _, _, q591, q592, q593, q594, q595, q596, q597, h561, Im.o h562, Im.o h563⟩, (Or.inl ⟨by first | decide | omega, by omega⟩)⟩)⟩
                      · refine mv_iconst (v := 0) d_Reader_term_122 (by decide) ?_
                        exact mv_iret d_Reader_term_123 rfl (by decide) ⟨_, I536, _, rfl, by decide, by decide, fun h => absurd h (by decide), (by have := (Im.o h40) (by omega); have := yC.d s19.2.2; have := yC.kn s19.2.2; have := (Im.o h453) (by omega); have := yC.d s435.2.2; have := yC.kn s435.2.2; have hb : s545.1 ≠ 0 := (by omega); have z1 : ∀ c, p_sg pb pn c s545 = s545 := (fun c => p_sg_Z s545 hb); have z2 : ∀ c, p_wd pb pn c s545 = s545 := (fun c => p_wd_Z s545 hb); have z3 : ∀ op, p_sum pb pn pa op s545 = s545 := (fun op => p_sum_Z s545 hb); have z4 : ∀ r oc, p_con pb pn pa r oc s545 = s545 := (fun r oc => p_con_Z s545 hb); have z5 : p_prt pb pn s545 = s545 := p_prt_Z s545 hb; have eT : p_ter pb pn pa (r7 + 1) (p_oc pb pn pa (r7 + 1)) ps = s545 := (by have hop : p_oc pb pn pa (r7 + 1) s19 = p_sg pb pn 93 (p_con pb pn pa r7 (p_oc pb pn pa r7) (p_nx s19)) := rfl; have hX := e23.symm.trans (p_lp_stop (show (p_no1 pb pn) s19 = s19 from if_neg (fun h9 => by omega))); unfold p_ter; rw [hX]; unfold p_te1; unfold p_cmp; (try simp only [hop]); (try simp only [e436, e513, e546, z1, z2, z3, z4, z5]); ((repeat' (first | (with_reducible rfl) | split)) <;> (first | ((try simp only [e436, e513, e546, z1, z2, z3, z4, z5]); done) | (exfalso; omega)))); rw [eT]; exact ⟨⟨_, _, _, _, _, _, _, q554, q555, q556, q557, q558, q559, q560, h561, Im.o h562, Im.o h563⟩, (Or.inr ⟨by first | decide | omega, by omega⟩)⟩)⟩
                  · refine mv_iconst (v := 1) d_Reader_isSign_16 (by decide) ?_
                    refine mv_goto (tgt := 21) d_Reader_isSign_17 (by decide) ?_
                    refine mv_iret d_Reader_isSign_21 rfl (by decide) ?_
                    refine mv_if_eq_f (tgt := 23) d_Reader_comparisonHere_17 (by decide) (by decide) ?_
                    refine mv_bipush (v := 6) d_Reader_comparisonHere_20 (by decide) ?_
                    refine mv_iret d_Reader_comparisonHere_22 rfl (by first | rfl | decide) ?_
                    refine mv_istore_n (lv' := [(2, .int 6), (1, .int i1_18), (0, .ref o0)]) d_Reader_term_99 rfl (by decide) rfl ?_
                    refine mv_iload_n d_Reader_term_100 rfl rfl ?_
                    refine mv_iconst (v := (-1)) d_Reader_term_101 (by decide) ?_
                    refine mv_icmp_ne_t (tgt := 111) d_Reader_term_102 (by decide) (by decide) ?_
                    refine mv_aload_n d_Reader_term_111 rfl rfl ?_
                    obtain ⟨_, b605, -⟩ := I426.1 _ _ t434
                    refine mv_callV (kc' := 0) (ks' := 0) (As := []) (st9 := [.ref o0]) d_Reader_term_112 lV_Reader_82 b605 rfl (tc_Reader_advance_x (d := (d + E + 7)) (x9 := x9) (o0 := o0) t434 (hK I426) (qS.a (show qS M422 o0 pb pn s435 from ⟨_, _, _, _, _, _, _, q444, q445, q446, q447, q448, q449, q450, h451, Im.o h452, Im.o h453⟩)) (by have := (Im.o h40) (by omega); have := yC.d s19.2.2; have := yC.kn s19.2.2; have := (Im.o h453) (by omega); have := yC.d s435.2.2; have := yC.kn s435.2.2; show s435.2.2 + 1 ≤ 401; omega) I426.start) rfl (Nat.le_of_ble_eq_true rfl) (Nat.le_of_ble_eq_true rfl) (Nat.le_of_ble_eq_true rfl) (hst := rfl) (fun b599r M600 n601 b599 => ?_)
                    obtain ⟨T602, J603, rfl, f606⟩ := b599
                    have I604 := I426.call J603 (tm_sub (by decide)) (Or.inl rfl)
                    have t607 := J603.up t434
                    have q608 := J603.keep (I426.up h_o0) (by decide) q444
                    have q609 := J603.keep (I426.up h_o0) (by decide) q445
                    have q610 := J603.keep t434 (by decide) q455
                    obtain ⟨s611, e612⟩ : ∃ s9 : p_S, p_nx s435 = s9 := ⟨_, rfl⟩
                    rw [e612] at f606
                    have : s611.1 = 0 := by rw [← e612]; show s435.1 = 0; omega
                    obtain ⟨v613, v614, v615, v616, v617, v618, v619, q620, q621, q622, q623, q624, q625, q626, h627, h628, h629⟩ := f606
                    replace h628 := Im.i h628
                    replace h629 := Im.i h629
                    refine mv_aload_n d_Reader_term_115 rfl rfl ?_
                    obtain ⟨_, b636, -⟩ := I604.1 _ _ t607
                    refine mv_callV (kc' := 0) (ks' := 0) (As := []) (st9 := [.ref o0]) d_Reader_term_116 lV_Reader_186 b636 rfl (tg_Reader_sum hK9 H_sum H_condition (d := d) (x9 := x9) (o0 := o0) t607 (p := p) q610 (by omega) (by first | omega | decide) (hK I604) ⟨_, _, _, _, _, _, _, q620, q621, q622, q623, q624, q625, q626, h627, Im.o h628, Im.o h629⟩ (by omega) I604.start) rfl (Nat.le_of_ble_eq_true rfl) (Nat.le_of_ble_eq_true rfl) (Nat.le_of_ble_eq_true rfl) (hst := rfl) (fun b630r M631 n632 b630 => ?_)
                    obtain ⟨T633, J634, v637, rfl, b638, b639, o640, f641, f642⟩ := b630
                    have I635 := I604.call J634 (tm_sub (by decide)) (Or.inl rfl)
                    have t643 := J634.up t607
                    obtain ⟨s644, e645⟩ : ∃ s9 : p_S, p_sum pb pn pa (p_op pb pn pa (r7 + 1)) s611 = s9 := ⟨_, rfl⟩
                    rw [e645] at f641 f642
                    obtain ⟨v646, v647, v648, v649, v650, v651, v652, q653, q654, q655, q656, q657, q658, q659, h660, h661, h662⟩ := f641
                    replace h661 := Im.i h661
                    replace h662 := Im.i h662
                    have := mz_hi v637
                    refine mv_if_neZ (tgt := 124) (a := v637.toInt) d_Reader_term_119 (by decide) rfl (fun b663 => ?_) (fun b663 => ?_)
                    · have q664 := o640 (by omega)
                      refine mv_aload_n d_Reader_term_124 rfl rfl ?_
                      refine mv_iload_n d_Reader_term_125 rfl rfl ?_
                      refine mv_iconst (v := 0) d_Reader_term_126 (by decide) ?_
                      obtain ⟨_, b671, -⟩ := I635.1 _ _ t643
                      refine mv_callV (kc' := 0) (ks' := 0) (As := [.int 6, .int 0]) (st9 := [.int 0, .int 6, .ref o0]) d_Reader_term_127 lV_Reader_203 b671 rfl (tc_Reader_emit (d := (d + E + 7)) (x9 := x9) (o0 := o0) (x1 := 6) (x2 := 0) t643 I635.start) rfl (Nat.le_of_ble_eq_true rfl) (Nat.le_of_ble_eq_true rfl) (Nat.le_of_ble_eq_true rfl) (hst := rfl) (fun b665r M666 n667 b665 => ?_)
                      obtain ⟨T668, J669, rfl⟩ := b665
                      have I670 := I635.call J669 (tm_sub (by decide)) (Or.inl rfl)
                      have t672 := J669.up t643
                      have q673 := J669.keep (I635.up h_o0) (by decide) q653
                      have q674 := J669.keep (I635.up h_o0) (by decide) q654
                      have q675 := J669.keep (I635.up h_o0) (by decide) q655
                      have q676 := J669.keep (I635.up h_o0) (by decide) q656
                      have q677 := J669.keep (I635.up h_o0) (by decide) q657
                      have q678 := J669.keep (I635.up h_o0) (by decide) q658
                      have q679 := J669.keep (I635.up h_o0) (by decide) q659
                      have q680 := J669.keep t643 (by decide) q664
                      refine mv_iload_n d_Reader_term_130 rfl rfl ?_
                      have := mz_hi i1_18
                      refine mv_if_eqZ (tgt := 141) (a := i1_18.toInt) d_Reader_term_131 (by decide) rfl (fun b681 => ?_) (fun b681 => ?_)
                      · refine mv_iconst (v := 1) d_Reader_term_141 (by decide) ?_
                        exact mv_iret d_Reader_term_142 rfl (by decide) ⟨_, I670, _, rfl, by decide, by decide, fun _ => q680, (by have := (Im.o h40) (by omega); have := yC.d s19.2.2; have := yC.kn s19.2.2; have := (Im.o h453) (by omega); have := yC.d s435.2.2; have := yC.kn s435.2.2; have eT : p_ter pb pn pa (r7 + 1) (p_oc pb pn pa (r7 + 1)) ps = s644 := (by have hop : p_oc pb pn pa (r7 + 1) s19 = p_sg pb pn 93 (p_con pb pn pa r7 (p_oc pb pn pa r7) (p_nx s19)) := rfl; have hX := e23.symm.trans (p_lp_stop (show (p_no1 pb pn) s19 = s19 from if_neg (fun h9 => by omega))); unfold p_ter; rw [hX]; unfold p_te1; unfold p_cmp; (try simp only [hop]); (try simp only [e436, e612, e645]); ((repeat' (first | (with_reducible rfl) | split)) <;> (first | ((try simp only [e436, e612, e645]); done) | (exfalso; omega)))); rw [eT]; exact ⟨⟨_, _, _, _, _, _, _, q673, q674, q675, q676, q677, q678, q679, h660, Im.o h661, Im.o h662⟩, (Or.inl ⟨by first | decide | omega, by omega⟩)⟩)⟩
                      · refine mv_aload_n d_Reader_term_134 rfl rfl ?_
                        refine mv_bipush (v := 8) d_Reader_term_135 (by decide) ?_
                        refine mv_iconst (v := 0) d_Reader_term_137 (by decide) ?_
                        obtain ⟨_, b688, -⟩ := I670.1 _ _ t672
                        refine mv_callV (kc' := 0) (ks' := 0) (As := [.int 8, .int 0]) (st9 := [.int 0, .int 8, .ref o0]) d_Reader_term_138 lV_Reader_203 b688 rfl (tc_Reader_emit (d := (d + E + 7)) (x9 := x9) (o0 := o0) (x1 := 8) (x2 := 0) t672 I670.start) rfl (Nat.le_of_ble_eq_true rfl) (Nat.le_of_ble_eq_true rfl) (Nat.le_of_ble_eq_true rfl) (hst := rfl) (fun b682r M683 n684 b682 => ?_)
                        obtain ⟨T685, J686, rfl⟩ := b682
                        have I687 := I670.call J686 (tm_sub (by decide)) (Or.inl rfl)
                        have t689 := J686.up t672
                        have q690 := J686.keep t672 (by decide) q673
                        have q691 := J686.keep t672 (by decide) q674
                        have q692 := J686.keep t672 (by decide) q675
                        have q693 := J686.keep t672 (by decide) q676
                        have q694 := J686.keep t672 (by decide) q677
                        have q695 := J686.keep t672 (by decide) q678
                        have q696 := J686.keep t672 (by decide) q679
                        have q697 := J686.keep t672 (by decide) q680
                        refine mv_iconst (v := 1) d_Reader_term_141 (by decide) ?_
                        exact mv_iret d_Reader_term_142 rfl (by decide) ⟨_, I687, _, rfl, by decide, by decide, fun _ => q697, (by have := (Im.o h40) (by omega); have := yC.d s19.2.2; have := yC.kn s19.2.2; have := (Im.o h453) (by omega); have := yC.d s435.2.2; have := yC.kn s435.2.2; have eT : p_ter pb pn pa (r7 + 1) (p_oc pb pn pa (r7 + 1)) ps = s644 := (by have hop : p_oc pb pn pa (r7 + 1) s19 = p_sg pb pn 93 (p_con pb pn pa r7 (p_oc pb pn pa r7) (p_nx s19)) := rfl; have hX := e23.symm.trans (p_lp_stop (show (p_no1 pb pn) s19 = s19 from if_neg (fun h9 => by omega))); unfold p_ter; rw [hX]; unfold p_te1; unfold p_cmp; (try simp only [hop]); (try simp only [e436, e612, e645]); ((repeat' (first | (with_reducible rfl) | split)) <;> (first | ((try simp only [e436, e612, e645]); done) | (exfalso; omega)))); rw [eT]; exact ⟨⟨_, _, _, _, _, _, _, q690, q691, q692, q693, q694, q695, q696, h660, Im.o h661, Im.o h662⟩, (Or.inl ⟨by first | decide | omega, by omega⟩)⟩)⟩
                    · refine mv_iconst (v := 0) d_Reader_term_122 (by decide) ?_
                      exact mv_iret d_Reader_term_123 rfl (by decide) ⟨_, I635, _, rfl, by decide, by decide, fun h => absurd h (by decide), (by have := (Im.o h40) (by omega); have := yC.d s19.2.2; have := yC.kn s19.2.2; have := (Im.o h453) (by omega); have := yC.d s435.2.2; have := yC.kn s435.2.2; have hb : s644.1 ≠ 0 := (by omega); have z1 : ∀ c, p_sg pb pn c s644 = s644 := (fun c => p_sg_Z s644 hb); have z2 : ∀ c, p_wd pb pn c s644 = s644 := (fun c => p_wd_Z s644 hb); have z3 : ∀ op, p_sum pb pn pa op s644 = s644 := (fun op => p_sum_Z s644 hb); have z4 : ∀ r oc, p_con pb pn pa r oc s644 = s644 := (fun r oc => p_con_Z s644 hb); have z5 : p_prt pb pn s644 = s644 := p_prt_Z s644 hb; have eT : p_ter pb pn pa (r7 + 1) (p_oc pb pn pa (r7 + 1)) ps = s644 := (by have hop : p_oc pb pn pa (r7 + 1) s19 = p_sg pb pn 93 (p_con pb pn pa r7 (p_oc pb pn pa r7) (p_nx s19)) := rfl; have hX := e23.symm.trans (p_lp_stop (show (p_no1 pb pn) s19 = s19 from if_neg (fun h9 => by omega))); unfold p_ter; rw [hX]; unfold p_te1; unfold p_cmp; (try simp only [hop]); (try simp only [e436, e612, e645, z1, z2, z3, z4, z5]); ((repeat' (first | (with_reducible rfl) | split)) <;> (first | ((try simp only [e436, e612, e645, z1, z2, z3, z4, z5]); done) | (exfalso; omega)))); rw [eT]; exact ⟨⟨_, _, _, _, _, _, _, q653, q654, q655, q656, q657, q658, q659, h660, Im.o h661, Im.o h662⟩, (Or.inr ⟨by first | decide | omega, by omega⟩)⟩)⟩
                · refine mv_iconst (v := 1) d_Reader_isSign_16 (by decide) ?_
                  refine mv_goto (tgt := 21) d_Reader_isSign_17 (by decide) ?_
                  refine mv_iret d_Reader_isSign_21 rfl (by decide) ?_
                  refine mv_if_eq_f (tgt := 11) d_Reader_comparisonHere_6 (by decide) (by decide) ?_
                  refine mv_iconst (v := 5) d_Reader_comparisonHere_9 (by decide) ?_
                  refine mv_iret d_Reader_comparisonHere_10 rfl (by first | rfl | decide) ?_
                  refine mv_istore_n (lv' := [(2, .int 5), (1, .int i1_18), (0, .ref o0)]) d_Reader_term_99 rfl (by decide) rfl ?_
                  refine mv_iload_n d_Reader_term_100 rfl rfl ?_
                  refine mv_iconst (v := (-1)) d_Reader_term_101 (by decide) ?_
                  refine mv_icmp_ne_t (tgt := 111) d_Reader_term_102 (by decide) (by decide) ?_
                  refine mv_aload_n d_Reader_term_111 rfl rfl ?_
                  obtain ⟨_, b704, -⟩ := I426.1 _ _ t434
                  refine mv_callV (kc' := 0) (ks' := 0) (As := []) (st9 := [.ref o0]) d_Reader_term_112 lV_Reader_82 b704 rfl (tc_Reader_advance_x (d := (d + E + 7)) (x9 := x9) (o0 := o0) t434 (hK I426) (qS.a (show qS M422 o0 pb pn s435 from ⟨_, _, _, _, _, _, _, q444, q445, q446, q447, q448, q449, q450, h451, Im.o h452, Im.o h453⟩)) (by have := (Im.o h40) (by omega); have := yC.d s19.2.2; have := yC.kn s19.2.2; have := (Im.o h453) (by omega); have := yC.d s435.2.2; have := yC.kn s435.2.2; show s435.2.2 + 1 ≤ 401; omega) I426.start) rfl (Nat.le_of_ble_eq_true rfl) (Nat.le_of_ble_eq_true rfl) (Nat.le_of_ble_eq_true rfl) (hst := rfl) (fun b698r M699 n700 b698 => ?_)
                  obtain ⟨T701, J702, rfl, f705⟩ := b698
                  have I703 := I426.call J702 (tm_sub (by decide)) (Or.inl rfl)
                  have t706 := J702.up t434
                  have q707 := J702.keep (I426.up h_o0) (by decide) q444
                  have q708 := J702.keep (I426.up h_o0) (by decide) q445
                  have q709 := J702.keep t434 (by decide) q455
                  obtain ⟨s710, e711⟩ : ∃ s9 : p_S, p_nx s435 = s9 := ⟨_, rfl⟩
                  rw [e711] at f705
                  have : s710.1 = 0 := by rw [← e711]; show s435.1 = 0; omega
                  obtain ⟨v712, v713, v714, v715, v716, v717, v718, q719, q720, q721, q722, q723, q724, q725, h726, h727, h728⟩ := f705
                  replace h727 := Im.i h727
                  replace h728 := Im.i h728
                  refine mv_aload_n d_Reader_term_115 rfl rfl ?_
                  obtain ⟨_, b735, -⟩ := I703.1 _ _ t706
                  refine mv_callV (kc' := 0) (ks' := 0) (As := []) (st9 := [.ref o0]) d_Reader_term_116 lV_Reader_186 b735 rfl (tg_Reader_sum hK9 H_sum H_condition (d := d) (x9 := x9) (o0 := o0) t706 (p := p) q709 (by omega) (by first | omega | decide) (hK I703) ⟨_, _, _, _, _, _, _, q719, q720, q721, q722, q723, q724, q725, h726, Im.o h727, Im.o h728⟩ (by omega) I703.start) rfl (Nat.le_of_ble_eq_true rfl) (Nat.le_of_ble_eq_true rfl) (Nat.le_of_ble_eq_true rfl) (hst := rfl) (fun b729r M730 n731 b729 => ?_)
                  obtain ⟨T732, J733, v736, rfl, b737, b738, o739, f740, f741⟩ := b729
                  have I734 := I703.call J733 (tm_sub (by decide)) (Or.inl rfl)
                  have t742 := J733.up t706
                  obtain ⟨s743, e744⟩ : ∃ s9 : p_S, p_sum pb pn pa (p_op pb pn pa (r7 + 1)) s710 = s9 := ⟨_, rfl⟩
                  rw [e744] at f740 f741
                  obtain ⟨v745, v746, v747, v748, v749, v750, v751, q752, q753, q754, q755, q756, q757, q758, h759, h760, h761⟩ := f740
                  replace h760 := Im.i h760
                  replace h761 := Im.i h761
                  have := mz_hi v736
                  refine mv_if_neZ (tgt := 124) (a := v736.toInt) d_Reader_term_119 (by decide) rfl (fun b762 => ?_) (fun b762 => ?_)
                  · have q763 := o739 (by omega)
                    refine mv_aload_n d_Reader_term_124 rfl rfl ?_
                    refine mv_iload_n d_Reader_term_125 rfl rfl ?_
                    refine mv_iconst (v := 0) d_Reader_term_126 (by decide) ?_
                    obtain ⟨_, b770, -⟩ := I734.1 _ _ t742
                    refine mv_callV (kc' := 0) (ks' := 0) (As := [.int 5, .int 0]) (st9 := [.int 0, .int 5, .ref o0]) d_Reader_term_127 lV_Reader_203 b770 rfl (tc_Reader_emit (d := (d + E + 7)) (x9 := x9) (o0 := o0) (x1 := 5) (x2 := 0) t742 I734.start) rfl (Nat.le_of_ble_eq_true rfl) (Nat.le_of_ble_eq_true rfl) (Nat.le_of_ble_eq_true rfl) (hst := rfl) (fun b764r M765 n766 b764 => ?_)
                    obtain ⟨T767, J768, rfl⟩ := b764
                    have I769 := I734.call J768 (tm_sub (by decide)) (Or.inl rfl)
                    have t771 := J768.up t742
                    have q772 := J768.keep (I734.up h_o0) (by decide) q752
                    have q773 := J768.keep (I734.up h_o0) (by decide) q753
                    have q774 := J768.keep (I734.up h_o0) (by decide) q754
                    have q775 := J768.keep (I734.up h_o0) (by decide) q755
                    have q776 := J768.keep (I734.up h_o0) (by decide) q756
                    have q777 := J768.keep (I734.up h_o0) (by decide) q757
                    have q778 := J768.keep (I734.up h_o0) (by decide) q758
                    have q779 := J768.keep t742 (by decide) q763
                    refine mv_iload_n d_Reader_term_130 rfl rfl ?_
                    have := mz_hi i1_18
                    refine mv_if_eqZ (tgt := 141) (a := i1_18.toInt) d_Reader_term_131 (by decide) rfl (fun b780 => ?_) (fun b780 => ?_)
                    · refine mv_iconst (v := 1) d_Reader_term_141 (by decide) ?_
                      exact mv_iret d_Reader_term_142 rfl (by decide) ⟨_, I769, _, rfl, by decide, by decide, fun _ => q779, (by have := (Im.o h40) (by omega); have := yC.d s19.2.2; have := yC.kn s19.2.2; have := (Im.o h453) (by omega); have := yC.d s435.2.2; have := yC.kn s435.2.2; have eT : p_ter pb pn pa (r7 + 1) (p_oc pb pn pa (r7 + 1)) ps = s743 := (by have hop : p_oc pb pn pa (r7 + 1) s19 = p_sg pb pn 93 (p_con pb pn pa r7 (p_oc pb pn pa r7) (p_nx s19)) := rfl; have hX := e23.symm.trans (p_lp_stop (show (p_no1 pb pn) s19 = s19 from if_neg (fun h9 => by omega))); unfold p_ter; rw [hX]; unfold p_te1; unfold p_cmp; (try simp only [hop]); (try simp only [e436, e711, e744]); ((repeat' (first | (with_reducible rfl) | split)) <;> (first | ((try simp only [e436, e711, e744]); done) | (exfalso; omega)))); rw [eT]; exact ⟨⟨_, _, _, _, _, _, _, q772, q773, q774, q775, q776, q777, q778, h759, Im.o h760, Im.o h761⟩, (Or.inl ⟨by first | decide | omega, by omega⟩)⟩)⟩
                    · refine mv_aload_n d_Reader_term_134 rfl rfl ?_
                      refine mv_bipush (v := 8) d_Reader_term_135 (by decide) ?_
                      refine mv_iconst (v := 0) d_Reader_term_137 (by decide) ?_
                      obtain ⟨_, b787, -⟩ := I769.1 _ _ t771
                      refine mv_callV (kc' := 0) (ks' := 0) (As := [.int 8, .int 0]) (st9 := [.int 0, .int 8, .ref o0]) d_Reader_term_138 lV_Reader_203 b787 rfl (tc_Reader_emit (d := (d + E + 7)) (x9 := x9) (o0 := o0) (x1 := 8) (x2 := 0) t771 I769.start) rfl (Nat.le_of_ble_eq_true rfl) (Nat.le_of_ble_eq_true rfl) (Nat.le_of_ble_eq_true rfl) (hst := rfl) (fun b781r M782 n783 b781 => ?_)
                      obtain ⟨T784, J785, rfl⟩ := b781
                      have I786 := I769.call J785 (tm_sub (by decide)) (Or.inl rfl)
                      have t788 := J785.up t771
                      have q789 := J785.keep t771 (by decide) q772
                      have q790 := J785.keep t771 (by decide) q773
                      have q791 := J785.keep t771 (by decide) q774
                      have q792 := J785.keep t771 (by decide) q775
                      have q793 := J785.keep t771 (by decide) q776
                      have q794 := J785.keep t771 (by decide) q777
                      have q795 := J785.keep t771 (by decide) q778
                      have q796 := J785.keep t771 (by decide) q779
                      refine mv_iconst (v := 1) d_Reader_term_141 (by decide) ?_
                      exact mv_iret d_Reader_term_142 rfl (by decide) ⟨_, I786, _, rfl, by decide, by decide, fun _ => q796, (by have := (Im.o h40) (by omega); have := yC.d s19.2.2; have := yC.kn s19.2.2; have := (Im.o h453) (by omega); have := yC.d s435.2.2; have := yC.kn s435.2.2; have eT : p_ter pb pn pa (r7 + 1) (p_oc pb pn pa (r7 + 1)) ps = s743 := (by have hop : p_oc pb pn pa (r7 + 1) s19 = p_sg pb pn 93 (p_con pb pn pa r7 (p_oc pb pn pa r7) (p_nx s19)) := rfl; have hX := e23.symm.trans (p_lp_stop (show (p_no1 pb pn) s19 = s19 from if_neg (fun h9 => by omega))); unfold p_ter; rw [hX]; unfold p_te1; unfold p_cmp; (try simp only [hop]); (try simp only [e436, e711, e744]); ((repeat' (first | (with_reducible rfl) | split)) <;> (first | ((try simp only [e436, e711, e744]); done) | (exfalso; omega)))); rw [eT]; exact ⟨⟨_, _, _, _, _, _, _, q789, q790, q791, q792, q793, q794, q795, h759, Im.o h760, Im.o h761⟩, (Or.inl ⟨by first | decide | omega, by omega⟩)⟩)⟩
                  · refine mv_iconst (v := 0) d_Reader_term_122 (by decide) ?_
                    exact mv_iret d_Reader_term_123 rfl (by decide) ⟨_, I734, _, rfl, by decide, by decide, fun h => absurd h (by decide), (by have := (Im.o h40) (by omega); have := yC.d s19.2.2; have := yC.kn s19.2.2; have := (Im.o h453) (by omega); have := yC.d s435.2.2; have := yC.kn s435.2.2; have hb : s743.1 ≠ 0 := (by omega); have z1 : ∀ c, p_sg pb pn c s743 = s743 := (fun c => p_sg_Z s743 hb); have z2 : ∀ c, p_wd pb pn c s743 = s743 := (fun c => p_wd_Z s743 hb); have z3 : ∀ op, p_sum pb pn pa op s743 = s743 := (fun op => p_sum_Z s743 hb); have z4 : ∀ r oc, p_con pb pn pa r oc s743 = s743 := (fun r oc => p_con_Z s743 hb); have z5 : p_prt pb pn s743 = s743 := p_prt_Z s743 hb; have eT : p_ter pb pn pa (r7 + 1) (p_oc pb pn pa (r7 + 1)) ps = s743 := (by have hop : p_oc pb pn pa (r7 + 1) s19 = p_sg pb pn 93 (p_con pb pn pa r7 (p_oc pb pn pa r7) (p_nx s19)) := rfl; have hX := e23.symm.trans (p_lp_stop (show (p_no1 pb pn) s19 = s19 from if_neg (fun h9 => by omega))); unfold p_ter; rw [hX]; unfold p_te1; unfold p_cmp; (try simp only [hop]); (try simp only [e436, e711, e744, z1, z2, z3, z4, z5]); ((repeat' (first | (with_reducible rfl) | split)) <;> (first | ((try simp only [e436, e711, e744, z1, z2, z3, z4, z5]); done) | (exfalso; omega)))); rw [eT]; exact ⟨⟨_, _, _, _, _, _, _, q752, q753, q754, q755, q756, q757, q758, h759, Im.o h760, Im.o h761⟩, (Or.inr ⟨by first | decide | omega, by omega⟩)⟩)⟩
            · refine mv_iconst (v := 0) d_Reader_term_93 (by decide) ?_
              exact mv_iret d_Reader_term_94 rfl (by decide) ⟨_, I426, _, rfl, by decide, by decide, fun h => absurd h (by decide), (by have := (Im.o h40) (by omega); have := yC.d s19.2.2; have := yC.kn s19.2.2; have hb : s435.1 ≠ 0 := (by omega); have z1 : ∀ c, p_sg pb pn c s435 = s435 := (fun c => p_sg_Z s435 hb); have z2 : ∀ c, p_wd pb pn c s435 = s435 := (fun c => p_wd_Z s435 hb); have z3 : ∀ op, p_sum pb pn pa op s435 = s435 := (fun op => p_sum_Z s435 hb); have z4 : ∀ r oc, p_con pb pn pa r oc s435 = s435 := (fun r oc => p_con_Z s435 hb); have z5 : p_prt pb pn s435 = s435 := p_prt_Z s435 hb; have eT : p_ter pb pn pa (r7 + 1) (p_oc pb pn pa (r7 + 1)) ps = s435 := (by have hop : p_oc pb pn pa (r7 + 1) s19 = p_sg pb pn 93 (p_con pb pn pa r7 (p_oc pb pn pa r7) (p_nx s19)) := rfl; have hX := e23.symm.trans (p_lp_stop (show (p_no1 pb pn) s19 = s19 from if_neg (fun h9 => by omega))); unfold p_ter; rw [hX]; unfold p_te1; unfold p_cmp; (try simp only [hop]); (try simp only [e436, z1, z2, z3, z4, z5]); ((repeat' (first | (with_reducible rfl) | split)) <;> (first | ((try simp only [e436, z1, z2, z3, z4, z5]); done) | (exfalso; omega)))); rw [eT]; exact ⟨⟨_, _, _, _, _, _, _, q444, q445, q446, q447, q448, q449, q450, h451, Im.o h452, Im.o h453⟩, (Or.inr ⟨by first | decide | omega, by omega⟩)⟩)⟩
          · refine mv_iconst (v := 1) d_Reader_isSign_16 (by decide) ?_
            refine mv_goto (tgt := 21) d_Reader_isSign_17 (by decide) ?_
            refine mv_iret d_Reader_isSign_21 rfl (by decide) ?_
            refine mv_if_eq_f (tgt := 86) d_Reader_term_46 (by decide) (by decide) ?_
            refine mv_aload_n d_Reader_term_49 rfl rfl ?_
            obtain ⟨_, b803, -⟩ := I_18.1 _ _ h_q0_18
            refine mv_callV (kc' := 0) (ks' := 0) (As := []) (st9 := [.ref o0]) d_Reader_term_50 lV_Reader_212 b803 rfl (tg_Reader_openBracket hK9 H_sum H_condition (d := (d + E + 6)) (x9 := x9) (o0 := o0) h_q0_18 (p := p) kp0_18 (by omega) (by first | omega | decide) (hK I_18) ⟨_, _, _, _, _, _, _, q31, q32, q33, q34, q35, q36, q37, h38, Im.o h39, Im.o h40⟩ (by omega) (by have := (Im.o h40) (by omega); have := yC.d s19.2.2; have := yC.kn s19.2.2; show p_ki pb pn s19.2.2 ≠ 0; omega) I_18.start) rfl (Nat.le_of_ble_eq_true rfl) (Nat.le_of_ble_eq_true rfl) (Nat.le_of_ble_eq_true rfl) (hst := rfl) (fun b797r M798 n799 b797 => ?_)
            obtain ⟨T800, J801, v804, rfl, b805, b806, o807, f808, f809⟩ := b797
            have I802 := I_18.call J801 (tm_sub (by decide)) (Or.inl rfl)
            have t810 := J801.up h_q0_18
            obtain ⟨s811, e812⟩ : ∃ s9 : p_S, p_nx s19 = s9 := ⟨_, rfl⟩
            rw [e812] at f808 f809
            have : s811.1 = 0 := by rw [← e812]; show s19.1 = 0; omega
            obtain ⟨v813, v814, v815, v816, v817, v818, v819, q820, q821, q822, q823, q824, q825, q826, h827, h828, h829⟩ := f808
            replace h828 := Im.i h828
            replace h829 := Im.i h829
            have := mz_hi v804
            refine mv_if_eqZ (tgt := 63) (a := v804.toInt) d_Reader_term_53 (by decide) rfl (fun b830 => ?_) (fun b830 => ?_)
            · refine mv_iconst (v := 0) d_Reader_term_63 (by decide) ?_
              exact mv_iret d_Reader_term_64 rfl (by decide) ⟨_, I802, _, rfl, by decide, by decide, fun h => absurd h (by decide), (by have := (Im.o h40) (by omega); have := yC.d s19.2.2; have := yC.kn s19.2.2; have hb : s811.1 ≠ 0 := (by omega); have z1 : ∀ c, p_sg pb pn c s811 = s811 := (fun c => p_sg_Z s811 hb); have z2 : ∀ c, p_wd pb pn c s811 = s811 := (fun c => p_wd_Z s811 hb); have z3 : ∀ op, p_sum pb pn pa op s811 = s811 := (fun op => p_sum_Z s811 hb); have z4 : ∀ r oc, p_con pb pn pa r oc s811 = s811 := (fun r oc => p_con_Z s811 hb); have z5 : p_prt pb pn s811 = s811 := p_prt_Z s811 hb; have eT : p_ter pb pn pa (r7 + 1) (p_oc pb pn pa (r7 + 1)) ps = s811 := (by have hop : p_oc pb pn pa (r7 + 1) s19 = p_sg pb pn 93 (p_con pb pn pa r7 (p_oc pb pn pa r7) (p_nx s19)) := rfl; have hX := e23.symm.trans (p_lp_stop (show (p_no1 pb pn) s19 = s19 from if_neg (fun h9 => by omega))); unfold p_ter; rw [hX]; unfold p_te1; unfold p_cmp; (try simp only [hop]); (try simp only [e812, z1, z2, z3, z4, z5]); ((repeat' (first | (with_reducible rfl) | split)) <;> (first | ((try simp only [e812, z1, z2, z3, z4, z5]); done) | (exfalso; omega)))); rw [eT]; exact ⟨⟨_, _, _, _, _, _, _, q820, q821, q822, q823, q824, q825, q826, h827, Im.o h828, Im.o h829⟩, (Or.inl ⟨by first | decide | omega, by omega⟩)⟩)⟩
            · obtain ⟨b832, q831⟩ := o807 (by omega)
              have b833 : (p + 1).toInt = p.toInt + 1 := mz_addn 1 1 (by decide) (by have := mz_lo p; omega) (by have := mz_hi p; omega)
              refine mv_aload_n d_Reader_term_56 rfl rfl ?_
              obtain ⟨_, b840, -⟩ := I802.1 _ _ t810
              refine mv_callV (kc' := 0) (ks' := 0) (As := []) (st9 := [.ref o0]) d_Reader_term_57 lV_Reader_124 b840 rfl (H_condition (d := d) (x9 := x9) (o0 := o0) t810 (p := (p + 1)) q831 (by omega) (by first | omega | decide) (hK I802) ⟨_, _, _, _, _, _, _, q820, q821, q822, q823, q824, q825, q826, h827, Im.o h828, Im.o h829⟩ (by omega) I802.start) rfl (Nat.le_of_ble_eq_true rfl) (Nat.le_of_ble_eq_true rfl) (Nat.le_of_ble_eq_true rfl) (hst := rfl) (fun b834r M835 n836 b834 => ?_)
              obtain ⟨T837, J838, v841, rfl, b842, b843, o844, f845, f846⟩ := b834
              have I839 := I802.call J838 (tm_sub (by decide)) (Or.inl rfl)
              have t847 := J838.up t810
              obtain ⟨s848, e849⟩ : ∃ s9 : p_S, p_con pb pn pa r7 (p_oc pb pn pa r7) s811 = s9 := ⟨_, rfl⟩
              rw [e849] at f845 f846
              obtain ⟨v850, v851, v852, v853, v854, v855, v856, q857, q858, q859, q860, q861, q862, q863, h864, h865, h866⟩ := f845
              replace h865 := Im.i h865
              replace h866 := Im.i h866
              have := mz_hi v841
              refine mv_if_neZ (tgt := 65) (a := v841.toInt) d_Reader_term_60 (by decide) rfl (fun b867 => ?_) (fun b867 => ?_)
              · have q868 := o844 (by omega)
                refine mv_aload_n d_Reader_term_65 rfl rfl ?_
                refine mv_dup d_Reader_term_66 rfl ?_
                refine tr_getK (k := 16) q868 d_Reader_term_67 f_Reader_73_9 ?_
                refine mv_iconst (v := 1) d_Reader_term_70 (by decide) ?_
                refine mv_isubv (v := p) d_Reader_term_71 (Int32.add_sub_cancel _ _) ?_
                refine tr_putK tm_okF I839 t847 (k := 16) rfl ⟨_, rfl⟩ (Or.inl (by decide)) d_Reader_term_72 p_Reader_73_9 rfl rfl (fun M869 I870 q871 K872 => ?_)
                refine mv_aload_n d_Reader_term_75 rfl rfl ?_
                refine mv_bipush (v := 93) d_Reader_term_76 (by decide) ?_
                obtain ⟨_, b879, -⟩ := I870.1 _ _ t847
                refine mv_callV (kc' := 0) (ks' := 0) (As := [.int 93]) (st9 := [.int 93, .ref o0]) d_Reader_term_78 lV_Reader_63 b879 rfl (tc_Reader_sign_x (d := (d + E + 6)) (x9 := x9) (o0 := o0) (x1 := 93) t847 (hK I870) ⟨_, _, _, _, _, _, _, (K872 _ 9 1 _ rfl q857), (K872 _ 9 2 _ rfl q858), (K872 _ 9 9 _ rfl q859), (K872 _ 9 10 _ rfl q860), (K872 _ 9 11 _ rfl q861), (K872 _ 9 12 _ rfl q862), (K872 _ 9 13 _ rfl q863), h864, Im.o h865, Im.o h866⟩ (by omega) (by first | omega | decide) I870.start) rfl (Nat.le_of_ble_eq_true rfl) (Nat.le_of_ble_eq_true rfl) (Nat.le_of_ble_eq_true rfl) (hst := rfl) (fun b873r M874 n875 b873 => ?_)
                obtain ⟨T876, J877, v880, rfl, b881, b882, f883, f884⟩ := b873
                have I878 := I870.call J877 (tm_sub (by decide)) (Or.inl rfl)
                have t885 := J877.up t847
                have q886 := J877.keep t847 (by decide) q871
                rw [show (93 : Int32).toInt = 93 from by decide] at f883 f884
                obtain ⟨s887, e888⟩ : ∃ s9 : p_S, p_sg pb pn 93 s848 = s9 := ⟨_, rfl⟩
                rw [e888] at f883 f884
                obtain ⟨v889, v890, v891, v892, v893, v894, v895, q896, q897, q898, q899, q900, q901, q902, h903, h904, h905⟩ := f883
                replace h904 := Im.i h904
                replace h905 := Im.i h905
                have := mz_hi v880
                refine mv_if_neZ (tgt := 130) (a := v880.toInt) d_Reader_term_81 (by decide) rfl (fun b906 => ?_) (fun b906 => ?_)
                · refine mv_iload_n d_Reader_term_130 rfl rfl ?_
                  have := mz_hi i1_18
                  refine mv_if_eqZ (tgt := 141) (a := i1_18.toInt) d_Reader_term_131 (by decide) rfl (fun b907 => ?_) (fun b907 => ?_)
                  · refine mv_iconst (v := 1) d_Reader_term_141 (by decide) ?_
                    exact mv_iret d_Reader_term_142 rfl (by decide) ⟨_, I878, _, rfl, by decide, by decide, fun _ => q886, (by have := (Im.o h40) (by omega); have := yC.d s19.2.2; have := yC.kn s19.2.2; have eT : p_ter pb pn pa (r7 + 1) (p_oc pb pn pa (r7 + 1)) ps = s887 := (by have hop : p_oc pb pn pa (r7 + 1) s19 = p_sg pb pn 93 (p_con pb pn pa r7 (p_oc pb pn pa r7) (p_nx s19)) := rfl; have hX := e23.symm.trans (p_lp_stop (show (p_no1 pb pn) s19 = s19 from if_neg (fun h9 => by omega))); unfold p_ter; rw [hX]; unfold p_te1; unfold p_cmp; (try simp only [hop]); (try simp only [e812, e849, e888]); ((repeat' (first | (with_reducible rfl) | split)) <;> (first | ((try simp only [e812, e849, e888]); done) | (exfalso; omega)))); rw [eT]; exact ⟨⟨_, _, _, _, _, _, _, q896, q897, q898, q899, q900, q901, q902, h903, Im.o h904, Im.o h905⟩, (Or.inl ⟨by first | decide | omega, by omega⟩)⟩)⟩
                  · refine mv_aload_n d_Reader_term_134 rfl rfl ?_
                    refine mv_bipush (v := 8) d_Reader_term_135 (by decide) ?_
                    refine mv_iconst (v := 0) d_Reader_term_137 (by decide) ?_
                    obtain ⟨_, b914, -⟩ := I878.1 _ _ t885
                    refine mv_callV (kc' := 0) (ks' := 0) (As := [.int 8, .int 0]) (st9 := [.int 0, .int 8, .ref o0]) d_Reader_term_138 lV_Reader_203 b914 rfl (tc_Reader_emit (d := (d + E + 7)) (x9 := x9) (o0 := o0) (x1 := 8) (x2 := 0) t885 I878.start) rfl (Nat.le_of_ble_eq_true rfl) (Nat.le_of_ble_eq_true rfl) (Nat.le_of_ble_eq_true rfl) (hst := rfl) (fun b908r M909 n910 b908 => ?_)
                    obtain ⟨T911, J912, rfl⟩ := b908
                    have I913 := I878.call J912 (tm_sub (by decide)) (Or.inl rfl)
                    have t915 := J912.up t885
                    have q916 := J912.keep t885 (by decide) q886
                    have q917 := J912.keep (I878.up h_o0) (by decide) q896
                    have q918 := J912.keep (I878.up h_o0) (by decide) q897
                    have q919 := J912.keep (I878.up h_o0) (by decide) q898
                    have q920 := J912.keep (I878.up h_o0) (by decide) q899
                    have q921 := J912.keep (I878.up h_o0) (by decide) q900
                    have q922 := J912.keep (I878.up h_o0) (by decide) q901
                    have q923 := J912.keep (I878.up h_o0) (by decide) q902
                    refine mv_iconst (v := 1) d_Reader_term_141 (by decide) ?_
                    exact mv_iret d_Reader_term_142 rfl (by decide) ⟨_, I913, _, rfl, by decide, by decide, fun _ => q916, (by have := (Im.o h40) (by omega); have := yC.d s19.2.2; have := yC.kn s19.2.2; have eT : p_ter pb pn pa (r7 + 1) (p_oc pb pn pa (r7 + 1)) ps = s887 := (by have hop : p_oc pb pn pa (r7 + 1) s19 = p_sg pb pn 93 (p_con pb pn pa r7 (p_oc pb pn pa r7) (p_nx s19)) := rfl; have hX := e23.symm.trans (p_lp_stop (show (p_no1 pb pn) s19 = s19 from if_neg (fun h9 => by omega))); unfold p_ter; rw [hX]; unfold p_te1; unfold p_cmp; (try simp only [hop]); (try simp only [e812, e849, e888]); ((repeat' (first | (with_reducible rfl) | split)) <;> (first | ((try simp only [e812, e849, e888]); done) | (exfalso; omega)))); rw [eT]; exact ⟨⟨_, _, _, _, _, _, _, q917, q918, q919, q920, q921, q922, q923, h903, Im.o h904, Im.o h905⟩, (Or.inl ⟨by first | decide | omega, by omega⟩)⟩)⟩
                · refine mv_iconst (v := 0) d_Reader_term_84 (by decide) ?_
                  exact mv_iret d_Reader_term_85 rfl (by decide) ⟨_, I878, _, rfl, by decide, by decide, fun h => absurd h (by decide), (by have := (Im.o h40) (by omega); have := yC.d s19.2.2; have := yC.kn s19.2.2; have hb : s887.1 ≠ 0 := (by omega); have z1 : ∀ c, p_sg pb pn c s887 = s887 := (fun c => p_sg_Z s887 hb); have z2 : ∀ c, p_wd pb pn c s887 = s887 := (fun c => p_wd_Z s887 hb); have z3 : ∀ op, p_sum pb pn pa op s887 = s887 := (fun op => p_sum_Z s887 hb); have z4 : ∀ r oc, p_con pb pn pa r oc s887 = s887 := (fun r oc => p_con_Z s887 hb); have z5 : p_prt pb pn s887 = s887 := p_prt_Z s887 hb; have eT : p_ter pb pn pa (r7 + 1) (p_oc pb pn pa (r7 + 1)) ps = s887 := (by have hop : p_oc pb pn pa (r7 + 1) s19 = p_sg pb pn 93 (p_con pb pn pa r7 (p_oc pb pn pa r7) (p_nx s19)) := rfl; have hX := e23.symm.trans (p_lp_stop (show (p_no1 pb pn) s19 = s19 from if_neg (fun h9 => by omega))); unfold p_ter; rw [hX]; unfold p_te1; unfold p_cmp; (try simp only [hop]); (try simp only [e812, e849, e888, z1, z2, z3, z4, z5]); ((repeat' (first | (with_reducible rfl) | split)) <;> (first | ((try simp only [e812, e849, e888, z1, z2, z3, z4, z5]); done) | (exfalso; omega)))); rw [eT]; exact ⟨⟨_, _, _, _, _, _, _, q896, q897, q898, q899, q900, q901, q902, h903, Im.o h904, Im.o h905⟩, (Or.inr ⟨by first | decide | omega, by omega⟩)⟩)⟩
              · refine mv_iconst (v := 0) d_Reader_term_63 (by decide) ?_
                exact mv_iret d_Reader_term_64 rfl (by decide) ⟨_, I839, _, rfl, by decide, by decide, fun h => absurd h (by decide), (by have := (Im.o h40) (by omega); have := yC.d s19.2.2; have := yC.kn s19.2.2; have hb : s848.1 ≠ 0 := (by omega); have z1 : ∀ c, p_sg pb pn c s848 = s848 := (fun c => p_sg_Z s848 hb); have z2 : ∀ c, p_wd pb pn c s848 = s848 := (fun c => p_wd_Z s848 hb); have z3 : ∀ op, p_sum pb pn pa op s848 = s848 := (fun op => p_sum_Z s848 hb); have z4 : ∀ r oc, p_con pb pn pa r oc s848 = s848 := (fun r oc => p_con_Z s848 hb); have z5 : p_prt pb pn s848 = s848 := p_prt_Z s848 hb; have eT : p_ter pb pn pa (r7 + 1) (p_oc pb pn pa (r7 + 1)) ps = s848 := (by have hop : p_oc pb pn pa (r7 + 1) s19 = p_sg pb pn 93 (p_con pb pn pa r7 (p_oc pb pn pa r7) (p_nx s19)) := rfl; have hX := e23.symm.trans (p_lp_stop (show (p_no1 pb pn) s19 = s19 from if_neg (fun h9 => by omega))); unfold p_ter; rw [hX]; unfold p_te1; unfold p_cmp; (try simp only [hop]); (try simp only [e812, e849, z1, z2, z3, z4, z5]); ((repeat' (first | (with_reducible rfl) | split)) <;> (first | ((try simp only [e812, e849, z1, z2, z3, z4, z5]); done) | (exfalso; omega)))); rw [eT]; exact ⟨⟨_, _, _, _, _, _, _, q857, q858, q859, q860, q861, q862, q863, h864, Im.o h865, Im.o h866⟩, (Or.inr ⟨by first | decide | omega, by omega⟩)⟩)⟩
      · refine mv_aload_n d_Reader_term_11 rfl rfl ?_
        refine mv_bipush (v := 30) d_Reader_term_12 (by decide) ?_
        obtain ⟨_, b924, -⟩ := I_18.1 _ _ h_q0_18
        refine mv_callV (kc1 := 0) (ks1 := 0) (kc' := 0) (ks' := 0) (As := [.int 30]) (st9 := [.int 30, .ref o0]) d_Reader_term_14 lV_Reader_52 b924 rfl (mj_enter (by decide) (Nat.le_of_ble_eq_true rfl) ?_) rfl (Nat.le_of_ble_eq_true rfl) (Nat.le_of_ble_eq_true rfl) (Nat.le_of_ble_eq_true rfl) (hst := rfl) (fun _ _ _ h => h)
        refine mv_aload_n d_Reader_isWord_0 rfl rfl ?_
        refine tr_getK (k := 10) q34 d_Reader_isWord_1 f_Reader_41_9 ?_
        refine mv_iconst (v := 1) d_Reader_isWord_4 (by decide) ?_
        have := mz_hi v27
        refine mv_icmp_neZ (tgt := 20) (a := v27.toInt) (b := 1) d_Reader_isWord_5 (by decide) rfl (by decide) (fun b925 => ?_) (fun b925 => ?_)
        · refine mv_iconst (v := 0) d_Reader_isWord_20 (by decide) ?_
          refine mv_iret d_Reader_isWord_21 rfl (by decide) ?_
          refine mv_if_eq_t (tgt := 40) d_Reader_term_17 (by decide) (by decide) ?_
          refine mv_aload_n d_Reader_term_40 rfl rfl ?_
          refine mv_bipush (v := 91) d_Reader_term_41 (by decide) ?_
          obtain ⟨_, b926, -⟩ := I_18.1 _ _ h_q0_18
          refine mv_callV (kc1 := 0) (ks1 := 0) (kc' := 0) (ks' := 0) (As := [.int 91]) (st9 := [.int 91, .ref o0]) d_Reader_term_43 lV_Reader_209 b926 rfl (mj_enter (by decide) (Nat.le_of_ble_eq_true rfl) ?_) rfl (Nat.le_of_ble_eq_true rfl) (Nat.le_of_ble_eq_true rfl) (Nat.le_of_ble_eq_true rfl) (hst := rfl) (fun _ _ _ h => h)
          refine mv_aload_n d_Reader_isSign_0 rfl rfl ?_
          refine tr_getK (k := 10) q34 d_Reader_isSign_1 f_Reader_41_9 ?_
          refine mv_iconst (v := 3) d_Reader_isSign_4 (by decide) ?_
          have := mz_hi v27
          refine mv_icmp_neZ (tgt := 20) (a := v27.toInt) (b := 3) d_Reader_isSign_5 (by decide) rfl (by decide) (fun b927 => ?_) (fun b927 => ?_)
          · refine mv_iconst (v := 0) d_Reader_isSign_20 (by decide) ?_
            refine mv_iret d_Reader_isSign_21 rfl (by decide) ?_
            refine mv_if_eq_t (tgt := 86) d_Reader_term_46 (by decide) (by decide) ?_
            refine mv_aload_n d_Reader_term_86 rfl rfl ?_
            obtain ⟨_, b934, -⟩ := I_18.1 _ _ h_q0_18
            refine mv_callV (kc' := 0) (ks' := 0) (As := []) (st9 := [.ref o0]) d_Reader_term_87 lV_Reader_186 b934 rfl (tg_Reader_sum hK9 H_sum H_condition (d := d) (x9 := x9) (o0 := o0) h_q0_18 (p := p) kp0_18 (by omega) (by first | omega | decide) (hK I_18) ⟨_, _, _, _, _, _, _, q31, q32, q33, q34, q35, q36, q37, h38, Im.o h39, Im.o h40⟩ (by omega) I_18.start) rfl (Nat.le_of_ble_eq_true rfl) (Nat.le_of_ble_eq_true rfl) (Nat.le_of_ble_eq_true rfl) (hst := rfl) (fun b928r M929 n930 b928 => ?_)
            obtain ⟨T931, J932, v935, rfl, b936, b937, o938, f939, f940⟩ := b928
            have I933 := I_18.call J932 (tm_sub (by decide)) (Or.inl rfl)
            have t941 := J932.up h_q0_18
            obtain ⟨s942, e943⟩ : ∃ s9 : p_S, p_sum pb pn pa (p_op pb pn pa (r7 + 1)) s19 = s9 := ⟨_, rfl⟩
            rw [e943] at f939 f940
            obtain ⟨v944, v945, v946, v947, v948, v949, v950, q951, q952, q953, q954, q955, q956, q957, h958, h959, h960⟩ := f939
            replace h959 := Im.i h959
            replace h960 := Im.i h960
            have := mz_hi v935
            refine mv_if_neZ (tgt := 95) (a := v935.toInt) d_Reader_term_90 (by decide) rfl (fun b961 => ?_) (fun b961 => ?_)
            · have q962 := o938 (by omega)
              refine mv_aload_n d_Reader_term_95 rfl rfl ?_
              obtain ⟨_, b963, -⟩ := I933.1 _ _ t941
              refine mv_callV (kc1 := 0) (ks1 := 0) (kc' := 0) (ks' := 0) (As := []) (st9 := [.ref o0]) d_Reader_term_96 lV_Reader_215 b963 rfl (mj_enter (by decide) (Nat.le_of_ble_eq_true rfl) ?_) rfl (Nat.le_of_ble_eq_true rfl) (Nat.le_of_ble_eq_true rfl) (Nat.le_of_ble_eq_true rfl) (hst := rfl) (fun _ _ _ h => h)
              refine mv_aload_n d_Reader_comparisonHere_0 rfl rfl ?_
              refine mv_bipush (v := 60) d_Reader_comparisonHere_1 (by decide) ?_
              obtain ⟨_, b964, -⟩ := I933.1 _ _ t941
              refine mv_callV (kc1 := 0) (ks1 := 0) (kc' := 0) (ks' := 0) (As := [.int 60]) (st9 := [.int 60, .ref o0]) d_Reader_comparisonHere_3 lV_Reader_209 b964 rfl (mj_enter (by decide) (Nat.le_of_ble_eq_true rfl) ?_) rfl (Nat.le_of_ble_eq_true rfl) (Nat.le_of_ble_eq_true rfl) (Nat.le_of_ble_eq_true rfl) (hst := rfl) (fun _ _ _ h => h)
              refine mv_aload_n d_Reader_isSign_0 rfl rfl ?_
              refine tr_getK (k := 10) q954 d_Reader_isSign_1 f_Reader_41_9 ?_
              refine mv_iconst (v := 3) d_Reader_isSign_4 (by decide) ?_
              have := mz_hi v947
              refine mv_icmp_neZ (tgt := 20) (a := v947.toInt) (b := 3) d_Reader_isSign_5 (by decide) rfl (by decide) (fun b965 => ?_) (fun b965 => ?_)
              · refine mv_iconst (v := 0) d_Reader_isSign_20 (by decide) ?_
                refine mv_iret d_Reader_isSign_21 rfl (by decide) ?_
                refine mv_if_eq_t (tgt := 11) d_Reader_comparisonHere_6 (by decide) (by decide) ?_
                refine mv_aload_n d_Reader_comparisonHere_11 rfl rfl ?_
                refine mv_bipush (v := 62) d_Reader_comparisonHere_12 (by decide) ?_
                obtain ⟨_, b966, -⟩ := I933.1 _ _ t941
                refine mv_callV (kc1 := 0) (ks1 := 0) (kc' := 0) (ks' := 0) (As := [.int 62]) (st9 := [.int 62, .ref o0]) d_Reader_comparisonHere_14 lV_Reader_209 b966 rfl (mj_enter (by decide) (Nat.le_of_ble_eq_true rfl) ?_) rfl (Nat.le_of_ble_eq_true rfl) (Nat.le_of_ble_eq_true rfl) (Nat.le_of_ble_eq_true rfl) (hst := rfl) (fun _ _ _ h => h)
                refine mv_aload_n d_Reader_isSign_0 rfl rfl ?_
                refine tr_getK (k := 10) q954 d_Reader_isSign_1 f_Reader_41_9 ?_
                refine mv_iconst (v := 3) d_Reader_isSign_4 (by decide) ?_
                have := mz_hi v947
                refine mv_icmp_neZ (tgt := 20) (a := v947.toInt) (b := 3) d_Reader_isSign_5 (by decide) rfl (by decide) (fun b967 => ?_) (fun b967 => absurd b967 (by omega))
                refine mv_iconst (v := 0) d_Reader_isSign_20 (by decide) ?_
                refine mv_iret d_Reader_isSign_21 rfl (by decide) ?_
                refine mv_if_eq_t (tgt := 23) d_Reader_comparisonHere_17 (by decide) (by decide) ?_
                refine mv_aload_n d_Reader_comparisonHere_23 rfl rfl ?_
                refine mv_bipush (v := 61) d_Reader_comparisonHere_24 (by decide) ?_
                obtain ⟨_, b968, -⟩ := I933.1 _ _ t941
                refine mv_callV (kc1 := 0) (ks1 := 0) (kc' := 0) (ks' := 0) (As := [.int 61]) (st9 := [.int 61, .ref o0]) d_Reader_comparisonHere_26 lV_Reader_209 b968 rfl (mj_enter (by decide) (Nat.le_of_ble_eq_true rfl) ?_) rfl (Nat.le_of_ble_eq_true rfl) (Nat.le_of_ble_eq_true rfl) (Nat.le_of_ble_eq_true rfl) (hst := rfl) (fun _ _ _ h => h)
                refine mv_aload_n d_Reader_isSign_0 rfl rfl ?_
                refine tr_getK (k := 10) q954 d_Reader_isSign_1 f_Reader_41_9 ?_
                refine mv_iconst (v := 3) d_Reader_isSign_4 (by decide) ?_
                have := mz_hi v947
                refine mv_icmp_neZ (tgt := 20) (a := v947.toInt) (b := 3) d_Reader_isSign_5 (by decide) rfl (by decide) (fun b969 => ?_) (fun b969 => absurd b969 (by omega))
                refine mv_iconst (v := 0) d_Reader_isSign_20 (by decide) ?_
                refine mv_iret d_Reader_isSign_21 rfl (by decide) ?_
                refine mv_if_eq_t (tgt := 37) d_Reader_comparisonHere_29 (by decide) (by decide) ?_
                refine mv_iconst (v := (-1)) d_Reader_comparisonHere_37 (by decide) ?_
                refine mv_iret d_Reader_comparisonHere_38 rfl (by first | rfl | decide) ?_
                refine mv_istore_n (lv' := [(2, .int (-1)), (1, .int i1_18), (0, .ref o0)]) d_Reader_term_99 rfl (by decide) rfl ?_
                refine mv_iload_n d_Reader_term_100 rfl rfl ?_
                refine mv_iconst (v := (-1)) d_Reader_term_101 (by decide) ?_
                refine mv_icmp_ne_f (tgt := 111) d_Reader_term_102 (by decide) (by decide) ?_
                refine mv_aload_n d_Reader_term_105 rfl rfl ?_
                refine mv_iconst (v := 1) d_Reader_term_106 (by decide) ?_
                obtain ⟨_, b970, -⟩ := I933.1 _ _ t941
                refine mv_callV (kc1 := 0) (ks1 := 0) (kc' := 0) (ks' := 0) (As := [.int 1]) (st9 := [.int 1, .ref o0]) d_Reader_term_107 lV_Reader_56 b970 rfl (mj_enter (by decide) (Nat.le_of_ble_eq_true rfl) ?_) rfl (Nat.le_of_ble_eq_true rfl) (Nat.le_of_ble_eq_true rfl) (Nat.le_of_ble_eq_true rfl) (hst := rfl) (fun _ _ _ h => h)
                refine mv_aload_n d_Reader_refuse_0 rfl rfl ?_
                refine mv_iload_n d_Reader_refuse_1 rfl rfl ?_
                refine tr_putK tm_okF I933 t941 (k := 1) rfl ⟨_, rfl⟩ (Or.inl (by decide)) d_Reader_refuse_2 p_Reader_70_9 rfl rfl (fun M971 I972 q973 K974 => ?_)
                refine mv_aload_n d_Reader_refuse_5 rfl rfl ?_
                refine mv_aload_n d_Reader_refuse_6 rfl rfl ?_
                refine tr_getK (k := 11) (K974 _ 9 11 _ rfl q955) d_Reader_refuse_7 f_Reader_175_9 ?_
                refine tr_putK tm_okF I972 t941 (k := 2) rfl ⟨_, rfl⟩ (Or.inl (by decide)) d_Reader_refuse_10 p_Reader_11_9 rfl rfl (fun M975 I976 q977 K978 => ?_)
                refine mv_iconst (v := 0) d_Reader_refuse_13 (by decide) ?_
                obtain ⟨s979, e980⟩ : ∃ s9 : p_S, p_fl pb pn 1 s942 = s9 := ⟨_, rfl⟩
                have h981 := q_fl e980 (by omega) (by decide)
                have h982 : (1 : Int32).toInt = s979.1 := (by have e9 : (1 : Int32).toInt = 1 := (by decide); omega)
                have h983 : Im (s979.1 ≠ 0 → v948.toInt = (s979.2.1 : Int)) := Im.i (fun _ => by have := (Im.o h960) (by omega); omega)
                have h984 : Im (s979.1 = 0 → v946.toInt = (s979.2.2 : Int) ∧ v947.toInt = p_ki pb pn s979.2.2 ∧ v948.toInt = (p_st pb pn s979.2.2 : Int) ∧ v949.toInt = (p_sp pb pn s979.2.2 : Int) ∧ v950.toInt = p_va pb pn s979.2.2 ∧ v948.toInt = -1) := Im.i (fun z9 => absurd z9 h981.2.2)
                refine mv_iret d_Reader_refuse_14 rfl (by decide) ?_
                exact mv_iret d_Reader_term_110 rfl (by decide) ⟨_, I976, _, rfl, by decide, by decide, fun h => absurd h (by decide), (by have := (Im.o h40) (by omega); have := yC.d s19.2.2; have := yC.kn s19.2.2; have := (Im.o h960) (by omega); have := yC.d s942.2.2; have := yC.kn s942.2.2; have hb : s979.1 ≠ 0 := (by omega); have z1 : ∀ c, p_sg pb pn c s979 = s979 := (fun c => p_sg_Z s979 hb); have z2 : ∀ c, p_wd pb pn c s979 = s979 := (fun c => p_wd_Z s979 hb); have z3 : ∀ op, p_sum pb pn pa op s979 = s979 := (fun op => p_sum_Z s979 hb); have z4 : ∀ r oc, p_con pb pn pa r oc s979 = s979 := (fun r oc => p_con_Z s979 hb); have z5 : p_prt pb pn s979 = s979 := p_prt_Z s979 hb; have eT : p_ter pb pn pa (r7 + 1) (p_oc pb pn pa (r7 + 1)) ps = s979 := (by have hop : p_oc pb pn pa (r7 + 1) s19 = p_sg pb pn 93 (p_con pb pn pa r7 (p_oc pb pn pa r7) (p_nx s19)) := rfl; have hX := e23.symm.trans (p_lp_stop (show (p_no1 pb pn) s19 = s19 from if_neg (fun h9 => by omega))); unfold p_ter; rw [hX]; unfold p_te1; unfold p_cmp; (try simp only [hop]); (try simp only [e943, e980, z1, z2, z3, z4, z5]); ((repeat' (first | (with_reducible rfl) | split)) <;> (first | ((try simp only [e943, e980, z1, z2, z3, z4, z5]); done) | (exfalso; omega)))); rw [eT]; exact ⟨⟨_, _, _, _, _, _, _, (K978 _ 9 1 _ rfl q973), q977, (K978 _ 9 9 _ rfl (K974 _ 9 9 _ rfl q953)), (K978 _ 9 10 _ rfl (K974 _ 9 10 _ rfl q954)), (K978 _ 9 11 _ rfl (K974 _ 9 11 _ rfl q955)), (K978 _ 9 12 _ rfl (K974 _ 9 12 _ rfl q956)), (K978 _ 9 13 _ rfl (K974 _ 9 13 _ rfl q957)), h982, Im.o h983, Im.o h984⟩, (Or.inr ⟨by first | decide | omega, by omega⟩)⟩)⟩
              · refine mv_aload_n d_Reader_isSign_8 rfl rfl ?_
                refine tr_getK (k := 13) q957 d_Reader_isSign_9 f_Reader_241_9 ?_
                refine mv_iload_n d_Reader_isSign_12 rfl rfl ?_
                have := mz_hi v950
                refine mv_icmp_neZ (tgt := 20) (a := v950.toInt) (b := 60) d_Reader_isSign_13 (by decide) rfl (by decide) (fun b985 => ?_) (fun b985 => ?_)
                · refine mv_iconst (v := 0) d_Reader_isSign_20 (by decide) ?_
                  refine mv_iret d_Reader_isSign_21 rfl (by decide) ?_
                  refine mv_if_eq_t (tgt := 11) d_Reader_comparisonHere_6 (by decide) (by decide) ?_
                  refine mv_aload_n d_Reader_comparisonHere_11 rfl rfl ?_
                  refine mv_bipush (v := 62) d_Reader_comparisonHere_12 (by decide) ?_
                  obtain ⟨_, b986, -⟩ := I933.1 _ _ t941
                  refine mv_callV (kc1 := 0) (ks1 := 0) (kc' := 0) (ks' := 0) (As := [.int 62]) (st9 := [.int 62, .ref o0]) d_Reader_comparisonHere_14 lV_Reader_209 b986 rfl (mj_enter (by decide) (Nat.le_of_ble_eq_true rfl) ?_) rfl (Nat.le_of_ble_eq_true rfl) (Nat.le_of_ble_eq_true rfl) (Nat.le_of_ble_eq_true rfl) (hst := rfl) (fun _ _ _ h => h)
                  refine mv_aload_n d_Reader_isSign_0 rfl rfl ?_
                  refine tr_getK (k := 10) q954 d_Reader_isSign_1 f_Reader_41_9 ?_
                  refine mv_iconst (v := 3) d_Reader_isSign_4 (by decide) ?_
                  have := mz_hi v947
                  refine mv_icmp_neZ (tgt := 20) (a := v947.toInt) (b := 3) d_Reader_isSign_5 (by decide) rfl (by decide) (fun b987 => absurd b987 (by omega)) (fun b987 => ?_)
                  refine mv_aload_n d_Reader_isSign_8 rfl rfl ?_
                  refine tr_getK (k := 13) q957 d_Reader_isSign_9 f_Reader_241_9 ?_
                  refine mv_iload_n d_Reader_isSign_12 rfl rfl ?_
                  have := mz_hi v950
                  refine mv_icmp_neZ (tgt := 20) (a := v950.toInt) (b := 62) d_Reader_isSign_13 (by decide) rfl (by decide) (fun b988 => ?_) (fun b988 => ?_)
                  · refine mv_iconst (v := 0) d_Reader_isSign_20 (by decide) ?_
                    refine mv_iret d_Reader_isSign_21 rfl (by decide) ?_
                    refine mv_if_eq_t (tgt := 23) d_Reader_comparisonHere_17 (by decide) (by decide) ?_
                    refine mv_aload_n d_Reader_comparisonHere_23 rfl rfl ?_
                    refine mv_bipush (v := 61) d_Reader_comparisonHere_24 (by decide) ?_
                    obtain ⟨_, b989, -⟩ := I933.1 _ _ t941
                    refine mv_callV (kc1 := 0) (ks1 := 0) (kc' := 0) (ks' := 0) (As := [.int 61]) (st9 := [.int 61, .ref o0]) d_Reader_comparisonHere_26 lV_Reader_209 b989 rfl (mj_enter (by decide) (Nat.le_of_ble_eq_true rfl) ?_) rfl (Nat.le_of_ble_eq_true rfl) (Nat.le_of_ble_eq_true rfl) (Nat.le_of_ble_eq_true rfl) (hst := rfl) (fun _ _ _ h => h)
                    refine mv_aload_n d_Reader_isSign_0 rfl rfl ?_
                    refine tr_getK (k := 10) q954 d_Reader_isSign_1 f_Reader_41_9 ?_
                    refine mv_iconst (v := 3) d_Reader_isSign_4 (by decide) ?_
                    have := mz_hi v947
                    refine mv_icmp_neZ (tgt := 20) (a := v947.toInt) (b := 3) d_Reader_isSign_5 (by decide) rfl (by decide) (fun b990 => absurd b990 (by omega)) (fun b990 => ?_)
                    refine mv_aload_n d_Reader_isSign_8 rfl rfl ?_
                    refine tr_getK (k := 13) q957 d_Reader_isSign_9 f_Reader_241_9 ?_
                    refine mv_iload_n d_Reader_isSign_12 rfl rfl ?_
                    have := mz_hi v950
                    refine mv_icmp_neZ (tgt := 20) (a := v950.toInt) (b := 61) d_Reader_isSign_13 (by decide) rfl (by decide) (fun b991 => ?_) (fun b991 => ?_)
                    · refine mv_iconst (v := 0) d_Reader_isSign_20 (by decide) ?_
                      refine mv_iret d_Reader_isSign_21 rfl (by decide) ?_
                      refine mv_if_eq_t (tgt := 37) d_Reader_comparisonHere_29 (by decide) (by decide) ?_
                      refine mv_iconst (v := (-1)) d_Reader_comparisonHere_37 (by decide) ?_
                      refine mv_iret d_Reader_comparisonHere_38 rfl (by first | rfl | decide) ?_
                      refine mv_istore_n (lv' := [(2, .int (-1)), (1, .int i1_18), (0, .ref o0)]) d_Reader_term_99 rfl (by decide) rfl ?_
                      refine mv_iload_n d_Reader_term_100 rfl rfl ?_
                      refine mv_iconst (v := (-1)) d_Reader_term_101 (by decide) ?_
                      refine mv_icmp_ne_f (tgt := 111) d_Reader_term_102 (by decide) (by decide) ?_
                      refine mv_aload_n d_Reader_term_105 rfl rfl ?_
                      refine mv_iconst (v := 1) d_Reader_term_106 (by decide) ?_
                      obtain ⟨_, b992, -⟩ := I933.1 _ _ t941
                      refine mv_callV (kc1 := 0) (ks1 := 0) (kc' := 0) (ks' := 0) (As := [.int 1]) (st9 := [.int 1, .ref o0]) d_Reader_term_107 lV_Reader_56 b992 rfl (mj_enter (by decide) (Nat.le_of_ble_eq_true rfl) ?_) rfl (Nat.le_of_ble_eq_true rfl) (Nat.le_of_ble_eq_true rfl) (Nat.le_of_ble_eq_true rfl) (hst := rfl) (fun _ _ _ h => h)
                      refine mv_aload_n d_Reader_refuse_0 rfl rfl ?_
                      refine mv_iload_n d_Reader_refuse_1 rfl rfl ?_
                      refine tr_putK tm_okF I933 t941 (k := 1) rfl ⟨_, rfl⟩ (Or.inl (by decide)) d_Reader_refuse_2 p_Reader_70_9 rfl rfl (fun M993 I994 q995 K996 => ?_)
                      refine mv_aload_n d_Reader_refuse_5 rfl rfl ?_
                      refine mv_aload_n d_Reader_refuse_6 rfl rfl ?_
                      refine tr_getK (k := 11) (K996 _ 9 11 _ rfl q955) d_Reader_refuse_7 f_Reader_175_9 ?_
                      refine tr_putK tm_okF I994 t941 (k := 2) rfl ⟨_, rfl⟩ (Or.inl (by decide)) d_Reader_refuse_10 p_Reader_11_9 rfl rfl (fun M997 I998 q999 K1000 => ?_)
                      refine mv_iconst (v := 0) d_Reader_refuse_13 (by decide) ?_
                      obtain ⟨s1001, e1002⟩ : ∃ s9 : p_S, p_fl pb pn 1 s942 = s9 := ⟨_, rfl⟩
                      have h1003 := q_fl e1002 (by omega) (by decide)
                      have h1004 : (1 : Int32).toInt = s1001.1 := (by have e9 : (1 : Int32).toInt = 1 := (by decide); omega)
                      have h1005 : Im (s1001.1 ≠ 0 → v948.toInt = (s1001.2.1 : Int)) := Im.i (fun _ => by have := (Im.o h960) (by omega); omega)
                      have h1006 : Im (s1001.1 = 0 → v946.toInt = (s1001.2.2 : Int) ∧ v947.toInt = p_ki pb pn s1001.2.2 ∧ v948.toInt = (p_st pb pn s1001.2.2 : Int) ∧ v949.toInt = (p_sp pb pn s1001.2.2 : Int) ∧ v950.toInt = p_va pb pn s1001.2.2 ∧ v948.toInt = -1) := Im.i (fun z9 => absurd z9 h1003.2.2)
                      refine mv_iret d_Reader_refuse_14 rfl (by decide) ?_
                      exact mv_iret d_Reader_term_110 rfl (by decide) ⟨_, I998, _, rfl, by decide, by decide, fun h => absurd h (by decide), (by have := (Im.o h40) (by omega); have := yC.d s19.2.2; have := yC.kn s19.2.2; have := (Im.o h960) (by omega); have := yC.d s942.2.2; have := yC.kn s942.2.2; have hb : s1001.1 ≠ 0 := (by omega); have z1 : ∀ c, p_sg pb pn c s1001 = s1001 := (fun c => p_sg_Z s1001 hb); have z2 : ∀ c, p_wd pb pn c s1001 = s1001 := (fun c => p_wd_Z s1001 hb); have z3 : ∀ op, p_sum pb pn pa op s1001 = s1001 := (fun op => p_sum_Z s1001 hb); have z4 : ∀ r oc, p_con pb pn pa r oc s1001 = s1001 := (fun r oc => p_con_Z s1001 hb); have z5 : p_prt pb pn s1001 = s1001 := p_prt_Z s1001 hb; have eT : p_ter pb pn pa (r7 + 1) (p_oc pb pn pa (r7 + 1)) ps = s1001 := (by have hop : p_oc pb pn pa (r7 + 1) s19 = p_sg pb pn 93 (p_con pb pn pa r7 (p_oc pb pn pa r7) (p_nx s19)) := rfl; have hX := e23.symm.trans (p_lp_stop (show (p_no1 pb pn) s19 = s19 from if_neg (fun h9 => by omega))); unfold p_ter; rw [hX]; unfold p_te1; unfold p_cmp; (try simp only [hop]); (try simp only [e943, e1002, z1, z2, z3, z4, z5]); ((repeat' (first | (with_reducible rfl) | split)) <;> (first | ((try simp only [e943, e1002, z1, z2, z3, z4, z5]); done) | (exfalso; omega)))); rw [eT]; exact ⟨⟨_, _, _, _, _, _, _, (K1000 _ 9 1 _ rfl q995), q999, (K1000 _ 9 9 _ rfl (K996 _ 9 9 _ rfl q953)), (K1000 _ 9 10 _ rfl (K996 _ 9 10 _ rfl q954)), (K1000 _ 9 11 _ rfl (K996 _ 9 11 _ rfl q955)), (K1000 _ 9 12 _ rfl (K996 _ 9 12 _ rfl q956)), (K1000 _ 9 13 _ rfl (K996 _ 9 13 _ rfl q957)), h1004, Im.o h1005, Im.o h1006⟩, (Or.inr ⟨by first | decide | omega, by omega⟩)⟩)⟩
                    · refine mv_iconst (v := 1) d_Reader_isSign_16 (by decide) ?_
                      refine mv_goto (tgt := 21) d_Reader_isSign_17 (by decide) ?_
                      refine mv_iret d_Reader_isSign_21 rfl (by decide) ?_
                      refine mv_if_eq_f (tgt := 37) d_Reader_comparisonHere_29 (by decide) (by decide) ?_
                      refine mv_bipush (v := 7) d_Reader_comparisonHere_32 (by decide) ?_
                      refine mv_goto (tgt := 38) d_Reader_comparisonHere_34 (by decide) ?_
                      refine mv_iret d_Reader_comparisonHere_38 rfl (by first | rfl | decide) ?_
                      refine mv_istore_n (lv' := [(2, .int 7), (1, .int i1_18), (0, .ref o0)]) d_Reader_term_99 rfl (by decide) rfl ?_
                      refine mv_iload_n d_Reader_term_100 rfl rfl ?_
                      refine mv_iconst (v := (-1)) d_Reader_term_101 (by decide) ?_
                      refine mv_icmp_ne_t (tgt := 111) d_Reader_term_102 (by decide) (by decide) ?_
                      refine mv_aload_n d_Reader_term_111 rfl rfl ?_
                      obtain ⟨_, b1013, -⟩ := I933.1 _ _ t941
                      refine mv_callV (kc' := 0) (ks' := 0) (As := []) (st9 := [.ref o0]) d_Reader_term_112 lV_Reader_82 b1013 rfl (tc_Reader_advance_x (d := (d + E + 7)) (x9 := x9) (o0 := o0) t941 (hK I933) (qS.a (show qS M929 o0 pb pn s942 from ⟨_, _, _, _, _, _, _, q951, q952, q953, q954, q955, q956, q957, h958, Im.o h959, Im.o h960⟩)) (by have := (Im.o h40) (by omega); have := yC.d s19.2.2; have := yC.kn s19.2.2; have := (Im.o h960) (by omega); have := yC.d s942.2.2; have := yC.kn s942.2.2; show s942.2.2 + 1 ≤ 401; omega) I933.start) rfl (Nat.le_of_ble_eq_true rfl) (Nat.le_of_ble_eq_true rfl) (Nat.le_of_ble_eq_true rfl) (hst := rfl) (fun b1007r M1008 n1009 b1007 => ?_)
                      obtain ⟨T1010, J1011, rfl, f1014⟩ := b1007
                      have I1012 := I933.call J1011 (tm_sub (by decide)) (Or.inl rfl)
                      have t1015 := J1011.up t941
                      have q1016 := J1011.keep (I933.up h_o0) (by decide) q951
                      have q1017 := J1011.keep (I933.up h_o0) (by decide) q952
                      have q1018 := J1011.keep t941 (by decide) q962
                      obtain ⟨s1019, e1020⟩ : ∃ s9 : p_S, p_nx s942 = s9 := ⟨_, rfl⟩
                      rw [e1020] at f1014
                      have : s1019.1 = 0 := by rw [← e1020]; show s942.1 = 0; omega
                      obtain ⟨v1021, v1022, v1023, v1024, v1025, v1026, v1027, q1028, q1029, q1030, q1031, q1032, q1033, q1034, h1035, h1036, h1037⟩ := f1014
                      replace h1036 := Im.i h1036
                      replace h1037 := Im.i h1037
                      refine mv_aload_n d_Reader_term_115 rfl rfl ?_
                      obtain ⟨_, b1044, -⟩ := I1012.1 _ _ t1015
                      refine mv_callV (kc' := 0) (ks' := 0) (As := []) (st9 := [.ref o0]) d_Reader_term_116 lV_Reader_186 b1044 rfl (tg_Reader_sum hK9 H_sum H_condition (d := d) (x9 := x9) (o0 := o0) t1015 (p := p) q1018 (by omega) (by first | omega | decide) (hK I1012) ⟨_, _, _, _, _, _, _, q1028, q1029, q1030, q1031, q1032, q1033, q1034, h1035, Im.o h1036, Im.o h1037⟩ (by omega) I1012.start) rfl (Nat.le_of_ble_eq_true rfl) (Nat.le_of_ble_eq_true rfl) (Nat.le_of_ble_eq_true rfl) (hst := rfl) (fun b1038r M1039 n1040 b1038 => ?_)
                      obtain ⟨T1041, J1042, v1045, rfl, b1046, b1047, o1048, f1049, f1050⟩ := b1038
                      have I1043 := I1012.call J1042 (tm_sub (by decide)) (Or.inl rfl)
                      have t1051 := J1042.up t1015
                      obtain ⟨s1052, e1053⟩ : ∃ s9 : p_S, p_sum pb pn pa (p_op pb pn pa (r7 + 1)) s1019 = s9 := ⟨_, rfl⟩
                      rw [e1053] at f1049 f1050
                      obtain ⟨v1054, v1055, v1056, v1057, v1058, v1059, v1060, q1061, q1062, q1063, q1064, q1065, q1066, q1067, h1068, h1069, h1070⟩ := f1049
                      replace h1069 := Im.i h1069
                      replace h1070 := Im.i h1070
                      have := mz_hi v1045
                      refine mv_if_neZ (tgt := 124) (a := v1045.toInt) d_Reader_term_119 (by decide) rfl (fun b1071 => ?_) (fun b1071 => ?_)
                      · have q1072 := o1048 (by omega)
                        refine mv_aload_n d_Reader_term_124 rfl rfl ?_
                        refine mv_iload_n d_Reader_term_125 rfl rfl ?_
                        refine mv_iconst (v := 0) d_Reader_term_126 (by decide) ?_
                        obtain ⟨_, b1079, -⟩ := I1043.1 _ _ t1051
                        refine mv_callV (kc' := 0) (ks' := 0) (As := [.int 7, .int 0]) (st9 := [.int 0, .int 7, .ref o0]) d_Reader_term_127 lV_Reader_203 b1079 rfl (tc_Reader_emit (d := (d + E + 7)) (x9 := x9) (o0 := o0) (x1 := 7) (x2 := 0) t1051 I1043.start) rfl (Nat.le_of_ble_eq_true rfl) (Nat.le_of_ble_eq_true rfl) (Nat.le_of_ble_eq_true rfl) (hst := rfl) (fun b1073r M1074 n1075 b1073 => ?_)
                        obtain ⟨T1076, J1077, rfl⟩ := b1073
                        have I1078 := I1043.call J1077 (tm_sub (by decide)) (Or.inl rfl)
                        have t1080 := J1077.up t1051
                        have q1081 := J1077.keep (I1043.up h_o0) (by decide) q1061
                        have q1082 := J1077.keep (I1043.up h_o0) (by decide) q1062
                        have q1083 := J1077.keep (I1043.up h_o0) (by decide) q1063
                        have q1084 := J1077.keep (I1043.up h_o0) (by decide) q1064
                        have q1085 := J1077.keep (I1043.up h_o0) (by decide) q1065
                        have q1086 := J1077.keep (I1043.up h_o0) (by decide) q1066
                        have q1087 := J1077.keep (I1043.up h_o0) (by decide) q1067
                        have q1088 := J1077.keep t1051 (by decide) q1072
                        refine mv_iload_n d_Reader_term_130 rfl rfl ?_
                        have := mz_hi i1_18
                        refine mv_if_eqZ (tgt := 141) (a := i1_18.toInt) d_Reader_term_131 (by decide) rfl (fun b1089 => ?_) (fun b1089 => ?_)
                        · refine mv_iconst (v := 1) d_Reader_term_141 (by decide) ?_
                          exact mv_iret d_Reader_term_142 rfl (by decide) ⟨_, I1078, _, rfl, by decide, by decide, fun _ => q1088, (by have := (Im.o h40) (by omega); have := yC.d s19.2.2; have := yC.kn s19.2.2; have := (Im.o h960) (by omega); have := yC.d s942.2.2; have := yC.kn s942.2.2; have eT : p_ter pb pn pa (r7 + 1) (p_oc pb pn pa (r7 + 1)) ps = s1052 := (by have hop : p_oc pb pn pa (r7 + 1) s19 = p_sg pb pn 93 (p_con pb pn pa r7 (p_oc pb pn pa r7) (p_nx s19)) := rfl; have hX := e23.symm.trans (p_lp_stop (show (p_no1 pb pn) s19 = s19 from if_neg (fun h9 => by omega))); unfold p_ter; rw [hX]; unfold p_te1; unfold p_cmp; (try simp only [hop]); (try simp only [e943, e1020, e1053]); ((repeat' (first | (with_reducible rfl) | split)) <;> (first | ((try simp only [e943, e1020, e1053]); done) | (exfalso; omega)))); rw [eT]; exact ⟨⟨_, _, _, _, _, _, _, q1081, q1082, q1083, q1084, q1085, q1086, q1087, h1068, Im.o h1069, Im.o h1070⟩, (Or.inl ⟨by first | decide | omega, by omega⟩)⟩)⟩
                        · refine mv_aload_n d_Reader_term_134 rfl rfl ?_
                          refine mv_bipush (v := 8) d_Reader_term_135 (by decide) ?_
                          refine mv_iconst (v := 0) d_Reader_term_137 (by decide) ?_
                          obtain ⟨_, b1096, -⟩ := I1078.1 _ _ t1080
                          refine mv_callV (kc' := 0) (ks' := 0) (As := [.int 8, .int 0]) (st9 := [.int 0, .int 8, .ref o0]) d_Reader_term_138 lV_Reader_203 b1096 rfl (tc_Reader_emit (d := (d + E + 7)) (x9 := x9) (o0 := o0) (x1 := 8) (x2 := 0) t1080 I1078.start) rfl (Nat.le_of_ble_eq_true rfl) (Nat.le_of_ble_eq_true rfl) (Nat.le_of_ble_eq_true rfl) (hst := rfl) (fun b1090r M1091 n1092 b1090 => ?_)
                          obtain ⟨T1093, J1094, rfl⟩ := b1090
                          have I1095 := I1078.call J1094 (tm_sub (by decide)) (Or.inl rfl)
                          have t1097 := J1094.up t1080
                          have q1098 := J1094.keep t1080 (by decide) q1081
                          have q1099 := J1094.keep t1080 (by decide) q1082
                          have q1100 := J1094.keep t1080 (by decide) q1083
                          have q1101 := J1094.keep t1080 (by decide) q1084
                          have q1102 := J1094.keep t1080 (by decide) q1085
                          have q1103 := J1094.keep t1080 (by decide) q1086
                          have q1104 := J1094.keep t1080 (by decide) q1087
                          have q1105 := J1094.keep t1080 (by decide) q1088
                          refine mv_iconst (v := 1) d_Reader_term_141 (by decide) ?_
                          exact mv_iret d_Reader_term_142 rfl (by decide) ⟨_, I1095, _, rfl, by decide, by decide, fun _ => q1105, (by have := (Im.o h40) (by omega); have := yC.d s19.2.2; have := yC.kn s19.2.2; have := (Im.o h960) (by omega); have := yC.d s942.2.2; have := yC.kn s942.2.2; have eT : p_ter pb pn pa (r7 + 1) (p_oc pb pn pa (r7 + 1)) ps = s1052 := (by have hop : p_oc pb pn pa (r7 + 1) s19 = p_sg pb pn 93 (p_con pb pn pa r7 (p_oc pb pn pa r7) (p_nx s19)) := rfl; have hX := e23.symm.trans (p_lp_stop (show (p_no1 pb pn) s19 = s19 from if_neg (fun h9 => by omega))); unfold p_ter; rw [hX]; unfold p_te1; unfold p_cmp; (try simp only [hop]); (try simp only [e943, e1020, e1053]); ((repeat' (first | (with_reducible rfl) | split)) <;> (first | ((try simp only [e943, e1020, e1053]); done) | (exfalso; omega)))); rw [eT]; exact ⟨⟨_, _, _, _, _, _, _, q1098, q1099, q1100, q1101, q1102, q1103, q1104, h1068, Im.o h1069, Im.o h1070⟩, (Or.inl ⟨by first | decide | omega, by omega⟩)⟩)⟩
                      · refine mv_iconst (v := 0) d_Reader_term_122 (by decide) ?_
                        exact mv_iret d_Reader_term_123 rfl (by decide) ⟨_, I1043, _, rfl, by decide, by decide, fun h => absurd h (by decide), (by have := (Im.o h40) (by omega); have := yC.d s19.2.2; have := yC.kn s19.2.2; have := (Im.o h960) (by omega); have := yC.d s942.2.2; have := yC.kn s942.2.2; have hb : s1052.1 ≠ 0 := (by omega); have z1 : ∀ c, p_sg pb pn c s1052 = s1052 := (fun c => p_sg_Z s1052 hb); have z2 : ∀ c, p_wd pb pn c s1052 = s1052 := (fun c => p_wd_Z s1052 hb); have z3 : ∀ op, p_sum pb pn pa op s1052 = s1052 := (fun op => p_sum_Z s1052 hb); have z4 : ∀ r oc, p_con pb pn pa r oc s1052 = s1052 := (fun r oc => p_con_Z s1052 hb); have z5 : p_prt pb pn s1052 = s1052 := p_prt_Z s1052 hb; have eT : p_ter pb pn pa (r7 + 1) (p_oc pb pn pa (r7 + 1)) ps = s1052 := (by have hop : p_oc pb pn pa (r7 + 1) s19 = p_sg pb pn 93 (p_con pb pn pa r7 (p_oc pb pn pa r7) (p_nx s19)) := rfl; have hX := e23.symm.trans (p_lp_stop (show (p_no1 pb pn) s19 = s19 from if_neg (fun h9 => by omega))); unfold p_ter; rw [hX]; unfold p_te1; unfold p_cmp; (try simp only [hop]); (try simp only [e943, e1020, e1053, z1, z2, z3, z4, z5]); ((repeat' (first | (with_reducible rfl) | split)) <;> (first | ((try simp only [e943, e1020, e1053, z1, z2, z3, z4, z5]); done) | (exfalso; omega)))); rw [eT]; exact ⟨⟨_, _, _, _, _, _, _, q1061, q1062, q1063, q1064, q1065, q1066, q1067, h1068, Im.o h1069, Im.o h1070⟩, (Or.inr ⟨by first | decide | omega, by omega⟩)⟩)⟩
                  · refine mv_iconst (v := 1) d_Reader_isSign_16 (by decide) ?_
                    refine mv_goto (tgt := 21) d_Reader_isSign_17 (by decide) ?_
                    refine mv_iret d_Reader_isSign_21 rfl (by decide) ?_
                    refine mv_if_eq_f (tgt := 23) d_Reader_comparisonHere_17 (by decide) (by decide) ?_
                    refine mv_bipush (v := 6) d_Reader_comparisonHere_20 (by decide) ?_
                    refine mv_iret d_Reader_comparisonHere_22 rfl (by first | rfl | decide) ?_
                    refine mv_istore_n (lv' := [(2, .int 6), (1, .int i1_18), (0, .ref o0)]) d_Reader_term_99 rfl (by decide) rfl ?_
                    refine mv_iload_n d_Reader_term_100 rfl rfl ?_
                    refine mv_iconst (v := (-1)) d_Reader_term_101 (by decide) ?_
                    refine mv_icmp_ne_t (tgt := 111) d_Reader_term_102 (by decide) (by decide) ?_
                    refine mv_aload_n d_Reader_term_111 rfl rfl ?_
                    obtain ⟨_, b1112, -⟩ := I933.1 _ _ t941
                    refine mv_callV (kc' := 0) (ks' := 0) (As := []) (st9 := [.ref o0]) d_Reader_term_112 lV_Reader_82 b1112 rfl (tc_Reader_advance_x (d := (d + E + 7)) (x9 := x9) (o0 := o0) t941 (hK I933) (qS.a (show qS M929 o0 pb pn s942 from ⟨_, _, _, _, _, _, _, q951, q952, q953, q954, q955, q956, q957, h958, Im.o h959, Im.o h960⟩)) (by have := (Im.o h40) (by omega); have := yC.d s19.2.2; have := yC.kn s19.2.2; have := (Im.o h960) (by omega); have := yC.d s942.2.2; have := yC.kn s942.2.2; show s942.2.2 + 1 ≤ 401; omega) I933.start) rfl (Nat.le_of_ble_eq_true rfl) (Nat.le_of_ble_eq_true rfl) (Nat.le_of_ble_eq_true rfl) (hst := rfl) (fun b1106r M1107 n1108 b1106 => ?_)
                    obtain ⟨T1109, J1110, rfl, f1113⟩ := b1106
                    have I1111 := I933.call J1110 (tm_sub (by decide)) (Or.inl rfl)
                    have t1114 := J1110.up t941
                    have q1115 := J1110.keep (I933.up h_o0) (by decide) q951
                    have q1116 := J1110.keep (I933.up h_o0) (by decide) q952
                    have q1117 := J1110.keep t941 (by decide) q962
                    obtain ⟨s1118, e1119⟩ : ∃ s9 : p_S, p_nx s942 = s9 := ⟨_, rfl⟩
                    rw [e1119] at f1113
                    have : s1118.1 = 0 := by rw [← e1119]; show s942.1 = 0; omega
                    obtain ⟨v1120, v1121, v1122, v1123, v1124, v1125, v1126, q1127, q1128, q1129, q1130, q1131, q1132, q1133, h1134, h1135, h1136⟩ := f1113
                    replace h1135 := Im.i h1135
                    replace h1136 := Im.i h1136
                    refine mv_aload_n d_Reader_term_115 rfl rfl ?_
                    obtain ⟨_, b1143, -⟩ := I1111.1 _ _ t1114
                    refine mv_callV (kc' := 0) (ks' := 0) (As := []) (st9 := [.ref o0]) d_Reader_term_116 lV_Reader_186 b1143 rfl (tg_Reader_sum hK9 H_sum H_condition (d := d) (x9 := x9) (o0 := o0) t1114 (p := p) q1117 (by omega) (by first | omega | decide) (hK I1111) ⟨_, _, _, _, _, _, _, q1127, q1128, q1129, q1130, q1131, q1132, q1133, h1134, Im.o h1135, Im.o h1136⟩ (by omega) I1111.start) rfl (Nat.le_of_ble_eq_true rfl) (Nat.le_of_ble_eq_true rfl) (Nat.le_of_ble_eq_true rfl) (hst := rfl) (fun b1137r M1138 n1139 b1137 => ?_)
                    obtain ⟨T1140, J1141, v1144, rfl, b1145, b1146, o1147, f1148, f1149⟩ := b1137
                    have I1142 := I1111.call J1141 (tm_sub (by decide)) (Or.inl rfl)
                    have t1150 := J1141.up t1114
                    obtain ⟨s1151, e1152⟩ : ∃ s9 : p_S, p_sum pb pn pa (p_op pb pn pa (r7 + 1)) s1118 = s9 := ⟨_, rfl⟩
                    rw [e1152] at f1148 f1149
                    obtain ⟨v1153, v1154, v1155, v1156, v1157, v1158, v1159, q1160, q1161, q1162, q1163, q1164, q1165, q1166, h1167, h1168, h1169⟩ := f1148
                    replace h1168 := Im.i h1168
                    replace h1169 := Im.i h1169
                    have := mz_hi v1144
                    refine mv_if_neZ (tgt := 124) (a := v1144.toInt) d_Reader_term_119 (by decide) rfl (fun b1170 => ?_) (fun b1170 => ?_)
                    · have q1171 := o1147 (by omega)
                      refine mv_aload_n d_Reader_term_124 rfl rfl ?_
                      refine mv_iload_n d_Reader_term_125 rfl rfl ?_
                      refine mv_iconst (v := 0) d_Reader_term_126 (by decide) ?_
                      obtain ⟨_, b1178, -⟩ := I1142.1 _ _ t1150
                      refine mv_callV (kc' := 0) (ks' := 0) (As := [.int 6, .int 0]) (st9 := [.int 0, .int 6, .ref o0]) d_Reader_term_127 lV_Reader_203 b1178 rfl (tc_Reader_emit (d := (d + E + 7)) (x9 := x9) (o0 := o0) (x1 := 6) (x2 := 0) t1150 I1142.start) rfl (Nat.le_of_ble_eq_true rfl) (Nat.le_of_ble_eq_true rfl) (Nat.le_of_ble_eq_true rfl) (hst := rfl) (fun b1172r M1173 n1174 b1172 => ?_)
                      obtain ⟨T1175, J1176, rfl⟩ := b1172
                      have I1177 := I1142.call J1176 (tm_sub (by decide)) (Or.inl rfl)
                      have t1179 := J1176.up t1150
                      have q1180 := J1176.keep (I1142.up h_o0) (by decide) q1160
                      have q1181 := J1176.keep (I1142.up h_o0) (by decide) q1161
                      have q1182 := J1176.keep (I1142.up h_o0) (by decide) q1162
                      have q1183 := J1176.keep (I1142.up h_o0) (by decide) q1163
                      have q1184 := J1176.keep (I1142.up h_o0) (by decide) q1164
                      have q1185 := J1176.keep (I1142.up h_o0) (by decide) q1165
                      have q1186 := J1176.keep (I1142.up h_o0) (by decide) q1166
                      have q1187 := J1176.keep t1150 (by decide) q1171
                      refine mv_iload_n d_Reader_term_130 rfl rfl ?_
                      have := mz_hi i1_18
                      refine mv_if_eqZ (tgt := 141) (a := i1_18.toInt) d_Reader_term_131 (by decide) rfl (fun b1188 => ?_) (fun b1188 => ?_)
                      · refine mv_iconst (v := 1) d_Reader_term_141 (by decide) ?_
                        exact mv_iret d_Reader_term_142 rfl (by decide) ⟨_, I1177, _, rfl, by decide, by decide, fun _ => q1187, (by have := (Im.o h40) (by omega); have := yC.d s19.2.2; have := yC.kn s19.2.2; have := (Im.o h960) (by omega); have := yC.d s942.2.2; have := yC.kn s942.2.2; have eT : p_ter pb pn pa (r7 + 1) (p_oc pb pn pa (r7 + 1)) ps = s1151 := (by have hop : p_oc pb pn pa (r7 + 1) s19 = p_sg pb pn 93 (p_con pb pn pa r7 (p_oc pb pn pa r7) (p_nx s19)) := rfl; have hX := e23.symm.trans (p_lp_stop (show (p_no1 pb pn) s19 = s19 from if_neg (fun h9 => by omega))); unfold p_ter; rw [hX]; unfold p_te1; unfold p_cmp; (try simp only [hop]); (try simp only [e943, e1119, e1152]); ((repeat' (first | (with_reducible rfl) | split)) <;> (first | ((try simp only [e943, e1119, e1152]); done) | (exfalso; omega)))); rw [eT]; exact ⟨⟨_, _, _, _, _, _, _, q1180, q1181, q1182, q1183, q1184, q1185, q1186, h1167, Im.o h1168, Im.o h1169⟩, (Or.inl ⟨by first | decide | omega, by omega⟩)⟩)⟩
                      · refine mv_aload_n d_Reader_term_134 rfl rfl ?_
                        refine mv_bipush (v := 8) d_Reader_term_135 (by decide) ?_
                        refine mv_iconst (v := 0) d_Reader_term_137 (by decide) ?_
                        obtain ⟨_, b1195, -⟩ := I1177.1 _ _ t1179
                        refine mv_callV (kc' := 0) (ks' := 0) (As := [.int 8, .int 0]) (st9 := [.int 0, .int 8, .ref o0]) d_Reader_term_138 lV_Reader_203 b1195 rfl (tc_Reader_emit (d := (d + E + 7)) (x9 := x9) (o0 := o0) (x1 := 8) (x2 := 0) t1179 I1177.start) rfl (Nat.le_of_ble_eq_true rfl) (Nat.le_of_ble_eq_true rfl) (Nat.le_of_ble_eq_true rfl) (hst := rfl) (fun b1189r M1190 n1191 b1189 => ?_)
                        obtain ⟨T1192, J1193, rfl⟩ := b1189
                        have I1194 := I1177.call J1193 (tm_sub (by decide)) (Or.inl rfl)
                        have t1196 := J1193.up t1179
                        have q1197 := J1193.keep t1179 (by decide) q1180
                        have q1198 := J1193.keep t1179 (by decide) q1181
                        have q1199 := J1193.keep t1179 (by decide) q1182
                        have q1200 := J1193.keep t1179 (by decide) q1183
                        have q1201 := J1193.keep t1179 (by decide) q1184
                        have q1202 := J1193.keep t1179 (by decide) q1185
                        have q1203 := J1193.keep t1179 (by decide) q1186
                        have q1204 := J1193.keep t1179 (by decide) q1187
                        refine mv_iconst (v := 1) d_Reader_term_141 (by decide) ?_
                        exact mv_iret d_Reader_term_142 rfl (by decide) ⟨_, I1194, _, rfl, by decide, by decide, fun _ => q1204, (by have := (Im.o h40) (by omega); have := yC.d s19.2.2; have := yC.kn s19.2.2; have := (Im.o h960) (by omega); have := yC.d s942.2.2; have := yC.kn s942.2.2; have eT : p_ter pb pn pa (r7 + 1) (p_oc pb pn pa (r7 + 1)) ps = s1151 := (by have hop : p_oc pb pn pa (r7 + 1) s19 = p_sg pb pn 93 (p_con pb pn pa r7 (p_oc pb pn pa r7) (p_nx s19)) := rfl; have hX := e23.symm.trans (p_lp_stop (show (p_no1 pb pn) s19 = s19 from if_neg (fun h9 => by omega))); unfold p_ter; rw [hX]; unfold p_te1; unfold p_cmp; (try simp only [hop]); (try simp only [e943, e1119, e1152]); ((repeat' (first | (with_reducible rfl) | split)) <;> (first | ((try simp only [e943, e1119, e1152]); done) | (exfalso; omega)))); rw [eT]; exact ⟨⟨_, _, _, _, _, _, _, q1197, q1198, q1199, q1200, q1201, q1202, q1203, h1167, Im.o h1168, Im.o h1169⟩, (Or.inl ⟨by first | decide | omega, by omega⟩)⟩)⟩
                    · refine mv_iconst (v := 0) d_Reader_term_122 (by decide) ?_
                      exact mv_iret d_Reader_term_123 rfl (by decide) ⟨_, I1142, _, rfl, by decide, by decide, fun h => absurd h (by decide), (by have := (Im.o h40) (by omega); have := yC.d s19.2.2; have := yC.kn s19.2.2; have := (Im.o h960) (by omega); have := yC.d s942.2.2; have := yC.kn s942.2.2; have hb : s1151.1 ≠ 0 := (by omega); have z1 : ∀ c, p_sg pb pn c s1151 = s1151 := (fun c => p_sg_Z s1151 hb); have z2 : ∀ c, p_wd pb pn c s1151 = s1151 := (fun c => p_wd_Z s1151 hb); have z3 : ∀ op, p_sum pb pn pa op s1151 = s1151 := (fun op => p_sum_Z s1151 hb); have z4 : ∀ r oc, p_con pb pn pa r oc s1151 = s1151 := (fun r oc => p_con_Z s1151 hb); have z5 : p_prt pb pn s1151 = s1151 := p_prt_Z s1151 hb; have eT : p_ter pb pn pa (r7 + 1) (p_oc pb pn pa (r7 + 1)) ps = s1151 := (by have hop : p_oc pb pn pa (r7 + 1) s19 = p_sg pb pn 93 (p_con pb pn pa r7 (p_oc pb pn pa r7) (p_nx s19)) := rfl; have hX := e23.symm.trans (p_lp_stop (show (p_no1 pb pn) s19 = s19 from if_neg (fun h9 => by omega))); unfold p_ter; rw [hX]; unfold p_te1; unfold p_cmp; (try simp only [hop]); (try simp only [e943, e1119, e1152, z1, z2, z3, z4, z5]); ((repeat' (first | (with_reducible rfl) | split)) <;> (first | ((try simp only [e943, e1119, e1152, z1, z2, z3, z4, z5]); done) | (exfalso; omega)))); rw [eT]; exact ⟨⟨_, _, _, _, _, _, _, q1160, q1161, q1162, q1163, q1164, q1165, q1166, h1167, Im.o h1168, Im.o h1169⟩, (Or.inr ⟨by first | decide | omega, by omega⟩)⟩)⟩
                · refine mv_iconst (v := 1) d_Reader_isSign_16 (by decide) ?_
                  refine mv_goto (tgt := 21) d_Reader_isSign_17 (by decide) ?_
                  refine mv_iret d_Reader_isSign_21 rfl (by decide) ?_
                  refine mv_if_eq_f (tgt := 11) d_Reader_comparisonHere_6 (by decide) (by decide) ?_
                  refine mv_iconst (v := 5) d_Reader_comparisonHere_9 (by decide) ?_
                  refine mv_iret d_Reader_comparisonHere_10 rfl (by first | rfl | decide) ?_
                  refine mv_istore_n (lv' := [(2, .int 5), (1, .int i1_18), (0, .ref o0)]) d_Reader_term_99 rfl (by decide) rfl ?_
                  refine mv_iload_n d_Reader_term_100 rfl rfl ?_
                  refine mv_iconst (v := (-1)) d_Reader_term_101 (by decide) ?_
                  refine mv_icmp_ne_t (tgt := 111) d_Reader_term_102 (by decide) (by decide) ?_
                  refine mv_aload_n d_Reader_term_111 rfl rfl ?_
                  obtain ⟨_, b1211, -⟩ := I933.1 _ _ t941
                  refine mv_callV (kc' := 0) (ks' := 0) (As := []) (st9 := [.ref o0]) d_Reader_term_112 lV_Reader_82 b1211 rfl (tc_Reader_advance_x (d := (d + E + 7)) (x9 := x9) (o0 := o0) t941 (hK I933) (qS.a (show qS M929 o0 pb pn s942 from ⟨_, _, _, _, _, _, _, q951, q952, q953, q954, q955, q956, q957, h958, Im.o h959, Im.o h960⟩)) (by have := (Im.o h40) (by omega); have := yC.d s19.2.2; have := yC.kn s19.2.2; have := (Im.o h960) (by omega); have := yC.d s942.2.2; have := yC.kn s942.2.2; show s942.2.2 + 1 ≤ 401; omega) I933.start) rfl (Nat.le_of_ble_eq_true rfl) (Nat.le_of_ble_eq_true rfl) (Nat.le_of_ble_eq_true rfl) (hst := rfl) (fun b1205r M1206 n1207 b1205 => ?_)
                  obtain ⟨T1208, J1209, rfl, f1212⟩ := b1205
                  have I1210 := I933.call J1209 (tm_sub (by decide)) (Or.inl rfl)
                  have t1213 := J1209.up t941
                  have q1214 := J1209.keep (I933.up h_o0) (by decide) q951
                  have q1215 := J1209.keep (I933.up h_o0) (by decide) q952
                  have q1216 := J1209.keep t941 (by decide) q962
                  obtain ⟨s1217, e1218⟩ : ∃ s9 : p_S, p_nx s942 = s9 := ⟨_, rfl⟩
                  rw [e1218] at f1212
                  have : s1217.1 = 0 := by rw [← e1218]; show s942.1 = 0; omega
                  obtain ⟨v1219, v1220, v1221, v1222, v1223, v1224, v1225, q1226, q1227, q1228, q1229, q1230, q1231, q1232, h1233, h1234, h1235⟩ := f1212
                  replace h1234 := Im.i h1234
                  replace h1235 := Im.i h1235
                  refine mv_aload_n d_Reader_term_115 rfl rfl ?_
                  obtain ⟨_, b1242, -⟩ := I1210.1 _ _ t1213
                  refine mv_callV (kc' := 0) (ks' := 0) (As := []) (st9 := [.ref o0]) d_Reader_term_116 lV_Reader_186 b1242 rfl (tg_Reader_sum hK9 H_sum H_condition (d := d) (x9 := x9) (o0 := o0) t1213 (p := p) q1216 (by omega) (by first | omega | decide) (hK I1210) ⟨_, _, _, _, _, _, _, q1226, q1227, q1228, q1229, q1230, q1231, q1232, h1233, Im.o h1234, Im.o h1235⟩ (by omega) I1210.start) rfl (Nat.le_of_ble_eq_true rfl) (Nat.le_of_ble_eq_true rfl) (Nat.le_of_ble_eq_true rfl) (hst := rfl) (fun b1236r M1237 n1238 b1236 => ?_)
                  obtain ⟨T1239, J1240, v1243, rfl, b1244, b1245, o1246, f1247, f1248⟩ := b1236
                  have I1241 := I1210.call J1240 (tm_sub (by decide)) (Or.inl rfl)
                  have t1249 := J1240.up t1213
                  obtain ⟨s1250, e1251⟩ : ∃ s9 : p_S, p_sum pb pn pa (p_op pb pn pa (r7 + 1)) s1217 = s9 := ⟨_, rfl⟩
                  rw [e1251] at f1247 f1248
                  obtain ⟨v1252, v1253, v1254, v1255, v1256, v1257, v1258, q1259, q1260, q1261, q1262, q1263, q1264, q1265, h1266, h1267, h1268⟩ := f1247
                  replace h1267 := Im.i h1267
                  replace h1268 := Im.i h1268
                  have := mz_hi v1243
                  refine mv_if_neZ (tgt := 124) (a := v1243.toInt) d_Reader_term_119 (by decide) rfl (fun b1269 => ?_) (fun b1269 => ?_)
                  · have q1270 := o1246 (by omega)
                    refine mv_aload_n d_Reader_term_124 rfl rfl ?_
                    refine mv_iload_n d_Reader_term_125 rfl rfl ?_
                    refine mv_iconst (v := 0) d_Reader_term_126 (by decide) ?_
                    obtain ⟨_, b1277, -⟩ := I1241.1 _ _ t1249
                    refine mv_callV (kc' := 0) (ks' := 0) (As := [.int 5, .int 0]) (st9 := [.int 0, .int 5, .ref o0]) d_Reader_term_127 lV_Reader_203 b1277 rfl (tc_Reader_emit (d := (d + E + 7)) (x9 := x9) (o0 := o0) (x1 := 5) (x2 := 0) t1249 I1241.start) rfl (Nat.le_of_ble_eq_true rfl) (Nat.le_of_ble_eq_true rfl) (Nat.le_of_ble_eq_true rfl) (hst := rfl) (fun b1271r M1272 n1273 b1271 => ?_)
                    obtain ⟨T1274, J1275, rfl⟩ := b1271
                    have I1276 := I1241.call J1275 (tm_sub (by decide)) (Or.inl rfl)
                    have t1278 := J1275.up t1249
                    have q1279 := J1275.keep (I1241.up h_o0) (by decide) q1259
                    have q1280 := J1275.keep (I1241.up h_o0) (by decide) q1260
                    have q1281 := J1275.keep (I1241.up h_o0) (by decide) q1261
                    have q1282 := J1275.keep (I1241.up h_o0) (by decide) q1262
                    have q1283 := J1275.keep (I1241.up h_o0) (by decide) q1263
                    have q1284 := J1275.keep (I1241.up h_o0) (by decide) q1264
                    have q1285 := J1275.keep (I1241.up h_o0) (by decide) q1265
                    have q1286 := J1275.keep t1249 (by decide) q1270
                    refine mv_iload_n d_Reader_term_130 rfl rfl ?_
                    have := mz_hi i1_18
                    refine mv_if_eqZ (tgt := 141) (a := i1_18.toInt) d_Reader_term_131 (by decide) rfl (fun b1287 => ?_) (fun b1287 => ?_)
                    · refine mv_iconst (v := 1) d_Reader_term_141 (by decide) ?_
                      exact mv_iret d_Reader_term_142 rfl (by decide) ⟨_, I1276, _, rfl, by decide, by decide, fun _ => q1286, (by have := (Im.o h40) (by omega); have := yC.d s19.2.2; have := yC.kn s19.2.2; have := (Im.o h960) (by omega); have := yC.d s942.2.2; have := yC.kn s942.2.2; have eT : p_ter pb pn pa (r7 + 1) (p_oc pb pn pa (r7 + 1)) ps = s1250 := (by have hop : p_oc pb pn pa (r7 + 1) s19 = p_sg pb pn 93 (p_con pb pn pa r7 (p_oc pb pn pa r7) (p_nx s19)) := rfl; have hX := e23.symm.trans (p_lp_stop (show (p_no1 pb pn) s19 = s19 from if_neg (fun h9 => by omega))); unfold p_ter; rw [hX]; unfold p_te1; unfold p_cmp; (try simp only [hop]); (try simp only [e943, e1218, e1251]); ((repeat' (first | (with_reducible rfl) | split)) <;> (first | ((try simp only [e943, e1218, e1251]); done) | (exfalso; omega)))); rw [eT]; exact ⟨⟨_, _, _, _, _, _, _, q1279, q1280, q1281, q1282, q1283, q1284, q1285, h1266, Im.o h1267, Im.o h1268⟩, (Or.inl ⟨by first | decide | omega, by omega⟩)⟩)⟩
                    · refine mv_aload_n d_Reader_term_134 rfl rfl ?_
                      refine mv_bipush (v := 8) d_Reader_term_135 (by decide) ?_
                      refine mv_iconst (v := 0) d_Reader_term_137 (by decide) ?_
                      obtain ⟨_, b1294, -⟩ := I1276.1 _ _ t1278
                      refine mv_callV (kc' := 0) (ks' := 0) (As := [.int 8, .int 0]) (st9 := [.int 0, .int 8, .ref o0]) d_Reader_term_138 lV_Reader_203 b1294 rfl (tc_Reader_emit (d := (d + E + 7)) (x9 := x9) (o0 := o0) (x1 := 8) (x2 := 0) t1278 I1276.start) rfl (Nat.le_of_ble_eq_true rfl) (Nat.le_of_ble_eq_true rfl) (Nat.le_of_ble_eq_true rfl) (hst := rfl) (fun b1288r M1289 n1290 b1288 => ?_)
                      obtain ⟨T1291, J1292, rfl⟩ := b1288
                      have I1293 := I1276.call J1292 (tm_sub (by decide)) (Or.inl rfl)
                      have t1295 := J1292.up t1278
                      have q1296 := J1292.keep t1278 (by decide) q1279
                      have q1297 := J1292.keep t1278 (by decide) q1280
                      have q1298 := J1292.keep t1278 (by decide) q1281
                      have q1299 := J1292.keep t1278 (by decide) q1282
                      have q1300 := J1292.keep t1278 (by decide) q1283
                      have q1301 := J1292.keep t1278 (by decide) q1284
                      have q1302 := J1292.keep t1278 (by decide) q1285
                      have q1303 := J1292.keep t1278 (by decide) q1286
                      refine mv_iconst (v := 1) d_Reader_term_141 (by decide) ?_
                      exact mv_iret d_Reader_term_142 rfl (by decide) ⟨_, I1293, _, rfl, by decide, by decide, fun _ => q1303, (by have := (Im.o h40) (by omega); have := yC.d s19.2.2; have := yC.kn s19.2.2; have := (Im.o h960) (by omega); have := yC.d s942.2.2; have := yC.kn s942.2.2; have eT : p_ter pb pn pa (r7 + 1) (p_oc pb pn pa (r7 + 1)) ps = s1250 := (by have hop : p_oc pb pn pa (r7 + 1) s19 = p_sg pb pn 93 (p_con pb pn pa r7 (p_oc pb pn pa r7) (p_nx s19)) := rfl; have hX := e23.symm.trans (p_lp_stop (show (p_no1 pb pn) s19 = s19 from if_neg (fun h9 => by omega))); unfold p_ter; rw [hX]; unfold p_te1; unfold p_cmp; (try simp only [hop]); (try simp only [e943, e1218, e1251]); ((repeat' (first | (with_reducible rfl) | split)) <;> (first | ((try simp only [e943, e1218, e1251]); done) | (exfalso; omega)))); rw [eT]; exact ⟨⟨_, _, _, _, _, _, _, q1296, q1297, q1298, q1299, q1300, q1301, q1302, h1266, Im.o h1267, Im.o h1268⟩, (Or.inl ⟨by first | decide | omega, by omega⟩)⟩)⟩
                  · refine mv_iconst (v := 0) d_Reader_term_122 (by decide) ?_
                    exact mv_iret d_Reader_term_123 rfl (by decide) ⟨_, I1241, _, rfl, by decide, by decide, fun h => absurd h (by decide), (by have := (Im.o h40) (by omega); have := yC.d s19.2.2; have := yC.kn s19.2.2; have := (Im.o h960) (by omega); have := yC.d s942.2.2; have := yC.kn s942.2.2; have hb : s1250.1 ≠ 0 := (by omega); have z1 : ∀ c, p_sg pb pn c s1250 = s1250 := (fun c => p_sg_Z s1250 hb); have z2 : ∀ c, p_wd pb pn c s1250 = s1250 := (fun c => p_wd_Z s1250 hb); have z3 : ∀ op, p_sum pb pn pa op s1250 = s1250 := (fun op => p_sum_Z s1250 hb); have z4 : ∀ r oc, p_con pb pn pa r oc s1250 = s1250 := (fun r oc => p_con_Z s1250 hb); have z5 : p_prt pb pn s1250 = s1250 := p_prt_Z s1250 hb; have eT : p_ter pb pn pa (r7 + 1) (p_oc pb pn pa (r7 + 1)) ps = s1250 := (by have hop : p_oc pb pn pa (r7 + 1) s19 = p_sg pb pn 93 (p_con pb pn pa r7 (p_oc pb pn pa r7) (p_nx s19)) := rfl; have hX := e23.symm.trans (p_lp_stop (show (p_no1 pb pn) s19 = s19 from if_neg (fun h9 => by omega))); unfold p_ter; rw [hX]; unfold p_te1; unfold p_cmp; (try simp only [hop]); (try simp only [e943, e1218, e1251, z1, z2, z3, z4, z5]); ((repeat' (first | (with_reducible rfl) | split)) <;> (first | ((try simp only [e943, e1218, e1251, z1, z2, z3, z4, z5]); done) | (exfalso; omega)))); rw [eT]; exact ⟨⟨_, _, _, _, _, _, _, q1259, q1260, q1261, q1262, q1263, q1264, q1265, h1266, Im.o h1267, Im.o h1268⟩, (Or.inr ⟨by first | decide | omega, by omega⟩)⟩)⟩
            · refine mv_iconst (v := 0) d_Reader_term_93 (by decide) ?_
              exact mv_iret d_Reader_term_94 rfl (by decide) ⟨_, I933, _, rfl, by decide, by decide, fun h => absurd h (by decide), (by have := (Im.o h40) (by omega); have := yC.d s19.2.2; have := yC.kn s19.2.2; have hb : s942.1 ≠ 0 := (by omega); have z1 : ∀ c, p_sg pb pn c s942 = s942 := (fun c => p_sg_Z s942 hb); have z2 : ∀ c, p_wd pb pn c s942 = s942 := (fun c => p_wd_Z s942 hb); have z3 : ∀ op, p_sum pb pn pa op s942 = s942 := (fun op => p_sum_Z s942 hb); have z4 : ∀ r oc, p_con pb pn pa r oc s942 = s942 := (fun r oc => p_con_Z s942 hb); have z5 : p_prt pb pn s942 = s942 := p_prt_Z s942 hb; have eT : p_ter pb pn pa (r7 + 1) (p_oc pb pn pa (r7 + 1)) ps = s942 := (by have hop : p_oc pb pn pa (r7 + 1) s19 = p_sg pb pn 93 (p_con pb pn pa r7 (p_oc pb pn pa r7) (p_nx s19)) := rfl; have hX := e23.symm.trans (p_lp_stop (show (p_no1 pb pn) s19 = s19 from if_neg (fun h9 => by omega))); unfold p_ter; rw [hX]; unfold p_te1; unfold p_cmp; (try simp only [hop]); (try simp only [e943, z1, z2, z3, z4, z5]); ((repeat' (first | (with_reducible rfl) | split)) <;> (first | ((try simp only [e943, z1, z2, z3, z4, z5]); done) | (exfalso; omega)))); rw [eT]; exact ⟨⟨_, _, _, _, _, _, _, q951, q952, q953, q954, q955, q956, q957, h958, Im.o h959, Im.o h960⟩, (Or.inr ⟨by first | decide | omega, by omega⟩)⟩)⟩
          · refine mv_aload_n d_Reader_isSign_8 rfl rfl ?_
            refine tr_getK (k := 13) q37 d_Reader_isSign_9 f_Reader_241_9 ?_
            refine mv_iload_n d_Reader_isSign_12 rfl rfl ?_
            have := mz_hi v30
            refine mv_icmp_neZ (tgt := 20) (a := v30.toInt) (b := 91) d_Reader_isSign_13 (by decide) rfl (by decide) (fun b1304 => ?_) (fun b1304 => ?_)
            · refine mv_iconst (v := 0) d_Reader_isSign_20 (by decide) ?_
              refine mv_iret d_Reader_isSign_21 rfl (by decide) ?_
              refine mv_if_eq_t (tgt := 86) d_Reader_term_46 (by decide) (by decide) ?_
              refine mv_aload_n d_Reader_term_86 rfl rfl ?_
              obtain ⟨_, b1311, -⟩ := I_18.1 _ _ h_q0_18
              refine mv_callV (kc' := 0) (ks' := 0) (As := []) (st9 := [.ref o0]) d_Reader_term_87 lV_Reader_186 b1311 rfl (tg_Reader_sum hK9 H_sum H_condition (d := d) (x9 := x9) (o0 := o0) h_q0_18 (p := p) kp0_18 (by omega) (by first | omega | decide) (hK I_18) ⟨_, _, _, _, _, _, _, q31, q32, q33, q34, q35, q36, q37, h38, Im.o h39, Im.o h40⟩ (by omega) I_18.start) rfl (Nat.le_of_ble_eq_true rfl) (Nat.le_of_ble_eq_true rfl) (Nat.le_of_ble_eq_true rfl) (hst := rfl) (fun b1305r M1306 n1307 b1305 => ?_)
              obtain ⟨T1308, J1309, v1312, rfl, b1313, b1314, o1315, f1316, f1317⟩ := b1305
              have I1310 := I_18.call J1309 (tm_sub (by decide)) (Or.inl rfl)
              have t1318 := J1309.up h_q0_18
              obtain ⟨s1319, e1320⟩ : ∃ s9 : p_S, p_sum pb pn pa (p_op pb pn pa (r7 + 1)) s19 = s9 := ⟨_, rfl⟩
              rw [e1320] at f1316 f1317
              obtain ⟨v1321, v1322, v1323, v1324, v1325, v1326, v1327, q1328, q1329, q1330, q1331, q1332, q1333, q1334, h1335, h1336, h1337⟩ := f1316
              replace h1336 := Im.i h1336
              replace h1337 := Im.i h1337
              have := mz_hi v1312
              refine mv_if_neZ (tgt := 95) (a := v1312.toInt) d_Reader_term_90 (by decide) rfl (fun b1338 => ?_) (fun b1338 => ?_)
              · have q1339 := o1315 (by omega)
                refine mv_aload_n d_Reader_term_95 rfl rfl ?_
                obtain ⟨_, b1340, -⟩ := I1310.1 _ _ t1318
                refine mv_callV (kc1 := 0) (ks1 := 0) (kc' := 0) (ks' := 0) (As := []) (st9 := [.ref o0]) d_Reader_term_96 lV_Reader_215 b1340 rfl (mj_enter (by decide) (Nat.le_of_ble_eq_true rfl) ?_) rfl (Nat.le_of_ble_eq_true rfl) (Nat.le_of_ble_eq_true rfl) (Nat.le_of_ble_eq_true rfl) (hst := rfl) (fun _ _ _ h => h)
                refine mv_aload_n d_Reader_comparisonHere_0 rfl rfl ?_
                refine mv_bipush (v := 60) d_Reader_comparisonHere_1 (by decide) ?_
                obtain ⟨_, b1341, -⟩ := I1310.1 _ _ t1318
                refine mv_callV (kc1 := 0) (ks1 := 0) (kc' := 0) (ks' := 0) (As := [.int 60]) (st9 := [.int 60, .ref o0]) d_Reader_comparisonHere_3 lV_Reader_209 b1341 rfl (mj_enter (by decide) (Nat.le_of_ble_eq_true rfl) ?_) rfl (Nat.le_of_ble_eq_true rfl) (Nat.le_of_ble_eq_true rfl) (Nat.le_of_ble_eq_true rfl) (hst := rfl) (fun _ _ _ h => h)
                refine mv_aload_n d_Reader_isSign_0 rfl rfl ?_
                refine tr_getK (k := 10) q1331 d_Reader_isSign_1 f_Reader_41_9 ?_
                refine mv_iconst (v := 3) d_Reader_isSign_4 (by decide) ?_
                have := mz_hi v1324
                refine mv_icmp_neZ (tgt := 20) (a := v1324.toInt) (b := 3) d_Reader_isSign_5 (by decide) rfl (by decide) (fun b1342 => ?_) (fun b1342 => ?_)
                · refine mv_iconst (v := 0) d_Reader_isSign_20 (by decide) ?_
                  refine mv_iret d_Reader_isSign_21 rfl (by decide) ?_
                  refine mv_if_eq_t (tgt := 11) d_Reader_comparisonHere_6 (by decide) (by decide) ?_
                  refine mv_aload_n d_Reader_comparisonHere_11 rfl rfl ?_
                  refine mv_bipush (v := 62) d_Reader_comparisonHere_12 (by decide) ?_
                  obtain ⟨_, b1343, -⟩ := I1310.1 _ _ t1318
                  refine mv_callV (kc1 := 0) (ks1 := 0) (kc' := 0) (ks' := 0) (As := [.int 62]) (st9 := [.int 62, .ref o0]) d_Reader_comparisonHere_14 lV_Reader_209 b1343 rfl (mj_enter (by decide) (Nat.le_of_ble_eq_true rfl) ?_) rfl (Nat.le_of_ble_eq_true rfl) (Nat.le_of_ble_eq_true rfl) (Nat.le_of_ble_eq_true rfl) (hst := rfl) (fun _ _ _ h => h)
                  refine mv_aload_n d_Reader_isSign_0 rfl rfl ?_
                  refine tr_getK (k := 10) q1331 d_Reader_isSign_1 f_Reader_41_9 ?_
                  refine mv_iconst (v := 3) d_Reader_isSign_4 (by decide) ?_
                  have := mz_hi v1324
                  refine mv_icmp_neZ (tgt := 20) (a := v1324.toInt) (b := 3) d_Reader_isSign_5 (by decide) rfl (by decide) (fun b1344 => ?_) (fun b1344 => absurd b1344 (by omega))
                  refine mv_iconst (v := 0) d_Reader_isSign_20 (by decide) ?_
                  refine mv_iret d_Reader_isSign_21 rfl (by decide) ?_
                  refine mv_if_eq_t (tgt := 23) d_Reader_comparisonHere_17 (by decide) (by decide) ?_
                  refine mv_aload_n d_Reader_comparisonHere_23 rfl rfl ?_
                  refine mv_bipush (v := 61) d_Reader_comparisonHere_24 (by decide) ?_
                  obtain ⟨_, b1345, -⟩ := I1310.1 _ _ t1318
                  refine mv_callV (kc1 := 0) (ks1 := 0) (kc' := 0) (ks' := 0) (As := [.int 61]) (st9 := [.int 61, .ref o0]) d_Reader_comparisonHere_26 lV_Reader_209 b1345 rfl (mj_enter (by decide) (Nat.le_of_ble_eq_true rfl) ?_) rfl (Nat.le_of_ble_eq_true rfl) (Nat.le_of_ble_eq_true rfl) (Nat.le_of_ble_eq_true rfl) (hst := rfl) (fun _ _ _ h => h)
                  refine mv_aload_n d_Reader_isSign_0 rfl rfl ?_
                  refine tr_getK (k := 10) q1331 d_Reader_isSign_1 f_Reader_41_9 ?_
                  refine mv_iconst (v := 3) d_Reader_isSign_4 (by decide) ?_
                  have := mz_hi v1324
                  refine mv_icmp_neZ (tgt := 20) (a := v1324.toInt) (b := 3) d_Reader_isSign_5 (by decide) rfl (by decide) (fun b1346 => ?_) (fun b1346 => absurd b1346 (by omega))
                  refine mv_iconst (v := 0) d_Reader_isSign_20 (by decide) ?_
                  refine mv_iret d_Reader_isSign_21 rfl (by decide) ?_
                  refine mv_if_eq_t (tgt := 37) d_Reader_comparisonHere_29 (by decide) (by decide) ?_
                  refine mv_iconst (v := (-1)) d_Reader_comparisonHere_37 (by decide) ?_
                  refine mv_iret d_Reader_comparisonHere_38 rfl (by first | rfl | decide) ?_
                  refine mv_istore_n (lv' := [(2, .int (-1)), (1, .int i1_18), (0, .ref o0)]) d_Reader_term_99 rfl (by decide) rfl ?_
                  refine mv_iload_n d_Reader_term_100 rfl rfl ?_
                  refine mv_iconst (v := (-1)) d_Reader_term_101 (by decide) ?_
                  refine mv_icmp_ne_f (tgt := 111) d_Reader_term_102 (by decide) (by decide) ?_
                  refine mv_aload_n d_Reader_term_105 rfl rfl ?_
                  refine mv_iconst (v := 1) d_Reader_term_106 (by decide) ?_
                  obtain ⟨_, b1347, -⟩ := I1310.1 _ _ t1318
                  refine mv_callV (kc1 := 0) (ks1 := 0) (kc' := 0) (ks' := 0) (As := [.int 1]) (st9 := [.int 1, .ref o0]) d_Reader_term_107 lV_Reader_56 b1347 rfl (mj_enter (by decide) (Nat.le_of_ble_eq_true rfl) ?_) rfl (Nat.le_of_ble_eq_true rfl) (Nat.le_of_ble_eq_true rfl) (Nat.le_of_ble_eq_true rfl) (hst := rfl) (fun _ _ _ h => h)
                  refine mv_aload_n d_Reader_refuse_0 rfl rfl ?_
                  refine mv_iload_n d_Reader_refuse_1 rfl rfl ?_
                  refine tr_putK tm_okF I1310 t1318 (k := 1) rfl ⟨_, rfl⟩ (Or.inl (by decide)) d_Reader_refuse_2 p_Reader_70_9 rfl rfl (fun M1348 I1349 q1350 K1351 => ?_)
                  refine mv_aload_n d_Reader_refuse_5 rfl rfl ?_
                  refine mv_aload_n d_Reader_refuse_6 rfl rfl ?_
                  refine tr_getK (k := 11) (K1351 _ 9 11 _ rfl q1332) d_Reader_refuse_7 f_Reader_175_9 ?_
                  refine tr_putK tm_okF I1349 t1318 (k := 2) rfl ⟨_, rfl⟩ (Or.inl (by decide)) d_Reader_refuse_10 p_Reader_11_9 rfl rfl (fun M1352 I1353 q1354 K1355 => ?_)
                  refine mv_iconst (v := 0) d_Reader_refuse_13 (by decide) ?_
                  obtain ⟨s1356, e1357⟩ : ∃ s9 : p_S, p_fl pb pn 1 s1319 = s9 := ⟨_, rfl⟩
                  have h1358 := q_fl e1357 (by omega) (by decide)
                  have h1359 : (1 : Int32).toInt = s1356.1 := (by have e9 : (1 : Int32).toInt = 1 := (by decide); omega)
                  have h1360 : Im (s1356.1 ≠ 0 → v1325.toInt = (s1356.2.1 : Int)) := Im.i (fun _ => by have := (Im.o h1337) (by omega); omega)
                  have h1361 : Im (s1356.1 = 0 → v1323.toInt = (s1356.2.2 : Int) ∧ v1324.toInt = p_ki pb pn s1356.2.2 ∧ v1325.toInt = (p_st pb pn s1356.2.2 : Int) ∧ v1326.toInt = (p_sp pb pn s1356.2.2 : Int) ∧ v1327.toInt = p_va pb pn s1356.2.2 ∧ v1325.toInt = -1) := Im.i (fun z9 => absurd z9 h1358.2.2)
                  refine mv_iret d_Reader_refuse_14 rfl (by decide) ?_
                  exact mv_iret d_Reader_term_110 rfl (by decide) ⟨_, I1353, _, rfl, by decide, by decide, fun h => absurd h (by decide), (by have := (Im.o h40) (by omega); have := yC.d s19.2.2; have := yC.kn s19.2.2; have := (Im.o h1337) (by omega); have := yC.d s1319.2.2; have := yC.kn s1319.2.2; have hb : s1356.1 ≠ 0 := (by omega); have z1 : ∀ c, p_sg pb pn c s1356 = s1356 := (fun c => p_sg_Z s1356 hb); have z2 : ∀ c, p_wd pb pn c s1356 = s1356 := (fun c => p_wd_Z s1356 hb); have z3 : ∀ op, p_sum pb pn pa op s1356 = s1356 := (fun op => p_sum_Z s1356 hb); have z4 : ∀ r oc, p_con pb pn pa r oc s1356 = s1356 := (fun r oc => p_con_Z s1356 hb); have z5 : p_prt pb pn s1356 = s1356 := p_prt_Z s1356 hb; have eT : p_ter pb pn pa (r7 + 1) (p_oc pb pn pa (r7 + 1)) ps = s1356 := (by have hop : p_oc pb pn pa (r7 + 1) s19 = p_sg pb pn 93 (p_con pb pn pa r7 (p_oc pb pn pa r7) (p_nx s19)) := rfl; have hX := e23.symm.trans (p_lp_stop (show (p_no1 pb pn) s19 = s19 from if_neg (fun h9 => by omega))); unfold p_ter; rw [hX]; unfold p_te1; unfold p_cmp; (try simp only [hop]); (try simp only [e1320, e1357, z1, z2, z3, z4, z5]); ((repeat' (first | (with_reducible rfl) | split)) <;> (first | ((try simp only [e1320, e1357, z1, z2, z3, z4, z5]); done) | (exfalso; omega)))); rw [eT]; exact ⟨⟨_, _, _, _, _, _, _, (K1355 _ 9 1 _ rfl q1350), q1354, (K1355 _ 9 9 _ rfl (K1351 _ 9 9 _ rfl q1330)), (K1355 _ 9 10 _ rfl (K1351 _ 9 10 _ rfl q1331)), (K1355 _ 9 11 _ rfl (K1351 _ 9 11 _ rfl q1332)), (K1355 _ 9 12 _ rfl (K1351 _ 9 12 _ rfl q1333)), (K1355 _ 9 13 _ rfl (K1351 _ 9 13 _ rfl q1334)), h1359, Im.o h1360, Im.o h1361⟩, (Or.inr ⟨by first | decide | omega, by omega⟩)⟩)⟩
                · refine mv_aload_n d_Reader_isSign_8 rfl rfl ?_
                  refine tr_getK (k := 13) q1334 d_Reader_isSign_9 f_Reader_241_9 ?_
                  refine mv_iload_n d_Reader_isSign_12 rfl rfl ?_
                  have := mz_hi v1327
                  refine mv_icmp_neZ (tgt := 20) (a := v1327.toInt) (b := 60) d_Reader_isSign_13 (by decide) rfl (by decide) (fun b1362 => ?_) (fun b1362 => ?_)
                  · refine mv_iconst (v := 0) d_Reader_isSign_20 (by decide) ?_
                    refine mv_iret d_Reader_isSign_21 rfl (by decide) ?_
                    refine mv_if_eq_t (tgt := 11) d_Reader_comparisonHere_6 (by decide) (by decide) ?_
                    refine mv_aload_n d_Reader_comparisonHere_11 rfl rfl ?_
                    refine mv_bipush (v := 62) d_Reader_comparisonHere_12 (by decide) ?_
                    obtain ⟨_, b1363, -⟩ := I1310.1 _ _ t1318
                    refine mv_callV (kc1 := 0) (ks1 := 0) (kc' := 0) (ks' := 0) (As := [.int 62]) (st9 := [.int 62, .ref o0]) d_Reader_comparisonHere_14 lV_Reader_209 b1363 rfl (mj_enter (by decide) (Nat.le_of_ble_eq_true rfl) ?_) rfl (Nat.le_of_ble_eq_true rfl) (Nat.le_of_ble_eq_true rfl) (Nat.le_of_ble_eq_true rfl) (hst := rfl) (fun _ _ _ h => h)
                    refine mv_aload_n d_Reader_isSign_0 rfl rfl ?_
                    refine tr_getK (k := 10) q1331 d_Reader_isSign_1 f_Reader_41_9 ?_
                    refine mv_iconst (v := 3) d_Reader_isSign_4 (by decide) ?_
                    have := mz_hi v1324
                    refine mv_icmp_neZ (tgt := 20) (a := v1324.toInt) (b := 3) d_Reader_isSign_5 (by decide) rfl (by decide) (fun b1364 => absurd b1364 (by omega)) (fun b1364 => ?_)
                    refine mv_aload_n d_Reader_isSign_8 rfl rfl ?_
                    refine tr_getK (k := 13) q1334 d_Reader_isSign_9 f_Reader_241_9 ?_
                    refine mv_iload_n d_Reader_isSign_12 rfl rfl ?_
                    have := mz_hi v1327
                    refine mv_icmp_neZ (tgt := 20) (a := v1327.toInt) (b := 62) d_Reader_isSign_13 (by decide) rfl (by decide) (fun b1365 => ?_) (fun b1365 => ?_)
                    · refine mv_iconst (v := 0) d_Reader_isSign_20 (by decide) ?_
                      refine mv_iret d_Reader_isSign_21 rfl (by decide) ?_
                      refine mv_if_eq_t (tgt := 23) d_Reader_comparisonHere_17 (by decide) (by decide) ?_
                      refine mv_aload_n d_Reader_comparisonHere_23 rfl rfl ?_
                      refine mv_bipush (v := 61) d_Reader_comparisonHere_24 (by decide) ?_
                      obtain ⟨_, b1366, -⟩ := I1310.1 _ _ t1318
                      refine mv_callV (kc1 := 0) (ks1 := 0) (kc' := 0) (ks' := 0) (As := [.int 61]) (st9 := [.int 61, .ref o0]) d_Reader_comparisonHere_26 lV_Reader_209 b1366 rfl (mj_enter (by decide) (Nat.le_of_ble_eq_true rfl) ?_) rfl (Nat.le_of_ble_eq_true rfl) (Nat.le_of_ble_eq_true rfl) (Nat.le_of_ble_eq_true rfl) (hst := rfl) (fun _ _ _ h => h)
                      refine mv_aload_n d_Reader_isSign_0 rfl rfl ?_
                      refine tr_getK (k := 10) q1331 d_Reader_isSign_1 f_Reader_41_9 ?_
                      refine mv_iconst (v := 3) d_Reader_isSign_4 (by decide) ?_
                      have := mz_hi v1324
                      refine mv_icmp_neZ (tgt := 20) (a := v1324.toInt) (b := 3) d_Reader_isSign_5 (by decide) rfl (by decide) (fun b1367 => absurd b1367 (by omega)) (fun b1367 => ?_)
                      refine mv_aload_n d_Reader_isSign_8 rfl rfl ?_
                      refine tr_getK (k := 13) q1334 d_Reader_isSign_9 f_Reader_241_9 ?_
                      refine mv_iload_n d_Reader_isSign_12 rfl rfl ?_
                      have := mz_hi v1327
                      refine mv_icmp_neZ (tgt := 20) (a := v1327.toInt) (b := 61) d_Reader_isSign_13 (by decide) rfl (by decide) (fun b1368 => ?_) (fun b1368 => ?_)
                      · refine mv_iconst (v := 0) d_Reader_isSign_20 (by decide) ?_
                        refine mv_iret d_Reader_isSign_21 rfl (by decide) ?_
                        refine mv_if_eq_t (tgt := 37) d_Reader_comparisonHere_29 (by decide) (by decide) ?_
                        refine mv_iconst (v := (-1)) d_Reader_comparisonHere_37 (by decide) ?_
                        refine mv_iret d_Reader_comparisonHere_38 rfl (by first | rfl | decide) ?_
                        refine mv_istore_n (lv' := [(2, .int (-1)), (1, .int i1_18), (0, .ref o0)]) d_Reader_term_99 rfl (by decide) rfl ?_
                        refine mv_iload_n d_Reader_term_100 rfl rfl ?_
                        refine mv_iconst (v := (-1)) d_Reader_term_101 (by decide) ?_
                        refine mv_icmp_ne_f (tgt := 111) d_Reader_term_102 (by decide) (by decide) ?_
                        refine mv_aload_n d_Reader_term_105 rfl rfl ?_
                        refine mv_iconst (v := 1) d_Reader_term_106 (by decide) ?_
                        obtain ⟨_, b1369, -⟩ := I1310.1 _ _ t1318
                        refine mv_callV (kc1 := 0) (ks1 := 0) (kc' := 0) (ks' := 0) (As := [.int 1]) (st9 := [.int 1, .ref o0]) d_Reader_term_107 lV_Reader_56 b1369 rfl (mj_enter (by decide) (Nat.le_of_ble_eq_true rfl) ?_) rfl (Nat.le_of_ble_eq_true rfl) (Nat.le_of_ble_eq_true rfl) (Nat.le_of_ble_eq_true rfl) (hst := rfl) (fun _ _ _ h => h)
                        refine mv_aload_n d_Reader_refuse_0 rfl rfl ?_
                        refine mv_iload_n d_Reader_refuse_1 rfl rfl ?_
                        refine tr_putK tm_okF I1310 t1318 (k := 1) rfl ⟨_, rfl⟩ (Or.inl (by decide)) d_Reader_refuse_2 p_Reader_70_9 rfl rfl (fun M1370 I1371 q1372 K1373 => ?_)
                        refine mv_aload_n d_Reader_refuse_5 rfl rfl ?_
                        refine mv_aload_n d_Reader_refuse_6 rfl rfl ?_
                        refine tr_getK (k := 11) (K1373 _ 9 11 _ rfl q1332) d_Reader_refuse_7 f_Reader_175_9 ?_
                        refine tr_putK tm_okF I1371 t1318 (k := 2) rfl ⟨_, rfl⟩ (Or.inl (by decide)) d_Reader_refuse_10 p_Reader_11_9 rfl rfl (fun M1374 I1375 q1376 K1377 => ?_)
                        refine mv_iconst (v := 0) d_Reader_refuse_13 (by decide) ?_
                        obtain ⟨s1378, e1379⟩ : ∃ s9 : p_S, p_fl pb pn 1 s1319 = s9 := ⟨_, rfl⟩
                        have h1380 := q_fl e1379 (by omega) (by decide)
                        have h1381 : (1 : Int32).toInt = s1378.1 := (by have e9 : (1 : Int32).toInt = 1 := (by decide); omega)
                        have h1382 : Im (s1378.1 ≠ 0 → v1325.toInt = (s1378.2.1 : Int)) := Im.i (fun _ => by have := (Im.o h1337) (by omega); omega)
                        have h1383 : Im (s1378.1 = 0 → v1323.toInt = (s1378.2.2 : Int) ∧ v1324.toInt = p_ki pb pn s1378.2.2 ∧ v1325.toInt = (p_st pb pn s1378.2.2 : Int) ∧ v1326.toInt = (p_sp pb pn s1378.2.2 : Int) ∧ v1327.toInt = p_va pb pn s1378.2.2 ∧ v1325.toInt = -1) := Im.i (fun z9 => absurd z9 h1380.2.2)
                        refine mv_iret d_Reader_refuse_14 rfl (by decide) ?_
                        exact mv_iret d_Reader_term_110 rfl (by decide) ⟨_, I1375, _, rfl, by decide, by decide, fun h => absurd h (by decide), (by have := (Im.o h40) (by omega); have := yC.d s19.2.2; have := yC.kn s19.2.2; have := (Im.o h1337) (by omega); have := yC.d s1319.2.2; have := yC.kn s1319.2.2; have hb : s1378.1 ≠ 0 := (by omega); have z1 : ∀ c, p_sg pb pn c s1378 = s1378 := (fun c => p_sg_Z s1378 hb); have z2 : ∀ c, p_wd pb pn c s1378 = s1378 := (fun c => p_wd_Z s1378 hb); have z3 : ∀ op, p_sum pb pn pa op s1378 = s1378 := (fun op => p_sum_Z s1378 hb); have z4 : ∀ r oc, p_con pb pn pa r oc s1378 = s1378 := (fun r oc => p_con_Z s1378 hb); have z5 : p_prt pb pn s1378 = s1378 := p_prt_Z s1378 hb; have eT : p_ter pb pn pa (r7 + 1) (p_oc pb pn pa (r7 + 1)) ps = s1378 := (by have hop : p_oc pb pn pa (r7 + 1) s19 = p_sg pb pn 93 (p_con pb pn pa r7 (p_oc pb pn pa r7) (p_nx s19)) := rfl; have hX := e23.symm.trans (p_lp_stop (show (p_no1 pb pn) s19 = s19 from if_neg (fun h9 => by omega))); unfold p_ter; rw [hX]; unfold p_te1; unfold p_cmp; (try simp only [hop]); (try simp only [e1320, e1379, z1, z2, z3, z4, z5]); ((repeat' (first | (with_reducible rfl) | split)) <;> (first | ((try simp only [e1320, e1379, z1, z2, z3, z4, z5]); done) | (exfalso; omega)))); rw [eT]; exact ⟨⟨_, _, _, _, _, _, _, (K1377 _ 9 1 _ rfl q1372), q1376, (K1377 _ 9 9 _ rfl (K1373 _ 9 9 _ rfl q1330)), (K1377 _ 9 10 _ rfl (K1373 _ 9 10 _ rfl q1331)), (K1377 _ 9 11 _ rfl (K1373 _ 9 11 _ rfl q1332)), (K1377 _ 9 12 _ rfl (K1373 _ 9 12 _ rfl q1333)), (K1377 _ 9 13 _ rfl (K1373 _ 9 13 _ rfl q1334)), h1381, Im.o h1382, Im.o h1383⟩, (Or.inr ⟨by first | decide | omega, by omega⟩)⟩)⟩
                      · refine mv_iconst (v := 1) d_Reader_isSign_16 (by decide) ?_
                        refine mv_goto (tgt := 21) d_Reader_isSign_17 (by decide) ?_
                        refine mv_iret d_Reader_isSign_21 rfl (by decide) ?_
                        refine mv_if_eq_f (tgt := 37) d_Reader_comparisonHere_29 (by decide) (by decide) ?_
                        refine mv_bipush (v := 7) d_Reader_comparisonHere_32 (by decide) ?_
                        refine mv_goto (tgt := 38) d_Reader_comparisonHere_34 (by decide) ?_
                        refine mv_iret d_Reader_comparisonHere_38 rfl (by first | rfl | decide) ?_
                        refine mv_istore_n (lv' := [(2, .int 7), (1, .int i1_18), (0, .ref o0)]) d_Reader_term_99 rfl (by decide) rfl ?_
                        refine mv_iload_n d_Reader_term_100 rfl rfl ?_
                        refine mv_iconst (v := (-1)) d_Reader_term_101 (by decide) ?_
                        refine mv_icmp_ne_t (tgt := 111) d_Reader_term_102 (by decide) (by decide) ?_
                        refine mv_aload_n d_Reader_term_111 rfl rfl ?_
                        obtain ⟨_, b1390, -⟩ := I1310.1 _ _ t1318
                        refine mv_callV (kc' := 0) (ks' := 0) (As := []) (st9 := [.ref o0]) d_Reader_term_112 lV_Reader_82 b1390 rfl (tc_Reader_advance_x (d := (d + E + 7)) (x9 := x9) (o0 := o0) t1318 (hK I1310) (qS.a (show qS M1306 o0 pb pn s1319 from ⟨_, _, _, _, _, _, _, q1328, q1329, q1330, q1331, q1332, q1333, q1334, h1335, Im.o h1336, Im.o h1337⟩)) (by have := (Im.o h40) (by omega); have := yC.d s19.2.2; have := yC.kn s19.2.2; have := (Im.o h1337) (by omega); have := yC.d s1319.2.2; have := yC.kn s1319.2.2; show s1319.2.2 + 1 ≤ 401; omega) I1310.start) rfl (Nat.le_of_ble_eq_true rfl) (Nat.le_of_ble_eq_true rfl) (Nat.le_of_ble_eq_true rfl) (hst := rfl) (fun b1384r M1385 n1386 b1384 => ?_)
                        obtain ⟨T1387, J1388, rfl, f1391⟩ := b1384
                        have I1389 := I1310.call J1388 (tm_sub (by decide)) (Or.inl rfl)
                        have t1392 := J1388.up t1318
                        have q1393 := J1388.keep (I1310.up h_o0) (by decide) q1328
                        have q1394 := J1388.keep (I1310.up h_o0) (by decide) q1329
                        have q1395 := J1388.keep t1318 (by decide) q1339
                        obtain ⟨s1396, e1397⟩ : ∃ s9 : p_S, p_nx s1319 = s9 := ⟨_, rfl⟩
                        rw [e1397] at f1391
                        have : s1396.1 = 0 := by rw [← e1397]; show s1319.1 = 0; omega
                        obtain ⟨v1398, v1399, v1400, v1401, v1402, v1403, v1404, q1405, q1406, q1407, q1408, q1409, q1410, q1411, h1412, h1413, h1414⟩ := f1391
                        replace h1413 := Im.i h1413
                        replace h1414 := Im.i h1414
                        refine mv_aload_n d_Reader_term_115 rfl rfl ?_
                        obtain ⟨_, b1421, -⟩ := I1389.1 _ _ t1392
                        refine mv_callV (kc' := 0) (ks' := 0) (As := []) (st9 := [.ref o0]) d_Reader_term_116 lV_Reader_186 b1421 rfl (tg_Reader_sum hK9 H_sum H_condition (d := d) (x9 := x9) (o0 := o0) t1392 (p := p) q1395 (by omega) (by first | omega | decide) (hK I1389) ⟨_, _, _, _, _, _, _, q1405, q1406, q1407, q1408, q1409, q1410, q1411, h1412, Im.o h1413, Im.o h1414⟩ (by omega) I1389.start) rfl (Nat.le_of_ble_eq_true rfl) (Nat.le_of_ble_eq_true rfl) (Nat.le_of_ble_eq_true rfl) (hst := rfl) (fun b1415r M1416 n1417 b1415 => ?_)
                        obtain ⟨T1418, J1419, v1422, rfl, b1423, b1424, o1425, f1426, f1427⟩ := b1415
                        have I1420 := I1389.call J1419 (tm_sub (by decide)) (Or.inl rfl)
                        have t1428 := J1419.up t1392
                        obtain ⟨s1429, e1430⟩ : ∃ s9 : p_S, p_sum pb pn pa (p_op pb pn pa (r7 + 1)) s1396 = s9 := ⟨_, rfl⟩
                        rw [e1430] at f1426 f1427
                        obtain ⟨v1431, v1432, v1433, v1434, v1435, v1436, v1437, q1438, q1439, q1440, q1441, q1442, q1443, q1444, h1445, h1446, h1447⟩ := f1426
                        replace h1446 := Im.i h1446
                        replace h1447 := Im.i h1447
                        have := mz_hi v1422
                        refine mv_if_neZ (tgt := 124) (a := v1422.toInt) d_Reader_term_119 (by decide) rfl (fun b1448 => ?_) (fun b1448 => ?_)
                        · have q1449 := o1425 (by omega)
                          refine mv_aload_n d_Reader_term_124 rfl rfl ?_
                          refine mv_iload_n d_Reader_term_125 rfl rfl ?_
                          refine mv_iconst (v := 0) d_Reader_term_126 (by decide) ?_
                          obtain ⟨_, b1456, -⟩ := I1420.1 _ _ t1428
                          refine mv_callV (kc' := 0) (ks' := 0) (As := [.int 7, .int 0]) (st9 := [.int 0, .int 7, .ref o0]) d_Reader_term_127 lV_Reader_203 b1456 rfl (tc_Reader_emit (d := (d + E + 7)) (x9 := x9) (o0 := o0) (x1 := 7) (x2 := 0) t1428 I1420.start) rfl (Nat.le_of_ble_eq_true rfl) (Nat.le_of_ble_eq_true rfl) (Nat.le_of_ble_eq_true rfl) (hst := rfl) (fun b1450r M1451 n1452 b1450 => ?_)
                          obtain ⟨T1453, J1454, rfl⟩ := b1450
                          have I1455 := I1420.call J1454 (tm_sub (by decide)) (Or.inl rfl)
                          have t1457 := J1454.up t1428
                          have q1458 := J1454.keep (I1420.up h_o0) (by decide) q1438
                          have q1459 := J1454.keep (I1420.up h_o0) (by decide) q1439
                          have q1460 := J1454.keep (I1420.up h_o0) (by decide) q1440
                          have q1461 := J1454.keep (I1420.up h_o0) (by decide) q1441
                          have q1462 := J1454.keep (I1420.up h_o0) (by decide) q1442
                          have q1463 := J1454.keep (I1420.up h_o0) (by decide) q1443
                          have q1464 := J1454.keep (I1420.up h_o0) (by decide) q1444
                          have q1465 := J1454.keep t1428 (by decide) q1449
                          refine mv_iload_n d_Reader_term_130 rfl rfl ?_
                          have := mz_hi i1_18
                          refine mv_if_eqZ (tgt := 141) (a := i1_18.toInt) d_Reader_term_131 (by decide) rfl (fun b1466 => ?_) (fun b1466 => ?_)
                          · refine mv_iconst (v := 1) d_Reader_term_141 (by decide) ?_
                            exact mv_iret d_Reader_term_142 rfl (by decide) ⟨_, I1455, _, rfl, by decide, by decide, fun _ => q1465, (by have := (Im.o h40) (by omega); have := yC.d s19.2.2; have := yC.kn s19.2.2; have := (Im.o h1337) (by omega); have := yC.d s1319.2.2; have := yC.kn s1319.2.2; have eT : p_ter pb pn pa (r7 + 1) (p_oc pb pn pa (r7 + 1)) ps = s1429 := (by have hop : p_oc pb pn pa (r7 + 1) s19 = p_sg pb pn 93 (p_con pb pn pa r7 (p_oc pb pn pa r7) (p_nx s19)) := rfl; have hX := e23.symm.trans (p_lp_stop (show (p_no1 pb pn) s19 = s19 from if_neg (fun h9 => by omega))); unfold p_ter; rw [hX]; unfold p_te1; unfold p_cmp; (try simp only [hop]); (try simp only [e1320, e1397, e1430]); ((repeat' (first | (with_reducible rfl) | split)) <;> (first | ((try simp only [e1320, e1397, e1430]); done) | (exfalso; omega)))); rw [eT]; exact ⟨⟨_, _, _, _, _, _, _, q1458, q1459, q1460, q1461, q1462, q1463, q1464, h1445, Im.o h1446, Im.o h1447⟩, (Or.inl ⟨by first | decide | omega, by omega⟩)⟩)⟩
                          · refine mv_aload_n d_Reader_term_134 rfl rfl ?_
                            refine mv_bipush (v := 8) d_Reader_term_135 (by decide) ?_
                            refine mv_iconst (v := 0) d_Reader_term_137 (by decide) ?_
                            obtain ⟨_, b1473, -⟩ := I1455.1 _ _ t1457
                            refine mv_callV (kc' := 0) (ks' := 0) (As := [.int 8, .int 0]) (st9 := [.int 0, .int 8, .ref o0]) d_Reader_term_138 lV_Reader_203 b1473 rfl (tc_Reader_emit (d := (d + E + 7)) (x9 := x9) (o0 := o0) (x1 := 8) (x2 := 0) t1457 I1455.start) rfl (Nat.le_of_ble_eq_true rfl) (Nat.le_of_ble_eq_true rfl) (Nat.le_of_ble_eq_true rfl) (hst := rfl) (fun b1467r M1468 n1469 b1467 => ?_)
                            obtain ⟨T1470, J1471, rfl⟩ := b1467
                            have I1472 := I1455.call J1471 (tm_sub (by decide)) (Or.inl rfl)
                            have t1474 := J1471.up t1457
                            have q1475 := J1471.keep t1457 (by decide) q1458
                            have q1476 := J1471.keep t1457 (by decide) q1459
                            have q1477 := J1471.keep t1457 (by decide) q1460
                            have q1478 := J1471.keep t1457 (by decide) q1461
                            have q1479 := J1471.keep t1457 (by decide) q1462
                            have q1480 := J1471.keep t1457 (by decide) q1463
                            have q1481 := J1471.keep t1457 (by decide) q1464
                            have q1482 := J1471.keep t1457 (by decide) q1465
                            refine mv_iconst (v := 1) d_Reader_term_141 (by decide) ?_
                            exact mv_iret d_Reader_term_142 rfl (by decide) ⟨_, I1472, _, rfl, by decide, by decide, fun _ => q1482, (by have := (Im.o h40) (by omega); have := yC.d s19.2.2; have := yC.kn s19.2.2; have := (Im.o h1337) (by omega); have := yC.d s1319.2.2; have := yC.kn s1319.2.2; have eT : p_ter pb pn pa (r7 + 1) (p_oc pb pn pa (r7 + 1)) ps = s1429 := (by have hop : p_oc pb pn pa (r7 + 1) s19 = p_sg pb pn 93 (p_con pb pn pa r7 (p_oc pb pn pa r7) (p_nx s19)) := rfl; have hX := e23.symm.trans (p_lp_stop (show (p_no1 pb pn) s19 = s19 from if_neg (fun h9 => by omega))); unfold p_ter; rw [hX]; unfold p_te1; unfold p_cmp; (try simp only [hop]); (try simp only [e1320, e1397, e1430]); ((repeat' (first | (with_reducible rfl) | split)) <;> (first | ((try simp only [e1320, e1397, e1430]); done) | (exfalso; omega)))); rw [eT]; exact ⟨⟨_, _, _, _, _, _, _, q1475, q1476, q1477, q1478, q1479, q1480, q1481, h1445, Im.o h1446, Im.o h1447⟩, (Or.inl ⟨by first | decide | omega, by omega⟩)⟩)⟩
                        · refine mv_iconst (v := 0) d_Reader_term_122 (by decide) ?_
                          exact mv_iret d_Reader_term_123 rfl (by decide) ⟨_, I1420, _, rfl, by decide, by decide, fun h => absurd h (by decide), (by have := (Im.o h40) (by omega); have := yC.d s19.2.2; have := yC.kn s19.2.2; have := (Im.o h1337) (by omega); have := yC.d s1319.2.2; have := yC.kn s1319.2.2; have hb : s1429.1 ≠ 0 := (by omega); have z1 : ∀ c, p_sg pb pn c s1429 = s1429 := (fun c => p_sg_Z s1429 hb); have z2 : ∀ c, p_wd pb pn c s1429 = s1429 := (fun c => p_wd_Z s1429 hb); have z3 : ∀ op, p_sum pb pn pa op s1429 = s1429 := (fun op => p_sum_Z s1429 hb); have z4 : ∀ r oc, p_con pb pn pa r oc s1429 = s1429 := (fun r oc => p_con_Z s1429 hb); have z5 : p_prt pb pn s1429 = s1429 := p_prt_Z s1429 hb; have eT : p_ter pb pn pa (r7 + 1) (p_oc pb pn pa (r7 + 1)) ps = s1429 := (by have hop : p_oc pb pn pa (r7 + 1) s19 = p_sg pb pn 93 (p_con pb pn pa r7 (p_oc pb pn pa r7) (p_nx s19)) := rfl; have hX := e23.symm.trans (p_lp_stop (show (p_no1 pb pn) s19 = s19 from if_neg (fun h9 => by omega))); unfold p_ter; rw [hX]; unfold p_te1; unfold p_cmp; (try simp only [hop]); (try simp only [e1320, e1397, e1430, z1, z2, z3, z4, z5]); ((repeat' (first | (with_reducible rfl) | split)) <;> (first | ((try simp only [e1320, e1397, e1430, z1, z2, z3, z4, z5]); done) | (exfalso; omega)))); rw [eT]; exact ⟨⟨_, _, _, _, _, _, _, q1438, q1439, q1440, q1441, q1442, q1443, q1444, h1445, Im.o h1446, Im.o h1447⟩, (Or.inr ⟨by first | decide | omega, by omega⟩)⟩)⟩
                    · refine mv_iconst (v := 1) d_Reader_isSign_16 (by decide) ?_
                      refine mv_goto (tgt := 21) d_Reader_isSign_17 (by decide) ?_
                      refine mv_iret d_Reader_isSign_21 rfl (by decide) ?_
                      refine mv_if_eq_f (tgt := 23) d_Reader_comparisonHere_17 (by decide) (by decide) ?_
                      refine mv_bipush (v := 6) d_Reader_comparisonHere_20 (by decide) ?_
                      refine mv_iret d_Reader_comparisonHere_22 rfl (by first | rfl | decide) ?_
                      refine mv_istore_n (lv' := [(2, .int 6), (1, .int i1_18), (0, .ref o0)]) d_Reader_term_99 rfl (by decide) rfl ?_
                      refine mv_iload_n d_Reader_term_100 rfl rfl ?_
                      refine mv_iconst (v := (-1)) d_Reader_term_101 (by decide) ?_
                      refine mv_icmp_ne_t (tgt := 111) d_Reader_term_102 (by decide) (by decide) ?_
                      refine mv_aload_n d_Reader_term_111 rfl rfl ?_
                      obtain ⟨_, b1489, -⟩ := I1310.1 _ _ t1318
                      refine mv_callV (kc' := 0) (ks' := 0) (As := []) (st9 := [.ref o0]) d_Reader_term_112 lV_Reader_82 b1489 rfl (tc_Reader_advance_x (d := (d + E + 7)) (x9 := x9) (o0 := o0) t1318 (hK I1310) (qS.a (show qS M1306 o0 pb pn s1319 from ⟨_, _, _, _, _, _, _, q1328, q1329, q1330, q1331, q1332, q1333, q1334, h1335, Im.o h1336, Im.o h1337⟩)) (by have := (Im.o h40) (by omega); have := yC.d s19.2.2; have := yC.kn s19.2.2; have := (Im.o h1337) (by omega); have := yC.d s1319.2.2; have := yC.kn s1319.2.2; show s1319.2.2 + 1 ≤ 401; omega) I1310.start) rfl (Nat.le_of_ble_eq_true rfl) (Nat.le_of_ble_eq_true rfl) (Nat.le_of_ble_eq_true rfl) (hst := rfl) (fun b1483r M1484 n1485 b1483 => ?_)
                      obtain ⟨T1486, J1487, rfl, f1490⟩ := b1483
                      have I1488 := I1310.call J1487 (tm_sub (by decide)) (Or.inl rfl)
                      have t1491 := J1487.up t1318
                      have q1492 := J1487.keep (I1310.up h_o0) (by decide) q1328
                      have q1493 := J1487.keep (I1310.up h_o0) (by decide) q1329
                      have q1494 := J1487.keep t1318 (by decide) q1339
                      obtain ⟨s1495, e1496⟩ : ∃ s9 : p_S, p_nx s1319 = s9 := ⟨_, rfl⟩
                      rw [e1496] at f1490
                      have : s1495.1 = 0 := by rw [← e1496]; show s1319.1 = 0; omega
                      obtain ⟨v1497, v1498, v1499, v1500, v1501, v1502, v1503, q1504, q1505, q1506, q1507, q1508, q1509, q1510, h1511, h1512, h1513⟩ := f1490
                      replace h1512 := Im.i h1512
                      replace h1513 := Im.i h1513
                      refine mv_aload_n d_Reader_term_115 rfl rfl ?_
                      obtain ⟨_, b1520, -⟩ := I1488.1 _ _ t1491
                      refine mv_callV (kc' := 0) (ks' := 0) (As := []) (st9 := [.ref o0]) d_Reader_term_116 lV_Reader_186 b1520 rfl (tg_Reader_sum hK9 H_sum H_condition (d := d) (x9 := x9) (o0 := o0) t1491 (p := p) q1494 (by omega) (by first | omega | decide) (hK I1488) ⟨_, _, _, _, _, _, _, q1504, q1505, q1506, q1507, q1508, q1509, q1510, h1511, Im.o h1512, Im.o h1513⟩ (by omega) I1488.start) rfl (Nat.le_of_ble_eq_true rfl) (Nat.le_of_ble_eq_true rfl) (Nat.le_of_ble_eq_true rfl) (hst := rfl) (fun b1514r M1515 n1516 b1514 => ?_)
                      obtain ⟨T1517, J1518, v1521, rfl, b1522, b1523, o1524, f1525, f1526⟩ := b1514
                      have I1519 := I1488.call J1518 (tm_sub (by decide)) (Or.inl rfl)
                      have t1527 := J1518.up t1491
                      obtain ⟨s1528, e1529⟩ : ∃ s9 : p_S, p_sum pb pn pa (p_op pb pn pa (r7 + 1)) s1495 = s9 := ⟨_, rfl⟩
                      rw [e1529] at f1525 f1526
                      obtain ⟨v1530, v1531, v1532, v1533, v1534, v1535, v1536, q1537, q1538, q1539, q1540, q1541, q1542, q1543, h1544, h1545, h1546⟩ := f1525
                      replace h1545 := Im.i h1545
                      replace h1546 := Im.i h1546
                      have := mz_hi v1521
                      refine mv_if_neZ (tgt := 124) (a := v1521.toInt) d_Reader_term_119 (by decide) rfl (fun b1547 => ?_) (fun b1547 => ?_)
                      · have q1548 := o1524 (by omega)
                        refine mv_aload_n d_Reader_term_124 rfl rfl ?_
                        refine mv_iload_n d_Reader_term_125 rfl rfl ?_
                        refine mv_iconst (v := 0) d_Reader_term_126 (by decide) ?_
                        obtain ⟨_, b1555, -⟩ := I1519.1 _ _ t1527
                        refine mv_callV (kc' := 0) (ks' := 0) (As := [.int 6, .int 0]) (st9 := [.int 0, .int 6, .ref o0]) d_Reader_term_127 lV_Reader_203 b1555 rfl (tc_Reader_emit (d := (d + E + 7)) (x9 := x9) (o0 := o0) (x1 := 6) (x2 := 0) t1527 I1519.start) rfl (Nat.le_of_ble_eq_true rfl) (Nat.le_of_ble_eq_true rfl) (Nat.le_of_ble_eq_true rfl) (hst := rfl) (fun b1549r M1550 n1551 b1549 => ?_)
                        obtain ⟨T1552, J1553, rfl⟩ := b1549
                        have I1554 := I1519.call J1553 (tm_sub (by decide)) (Or.inl rfl)
                        have t1556 := J1553.up t1527
                        have q1557 := J1553.keep (I1519.up h_o0) (by decide) q1537
                        have q1558 := J1553.keep (I1519.up h_o0) (by decide) q1538
                        have q1559 := J1553.keep (I1519.up h_o0) (by decide) q1539
                        have q1560 := J1553.keep (I1519.up h_o0) (by decide) q1540
                        have q1561 := J1553.keep (I1519.up h_o0) (by decide) q1541
                        have q1562 := J1553.keep (I1519.up h_o0) (by decide) q1542
                        have q1563 := J1553.keep (I1519.up h_o0) (by decide) q1543
                        have q1564 := J1553.keep t1527 (by decide) q1548
                        refine mv_iload_n d_Reader_term_130 rfl rfl ?_
                        have := mz_hi i1_18
                        refine mv_if_eqZ (tgt := 141) (a := i1_18.toInt) d_Reader_term_131 (by decide) rfl (fun b1565 => ?_) (fun b1565 => ?_)
                        · refine mv_iconst (v := 1) d_Reader_term_141 (by decide) ?_
                          exact mv_iret d_Reader_term_142 rfl (by decide) ⟨_, I1554, _, rfl, by decide, by decide, fun _ => q1564, (by have := (Im.o h40) (by omega); have := yC.d s19.2.2; have := yC.kn s19.2.2; have := (Im.o h1337) (by omega); have := yC.d s1319.2.2; have := yC.kn s1319.2.2; have eT : p_ter pb pn pa (r7 + 1) (p_oc pb pn pa (r7 + 1)) ps = s1528 := (by have hop : p_oc pb pn pa (r7 + 1) s19 = p_sg pb pn 93 (p_con pb pn pa r7 (p_oc pb pn pa r7) (p_nx s19)) := rfl; have hX := e23.symm.trans (p_lp_stop (show (p_no1 pb pn) s19 = s19 from if_neg (fun h9 => by omega))); unfold p_ter; rw [hX]; unfold p_te1; unfold p_cmp; (try simp only [hop]); (try simp only [e1320, e1496, e1529]); ((repeat' (first | (with_reducible rfl) | split)) <;> (first | ((try simp only [e1320, e1496, e1529]); done) | (exfalso; omega)))); rw [eT]; exact ⟨⟨_, _, _, _, _, _, _, q1557, q1558, q1559, q1560, q1561, q1562, q1563, h1544, Im.o h1545, Im.o h1546⟩, (Or.inl ⟨by first | decide | omega, by omega⟩)⟩)⟩
                        · refine mv_aload_n d_Reader_term_134 rfl rfl ?_
                          refine mv_bipush (v := 8) d_Reader_term_135 (by decide) ?_
                          refine mv_iconst (v := 0) d_Reader_term_137 (by decide) ?_
                          obtain ⟨_, b1572, -⟩ := I1554.1 _ _ t1556
                          refine mv_callV (kc' := 0) (ks' := 0) (As := [.int 8, .int 0]) (st9 := [.int 0, .int 8, .ref o0]) d_Reader_term_138 lV_Reader_203 b1572 rfl (tc_Reader_emit (d := (d + E + 7)) (x9 := x9) (o0 := o0) (x1 := 8) (x2 := 0) t1556 I1554.start) rfl (Nat.le_of_ble_eq_true rfl) (Nat.le_of_ble_eq_true rfl) (Nat.le_of_ble_eq_true rfl) (hst := rfl) (fun b1566r M1567 n1568 b1566 => ?_)
                          obtain ⟨T1569, J1570, rfl⟩ := b1566
                          have I1571 := I1554.call J1570 (tm_sub (by decide)) (Or.inl rfl)
                          have t1573 := J1570.up t1556
                          have q1574 := J1570.keep t1556 (by decide) q1557
                          have q1575 := J1570.keep t1556 (by decide) q1558
                          have q1576 := J1570.keep t1556 (by decide) q1559
                          have q1577 := J1570.keep t1556 (by decide) q1560
                          have q1578 := J1570.keep t1556 (by decide) q1561
                          have q1579 := J1570.keep t1556 (by decide) q1562
                          have q1580 := J1570.keep t1556 (by decide) q1563
                          have q1581 := J1570.keep t1556 (by decide) q1564
                          refine mv_iconst (v := 1) d_Reader_term_141 (by decide) ?_
                          exact mv_iret d_Reader_term_142 rfl (by decide) ⟨_, I1571, _, rfl, by decide, by decide, fun _ => q1581, (by have := (Im.o h40) (by omega); have := yC.d s19.2.2; have := yC.kn s19.2.2; have := (Im.o h1337) (by omega); have := yC.d s1319.2.2; have := yC.kn s1319.2.2; have eT : p_ter pb pn pa (r7 + 1) (p_oc pb pn pa (r7 + 1)) ps = s1528 := (by have hop : p_oc pb pn pa (r7 + 1) s19 = p_sg pb pn 93 (p_con pb pn pa r7 (p_oc pb pn pa r7) (p_nx s19)) := rfl; have hX := e23.symm.trans (p_lp_stop (show (p_no1 pb pn) s19 = s19 from if_neg (fun h9 => by omega))); unfold p_ter; rw [hX]; unfold p_te1; unfold p_cmp; (try simp only [hop]); (try simp only [e1320, e1496, e1529]); ((repeat' (first | (with_reducible rfl) | split)) <;> (first | ((try simp only [e1320, e1496, e1529]); done) | (exfalso; omega)))); rw [eT]; exact ⟨⟨_, _, _, _, _, _, _, q1574, q1575, q1576, q1577, q1578, q1579, q1580, h1544, Im.o h1545, Im.o h1546⟩, (Or.inl ⟨by first | decide | omega, by omega⟩)⟩)⟩
                      · refine mv_iconst (v := 0) d_Reader_term_122 (by decide) ?_
                        exact mv_iret d_Reader_term_123 rfl (by decide) ⟨_, I1519, _, rfl, by decide, by decide, fun h => absurd h (by decide), (by have := (Im.o h40) (by omega); have := yC.d s19.2.2; have := yC.kn s19.2.2; have := (Im.o h1337) (by omega); have := yC.d s1319.2.2; have := yC.kn s1319.2.2; have hb : s1528.1 ≠ 0 := (by omega); have z1 : ∀ c, p_sg pb pn c s1528 = s1528 := (fun c => p_sg_Z s1528 hb); have z2 : ∀ c, p_wd pb pn c s1528 = s1528 := (fun c => p_wd_Z s1528 hb); have z3 : ∀ op, p_sum pb pn pa op s1528 = s1528 := (fun op => p_sum_Z s1528 hb); have z4 : ∀ r oc, p_con pb pn pa r oc s1528 = s1528 := (fun r oc => p_con_Z s1528 hb); have z5 : p_prt pb pn s1528 = s1528 := p_prt_Z s1528 hb; have eT : p_ter pb pn pa (r7 + 1) (p_oc pb pn pa (r7 + 1)) ps = s1528 := (by have hop : p_oc pb pn pa (r7 + 1) s19 = p_sg pb pn 93 (p_con pb pn pa r7 (p_oc pb pn pa r7) (p_nx s19)) := rfl; have hX := e23.symm.trans (p_lp_stop (show (p_no1 pb pn) s19 = s19 from if_neg (fun h9 => by omega))); unfold p_ter; rw [hX]; unfold p_te1; unfold p_cmp; (try simp only [hop]); (try simp only [e1320, e1496, e1529, z1, z2, z3, z4, z5]); ((repeat' (first | (with_reducible rfl) | split)) <;> (first | ((try simp only [e1320, e1496, e1529, z1, z2, z3, z4, z5]); done) | (exfalso; omega)))); rw [eT]; exact ⟨⟨_, _, _, _, _, _, _, q1537, q1538, q1539, q1540, q1541, q1542, q1543, h1544, Im.o h1545, Im.o h1546⟩, (Or.inr ⟨by first | decide | omega, by omega⟩)⟩)⟩
                  · refine mv_iconst (v := 1) d_Reader_isSign_16 (by decide) ?_
                    refine mv_goto (tgt := 21) d_Reader_isSign_17 (by decide) ?_
                    refine mv_iret d_Reader_isSign_21 rfl (by decide) ?_
                    refine mv_if_eq_f (tgt := 11) d_Reader_comparisonHere_6 (by decide) (by decide) ?_
                    refine mv_iconst (v := 5) d_Reader_comparisonHere_9 (by decide) ?_
                    refine mv_iret d_Reader_comparisonHere_10 rfl (by first | rfl | decide) ?_
                    refine mv_istore_n (lv' := [(2, .int 5), (1, .int i1_18), (0, .ref o0)]) d_Reader_term_99 rfl (by decide) rfl ?_
                    refine mv_iload_n d_Reader_term_100 rfl rfl ?_
                    refine mv_iconst (v := (-1)) d_Reader_term_101 (by decide) ?_
                    refine mv_icmp_ne_t (tgt := 111) d_Reader_term_102 (by decide) (by decide) ?_
                    refine mv_aload_n d_Reader_term_111 rfl rfl ?_
                    obtain ⟨_, b1588, -⟩ := I1310.1 _ _ t1318
                    refine mv_callV (kc' := 0) (ks' := 0) (As := []) (st9 := [.ref o0]) d_Reader_term_112 lV_Reader_82 b1588 rfl (tc_Reader_advance_x (d := (d + E + 7)) (x9 := x9) (o0 := o0) t1318 (hK I1310) (qS.a (show qS M1306 o0 pb pn s1319 from ⟨_, _, _, _, _, _, _, q1328, q1329, q1330, q1331, q1332, q1333, q1334, h1335, Im.o h1336, Im.o h1337⟩)) (by have := (Im.o h40) (by omega); have := yC.d s19.2.2; have := yC.kn s19.2.2; have := (Im.o h1337) (by omega); have := yC.d s1319.2.2; have := yC.kn s1319.2.2; show s1319.2.2 + 1 ≤ 401; omega) I1310.start) rfl (Nat.le_of_ble_eq_true rfl) (Nat.le_of_ble_eq_true rfl) (Nat.le_of_ble_eq_true rfl) (hst := rfl) (fun b1582r M1583 n1584 b1582 => ?_)
                    obtain ⟨T1585, J1586, rfl, f1589⟩ := b1582
                    have I1587 := I1310.call J1586 (tm_sub (by decide)) (Or.inl rfl)
                    have t1590 := J1586.up t1318
                    have q1591 := J1586.keep (I1310.up h_o0) (by decide) q1328
                    have q1592 := J1586.keep (I1310.up h_o0) (by decide) q1329
                    have q1593 := J1586.keep t1318 (by decide) q1339
                    obtain ⟨s1594, e1595⟩ : ∃ s9 : p_S, p_nx s1319 = s9 := ⟨_, rfl⟩
                    rw [e1595] at f1589
                    have : s1594.1 = 0 := by rw [← e1595]; show s1319.1 = 0; omega
                    obtain ⟨v1596, v1597, v1598, v1599, v1600, v1601, v1602, q1603, q1604, q1605, q1606, q1607, q1608, q1609, h1610, h1611, h1612⟩ := f1589
                    replace h1611 := Im.i h1611
                    replace h1612 := Im.i h1612
                    refine mv_aload_n d_Reader_term_115 rfl rfl ?_
                    obtain ⟨_, b1619, -⟩ := I1587.1 _ _ t1590
                    refine mv_callV (kc' := 0) (ks' := 0) (As := []) (st9 := [.ref o0]) d_Reader_term_116 lV_Reader_186 b1619 rfl (tg_Reader_sum hK9 H_sum H_condition (d := d) (x9 := x9) (o0 := o0) t1590 (p := p) q1593 (by omega) (by first | omega | decide) (hK I1587) ⟨_, _, _, _, _, _, _, q1603, q1604, q1605, q1606, q1607, q1608, q1609, h1610, Im.o h1611, Im.o h1612⟩ (by omega) I1587.start) rfl (Nat.le_of_ble_eq_true rfl) (Nat.le_of_ble_eq_true rfl) (Nat.le_of_ble_eq_true rfl) (hst := rfl) (fun b1613r M1614 n1615 b1613 => ?_)
                    obtain ⟨T1616, J1617, v1620, rfl, b1621, b1622, o1623, f1624, f1625⟩ := b1613
                    have I1618 := I1587.call J1617 (tm_sub (by decide)) (Or.inl rfl)
                    have t1626 := J1617.up t1590
                    obtain ⟨s1627, e1628⟩ : ∃ s9 : p_S, p_sum pb pn pa (p_op pb pn pa (r7 + 1)) s1594 = s9 := ⟨_, rfl⟩
                    rw [e1628] at f1624 f1625
                    obtain ⟨v1629, v1630, v1631, v1632, v1633, v1634, v1635, q1636, q1637, q1638, q1639, q1640, q1641, q1642, h1643, h1644, h1645⟩ := f1624
                    replace h1644 := Im.i h1644
                    replace h1645 := Im.i h1645
                    have := mz_hi v1620
                    refine mv_if_neZ (tgt := 124) (a := v1620.toInt) d_Reader_term_119 (by decide) rfl (fun b1646 => ?_) (fun b1646 => ?_)
                    · have q1647 := o1623 (by omega)
                      refine mv_aload_n d_Reader_term_124 rfl rfl ?_
                      refine mv_iload_n d_Reader_term_125 rfl rfl ?_
                      refine mv_iconst (v := 0) d_Reader_term_126 (by decide) ?_
                      obtain ⟨_, b1654, -⟩ := I1618.1 _ _ t1626
                      refine mv_callV (kc' := 0) (ks' := 0) (As := [.int 5, .int 0]) (st9 := [.int 0, .int 5, .ref o0]) d_Reader_term_127 lV_Reader_203 b1654 rfl (tc_Reader_emit (d := (d + E + 7)) (x9 := x9) (o0 := o0) (x1 := 5) (x2 := 0) t1626 I1618.start) rfl (Nat.le_of_ble_eq_true rfl) (Nat.le_of_ble_eq_true rfl) (Nat.le_of_ble_eq_true rfl) (hst := rfl) (fun b1648r M1649 n1650 b1648 => ?_)
                      obtain ⟨T1651, J1652, rfl⟩ := b1648
                      have I1653 := I1618.call J1652 (tm_sub (by decide)) (Or.inl rfl)
                      have t1655 := J1652.up t1626
                      have q1656 := J1652.keep (I1618.up h_o0) (by decide) q1636
                      have q1657 := J1652.keep (I1618.up h_o0) (by decide) q1637
                      have q1658 := J1652.keep (I1618.up h_o0) (by decide) q1638
                      have q1659 := J1652.keep (I1618.up h_o0) (by decide) q1639
                      have q1660 := J1652.keep (I1618.up h_o0) (by decide) q1640
                      have q1661 := J1652.keep (I1618.up h_o0) (by decide) q1641
                      have q1662 := J1652.keep (I1618.up h_o0) (by decide) q1642
                      have q1663 := J1652.keep t1626 (by decide) q1647
                      refine mv_iload_n d_Reader_term_130 rfl rfl ?_
                      have := mz_hi i1_18
                      refine mv_if_eqZ (tgt := 141) (a := i1_18.toInt) d_Reader_term_131 (by decide) rfl (fun b1664 => ?_) (fun b1664 => ?_)
                      · refine mv_iconst (v := 1) d_Reader_term_141 (by decide) ?_
                        exact mv_iret d_Reader_term_142 rfl (by decide) ⟨_, I1653, _, rfl, by decide, by decide, fun _ => q1663, (by have := (Im.o h40) (by omega); have := yC.d s19.2.2; have := yC.kn s19.2.2; have := (Im.o h1337) (by omega); have := yC.d s1319.2.2; have := yC.kn s1319.2.2; have eT : p_ter pb pn pa (r7 + 1) (p_oc pb pn pa (r7 + 1)) ps = s1627 := (by have hop : p_oc pb pn pa (r7 + 1) s19 = p_sg pb pn 93 (p_con pb pn pa r7 (p_oc pb pn pa r7) (p_nx s19)) := rfl; have hX := e23.symm.trans (p_lp_stop (show (p_no1 pb pn) s19 = s19 from if_neg (fun h9 => by omega))); unfold p_ter; rw [hX]; unfold p_te1; unfold p_cmp; (try simp only [hop]); (try simp only [e1320, e1595, e1628]); ((repeat' (first | (with_reducible rfl) | split)) <;> (first | ((try simp only [e1320, e1595, e1628]); done) | (exfalso; omega)))); rw [eT]; exact ⟨⟨_, _, _, _, _, _, _, q1656, q1657, q1658, q1659, q1660, q1661, q1662, h1643, Im.o h1644, Im.o h1645⟩, (Or.inl ⟨by first | decide | omega, by omega⟩)⟩)⟩
                      · refine mv_aload_n d_Reader_term_134 rfl rfl ?_
                        refine mv_bipush (v := 8) d_Reader_term_135 (by decide) ?_
                        refine mv_iconst (v := 0) d_Reader_term_137 (by decide) ?_
                        obtain ⟨_, b1671, -⟩ := I1653.1 _ _ t1655
                        refine mv_callV (kc' := 0) (ks' := 0) (As := [.int 8, .int 0]) (st9 := [.int 0, .int 8, .ref o0]) d_Reader_term_138 lV_Reader_203 b1671 rfl (tc_Reader_emit (d := (d + E + 7)) (x9 := x9) (o0 := o0) (x1 := 8) (x2 := 0) t1655 I1653.start) rfl (Nat.le_of_ble_eq_true rfl) (Nat.le_of_ble_eq_true rfl) (Nat.le_of_ble_eq_true rfl) (hst := rfl) (fun b1665r M1666 n1667 b1665 => ?_)
                        obtain ⟨T1668, J1669, rfl⟩ := b1665
                        have I1670 := I1653.call J1669 (tm_sub (by decide)) (Or.inl rfl)
                        have t1672 := J1669.up t1655
                        have q1673 := J1669.keep t1655 (by decide) q1656
                        have q1674 := J1669.keep t1655 (by decide) q1657
                        have q1675 := J1669.keep t1655 (by decide) q1658
                        have q1676 := J1669.keep t1655 (by decide) q1659
                        have q1677 := J1669.keep t1655 (by decide) q1660
                        have q1678 := J1669.keep t1655 (by decide) q1661
                        have q1679 := J1669.keep t1655 (by decide) q1662
                        have q1680 := J1669.keep t1655 (by decide) q1663
                        refine mv_iconst (v := 1) d_Reader_term_141 (by decide) ?_
                        exact mv_iret d_Reader_term_142 rfl (by decide) ⟨_, I1670, _, rfl, by decide, by decide, fun _ => q1680, (by have := (Im.o h40) (by omega); have := yC.d s19.2.2; have := yC.kn s19.2.2; have := (Im.o h1337) (by omega); have := yC.d s1319.2.2; have := yC.kn s1319.2.2; have eT : p_ter pb pn pa (r7 + 1) (p_oc pb pn pa (r7 + 1)) ps = s1627 := (by have hop : p_oc pb pn pa (r7 + 1) s19 = p_sg pb pn 93 (p_con pb pn pa r7 (p_oc pb pn pa r7) (p_nx s19)) := rfl; have hX := e23.symm.trans (p_lp_stop (show (p_no1 pb pn) s19 = s19 from if_neg (fun h9 => by omega))); unfold p_ter; rw [hX]; unfold p_te1; unfold p_cmp; (try simp only [hop]); (try simp only [e1320, e1595, e1628]); ((repeat' (first | (with_reducible rfl) | split)) <;> (first | ((try simp only [e1320, e1595, e1628]); done) | (exfalso; omega)))); rw [eT]; exact ⟨⟨_, _, _, _, _, _, _, q1673, q1674, q1675, q1676, q1677, q1678, q1679, h1643, Im.o h1644, Im.o h1645⟩, (Or.inl ⟨by first | decide | omega, by omega⟩)⟩)⟩
                    · refine mv_iconst (v := 0) d_Reader_term_122 (by decide) ?_
                      exact mv_iret d_Reader_term_123 rfl (by decide) ⟨_, I1618, _, rfl, by decide, by decide, fun h => absurd h (by decide), (by have := (Im.o h40) (by omega); have := yC.d s19.2.2; have := yC.kn s19.2.2; have := (Im.o h1337) (by omega); have := yC.d s1319.2.2; have := yC.kn s1319.2.2; have hb : s1627.1 ≠ 0 := (by omega); have z1 : ∀ c, p_sg pb pn c s1627 = s1627 := (fun c => p_sg_Z s1627 hb); have z2 : ∀ c, p_wd pb pn c s1627 = s1627 := (fun c => p_wd_Z s1627 hb); have z3 : ∀ op, p_sum pb pn pa op s1627 = s1627 := (fun op => p_sum_Z s1627 hb); have z4 : ∀ r oc, p_con pb pn pa r oc s1627 = s1627 := (fun r oc => p_con_Z s1627 hb); have z5 : p_prt pb pn s1627 = s1627 := p_prt_Z s1627 hb; have eT : p_ter pb pn pa (r7 + 1) (p_oc pb pn pa (r7 + 1)) ps = s1627 := (by have hop : p_oc pb pn pa (r7 + 1) s19 = p_sg pb pn 93 (p_con pb pn pa r7 (p_oc pb pn pa r7) (p_nx s19)) := rfl; have hX := e23.symm.trans (p_lp_stop (show (p_no1 pb pn) s19 = s19 from if_neg (fun h9 => by omega))); unfold p_ter; rw [hX]; unfold p_te1; unfold p_cmp; (try simp only [hop]); (try simp only [e1320, e1595, e1628, z1, z2, z3, z4, z5]); ((repeat' (first | (with_reducible rfl) | split)) <;> (first | ((try simp only [e1320, e1595, e1628, z1, z2, z3, z4, z5]); done) | (exfalso; omega)))); rw [eT]; exact ⟨⟨_, _, _, _, _, _, _, q1636, q1637, q1638, q1639, q1640, q1641, q1642, h1643, Im.o h1644, Im.o h1645⟩, (Or.inr ⟨by first | decide | omega, by omega⟩)⟩)⟩
              · refine mv_iconst (v := 0) d_Reader_term_93 (by decide) ?_
                exact mv_iret d_Reader_term_94 rfl (by decide) ⟨_, I1310, _, rfl, by decide, by decide, fun h => absurd h (by decide), (by have := (Im.o h40) (by omega); have := yC.d s19.2.2; have := yC.kn s19.2.2; have hb : s1319.1 ≠ 0 := (by omega); have z1 : ∀ c, p_sg pb pn c s1319 = s1319 := (fun c => p_sg_Z s1319 hb); have z2 : ∀ c, p_wd pb pn c s1319 = s1319 := (fun c => p_wd_Z s1319 hb); have z3 : ∀ op, p_sum pb pn pa op s1319 = s1319 := (fun op => p_sum_Z s1319 hb); have z4 : ∀ r oc, p_con pb pn pa r oc s1319 = s1319 := (fun r oc => p_con_Z s1319 hb); have z5 : p_prt pb pn s1319 = s1319 := p_prt_Z s1319 hb; have eT : p_ter pb pn pa (r7 + 1) (p_oc pb pn pa (r7 + 1)) ps = s1319 := (by have hop : p_oc pb pn pa (r7 + 1) s19 = p_sg pb pn 93 (p_con pb pn pa r7 (p_oc pb pn pa r7) (p_nx s19)) := rfl; have hX := e23.symm.trans (p_lp_stop (show (p_no1 pb pn) s19 = s19 from if_neg (fun h9 => by omega))); unfold p_ter; rw [hX]; unfold p_te1; unfold p_cmp; (try simp only [hop]); (try simp only [e1320, z1, z2, z3, z4, z5]); ((repeat' (first | (with_reducible rfl) | split)) <;> (first | ((try simp only [e1320, z1, z2, z3, z4, z5]); done) | (exfalso; omega)))); rw [eT]; exact ⟨⟨_, _, _, _, _, _, _, q1328, q1329, q1330, q1331, q1332, q1333, q1334, h1335, Im.o h1336, Im.o h1337⟩, (Or.inr ⟨by first | decide | omega, by omega⟩)⟩)⟩
            · refine mv_iconst (v := 1) d_Reader_isSign_16 (by decide) ?_
              refine mv_goto (tgt := 21) d_Reader_isSign_17 (by decide) ?_
              refine mv_iret d_Reader_isSign_21 rfl (by decide) ?_
              refine mv_if_eq_f (tgt := 86) d_Reader_term_46 (by decide) (by decide) ?_
              refine mv_aload_n d_Reader_term_49 rfl rfl ?_
              obtain ⟨_, b1687, -⟩ := I_18.1 _ _ h_q0_18
              refine mv_callV (kc' := 0) (ks' := 0) (As := []) (st9 := [.ref o0]) d_Reader_term_50 lV_Reader_212 b1687 rfl (tg_Reader_openBracket hK9 H_sum H_condition (d := (d + E + 6)) (x9 := x9) (o0 := o0) h_q0_18 (p := p) kp0_18 (by omega) (by first | omega | decide) (hK I_18) ⟨_, _, _, _, _, _, _, q31, q32, q33, q34, q35, q36, q37, h38, Im.o h39, Im.o h40⟩ (by omega) (by have := (Im.o h40) (by omega); have := yC.d s19.2.2; have := yC.kn s19.2.2; show p_ki pb pn s19.2.2 ≠ 0; omega) I_18.start) rfl (Nat.le_of_ble_eq_true rfl) (Nat.le_of_ble_eq_true rfl) (Nat.le_of_ble_eq_true rfl) (hst := rfl) (fun b1681r M1682 n1683 b1681 => ?_)
              obtain ⟨T1684, J1685, v1688, rfl, b1689, b1690, o1691, f1692, f1693⟩ := b1681
              have I1686 := I_18.call J1685 (tm_sub (by decide)) (Or.inl rfl)
              have t1694 := J1685.up h_q0_18
              obtain ⟨s1695, e1696⟩ : ∃ s9 : p_S, p_nx s19 = s9 := ⟨_, rfl⟩
              rw [e1696] at f1692 f1693
              have : s1695.1 = 0 := by rw [← e1696]; show s19.1 = 0; omega
              obtain ⟨v1697, v1698, v1699, v1700, v1701, v1702, v1703, q1704, q1705, q1706, q1707, q1708, q1709, q1710, h1711, h1712, h1713⟩ := f1692
              replace h1712 := Im.i h1712
              replace h1713 := Im.i h1713
              have := mz_hi v1688
              refine mv_if_eqZ (tgt := 63) (a := v1688.toInt) d_Reader_term_53 (by decide) rfl (fun b1714 => ?_) (fun b1714 => ?_)
              · refine mv_iconst (v := 0) d_Reader_term_63 (by decide) ?_
                exact mv_iret d_Reader_term_64 rfl (by decide) ⟨_, I1686, _, rfl, by decide, by decide, fun h => absurd h (by decide), (by have := (Im.o h40) (by omega); have := yC.d s19.2.2; have := yC.kn s19.2.2; have hb : s1695.1 ≠ 0 := (by omega); have z1 : ∀ c, p_sg pb pn c s1695 = s1695 := (fun c => p_sg_Z s1695 hb); have z2 : ∀ c, p_wd pb pn c s1695 = s1695 := (fun c => p_wd_Z s1695 hb); have z3 : ∀ op, p_sum pb pn pa op s1695 = s1695 := (fun op => p_sum_Z s1695 hb); have z4 : ∀ r oc, p_con pb pn pa r oc s1695 = s1695 := (fun r oc => p_con_Z s1695 hb); have z5 : p_prt pb pn s1695 = s1695 := p_prt_Z s1695 hb; have eT : p_ter pb pn pa (r7 + 1) (p_oc pb pn pa (r7 + 1)) ps = s1695 := (by have hop : p_oc pb pn pa (r7 + 1) s19 = p_sg pb pn 93 (p_con pb pn pa r7 (p_oc pb pn pa r7) (p_nx s19)) := rfl; have hX := e23.symm.trans (p_lp_stop (show (p_no1 pb pn) s19 = s19 from if_neg (fun h9 => by omega))); unfold p_ter; rw [hX]; unfold p_te1; unfold p_cmp; (try simp only [hop]); (try simp only [e1696, z1, z2, z3, z4, z5]); ((repeat' (first | (with_reducible rfl) | split)) <;> (first | ((try simp only [e1696, z1, z2, z3, z4, z5]); done) | (exfalso; omega)))); rw [eT]; exact ⟨⟨_, _, _, _, _, _, _, q1704, q1705, q1706, q1707, q1708, q1709, q1710, h1711, Im.o h1712, Im.o h1713⟩, (Or.inl ⟨by first | decide | omega, by omega⟩)⟩)⟩
              · obtain ⟨b1716, q1715⟩ := o1691 (by omega)
                have b1717 : (p + 1).toInt = p.toInt + 1 := mz_addn 1 1 (by decide) (by have := mz_lo p; omega) (by have := mz_hi p; omega)
                refine mv_aload_n d_Reader_term_56 rfl rfl ?_
                obtain ⟨_, b1724, -⟩ := I1686.1 _ _ t1694
                refine mv_callV (kc' := 0) (ks' := 0) (As := []) (st9 := [.ref o0]) d_Reader_term_57 lV_Reader_124 b1724 rfl (H_condition (d := d) (x9 := x9) (o0 := o0) t1694 (p := (p + 1)) q1715 (by omega) (by first | omega | decide) (hK I1686) ⟨_, _, _, _, _, _, _, q1704, q1705, q1706, q1707, q1708, q1709, q1710, h1711, Im.o h1712, Im.o h1713⟩ (by omega) I1686.start) rfl (Nat.le_of_ble_eq_true rfl) (Nat.le_of_ble_eq_true rfl) (Nat.le_of_ble_eq_true rfl) (hst := rfl) (fun b1718r M1719 n1720 b1718 => ?_)
                obtain ⟨T1721, J1722, v1725, rfl, b1726, b1727, o1728, f1729, f1730⟩ := b1718
                have I1723 := I1686.call J1722 (tm_sub (by decide)) (Or.inl rfl)
                have t1731 := J1722.up t1694
                obtain ⟨s1732, e1733⟩ : ∃ s9 : p_S, p_con pb pn pa r7 (p_oc pb pn pa r7) s1695 = s9 := ⟨_, rfl⟩
                rw [e1733] at f1729 f1730
                obtain ⟨v1734, v1735, v1736, v1737, v1738, v1739, v1740, q1741, q1742, q1743, q1744, q1745, q1746, q1747, h1748, h1749, h1750⟩ := f1729
                replace h1749 := Im.i h1749
                replace h1750 := Im.i h1750
                have := mz_hi v1725
                refine mv_if_neZ (tgt := 65) (a := v1725.toInt) d_Reader_term_60 (by decide) rfl (fun b1751 => ?_) (fun b1751 => ?_)
                · have q1752 := o1728 (by omega)
                  refine mv_aload_n d_Reader_term_65 rfl rfl ?_
                  refine mv_dup d_Reader_term_66 rfl ?_
                  refine tr_getK (k := 16) q1752 d_Reader_term_67 f_Reader_73_9 ?_
                  refine mv_iconst (v := 1) d_Reader_term_70 (by decide) ?_
                  refine mv_isubv (v := p) d_Reader_term_71 (Int32.add_sub_cancel _ _) ?_
                  refine tr_putK tm_okF I1723 t1731 (k := 16) rfl ⟨_, rfl⟩ (Or.inl (by decide)) d_Reader_term_72 p_Reader_73_9 rfl rfl (fun M1753 I1754 q1755 K1756 => ?_)
                  refine mv_aload_n d_Reader_term_75 rfl rfl ?_
                  refine mv_bipush (v := 93) d_Reader_term_76 (by decide) ?_
                  obtain ⟨_, b1763, -⟩ := I1754.1 _ _ t1731
                  refine mv_callV (kc' := 0) (ks' := 0) (As := [.int 93]) (st9 := [.int 93, .ref o0]) d_Reader_term_78 lV_Reader_63 b1763 rfl (tc_Reader_sign_x (d := (d + E + 6)) (x9 := x9) (o0 := o0) (x1 := 93) t1731 (hK I1754) ⟨_, _, _, _, _, _, _, (K1756 _ 9 1 _ rfl q1741), (K1756 _ 9 2 _ rfl q1742), (K1756 _ 9 9 _ rfl q1743), (K1756 _ 9 10 _ rfl q1744), (K1756 _ 9 11 _ rfl q1745), (K1756 _ 9 12 _ rfl q1746), (K1756 _ 9 13 _ rfl q1747), h1748, Im.o h1749, Im.o h1750⟩ (by omega) (by first | omega | decide) I1754.start) rfl (Nat.le_of_ble_eq_true rfl) (Nat.le_of_ble_eq_true rfl) (Nat.le_of_ble_eq_true rfl) (hst := rfl) (fun b1757r M1758 n1759 b1757 => ?_)
                  obtain ⟨T1760, J1761, v1764, rfl, b1765, b1766, f1767, f1768⟩ := b1757
                  have I1762 := I1754.call J1761 (tm_sub (by decide)) (Or.inl rfl)
                  have t1769 := J1761.up t1731
                  have q1770 := J1761.keep t1731 (by decide) q1755
                  rw [show (93 : Int32).toInt = 93 from by decide] at f1767 f1768
                  obtain ⟨s1771, e1772⟩ : ∃ s9 : p_S, p_sg pb pn 93 s1732 = s9 := ⟨_, rfl⟩
                  rw [e1772] at f1767 f1768
                  obtain ⟨v1773, v1774, v1775, v1776, v1777, v1778, v1779, q1780, q1781, q1782, q1783, q1784, q1785, q1786, h1787, h1788, h1789⟩ := f1767
                  replace h1788 := Im.i h1788
                  replace h1789 := Im.i h1789
                  have := mz_hi v1764
                  refine mv_if_neZ (tgt := 130) (a := v1764.toInt) d_Reader_term_81 (by decide) rfl (fun b1790 => ?_) (fun b1790 => ?_)
                  · refine mv_iload_n d_Reader_term_130 rfl rfl ?_
                    have := mz_hi i1_18
                    refine mv_if_eqZ (tgt := 141) (a := i1_18.toInt) d_Reader_term_131 (by decide) rfl (fun b1791 => ?_) (fun b1791 => ?_)
                    · refine mv_iconst (v := 1) d_Reader_term_141 (by decide) ?_
                      exact mv_iret d_Reader_term_142 rfl (by decide) ⟨_, I1762, _, rfl, by decide, by decide, fun _ => q1770, (by have := (Im.o h40) (by omega); have := yC.d s19.2.2; have := yC.kn s19.2.2; have eT : p_ter pb pn pa (r7 + 1) (p_oc pb pn pa (r7 + 1)) ps = s1771 := (by have hop : p_oc pb pn pa (r7 + 1) s19 = p_sg pb pn 93 (p_con pb pn pa r7 (p_oc pb pn pa r7) (p_nx s19)) := rfl; have hX := e23.symm.trans (p_lp_stop (show (p_no1 pb pn) s19 = s19 from if_neg (fun h9 => by omega))); unfold p_ter; rw [hX]; unfold p_te1; unfold p_cmp; (try simp only [hop]); (try simp only [e1696, e1733, e1772]); ((repeat' (first | (with_reducible rfl) | split)) <;> (first | ((try simp only [e1696, e1733, e1772]); done) | (exfalso; omega)))); rw [eT]; exact ⟨⟨_, _, _, _, _, _, _, q1780, q1781, q1782, q1783, q1784, q1785, q1786, h1787, Im.o h1788, Im.o h1789⟩, (Or.inl ⟨by first | decide | omega, by omega⟩)⟩)⟩
                    · refine mv_aload_n d_Reader_term_134 rfl rfl ?_
                      refine mv_bipush (v := 8) d_Reader_term_135 (by decide) ?_
                      refine mv_iconst (v := 0) d_Reader_term_137 (by decide) ?_
                      obtain ⟨_, b1798, -⟩ := I1762.1 _ _ t1769
                      refine mv_callV (kc' := 0) (ks' := 0) (As := [.int 8, .int 0]) (st9 := [.int 0, .int 8, .ref o0]) d_Reader_term_138 lV_Reader_203 b1798 rfl (tc_Reader_emit (d := (d + E + 7)) (x9 := x9) (o0 := o0) (x1 := 8) (x2 := 0) t1769 I1762.start) rfl (Nat.le_of_ble_eq_true rfl) (Nat.le_of_ble_eq_true rfl) (Nat.le_of_ble_eq_true rfl) (hst := rfl) (fun b1792r M1793 n1794 b1792 => ?_)
                      obtain ⟨T1795, J1796, rfl⟩ := b1792
                      have I1797 := I1762.call J1796 (tm_sub (by decide)) (Or.inl rfl)
                      have t1799 := J1796.up t1769
                      have q1800 := J1796.keep t1769 (by decide) q1770
                      have q1801 := J1796.keep (I1762.up h_o0) (by decide) q1780
                      have q1802 := J1796.keep (I1762.up h_o0) (by decide) q1781
                      have q1803 := J1796.keep (I1762.up h_o0) (by decide) q1782
                      have q1804 := J1796.keep (I1762.up h_o0) (by decide) q1783
                      have q1805 := J1796.keep (I1762.up h_o0) (by decide) q1784
                      have q1806 := J1796.keep (I1762.up h_o0) (by decide) q1785
                      have q1807 := J1796.keep (I1762.up h_o0) (by decide) q1786
                      refine mv_iconst (v := 1) d_Reader_term_141 (by decide) ?_
                      exact mv_iret d_Reader_term_142 rfl (by decide) ⟨_, I1797, _, rfl, by decide, by decide, fun _ => q1800, (by have := (Im.o h40) (by omega); have := yC.d s19.2.2; have := yC.kn s19.2.2; have eT : p_ter pb pn pa (r7 + 1) (p_oc pb pn pa (r7 + 1)) ps = s1771 := (by have hop : p_oc pb pn pa (r7 + 1) s19 = p_sg pb pn 93 (p_con pb pn pa r7 (p_oc pb pn pa r7) (p_nx s19)) := rfl; have hX := e23.symm.trans (p_lp_stop (show (p_no1 pb pn) s19 = s19 from if_neg (fun h9 => by omega))); unfold p_ter; rw [hX]; unfold p_te1; unfold p_cmp; (try simp only [hop]); (try simp only [e1696, e1733, e1772]); ((repeat' (first | (with_reducible rfl) | split)) <;> (first | ((try simp only [e1696, e1733, e1772]); done) | (exfalso; omega)))); rw [eT]; exact ⟨⟨_, _, _, _, _, _, _, q1801, q1802, q1803, q1804, q1805, q1806, q1807, h1787, Im.o h1788, Im.o h1789⟩, (Or.inl ⟨by first | decide | omega, by omega⟩)⟩)⟩
                  · refine mv_iconst (v := 0) d_Reader_term_84 (by decide) ?_
                    exact mv_iret d_Reader_term_85 rfl (by decide) ⟨_, I1762, _, rfl, by decide, by decide, fun h => absurd h (by decide), (by have := (Im.o h40) (by omega); have := yC.d s19.2.2; have := yC.kn s19.2.2; have hb : s1771.1 ≠ 0 := (by omega); have z1 : ∀ c, p_sg pb pn c s1771 = s1771 := (fun c => p_sg_Z s1771 hb); have z2 : ∀ c, p_wd pb pn c s1771 = s1771 := (fun c => p_wd_Z s1771 hb); have z3 : ∀ op, p_sum pb pn pa op s1771 = s1771 := (fun op => p_sum_Z s1771 hb); have z4 : ∀ r oc, p_con pb pn pa r oc s1771 = s1771 := (fun r oc => p_con_Z s1771 hb); have z5 : p_prt pb pn s1771 = s1771 := p_prt_Z s1771 hb; have eT : p_ter pb pn pa (r7 + 1) (p_oc pb pn pa (r7 + 1)) ps = s1771 := (by have hop : p_oc pb pn pa (r7 + 1) s19 = p_sg pb pn 93 (p_con pb pn pa r7 (p_oc pb pn pa r7) (p_nx s19)) := rfl; have hX := e23.symm.trans (p_lp_stop (show (p_no1 pb pn) s19 = s19 from if_neg (fun h9 => by omega))); unfold p_ter; rw [hX]; unfold p_te1; unfold p_cmp; (try simp only [hop]); (try simp only [e1696, e1733, e1772, z1, z2, z3, z4, z5]); ((repeat' (first | (with_reducible rfl) | split)) <;> (first | ((try simp only [e1696, e1733, e1772, z1, z2, z3, z4, z5]); done) | (exfalso; omega)))); rw [eT]; exact ⟨⟨_, _, _, _, _, _, _, q1780, q1781, q1782, q1783, q1784, q1785, q1786, h1787, Im.o h1788, Im.o h1789⟩, (Or.inr ⟨by first | decide | omega, by omega⟩)⟩)⟩
                · refine mv_iconst (v := 0) d_Reader_term_63 (by decide) ?_
                  exact mv_iret d_Reader_term_64 rfl (by decide) ⟨_, I1723, _, rfl, by decide, by decide, fun h => absurd h (by decide), (by have := (Im.o h40) (by omega); have := yC.d s19.2.2; have := yC.kn s19.2.2; have hb : s1732.1 ≠ 0 := (by omega); have z1 : ∀ c, p_sg pb pn c s1732 = s1732 := (fun c => p_sg_Z s1732 hb); have z2 : ∀ c, p_wd pb pn c s1732 = s1732 := (fun c => p_wd_Z s1732 hb); have z3 : ∀ op, p_sum pb pn pa op s1732 = s1732 := (fun op => p_sum_Z s1732 hb); have z4 : ∀ r oc, p_con pb pn pa r oc s1732 = s1732 := (fun r oc => p_con_Z s1732 hb); have z5 : p_prt pb pn s1732 = s1732 := p_prt_Z s1732 hb; have eT : p_ter pb pn pa (r7 + 1) (p_oc pb pn pa (r7 + 1)) ps = s1732 := (by have hop : p_oc pb pn pa (r7 + 1) s19 = p_sg pb pn 93 (p_con pb pn pa r7 (p_oc pb pn pa r7) (p_nx s19)) := rfl; have hX := e23.symm.trans (p_lp_stop (show (p_no1 pb pn) s19 = s19 from if_neg (fun h9 => by omega))); unfold p_ter; rw [hX]; unfold p_te1; unfold p_cmp; (try simp only [hop]); (try simp only [e1696, e1733, z1, z2, z3, z4, z5]); ((repeat' (first | (with_reducible rfl) | split)) <;> (first | ((try simp only [e1696, e1733, z1, z2, z3, z4, z5]); done) | (exfalso; omega)))); rw [eT]; exact ⟨⟨_, _, _, _, _, _, _, q1741, q1742, q1743, q1744, q1745, q1746, q1747, h1748, Im.o h1749, Im.o h1750⟩, (Or.inr ⟨by first | decide | omega, by omega⟩)⟩)⟩
        · refine mv_aload_n d_Reader_isWord_8 rfl rfl ?_
          refine tr_getK (k := 13) q37 d_Reader_isWord_9 f_Reader_241_9 ?_
          refine mv_iload_n d_Reader_isWord_12 rfl rfl ?_
          have := mz_hi v30
          refine mv_icmp_neZ (tgt := 20) (a := v30.toInt) (b := 30) d_Reader_isWord_13 (by decide) rfl (by decide) (fun b1808 => ?_) (fun b1808 => ?_)
          · refine mv_iconst (v := 0) d_Reader_isWord_20 (by decide) ?_
            refine mv_iret d_Reader_isWord_21 rfl (by decide) ?_
            refine mv_if_eq_t (tgt := 40) d_Reader_term_17 (by decide) (by decide) ?_
            refine mv_aload_n d_Reader_term_40 rfl rfl ?_
            refine mv_bipush (v := 91) d_Reader_term_41 (by decide) ?_
            obtain ⟨_, b1809, -⟩ := I_18.1 _ _ h_q0_18
            refine mv_callV (kc1 := 0) (ks1 := 0) (kc' := 0) (ks' := 0) (As := [.int 91]) (st9 := [.int 91, .ref o0]) d_Reader_term_43 lV_Reader_209 b1809 rfl (mj_enter (by decide) (Nat.le_of_ble_eq_true rfl) ?_) rfl (Nat.le_of_ble_eq_true rfl) (Nat.le_of_ble_eq_true rfl) (Nat.le_of_ble_eq_true rfl) (hst := rfl) (fun _ _ _ h => h)
            refine mv_aload_n d_Reader_isSign_0 rfl rfl ?_
            refine tr_getK (k := 10) q34 d_Reader_isSign_1 f_Reader_41_9 ?_
            refine mv_iconst (v := 3) d_Reader_isSign_4 (by decide) ?_
            have := mz_hi v27
            refine mv_icmp_neZ (tgt := 20) (a := v27.toInt) (b := 3) d_Reader_isSign_5 (by decide) rfl (by decide) (fun b1810 => ?_) (fun b1810 => absurd b1810 (by omega))
            refine mv_iconst (v := 0) d_Reader_isSign_20 (by decide) ?_
            refine mv_iret d_Reader_isSign_21 rfl (by decide) ?_
            refine mv_if_eq_t (tgt := 86) d_Reader_term_46 (by decide) (by decide) ?_
            refine mv_aload_n d_Reader_term_86 rfl rfl ?_
            obtain ⟨_, b1817, -⟩ := I_18.1 _ _ h_q0_18
            refine mv_callV (kc' := 0) (ks' := 0) (As := []) (st9 := [.ref o0]) d_Reader_term_87 lV_Reader_186 b1817 rfl (tg_Reader_sum hK9 H_sum H_condition (d := d) (x9 := x9) (o0 := o0) h_q0_18 (p := p) kp0_18 (by omega) (by first | omega | decide) (hK I_18) ⟨_, _, _, _, _, _, _, q31, q32, q33, q34, q35, q36, q37, h38, Im.o h39, Im.o h40⟩ (by omega) I_18.start) rfl (Nat.le_of_ble_eq_true rfl) (Nat.le_of_ble_eq_true rfl) (Nat.le_of_ble_eq_true rfl) (hst := rfl) (fun b1811r M1812 n1813 b1811 => ?_)
            obtain ⟨T1814, J1815, v1818, rfl, b1819, b1820, o1821, f1822, f1823⟩ := b1811
            have I1816 := I_18.call J1815 (tm_sub (by decide)) (Or.inl rfl)
            have t1824 := J1815.up h_q0_18
            obtain ⟨s1825, e1826⟩ : ∃ s9 : p_S, p_sum pb pn pa (p_op pb pn pa (r7 + 1)) s19 = s9 := ⟨_, rfl⟩
            rw [e1826] at f1822 f1823
            obtain ⟨v1827, v1828, v1829, v1830, v1831, v1832, v1833, q1834, q1835, q1836, q1837, q1838, q1839, q1840, h1841, h1842, h1843⟩ := f1822
            replace h1842 := Im.i h1842
            replace h1843 := Im.i h1843
            have := mz_hi v1818
            refine mv_if_neZ (tgt := 95) (a := v1818.toInt) d_Reader_term_90 (by decide) rfl (fun b1844 => ?_) (fun b1844 => ?_)
            · have q1845 := o1821 (by omega)
              refine mv_aload_n d_Reader_term_95 rfl rfl ?_
              obtain ⟨_, b1846, -⟩ := I1816.1 _ _ t1824
              refine mv_callV (kc1 := 0) (ks1 := 0) (kc' := 0) (ks' := 0) (As := []) (st9 := [.ref o0]) d_Reader_term_96 lV_Reader_215 b1846 rfl (mj_enter (by decide) (Nat.le_of_ble_eq_true rfl) ?_) rfl (Nat.le_of_ble_eq_true rfl) (Nat.le_of_ble_eq_true rfl) (Nat.le_of_ble_eq_true rfl) (hst := rfl) (fun _ _ _ h => h)
              refine mv_aload_n d_Reader_comparisonHere_0 rfl rfl ?_
              refine mv_bipush (v := 60) d_Reader_comparisonHere_1 (by decide) ?_
              obtain ⟨_, b1847, -⟩ := I1816.1 _ _ t1824
              refine mv_callV (kc1 := 0) (ks1 := 0) (kc' := 0) (ks' := 0) (As := [.int 60]) (st9 := [.int 60, .ref o0]) d_Reader_comparisonHere_3 lV_Reader_209 b1847 rfl (mj_enter (by decide) (Nat.le_of_ble_eq_true rfl) ?_) rfl (Nat.le_of_ble_eq_true rfl) (Nat.le_of_ble_eq_true rfl) (Nat.le_of_ble_eq_true rfl) (hst := rfl) (fun _ _ _ h => h)
              refine mv_aload_n d_Reader_isSign_0 rfl rfl ?_
              refine tr_getK (k := 10) q1837 d_Reader_isSign_1 f_Reader_41_9 ?_
              refine mv_iconst (v := 3) d_Reader_isSign_4 (by decide) ?_
              have := mz_hi v1830
              refine mv_icmp_neZ (tgt := 20) (a := v1830.toInt) (b := 3) d_Reader_isSign_5 (by decide) rfl (by decide) (fun b1848 => ?_) (fun b1848 => ?_)
              · refine mv_iconst (v := 0) d_Reader_isSign_20 (by decide) ?_
                refine mv_iret d_Reader_isSign_21 rfl (by decide) ?_
                refine mv_if_eq_t (tgt := 11) d_Reader_comparisonHere_6 (by decide) (by decide) ?_
                refine mv_aload_n d_Reader_comparisonHere_11 rfl rfl ?_
                refine mv_bipush (v := 62) d_Reader_comparisonHere_12 (by decide) ?_
                obtain ⟨_, b1849, -⟩ := I1816.1 _ _ t1824
                refine mv_callV (kc1 := 0) (ks1 := 0) (kc' := 0) (ks' := 0) (As := [.int 62]) (st9 := [.int 62, .ref o0]) d_Reader_comparisonHere_14 lV_Reader_209 b1849 rfl (mj_enter (by decide) (Nat.le_of_ble_eq_true rfl) ?_) rfl (Nat.le_of_ble_eq_true rfl) (Nat.le_of_ble_eq_true rfl) (Nat.le_of_ble_eq_true rfl) (hst := rfl) (fun _ _ _ h => h)
                refine mv_aload_n d_Reader_isSign_0 rfl rfl ?_
                refine tr_getK (k := 10) q1837 d_Reader_isSign_1 f_Reader_41_9 ?_
                refine mv_iconst (v := 3) d_Reader_isSign_4 (by decide) ?_
                have := mz_hi v1830
                refine mv_icmp_neZ (tgt := 20) (a := v1830.toInt) (b := 3) d_Reader_isSign_5 (by decide) rfl (by decide) (fun b1850 => ?_) (fun b1850 => absurd b1850 (by omega))
                refine mv_iconst (v := 0) d_Reader_isSign_20 (by decide) ?_
                refine mv_iret d_Reader_isSign_21 rfl (by decide) ?_
                refine mv_if_eq_t (tgt := 23) d_Reader_comparisonHere_17 (by decide) (by decide) ?_
                refine mv_aload_n d_Reader_comparisonHere_23 rfl rfl ?_
                refine mv_bipush (v := 61) d_Reader_comparisonHere_24 (by decide) ?_
                obtain ⟨_, b1851, -⟩ := I1816.1 _ _ t1824
                refine mv_callV (kc1 := 0) (ks1 := 0) (kc' := 0) (ks' := 0) (As := [.int 61]) (st9 := [.int 61, .ref o0]) d_Reader_comparisonHere_26 lV_Reader_209 b1851 rfl (mj_enter (by decide) (Nat.le_of_ble_eq_true rfl) ?_) rfl (Nat.le_of_ble_eq_true rfl) (Nat.le_of_ble_eq_true rfl) (Nat.le_of_ble_eq_true rfl) (hst := rfl) (fun _ _ _ h => h)
                refine mv_aload_n d_Reader_isSign_0 rfl rfl ?_
                refine tr_getK (k := 10) q1837 d_Reader_isSign_1 f_Reader_41_9 ?_
                refine mv_iconst (v := 3) d_Reader_isSign_4 (by decide) ?_
                have := mz_hi v1830
                refine mv_icmp_neZ (tgt := 20) (a := v1830.toInt) (b := 3) d_Reader_isSign_5 (by decide) rfl (by decide) (fun b1852 => ?_) (fun b1852 => absurd b1852 (by omega))
                refine mv_iconst (v := 0) d_Reader_isSign_20 (by decide) ?_
                refine mv_iret d_Reader_isSign_21 rfl (by decide) ?_
                refine mv_if_eq_t (tgt := 37) d_Reader_comparisonHere_29 (by decide) (by decide) ?_
                refine mv_iconst (v := (-1)) d_Reader_comparisonHere_37 (by decide) ?_
                refine mv_iret d_Reader_comparisonHere_38 rfl (by first | rfl | decide) ?_
                refine mv_istore_n (lv' := [(2, .int (-1)), (1, .int i1_18), (0, .ref o0)]) d_Reader_term_99 rfl (by decide) rfl ?_
                refine mv_iload_n d_Reader_term_100 rfl rfl ?_
                refine mv_iconst (v := (-1)) d_Reader_term_101 (by decide) ?_
                refine mv_icmp_ne_f (tgt := 111) d_Reader_term_102 (by decide) (by decide) ?_
                refine mv_aload_n d_Reader_term_105 rfl rfl ?_
                refine mv_iconst (v := 1) d_Reader_term_106 (by decide) ?_
                obtain ⟨_, b1853, -⟩ := I1816.1 _ _ t1824
                refine mv_callV (kc1 := 0) (ks1 := 0) (kc' := 0) (ks' := 0) (As := [.int 1]) (st9 := [.int 1, .ref o0]) d_Reader_term_107 lV_Reader_56 b1853 rfl (mj_enter (by decide) (Nat.le_of_ble_eq_true rfl) ?_) rfl (Nat.le_of_ble_eq_true rfl) (Nat.le_of_ble_eq_true rfl) (Nat.le_of_ble_eq_true rfl) (hst := rfl) (fun _ _ _ h => h)
                refine mv_aload_n d_Reader_refuse_0 rfl rfl ?_
                refine mv_iload_n d_Reader_refuse_1 rfl rfl ?_
                refine tr_putK tm_okF I1816 t1824 (k := 1) rfl ⟨_, rfl⟩ (Or.inl (by decide)) d_Reader_refuse_2 p_Reader_70_9 rfl rfl (fun M1854 I1855 q1856 K1857 => ?_)
                refine mv_aload_n d_Reader_refuse_5 rfl rfl ?_
                refine mv_aload_n d_Reader_refuse_6 rfl rfl ?_
                refine tr_getK (k := 11) (K1857 _ 9 11 _ rfl q1838) d_Reader_refuse_7 f_Reader_175_9 ?_
                refine tr_putK tm_okF I1855 t1824 (k := 2) rfl ⟨_, rfl⟩ (Or.inl (by decide)) d_Reader_refuse_10 p_Reader_11_9 rfl rfl (fun M1858 I1859 q1860 K1861 => ?_)
                refine mv_iconst (v := 0) d_Reader_refuse_13 (by decide) ?_
                obtain ⟨s1862, e1863⟩ : ∃ s9 : p_S, p_fl pb pn 1 s1825 = s9 := ⟨_, rfl⟩
                have h1864 := q_fl e1863 (by omega) (by decide)
                have h1865 : (1 : Int32).toInt = s1862.1 := (by have e9 : (1 : Int32).toInt = 1 := (by decide); omega)
                have h1866 : Im (s1862.1 ≠ 0 → v1831.toInt = (s1862.2.1 : Int)) := Im.i (fun _ => by have := (Im.o h1843) (by omega); omega)
                have h1867 : Im (s1862.1 = 0 → v1829.toInt = (s1862.2.2 : Int) ∧ v1830.toInt = p_ki pb pn s1862.2.2 ∧ v1831.toInt = (p_st pb pn s1862.2.2 : Int) ∧ v1832.toInt = (p_sp pb pn s1862.2.2 : Int) ∧ v1833.toInt = p_va pb pn s1862.2.2 ∧ v1831.toInt = -1) := Im.i (fun z9 => absurd z9 h1864.2.2)
                refine mv_iret d_Reader_refuse_14 rfl (by decide) ?_
                exact mv_iret d_Reader_term_110 rfl (by decide) ⟨_, I1859, _, rfl, by decide, by decide, fun h => absurd h (by decide), (by have := (Im.o h40) (by omega); have := yC.d s19.2.2; have := yC.kn s19.2.2; have := (Im.o h1843) (by omega); have := yC.d s1825.2.2; have := yC.kn s1825.2.2; have hb : s1862.1 ≠ 0 := (by omega); have z1 : ∀ c, p_sg pb pn c s1862 = s1862 := (fun c => p_sg_Z s1862 hb); have z2 : ∀ c, p_wd pb pn c s1862 = s1862 := (fun c => p_wd_Z s1862 hb); have z3 : ∀ op, p_sum pb pn pa op s1862 = s1862 := (fun op => p_sum_Z s1862 hb); have z4 : ∀ r oc, p_con pb pn pa r oc s1862 = s1862 := (fun r oc => p_con_Z s1862 hb); have z5 : p_prt pb pn s1862 = s1862 := p_prt_Z s1862 hb; have eT : p_ter pb pn pa (r7 + 1) (p_oc pb pn pa (r7 + 1)) ps = s1862 := (by have hop : p_oc pb pn pa (r7 + 1) s19 = p_sg pb pn 93 (p_con pb pn pa r7 (p_oc pb pn pa r7) (p_nx s19)) := rfl; have hX := e23.symm.trans (p_lp_stop (show (p_no1 pb pn) s19 = s19 from if_neg (fun h9 => by omega))); unfold p_ter; rw [hX]; unfold p_te1; unfold p_cmp; (try simp only [hop]); (try simp only [e1826, e1863, z1, z2, z3, z4, z5]); ((repeat' (first | (with_reducible rfl) | split)) <;> (first | ((try simp only [e1826, e1863, z1, z2, z3, z4, z5]); done) | (exfalso; omega)))); rw [eT]; exact ⟨⟨_, _, _, _, _, _, _, (K1861 _ 9 1 _ rfl q1856), q1860, (K1861 _ 9 9 _ rfl (K1857 _ 9 9 _ rfl q1836)), (K1861 _ 9 10 _ rfl (K1857 _ 9 10 _ rfl q1837)), (K1861 _ 9 11 _ rfl (K1857 _ 9 11 _ rfl q1838)), (K1861 _ 9 12 _ rfl (K1857 _ 9 12 _ rfl q1839)), (K1861 _ 9 13 _ rfl (K1857 _ 9 13 _ rfl q1840)), h1865, Im.o h1866, Im.o h1867⟩, (Or.inr ⟨by first | decide | omega, by omega⟩)⟩)⟩
              · refine mv_aload_n d_Reader_isSign_8 rfl rfl ?_
                refine tr_getK (k := 13) q1840 d_Reader_isSign_9 f_Reader_241_9 ?_
                refine mv_iload_n d_Reader_isSign_12 rfl rfl ?_
                have := mz_hi v1833
                refine mv_icmp_neZ (tgt := 20) (a := v1833.toInt) (b := 60) d_Reader_isSign_13 (by decide) rfl (by decide) (fun b1868 => ?_) (fun b1868 => ?_)
                · refine mv_iconst (v := 0) d_Reader_isSign_20 (by decide) ?_
                  refine mv_iret d_Reader_isSign_21 rfl (by decide) ?_
                  refine mv_if_eq_t (tgt := 11) d_Reader_comparisonHere_6 (by decide) (by decide) ?_
                  refine mv_aload_n d_Reader_comparisonHere_11 rfl rfl ?_
                  refine mv_bipush (v := 62) d_Reader_comparisonHere_12 (by decide) ?_
                  obtain ⟨_, b1869, -⟩ := I1816.1 _ _ t1824
                  refine mv_callV (kc1 := 0) (ks1 := 0) (kc' := 0) (ks' := 0) (As := [.int 62]) (st9 := [.int 62, .ref o0]) d_Reader_comparisonHere_14 lV_Reader_209 b1869 rfl (mj_enter (by decide) (Nat.le_of_ble_eq_true rfl) ?_) rfl (Nat.le_of_ble_eq_true rfl) (Nat.le_of_ble_eq_true rfl) (Nat.le_of_ble_eq_true rfl) (hst := rfl) (fun _ _ _ h => h)
                  refine mv_aload_n d_Reader_isSign_0 rfl rfl ?_
                  refine tr_getK (k := 10) q1837 d_Reader_isSign_1 f_Reader_41_9 ?_
                  refine mv_iconst (v := 3) d_Reader_isSign_4 (by decide) ?_
                  have := mz_hi v1830
                  refine mv_icmp_neZ (tgt := 20) (a := v1830.toInt) (b := 3) d_Reader_isSign_5 (by decide) rfl (by decide) (fun b1870 => absurd b1870 (by omega)) (fun b1870 => ?_)
                  refine mv_aload_n d_Reader_isSign_8 rfl rfl ?_
                  refine tr_getK (k := 13) q1840 d_Reader_isSign_9 f_Reader_241_9 ?_
                  refine mv_iload_n d_Reader_isSign_12 rfl rfl ?_
                  have := mz_hi v1833
                  refine mv_icmp_neZ (tgt := 20) (a := v1833.toInt) (b := 62) d_Reader_isSign_13 (by decide) rfl (by decide) (fun b1871 => ?_) (fun b1871 => ?_)
                  · refine mv_iconst (v := 0) d_Reader_isSign_20 (by decide) ?_
                    refine mv_iret d_Reader_isSign_21 rfl (by decide) ?_
                    refine mv_if_eq_t (tgt := 23) d_Reader_comparisonHere_17 (by decide) (by decide) ?_
                    refine mv_aload_n d_Reader_comparisonHere_23 rfl rfl ?_
                    refine mv_bipush (v := 61) d_Reader_comparisonHere_24 (by decide) ?_
                    obtain ⟨_, b1872, -⟩ := I1816.1 _ _ t1824
                    refine mv_callV (kc1 := 0) (ks1 := 0) (kc' := 0) (ks' := 0) (As := [.int 61]) (st9 := [.int 61, .ref o0]) d_Reader_comparisonHere_26 lV_Reader_209 b1872 rfl (mj_enter (by decide) (Nat.le_of_ble_eq_true rfl) ?_) rfl (Nat.le_of_ble_eq_true rfl) (Nat.le_of_ble_eq_true rfl) (Nat.le_of_ble_eq_true rfl) (hst := rfl) (fun _ _ _ h => h)
                    refine mv_aload_n d_Reader_isSign_0 rfl rfl ?_
                    refine tr_getK (k := 10) q1837 d_Reader_isSign_1 f_Reader_41_9 ?_
                    refine mv_iconst (v := 3) d_Reader_isSign_4 (by decide) ?_
                    have := mz_hi v1830
                    refine mv_icmp_neZ (tgt := 20) (a := v1830.toInt) (b := 3) d_Reader_isSign_5 (by decide) rfl (by decide) (fun b1873 => absurd b1873 (by omega)) (fun b1873 => ?_)
                    refine mv_aload_n d_Reader_isSign_8 rfl rfl ?_
                    refine tr_getK (k := 13) q1840 d_Reader_isSign_9 f_Reader_241_9 ?_
                    refine mv_iload_n d_Reader_isSign_12 rfl rfl ?_
                    have := mz_hi v1833
                    refine mv_icmp_neZ (tgt := 20) (a := v1833.toInt) (b := 61) d_Reader_isSign_13 (by decide) rfl (by decide) (fun b1874 => ?_) (fun b1874 => ?_)
                    · refine mv_iconst (v := 0) d_Reader_isSign_20 (by decide) ?_
                      refine mv_iret d_Reader_isSign_21 rfl (by decide) ?_
                      refine mv_if_eq_t (tgt := 37) d_Reader_comparisonHere_29 (by decide) (by decide) ?_
                      refine mv_iconst (v := (-1)) d_Reader_comparisonHere_37 (by decide) ?_
                      refine mv_iret d_Reader_comparisonHere_38 rfl (by first | rfl | decide) ?_
                      refine mv_istore_n (lv' := [(2, .int (-1)), (1, .int i1_18), (0, .ref o0)]) d_Reader_term_99 rfl (by decide) rfl ?_
                      refine mv_iload_n d_Reader_term_100 rfl rfl ?_
                      refine mv_iconst (v := (-1)) d_Reader_term_101 (by decide) ?_
                      refine mv_icmp_ne_f (tgt := 111) d_Reader_term_102 (by decide) (by decide) ?_
                      refine mv_aload_n d_Reader_term_105 rfl rfl ?_
                      refine mv_iconst (v := 1) d_Reader_term_106 (by decide) ?_
                      obtain ⟨_, b1875, -⟩ := I1816.1 _ _ t1824
                      refine mv_callV (kc1 := 0) (ks1 := 0) (kc' := 0) (ks' := 0) (As := [.int 1]) (st9 := [.int 1, .ref o0]) d_Reader_term_107 lV_Reader_56 b1875 rfl (mj_enter (by decide) (Nat.le_of_ble_eq_true rfl) ?_) rfl (Nat.le_of_ble_eq_true rfl) (Nat.le_of_ble_eq_true rfl) (Nat.le_of_ble_eq_true rfl) (hst := rfl) (fun _ _ _ h => h)
                      refine mv_aload_n d_Reader_refuse_0 rfl rfl ?_
                      refine mv_iload_n d_Reader_refuse_1 rfl rfl ?_
                      refine tr_putK tm_okF I1816 t1824 (k := 1) rfl ⟨_, rfl⟩ (Or.inl (by decide)) d_Reader_refuse_2 p_Reader_70_9 rfl rfl (fun M1876 I1877 q1878 K1879 => ?_)
                      refine mv_aload_n d_Reader_refuse_5 rfl rfl ?_
                      refine mv_aload_n d_Reader_refuse_6 rfl rfl ?_
                      refine tr_getK (k := 11) (K1879 _ 9 11 _ rfl q1838) d_Reader_refuse_7 f_Reader_175_9 ?_
                      refine tr_putK tm_okF I1877 t1824 (k := 2) rfl ⟨_, rfl⟩ (Or.inl (by decide)) d_Reader_refuse_10 p_Reader_11_9 rfl rfl (fun M1880 I1881 q1882 K1883 => ?_)
                      refine mv_iconst (v := 0) d_Reader_refuse_13 (by decide) ?_
                      obtain ⟨s1884, e1885⟩ : ∃ s9 : p_S, p_fl pb pn 1 s1825 = s9 := ⟨_, rfl⟩
                      have h1886 := q_fl e1885 (by omega) (by decide)
                      have h1887 : (1 : Int32).toInt = s1884.1 := (by have e9 : (1 : Int32).toInt = 1 := (by decide); omega)
                      have h1888 : Im (s1884.1 ≠ 0 → v1831.toInt = (s1884.2.1 : Int)) := Im.i (fun _ => by have := (Im.o h1843) (by omega); omega)
                      have h1889 : Im (s1884.1 = 0 → v1829.toInt = (s1884.2.2 : Int) ∧ v1830.toInt = p_ki pb pn s1884.2.2 ∧ v1831.toInt = (p_st pb pn s1884.2.2 : Int) ∧ v1832.toInt = (p_sp pb pn s1884.2.2 : Int) ∧ v1833.toInt = p_va pb pn s1884.2.2 ∧ v1831.toInt = -1) := Im.i (fun z9 => absurd z9 h1886.2.2)
                      refine mv_iret d_Reader_refuse_14 rfl (by decide) ?_
                      exact mv_iret d_Reader_term_110 rfl (by decide) ⟨_, I1881, _, rfl, by decide, by decide, fun h => absurd h (by decide), (by have := (Im.o h40) (by omega); have := yC.d s19.2.2; have := yC.kn s19.2.2; have := (Im.o h1843) (by omega); have := yC.d s1825.2.2; have := yC.kn s1825.2.2; have hb : s1884.1 ≠ 0 := (by omega); have z1 : ∀ c, p_sg pb pn c s1884 = s1884 := (fun c => p_sg_Z s1884 hb); have z2 : ∀ c, p_wd pb pn c s1884 = s1884 := (fun c => p_wd_Z s1884 hb); have z3 : ∀ op, p_sum pb pn pa op s1884 = s1884 := (fun op => p_sum_Z s1884 hb); have z4 : ∀ r oc, p_con pb pn pa r oc s1884 = s1884 := (fun r oc => p_con_Z s1884 hb); have z5 : p_prt pb pn s1884 = s1884 := p_prt_Z s1884 hb; have eT : p_ter pb pn pa (r7 + 1) (p_oc pb pn pa (r7 + 1)) ps = s1884 := (by have hop : p_oc pb pn pa (r7 + 1) s19 = p_sg pb pn 93 (p_con pb pn pa r7 (p_oc pb pn pa r7) (p_nx s19)) := rfl; have hX := e23.symm.trans (p_lp_stop (show (p_no1 pb pn) s19 = s19 from if_neg (fun h9 => by omega))); unfold p_ter; rw [hX]; unfold p_te1; unfold p_cmp; (try simp only [hop]); (try simp only [e1826, e1885, z1, z2, z3, z4, z5]); ((repeat' (first | (with_reducible rfl) | split)) <;> (first | ((try simp only [e1826, e1885, z1, z2, z3, z4, z5]); done) | (exfalso; omega)))); rw [eT]; exact ⟨⟨_, _, _, _, _, _, _, (K1883 _ 9 1 _ rfl q1878), q1882, (K1883 _ 9 9 _ rfl (K1879 _ 9 9 _ rfl q1836)), (K1883 _ 9 10 _ rfl (K1879 _ 9 10 _ rfl q1837)), (K1883 _ 9 11 _ rfl (K1879 _ 9 11 _ rfl q1838)), (K1883 _ 9 12 _ rfl (K1879 _ 9 12 _ rfl q1839)), (K1883 _ 9 13 _ rfl (K1879 _ 9 13 _ rfl q1840)), h1887, Im.o h1888, Im.o h1889⟩, (Or.inr ⟨by first | decide | omega, by omega⟩)⟩)⟩
                    · refine mv_iconst (v := 1) d_Reader_isSign_16 (by decide) ?_
                      refine mv_goto (tgt := 21) d_Reader_isSign_17 (by decide) ?_
                      refine mv_iret d_Reader_isSign_21 rfl (by decide) ?_
                      refine mv_if_eq_f (tgt := 37) d_Reader_comparisonHere_29 (by decide) (by decide) ?_
                      refine mv_bipush (v := 7) d_Reader_comparisonHere_32 (by decide) ?_
                      refine mv_goto (tgt := 38) d_Reader_comparisonHere_34 (by decide) ?_
                      refine mv_iret d_Reader_comparisonHere_38 rfl (by first | rfl | decide) ?_
                      refine mv_istore_n (lv' := [(2, .int 7), (1, .int i1_18), (0, .ref o0)]) d_Reader_term_99 rfl (by decide) rfl ?_
                      refine mv_iload_n d_Reader_term_100 rfl rfl ?_
                      refine mv_iconst (v := (-1)) d_Reader_term_101 (by decide) ?_
                      refine mv_icmp_ne_t (tgt := 111) d_Reader_term_102 (by decide) (by decide) ?_
                      refine mv_aload_n d_Reader_term_111 rfl rfl ?_
                      obtain ⟨_, b1896, -⟩ := I1816.1 _ _ t1824
                      refine mv_callV (kc' := 0) (ks' := 0) (As := []) (st9 := [.ref o0]) d_Reader_term_112 lV_Reader_82 b1896 rfl (tc_Reader_advance_x (d := (d + E + 7)) (x9 := x9) (o0 := o0) t1824 (hK I1816) (qS.a (show qS M1812 o0 pb pn s1825 from ⟨_, _, _, _, _, _, _, q1834, q1835, q1836, q1837, q1838, q1839, q1840, h1841, Im.o h1842, Im.o h1843⟩)) (by have := (Im.o h40) (by omega); have := yC.d s19.2.2; have := yC.kn s19.2.2; have := (Im.o h1843) (by omega); have := yC.d s1825.2.2; have := yC.kn s1825.2.2; show s1825.2.2 + 1 ≤ 401; omega) I1816.start) rfl (Nat.le_of_ble_eq_true rfl) (Nat.le_of_ble_eq_true rfl) (Nat.le_of_ble_eq_true rfl) (hst := rfl) (fun b1890r M1891 n1892 b1890 => ?_)
                      obtain ⟨T1893, J1894, rfl, f1897⟩ := b1890
                      have I1895 := I1816.call J1894 (tm_sub (by decide)) (Or.inl rfl)
                      have t1898 := J1894.up t1824
                      have q1899 := J1894.keep (I1816.up h_o0) (by decide) q1834
                      have q1900 := J1894.keep (I1816.up h_o0) (by decide) q1835
                      have q1901 := J1894.keep t1824 (by decide) q1845
                      obtain ⟨s1902, e1903⟩ : ∃ s9 : p_S, p_nx s1825 = s9 := ⟨_, rfl⟩
                      rw [e1903] at f1897
                      have : s1902.1 = 0 := by rw [← e1903]; show s1825.1 = 0; omega
                      obtain ⟨v1904, v1905, v1906, v1907, v1908, v1909, v1910, q1911, q1912, q1913, q1914, q1915, q1916, q1917, h1918, h1919, h1920⟩ := f1897
                      replace h1919 := Im.i h1919
                      replace h1920 := Im.i h1920
                      refine mv_aload_n d_Reader_term_115 rfl rfl ?_
                      obtain ⟨_, b1927, -⟩ := I1895.1 _ _ t1898
                      refine mv_callV (kc' := 0) (ks' := 0) (As := []) (st9 := [.ref o0]) d_Reader_term_116 lV_Reader_186 b1927 rfl (tg_Reader_sum hK9 H_sum H_condition (d := d) (x9 := x9) (o0 := o0) t1898 (p := p) q1901 (by omega) (by first | omega | decide) (hK I1895) ⟨_, _, _, _, _, _, _, q1911, q1912, q1913, q1914, q1915, q1916, q1917, h1918, Im.o h1919, Im.o h1920⟩ (by omega) I1895.start) rfl (Nat.le_of_ble_eq_true rfl) (Nat.le_of_ble_eq_true rfl) (Nat.le_of_ble_eq_true rfl) (hst := rfl) (fun b1921r M1922 n1923 b1921 => ?_)
                      obtain ⟨T1924, J1925, v1928, rfl, b1929, b1930, o1931, f1932, f1933⟩ := b1921
                      have I1926 := I1895.call J1925 (tm_sub (by decide)) (Or.inl rfl)
                      have t1934 := J1925.up t1898
                      obtain ⟨s1935, e1936⟩ : ∃ s9 : p_S, p_sum pb pn pa (p_op pb pn pa (r7 + 1)) s1902 = s9 := ⟨_, rfl⟩
                      rw [e1936] at f1932 f1933
                      obtain ⟨v1937, v1938, v1939, v1940, v1941, v1942, v1943, q1944, q1945, q1946, q1947, q1948, q1949, q1950, h1951, h1952, h1953⟩ := f1932
                      replace h1952 := Im.i h1952
                      replace h1953 := Im.i h1953
                      have := mz_hi v1928
                      refine mv_if_neZ (tgt := 124) (a := v1928.toInt) d_Reader_term_119 (by decide) rfl (fun b1954 => ?_) (fun b1954 => ?_)
                      · have q1955 := o1931 (by omega)
                        refine mv_aload_n d_Reader_term_124 rfl rfl ?_
                        refine mv_iload_n d_Reader_term_125 rfl rfl ?_
                        refine mv_iconst (v := 0) d_Reader_term_126 (by decide) ?_
                        obtain ⟨_, b1962, -⟩ := I1926.1 _ _ t1934
                        refine mv_callV (kc' := 0) (ks' := 0) (As := [.int 7, .int 0]) (st9 := [.int 0, .int 7, .ref o0]) d_Reader_term_127 lV_Reader_203 b1962 rfl (tc_Reader_emit (d := (d + E + 7)) (x9 := x9) (o0 := o0) (x1 := 7) (x2 := 0) t1934 I1926.start) rfl (Nat.le_of_ble_eq_true rfl) (Nat.le_of_ble_eq_true rfl) (Nat.le_of_ble_eq_true rfl) (hst := rfl) (fun b1956r M1957 n1958 b1956 => ?_)
                        obtain ⟨T1959, J1960, rfl⟩ := b1956
                        have I1961 := I1926.call J1960 (tm_sub (by decide)) (Or.inl rfl)
                        have t1963 := J1960.up t1934
                        have q1964 := J1960.keep (I1926.up h_o0) (by decide) q1944
                        have q1965 := J1960.keep (I1926.up h_o0) (by decide) q1945
                        have q1966 := J1960.keep (I1926.up h_o0) (by decide) q1946
                        have q1967 := J1960.keep (I1926.up h_o0) (by decide) q1947
                        have q1968 := J1960.keep (I1926.up h_o0) (by decide) q1948
                        have q1969 := J1960.keep (I1926.up h_o0) (by decide) q1949
                        have q1970 := J1960.keep (I1926.up h_o0) (by decide) q1950
                        have q1971 := J1960.keep t1934 (by decide) q1955
                        refine mv_iload_n d_Reader_term_130 rfl rfl ?_
                        have := mz_hi i1_18
                        refine mv_if_eqZ (tgt := 141) (a := i1_18.toInt) d_Reader_term_131 (by decide) rfl (fun b1972 => ?_) (fun b1972 => ?_)
                        · refine mv_iconst (v := 1) d_Reader_term_141 (by decide) ?_
                          exact mv_iret d_Reader_term_142 rfl (by decide) ⟨_, I1961, _, rfl, by decide, by decide, fun _ => q1971, (by have := (Im.o h40) (by omega); have := yC.d s19.2.2; have := yC.kn s19.2.2; have := (Im.o h1843) (by omega); have := yC.d s1825.2.2; have := yC.kn s1825.2.2; have eT : p_ter pb pn pa (r7 + 1) (p_oc pb pn pa (r7 + 1)) ps = s1935 := (by have hop : p_oc pb pn pa (r7 + 1) s19 = p_sg pb pn 93 (p_con pb pn pa r7 (p_oc pb pn pa r7) (p_nx s19)) := rfl; have hX := e23.symm.trans (p_lp_stop (show (p_no1 pb pn) s19 = s19 from if_neg (fun h9 => by omega))); unfold p_ter; rw [hX]; unfold p_te1; unfold p_cmp; (try simp only [hop]); (try simp only [e1826, e1903, e1936]); ((repeat' (first | (with_reducible rfl) | split)) <;> (first | ((try simp only [e1826, e1903, e1936]); done) | (exfalso; omega)))); rw [eT]; exact ⟨⟨_, _, _, _, _, _, _, q1964, q1965, q1966, q1967, q1968, q1969, q1970, h1951, Im.o h1952, Im.o h1953⟩, (Or.inl ⟨by first | decide | omega, by omega⟩)⟩)⟩
                        · refine mv_aload_n d_Reader_term_134 rfl rfl ?_
                          refine mv_bipush (v := 8) d_Reader_term_135 (by decide) ?_
                          refine mv_iconst (v := 0) d_Reader_term_137 (by decide) ?_
                          obtain ⟨_, b1979, -⟩ := I1961.1 _ _ t1963
                          refine mv_callV (kc' := 0) (ks' := 0) (As := [.int 8, .int 0]) (st9 := [.int 0, .int 8, .ref o0]) d_Reader_term_138 lV_Reader_203 b1979 rfl (tc_Reader_emit (d := (d + E + 7)) (x9 := x9) (o0 := o0) (x1 := 8) (x2 := 0) t1963 I1961.start) rfl (Nat.le_of_ble_eq_true rfl) (Nat.le_of_ble_eq_true rfl) (Nat.le_of_ble_eq_true rfl) (hst := rfl) (fun b1973r M1974 n1975 b1973 => ?_)
                          obtain ⟨T1976, J1977, rfl⟩ := b1973
                          have I1978 := I1961.call J1977 (tm_sub (by decide)) (Or.inl rfl)
                          have t1980 := J1977.up t1963
                          have q1981 := J1977.keep t1963 (by decide) q1964
                          have q1982 := J1977.keep t1963 (by decide) q1965
                          have q1983 := J1977.keep t1963 (by decide) q1966
                          have q1984 := J1977.keep t1963 (by decide) q1967
                          have q1985 := J1977.keep t1963 (by decide) q1968
                          have q1986 := J1977.keep t1963 (by decide) q1969
                          have q1987 := J1977.keep t1963 (by decide) q1970
                          have q1988 := J1977.keep t1963 (by decide) q1971
                          refine mv_iconst (v := 1) d_Reader_term_141 (by decide) ?_
                          exact mv_iret d_Reader_term_142 rfl (by decide) ⟨_, I1978, _, rfl, by decide, by decide, fun _ => q1988, (by have := (Im.o h40) (by omega); have := yC.d s19.2.2; have := yC.kn s19.2.2; have := (Im.o h1843) (by omega); have := yC.d s1825.2.2; have := yC.kn s1825.2.2; have eT : p_ter pb pn pa (r7 + 1) (p_oc pb pn pa (r7 + 1)) ps = s1935 := (by have hop : p_oc pb pn pa (r7 + 1) s19 = p_sg pb pn 93 (p_con pb pn pa r7 (p_oc pb pn pa r7) (p_nx s19)) := rfl; have hX := e23.symm.trans (p_lp_stop (show (p_no1 pb pn) s19 = s19 from if_neg (fun h9 => by omega))); unfold p_ter; rw [hX]; unfold p_te1; unfold p_cmp; (try simp only [hop]); (try simp only [e1826, e1903, e1936]); ((repeat' (first | (with_reducible rfl) | split)) <;> (first | ((try simp only [e1826, e1903, e1936]); done) | (exfalso; omega)))); rw [eT]; exact ⟨⟨_, _, _, _, _, _, _, q1981, q1982, q1983, q1984, q1985, q1986, q1987, h1951, Im.o h1952, Im.o h1953⟩, (Or.inl ⟨by first | decide | omega, by omega⟩)⟩)⟩
                      · refine mv_iconst (v := 0) d_Reader_term_122 (by decide) ?_
                        exact mv_iret d_Reader_term_123 rfl (by decide) ⟨_, I1926, _, rfl, by decide, by decide, fun h => absurd h (by decide), (by have := (Im.o h40) (by omega); have := yC.d s19.2.2; have := yC.kn s19.2.2; have := (Im.o h1843) (by omega); have := yC.d s1825.2.2; have := yC.kn s1825.2.2; have hb : s1935.1 ≠ 0 := (by omega); have z1 : ∀ c, p_sg pb pn c s1935 = s1935 := (fun c => p_sg_Z s1935 hb); have z2 : ∀ c, p_wd pb pn c s1935 = s1935 := (fun c => p_wd_Z s1935 hb); have z3 : ∀ op, p_sum pb pn pa op s1935 = s1935 := (fun op => p_sum_Z s1935 hb); have z4 : ∀ r oc, p_con pb pn pa r oc s1935 = s1935 := (fun r oc => p_con_Z s1935 hb); have z5 : p_prt pb pn s1935 = s1935 := p_prt_Z s1935 hb; have eT : p_ter pb pn pa (r7 + 1) (p_oc pb pn pa (r7 + 1)) ps = s1935 := (by have hop : p_oc pb pn pa (r7 + 1) s19 = p_sg pb pn 93 (p_con pb pn pa r7 (p_oc pb pn pa r7) (p_nx s19)) := rfl; have hX := e23.symm.trans (p_lp_stop (show (p_no1 pb pn) s19 = s19 from if_neg (fun h9 => by omega))); unfold p_ter; rw [hX]; unfold p_te1; unfold p_cmp; (try simp only [hop]); (try simp only [e1826, e1903, e1936, z1, z2, z3, z4, z5]); ((repeat' (first | (with_reducible rfl) | split)) <;> (first | ((try simp only [e1826, e1903, e1936, z1, z2, z3, z4, z5]); done) | (exfalso; omega)))); rw [eT]; exact ⟨⟨_, _, _, _, _, _, _, q1944, q1945, q1946, q1947, q1948, q1949, q1950, h1951, Im.o h1952, Im.o h1953⟩, (Or.inr ⟨by first | decide | omega, by omega⟩)⟩)⟩
                  · refine mv_iconst (v := 1) d_Reader_isSign_16 (by decide) ?_
                    refine mv_goto (tgt := 21) d_Reader_isSign_17 (by decide) ?_
                    refine mv_iret d_Reader_isSign_21 rfl (by decide) ?_
                    refine mv_if_eq_f (tgt := 23) d_Reader_comparisonHere_17 (by decide) (by decide) ?_
                    refine mv_bipush (v := 6) d_Reader_comparisonHere_20 (by decide) ?_
                    refine mv_iret d_Reader_comparisonHere_22 rfl (by first | rfl | decide) ?_
                    refine mv_istore_n (lv' := [(2, .int 6), (1, .int i1_18), (0, .ref o0)]) d_Reader_term_99 rfl (by decide) rfl ?_
                    refine mv_iload_n d_Reader_term_100 rfl rfl ?_
                    refine mv_iconst (v := (-1)) d_Reader_term_101 (by decide) ?_
                    refine mv_icmp_ne_t (tgt := 111) d_Reader_term_102 (by decide) (by decide) ?_
                    refine mv_aload_n d_Reader_term_111 rfl rfl ?_
                    obtain ⟨_, b1995, -⟩ := I1816.1 _ _ t1824
                    refine mv_callV (kc' := 0) (ks' := 0) (As := []) (st9 := [.ref o0]) d_Reader_term_112 lV_Reader_82 b1995 rfl (tc_Reader_advance_x (d := (d + E + 7)) (x9 := x9) (o0 := o0) t1824 (hK I1816) (qS.a (show qS M1812 o0 pb pn s1825 from ⟨_, _, _, _, _, _, _, q1834, q1835, q1836, q1837, q1838, q1839, q1840, h1841, Im.o h1842, Im.o h1843⟩)) (by have := (Im.o h40) (by omega); have := yC.d s19.2.2; have := yC.kn s19.2.2; have := (Im.o h1843) (by omega); have := yC.d s1825.2.2; have := yC.kn s1825.2.2; show s1825.2.2 + 1 ≤ 401; omega) I1816.start) rfl (Nat.le_of_ble_eq_true rfl) (Nat.le_of_ble_eq_true rfl) (Nat.le_of_ble_eq_true rfl) (hst := rfl) (fun b1989r M1990 n1991 b1989 => ?_)
                    obtain ⟨T1992, J1993, rfl, f1996⟩ := b1989
                    have I1994 := I1816.call J1993 (tm_sub (by decide)) (Or.inl rfl)
                    have t1997 := J1993.up t1824
                    have q1998 := J1993.keep (I1816.up h_o0) (by decide) q1834
                    have q1999 := J1993.keep (I1816.up h_o0) (by decide) q1835
                    have q2000 := J1993.keep t1824 (by decide) q1845
                    obtain ⟨s2001, e2002⟩ : ∃ s9 : p_S, p_nx s1825 = s9 := ⟨_, rfl⟩
                    rw [e2002] at f1996
                    have : s2001.1 = 0 := by rw [← e2002]; show s1825.1 = 0; omega
                    obtain ⟨v2003, v2004, v2005, v2006, v2007, v2008, v2009, q2010, q2011, q2012, q2013, q2014, q2015, q2016, h2017, h2018, h2019⟩ := f1996
                    replace h2018 := Im.i h2018
                    replace h2019 := Im.i h2019
                    refine mv_aload_n d_Reader_term_115 rfl rfl ?_
                    obtain ⟨_, b2026, -⟩ := I1994.1 _ _ t1997
                    refine mv_callV (kc' := 0) (ks' := 0) (As := []) (st9 := [.ref o0]) d_Reader_term_116 lV_Reader_186 b2026 rfl (tg_Reader_sum hK9 H_sum H_condition (d := d) (x9 := x9) (o0 := o0) t1997 (p := p) q2000 (by omega) (by first | omega | decide) (hK I1994) ⟨_, _, _, _, _, _, _, q2010, q2011, q2012, q2013, q2014, q2015, q2016, h2017, Im.o h2018, Im.o h2019⟩ (by omega) I1994.start) rfl (Nat.le_of_ble_eq_true rfl) (Nat.le_of_ble_eq_true rfl) (Nat.le_of_ble_eq_true rfl) (hst := rfl) (fun b2020r M2021 n2022 b2020 => ?_)
                    obtain ⟨T2023, J2024, v2027, rfl, b2028, b2029, o2030, f2031, f2032⟩ := b2020
                    have I2025 := I1994.call J2024 (tm_sub (by decide)) (Or.inl rfl)
                    have t2033 := J2024.up t1997
                    obtain ⟨s2034, e2035⟩ : ∃ s9 : p_S, p_sum pb pn pa (p_op pb pn pa (r7 + 1)) s2001 = s9 := ⟨_, rfl⟩
                    rw [e2035] at f2031 f2032
                    obtain ⟨v2036, v2037, v2038, v2039, v2040, v2041, v2042, q2043, q2044, q2045, q2046, q2047, q2048, q2049, h2050, h2051, h2052⟩ := f2031
                    replace h2051 := Im.i h2051
                    replace h2052 := Im.i h2052
                    have := mz_hi v2027
                    refine mv_if_neZ (tgt := 124) (a := v2027.toInt) d_Reader_term_119 (by decide) rfl (fun b2053 => ?_) (fun b2053 => ?_)
                    · have q2054 := o2030 (by omega)
                      refine mv_aload_n d_Reader_term_124 rfl rfl ?_
                      refine mv_iload_n d_Reader_term_125 rfl rfl ?_
                      refine mv_iconst (v := 0) d_Reader_term_126 (by decide) ?_
                      obtain ⟨_, b2061, -⟩ := I2025.1 _ _ t2033
                      refine mv_callV (kc' := 0) (ks' := 0) (As := [.int 6, .int 0]) (st9 := [.int 0, .int 6, .ref o0]) d_Reader_term_127 lV_Reader_203 b2061 rfl (tc_Reader_emit (d := (d + E + 7)) (x9 := x9) (o0 := o0) (x1 := 6) (x2 := 0) t2033 I2025.start) rfl (Nat.le_of_ble_eq_true rfl) (Nat.le_of_ble_eq_true rfl) (Nat.le_of_ble_eq_true rfl) (hst := rfl) (fun b2055r M2056 n2057 b2055 => ?_)
                      obtain ⟨T2058, J2059, rfl⟩ := b2055
                      have I2060 := I2025.call J2059 (tm_sub (by decide)) (Or.inl rfl)
                      have t2062 := J2059.up t2033
                      have q2063 := J2059.keep (I2025.up h_o0) (by decide) q2043
                      have q2064 := J2059.keep (I2025.up h_o0) (by decide) q2044
                      have q2065 := J2059.keep (I2025.up h_o0) (by decide) q2045
                      have q2066 := J2059.keep (I2025.up h_o0) (by decide) q2046
                      have q2067 := J2059.keep (I2025.up h_o0) (by decide) q2047
                      have q2068 := J2059.keep (I2025.up h_o0) (by decide) q2048
                      have q2069 := J2059.keep (I2025.up h_o0) (by decide) q2049
                      have q2070 := J2059.keep t2033 (by decide) q2054
                      refine mv_iload_n d_Reader_term_130 rfl rfl ?_
                      have := mz_hi i1_18
                      refine mv_if_eqZ (tgt := 141) (a := i1_18.toInt) d_Reader_term_131 (by decide) rfl (fun b2071 => ?_) (fun b2071 => ?_)
                      · refine mv_iconst (v := 1) d_Reader_term_141 (by decide) ?_
                        exact mv_iret d_Reader_term_142 rfl (by decide) ⟨_, I2060, _, rfl, by decide, by decide, fun _ => q2070, (by have := (Im.o h40) (by omega); have := yC.d s19.2.2; have := yC.kn s19.2.2; have := (Im.o h1843) (by omega); have := yC.d s1825.2.2; have := yC.kn s1825.2.2; have eT : p_ter pb pn pa (r7 + 1) (p_oc pb pn pa (r7 + 1)) ps = s2034 := (by have hop : p_oc pb pn pa (r7 + 1) s19 = p_sg pb pn 93 (p_con pb pn pa r7 (p_oc pb pn pa r7) (p_nx s19)) := rfl; have hX := e23.symm.trans (p_lp_stop (show (p_no1 pb pn) s19 = s19 from if_neg (fun h9 => by omega))); unfold p_ter; rw [hX]; unfold p_te1; unfold p_cmp; (try simp only [hop]); (try simp only [e1826, e2002, e2035]); ((repeat' (first | (with_reducible rfl) | split)) <;> (first | ((try simp only [e1826, e2002, e2035]); done) | (exfalso; omega)))); rw [eT]; exact ⟨⟨_, _, _, _, _, _, _, q2063, q2064, q2065, q2066, q2067, q2068, q2069, h2050, Im.o h2051, Im.o h2052⟩, (Or.inl ⟨by first | decide | omega, by omega⟩)⟩)⟩
                      · refine mv_aload_n d_Reader_term_134 rfl rfl ?_
                        refine mv_bipush (v := 8) d_Reader_term_135 (by decide) ?_
                        refine mv_iconst (v := 0) d_Reader_term_137 (by decide) ?_
                        obtain ⟨_, b2078, -⟩ := I2060.1 _ _ t2062
                        refine mv_callV (kc' := 0) (ks' := 0) (As := [.int 8, .int 0]) (st9 := [.int 0, .int 8, .ref o0]) d_Reader_term_138 lV_Reader_203 b2078 rfl (tc_Reader_emit (d := (d + E + 7)) (x9 := x9) (o0 := o0) (x1 := 8) (x2 := 0) t2062 I2060.start) rfl (Nat.le_of_ble_eq_true rfl) (Nat.le_of_ble_eq_true rfl) (Nat.le_of_ble_eq_true rfl) (hst := rfl) (fun b2072r M2073 n2074 b2072 => ?_)
                        obtain ⟨T2075, J2076, rfl⟩ := b2072
                        have I2077 := I2060.call J2076 (tm_sub (by decide)) (Or.inl rfl)
                        have t2079 := J2076.up t2062
                        have q2080 := J2076.keep t2062 (by decide) q2063
                        have q2081 := J2076.keep t2062 (by decide) q2064
                        have q2082 := J2076.keep t2062 (by decide) q2065
                        have q2083 := J2076.keep t2062 (by decide) q2066
                        have q2084 := J2076.keep t2062 (by decide) q2067
                        have q2085 := J2076.keep t2062 (by decide) q2068
                        have q2086 := J2076.keep t2062 (by decide) q2069
                        have q2087 := J2076.keep t2062 (by decide) q2070
                        refine mv_iconst (v := 1) d_Reader_term_141 (by decide) ?_
                        exact mv_iret d_Reader_term_142 rfl (by decide) ⟨_, I2077, _, rfl, by decide, by decide, fun _ => q2087, (by have := (Im.o h40) (by omega); have := yC.d s19.2.2; have := yC.kn s19.2.2; have := (Im.o h1843) (by omega); have := yC.d s1825.2.2; have := yC.kn s1825.2.2; have eT : p_ter pb pn pa (r7 + 1) (p_oc pb pn pa (r7 + 1)) ps = s2034 := (by have hop : p_oc pb pn pa (r7 + 1) s19 = p_sg pb pn 93 (p_con pb pn pa r7 (p_oc pb pn pa r7) (p_nx s19)) := rfl; have hX := e23.symm.trans (p_lp_stop (show (p_no1 pb pn) s19 = s19 from if_neg (fun h9 => by omega))); unfold p_ter; rw [hX]; unfold p_te1; unfold p_cmp; (try simp only [hop]); (try simp only [e1826, e2002, e2035]); ((repeat' (first | (with_reducible rfl) | split)) <;> (first | ((try simp only [e1826, e2002, e2035]); done) | (exfalso; omega)))); rw [eT]; exact ⟨⟨_, _, _, _, _, _, _, q2080, q2081, q2082, q2083, q2084, q2085, q2086, h2050, Im.o h2051, Im.o h2052⟩, (Or.inl ⟨by first | decide | omega, by omega⟩)⟩)⟩
                    · refine mv_iconst (v := 0) d_Reader_term_122 (by decide) ?_
                      exact mv_iret d_Reader_term_123 rfl (by decide) ⟨_, I2025, _, rfl, by decide, by decide, fun h => absurd h (by decide), (by have := (Im.o h40) (by omega); have := yC.d s19.2.2; have := yC.kn s19.2.2; have := (Im.o h1843) (by omega); have := yC.d s1825.2.2; have := yC.kn s1825.2.2; have hb : s2034.1 ≠ 0 := (by omega); have z1 : ∀ c, p_sg pb pn c s2034 = s2034 := (fun c => p_sg_Z s2034 hb); have z2 : ∀ c, p_wd pb pn c s2034 = s2034 := (fun c => p_wd_Z s2034 hb); have z3 : ∀ op, p_sum pb pn pa op s2034 = s2034 := (fun op => p_sum_Z s2034 hb); have z4 : ∀ r oc, p_con pb pn pa r oc s2034 = s2034 := (fun r oc => p_con_Z s2034 hb); have z5 : p_prt pb pn s2034 = s2034 := p_prt_Z s2034 hb; have eT : p_ter pb pn pa (r7 + 1) (p_oc pb pn pa (r7 + 1)) ps = s2034 := (by have hop : p_oc pb pn pa (r7 + 1) s19 = p_sg pb pn 93 (p_con pb pn pa r7 (p_oc pb pn pa r7) (p_nx s19)) := rfl; have hX := e23.symm.trans (p_lp_stop (show (p_no1 pb pn) s19 = s19 from if_neg (fun h9 => by omega))); unfold p_ter; rw [hX]; unfold p_te1; unfold p_cmp; (try simp only [hop]); (try simp only [e1826, e2002, e2035, z1, z2, z3, z4, z5]); ((repeat' (first | (with_reducible rfl) | split)) <;> (first | ((try simp only [e1826, e2002, e2035, z1, z2, z3, z4, z5]); done) | (exfalso; omega)))); rw [eT]; exact ⟨⟨_, _, _, _, _, _, _, q2043, q2044, q2045, q2046, q2047, q2048, q2049, h2050, Im.o h2051, Im.o h2052⟩, (Or.inr ⟨by first | decide | omega, by omega⟩)⟩)⟩
                · refine mv_iconst (v := 1) d_Reader_isSign_16 (by decide) ?_
                  refine mv_goto (tgt := 21) d_Reader_isSign_17 (by decide) ?_
                  refine mv_iret d_Reader_isSign_21 rfl (by decide) ?_
                  refine mv_if_eq_f (tgt := 11) d_Reader_comparisonHere_6 (by decide) (by decide) ?_
                  refine mv_iconst (v := 5) d_Reader_comparisonHere_9 (by decide) ?_
                  refine mv_iret d_Reader_comparisonHere_10 rfl (by first | rfl | decide) ?_
                  refine mv_istore_n (lv' := [(2, .int 5), (1, .int i1_18), (0, .ref o0)]) d_Reader_term_99 rfl (by decide) rfl ?_
                  refine mv_iload_n d_Reader_term_100 rfl rfl ?_
                  refine mv_iconst (v := (-1)) d_Reader_term_101 (by decide) ?_
                  refine mv_icmp_ne_t (tgt := 111) d_Reader_term_102 (by decide) (by decide) ?_
                  refine mv_aload_n d_Reader_term_111 rfl rfl ?_
                  obtain ⟨_, b2094, -⟩ := I1816.1 _ _ t1824
                  refine mv_callV (kc' := 0) (ks' := 0) (As := []) (st9 := [.ref o0]) d_Reader_term_112 lV_Reader_82 b2094 rfl (tc_Reader_advance_x (d := (d + E + 7)) (x9 := x9) (o0 := o0) t1824 (hK I1816) (qS.a (show qS M1812 o0 pb pn s1825 from ⟨_, _, _, _, _, _, _, q1834, q1835, q1836, q1837, q1838, q1839, q1840, h1841, Im.o h1842, Im.o h1843⟩)) (by have := (Im.o h40) (by omega); have := yC.d s19.2.2; have := yC.kn s19.2.2; have := (Im.o h1843) (by omega); have := yC.d s1825.2.2; have := yC.kn s1825.2.2; show s1825.2.2 + 1 ≤ 401; omega) I1816.start) rfl (Nat.le_of_ble_eq_true rfl) (Nat.le_of_ble_eq_true rfl) (Nat.le_of_ble_eq_true rfl) (hst := rfl) (fun b2088r M2089 n2090 b2088 => ?_)
                  obtain ⟨T2091, J2092, rfl, f2095⟩ := b2088
                  have I2093 := I1816.call J2092 (tm_sub (by decide)) (Or.inl rfl)
                  have t2096 := J2092.up t1824
                  have q2097 := J2092.keep (I1816.up h_o0) (by decide) q1834
                  have q2098 := J2092.keep (I1816.up h_o0) (by decide) q1835
                  have q2099 := J2092.keep t1824 (by decide) q1845
                  obtain ⟨s2100, e2101⟩ : ∃ s9 : p_S, p_nx s1825 = s9 := ⟨_, rfl⟩
                  rw [e2101] at f2095
                  have : s2100.1 = 0 := by rw [← e2101]; show s1825.1 = 0; omega
                  obtain ⟨v2102, v2103, v2104, v2105, v2106, v2107, v2108, q2109, q2110, q2111, q2112, q2113, q2114, q2115, h2116, h2117, h2118⟩ := f2095
                  replace h2117 := Im.i h2117
                  replace h2118 := Im.i h2118
                  refine mv_aload_n d_Reader_term_115 rfl rfl ?_
                  obtain ⟨_, b2125, -⟩ := I2093.1 _ _ t2096
                  refine mv_callV (kc' := 0) (ks' := 0) (As := []) (st9 := [.ref o0]) d_Reader_term_116 lV_Reader_186 b2125 rfl (tg_Reader_sum hK9 H_sum H_condition (d := d) (x9 := x9) (o0 := o0) t2096 (p := p) q2099 (by omega) (by first | omega | decide) (hK I2093) ⟨_, _, _, _, _, _, _, q2109, q2110, q2111, q2112, q2113, q2114, q2115, h2116, Im.o h2117, Im.o h2118⟩ (by omega) I2093.start) rfl (Nat.le_of_ble_eq_true rfl) (Nat.le_of_ble_eq_true rfl) (Nat.le_of_ble_eq_true rfl) (hst := rfl) (fun b2119r M2120 n2121 b2119 => ?_)
                  obtain ⟨T2122, J2123, v2126, rfl, b2127, b2128, o2129, f2130, f2131⟩ := b2119
                  have I2124 := I2093.call J2123 (tm_sub (by decide)) (Or.inl rfl)
                  have t2132 := J2123.up t2096
                  obtain ⟨s2133, e2134⟩ : ∃ s9 : p_S, p_sum pb pn pa (p_op pb pn pa (r7 + 1)) s2100 = s9 := ⟨_, rfl⟩
                  rw [e2134] at f2130 f2131
                  obtain ⟨v2135, v2136, v2137, v2138, v2139, v2140, v2141, q2142, q2143, q2144, q2145, q2146, q2147, q2148, h2149, h2150, h2151⟩ := f2130
                  replace h2150 := Im.i h2150
                  replace h2151 := Im.i h2151
                  have := mz_hi v2126
                  refine mv_if_neZ (tgt := 124) (a := v2126.toInt) d_Reader_term_119 (by decide) rfl (fun b2152 => ?_) (fun b2152 => ?_)
                  · have q2153 := o2129 (by omega)
                    refine mv_aload_n d_Reader_term_124 rfl rfl ?_
                    refine mv_iload_n d_Reader_term_125 rfl rfl ?_
                    refine mv_iconst (v := 0) d_Reader_term_126 (by decide) ?_
                    obtain ⟨_, b2160, -⟩ := I2124.1 _ _ t2132
                    refine mv_callV (kc' := 0) (ks' := 0) (As := [.int 5, .int 0]) (st9 := [.int 0, .int 5, .ref o0]) d_Reader_term_127 lV_Reader_203 b2160 rfl (tc_Reader_emit (d := (d + E + 7)) (x9 := x9) (o0 := o0) (x1 := 5) (x2 := 0) t2132 I2124.start) rfl (Nat.le_of_ble_eq_true rfl) (Nat.le_of_ble_eq_true rfl) (Nat.le_of_ble_eq_true rfl) (hst := rfl) (fun b2154r M2155 n2156 b2154 => ?_)
                    obtain ⟨T2157, J2158, rfl⟩ := b2154
                    have I2159 := I2124.call J2158 (tm_sub (by decide)) (Or.inl rfl)
                    have t2161 := J2158.up t2132
                    have q2162 := J2158.keep (I2124.up h_o0) (by decide) q2142
                    have q2163 := J2158.keep (I2124.up h_o0) (by decide) q2143
                    have q2164 := J2158.keep (I2124.up h_o0) (by decide) q2144
                    have q2165 := J2158.keep (I2124.up h_o0) (by decide) q2145
                    have q2166 := J2158.keep (I2124.up h_o0) (by decide) q2146
                    have q2167 := J2158.keep (I2124.up h_o0) (by decide) q2147
                    have q2168 := J2158.keep (I2124.up h_o0) (by decide) q2148
                    have q2169 := J2158.keep t2132 (by decide) q2153
                    refine mv_iload_n d_Reader_term_130 rfl rfl ?_
                    have := mz_hi i1_18
                    refine mv_if_eqZ (tgt := 141) (a := i1_18.toInt) d_Reader_term_131 (by decide) rfl (fun b2170 => ?_) (fun b2170 => ?_)
                    · refine mv_iconst (v := 1) d_Reader_term_141 (by decide) ?_
                      exact mv_iret d_Reader_term_142 rfl (by decide) ⟨_, I2159, _, rfl, by decide, by decide, fun _ => q2169, (by have := (Im.o h40) (by omega); have := yC.d s19.2.2; have := yC.kn s19.2.2; have := (Im.o h1843) (by omega); have := yC.d s1825.2.2; have := yC.kn s1825.2.2; have eT : p_ter pb pn pa (r7 + 1) (p_oc pb pn pa (r7 + 1)) ps = s2133 := (by have hop : p_oc pb pn pa (r7 + 1) s19 = p_sg pb pn 93 (p_con pb pn pa r7 (p_oc pb pn pa r7) (p_nx s19)) := rfl; have hX := e23.symm.trans (p_lp_stop (show (p_no1 pb pn) s19 = s19 from if_neg (fun h9 => by omega))); unfold p_ter; rw [hX]; unfold p_te1; unfold p_cmp; (try simp only [hop]); (try simp only [e1826, e2101, e2134]); ((repeat' (first | (with_reducible rfl) | split)) <;> (first | ((try simp only [e1826, e2101, e2134]); done) | (exfalso; omega)))); rw [eT]; exact ⟨⟨_, _, _, _, _, _, _, q2162, q2163, q2164, q2165, q2166, q2167, q2168, h2149, Im.o h2150, Im.o h2151⟩, (Or.inl ⟨by first | decide | omega, by omega⟩)⟩)⟩
                    · refine mv_aload_n d_Reader_term_134 rfl rfl ?_
                      refine mv_bipush (v := 8) d_Reader_term_135 (by decide) ?_
                      refine mv_iconst (v := 0) d_Reader_term_137 (by decide) ?_
                      obtain ⟨_, b2177, -⟩ := I2159.1 _ _ t2161
                      refine mv_callV (kc' := 0) (ks' := 0) (As := [.int 8, .int 0]) (st9 := [.int 0, .int 8, .ref o0]) d_Reader_term_138 lV_Reader_203 b2177 rfl (tc_Reader_emit (d := (d + E + 7)) (x9 := x9) (o0 := o0) (x1 := 8) (x2 := 0) t2161 I2159.start) rfl (Nat.le_of_ble_eq_true rfl) (Nat.le_of_ble_eq_true rfl) (Nat.le_of_ble_eq_true rfl) (hst := rfl) (fun b2171r M2172 n2173 b2171 => ?_)
                      obtain ⟨T2174, J2175, rfl⟩ := b2171
                      have I2176 := I2159.call J2175 (tm_sub (by decide)) (Or.inl rfl)
                      have t2178 := J2175.up t2161
                      have q2179 := J2175.keep t2161 (by decide) q2162
                      have q2180 := J2175.keep t2161 (by decide) q2163
                      have q2181 := J2175.keep t2161 (by decide) q2164
                      have q2182 := J2175.keep t2161 (by decide) q2165
                      have q2183 := J2175.keep t2161 (by decide) q2166
                      have q2184 := J2175.keep t2161 (by decide) q2167
                      have q2185 := J2175.keep t2161 (by decide) q2168
                      have q2186 := J2175.keep t2161 (by decide) q2169
                      refine mv_iconst (v := 1) d_Reader_term_141 (by decide) ?_
                      exact mv_iret d_Reader_term_142 rfl (by decide) ⟨_, I2176, _, rfl, by decide, by decide, fun _ => q2186, (by have := (Im.o h40) (by omega); have := yC.d s19.2.2; have := yC.kn s19.2.2; have := (Im.o h1843) (by omega); have := yC.d s1825.2.2; have := yC.kn s1825.2.2; have eT : p_ter pb pn pa (r7 + 1) (p_oc pb pn pa (r7 + 1)) ps = s2133 := (by have hop : p_oc pb pn pa (r7 + 1) s19 = p_sg pb pn 93 (p_con pb pn pa r7 (p_oc pb pn pa r7) (p_nx s19)) := rfl; have hX := e23.symm.trans (p_lp_stop (show (p_no1 pb pn) s19 = s19 from if_neg (fun h9 => by omega))); unfold p_ter; rw [hX]; unfold p_te1; unfold p_cmp; (try simp only [hop]); (try simp only [e1826, e2101, e2134]); ((repeat' (first | (with_reducible rfl) | split)) <;> (first | ((try simp only [e1826, e2101, e2134]); done) | (exfalso; omega)))); rw [eT]; exact ⟨⟨_, _, _, _, _, _, _, q2179, q2180, q2181, q2182, q2183, q2184, q2185, h2149, Im.o h2150, Im.o h2151⟩, (Or.inl ⟨by first | decide | omega, by omega⟩)⟩)⟩
                  · refine mv_iconst (v := 0) d_Reader_term_122 (by decide) ?_
                    exact mv_iret d_Reader_term_123 rfl (by decide) ⟨_, I2124, _, rfl, by decide, by decide, fun h => absurd h (by decide), (by have := (Im.o h40) (by omega); have := yC.d s19.2.2; have := yC.kn s19.2.2; have := (Im.o h1843) (by omega); have := yC.d s1825.2.2; have := yC.kn s1825.2.2; have hb : s2133.1 ≠ 0 := (by omega); have z1 : ∀ c, p_sg pb pn c s2133 = s2133 := (fun c => p_sg_Z s2133 hb); have z2 : ∀ c, p_wd pb pn c s2133 = s2133 := (fun c => p_wd_Z s2133 hb); have z3 : ∀ op, p_sum pb pn pa op s2133 = s2133 := (fun op => p_sum_Z s2133 hb); have z4 : ∀ r oc, p_con pb pn pa r oc s2133 = s2133 := (fun r oc => p_con_Z s2133 hb); have z5 : p_prt pb pn s2133 = s2133 := p_prt_Z s2133 hb; have eT : p_ter pb pn pa (r7 + 1) (p_oc pb pn pa (r7 + 1)) ps = s2133 := (by have hop : p_oc pb pn pa (r7 + 1) s19 = p_sg pb pn 93 (p_con pb pn pa r7 (p_oc pb pn pa r7) (p_nx s19)) := rfl; have hX := e23.symm.trans (p_lp_stop (show (p_no1 pb pn) s19 = s19 from if_neg (fun h9 => by omega))); unfold p_ter; rw [hX]; unfold p_te1; unfold p_cmp; (try simp only [hop]); (try simp only [e1826, e2101, e2134, z1, z2, z3, z4, z5]); ((repeat' (first | (with_reducible rfl) | split)) <;> (first | ((try simp only [e1826, e2101, e2134, z1, z2, z3, z4, z5]); done) | (exfalso; omega)))); rw [eT]; exact ⟨⟨_, _, _, _, _, _, _, q2142, q2143, q2144, q2145, q2146, q2147, q2148, h2149, Im.o h2150, Im.o h2151⟩, (Or.inr ⟨by first | decide | omega, by omega⟩)⟩)⟩
            · refine mv_iconst (v := 0) d_Reader_term_93 (by decide) ?_
              exact mv_iret d_Reader_term_94 rfl (by decide) ⟨_, I1816, _, rfl, by decide, by decide, fun h => absurd h (by decide), (by have := (Im.o h40) (by omega); have := yC.d s19.2.2; have := yC.kn s19.2.2; have hb : s1825.1 ≠ 0 := (by omega); have z1 : ∀ c, p_sg pb pn c s1825 = s1825 := (fun c => p_sg_Z s1825 hb); have z2 : ∀ c, p_wd pb pn c s1825 = s1825 := (fun c => p_wd_Z s1825 hb); have z3 : ∀ op, p_sum pb pn pa op s1825 = s1825 := (fun op => p_sum_Z s1825 hb); have z4 : ∀ r oc, p_con pb pn pa r oc s1825 = s1825 := (fun r oc => p_con_Z s1825 hb); have z5 : p_prt pb pn s1825 = s1825 := p_prt_Z s1825 hb; have eT : p_ter pb pn pa (r7 + 1) (p_oc pb pn pa (r7 + 1)) ps = s1825 := (by have hop : p_oc pb pn pa (r7 + 1) s19 = p_sg pb pn 93 (p_con pb pn pa r7 (p_oc pb pn pa r7) (p_nx s19)) := rfl; have hX := e23.symm.trans (p_lp_stop (show (p_no1 pb pn) s19 = s19 from if_neg (fun h9 => by omega))); unfold p_ter; rw [hX]; unfold p_te1; unfold p_cmp; (try simp only [hop]); (try simp only [e1826, z1, z2, z3, z4, z5]); ((repeat' (first | (with_reducible rfl) | split)) <;> (first | ((try simp only [e1826, z1, z2, z3, z4, z5]); done) | (exfalso; omega)))); rw [eT]; exact ⟨⟨_, _, _, _, _, _, _, q1834, q1835, q1836, q1837, q1838, q1839, q1840, h1841, Im.o h1842, Im.o h1843⟩, (Or.inr ⟨by first | decide | omega, by omega⟩)⟩)⟩
          · refine mv_iconst (v := 1) d_Reader_isWord_16 (by decide) ?_
            refine mv_goto (tgt := 21) d_Reader_isWord_17 (by decide) ?_
            refine mv_iret d_Reader_isWord_21 rfl (by decide) ?_
            refine mv_if_eq_f (tgt := 40) d_Reader_term_17 (by decide) (by decide) ?_
            refine mv_aload_n d_Reader_term_20 rfl rfl ?_
            obtain ⟨_, b2193, -⟩ := I_18.1 _ _ h_q0_18
            refine mv_callV (kc' := 0) (ks' := 0) (As := []) (st9 := [.ref o0]) d_Reader_term_21 lV_Reader_82 b2193 rfl (tc_Reader_advance_x (d := (d + E + 7)) (x9 := x9) (o0 := o0) h_q0_18 (hK I_18) (qS.a (show qS M_18 o0 pb pn s19 from ⟨_, _, _, _, _, _, _, q31, q32, q33, q34, q35, q36, q37, h38, Im.o h39, Im.o h40⟩)) (by have := (Im.o h40) (by omega); have := yC.d s19.2.2; have := yC.kn s19.2.2; show s19.2.2 + 1 ≤ 401; omega) I_18.start) rfl (Nat.le_of_ble_eq_true rfl) (Nat.le_of_ble_eq_true rfl) (Nat.le_of_ble_eq_true rfl) (hst := rfl) (fun b2187r M2188 n2189 b2187 => ?_)
            obtain ⟨T2190, J2191, rfl, f2194⟩ := b2187
            have I2192 := I_18.call J2191 (tm_sub (by decide)) (Or.inl rfl)
            have t2195 := J2191.up h_q0_18
            have q2196 := J2191.keep h_q0_18 (by decide) kp0_18
            have q2197 := J2191.keep h_q0_18 (by decide) q31
            have q2198 := J2191.keep h_q0_18 (by decide) q32
            obtain ⟨s2199, e2200⟩ : ∃ s9 : p_S, p_nx s19 = s9 := ⟨_, rfl⟩
            rw [e2200] at f2194
            have : s2199.1 = 0 := by rw [← e2200]; show s19.1 = 0; omega
            obtain ⟨v2201, v2202, v2203, v2204, v2205, v2206, v2207, q2208, q2209, q2210, q2211, q2212, q2213, q2214, h2215, h2216, h2217⟩ := f2194
            replace h2216 := Im.i h2216
            replace h2217 := Im.i h2217
            refine mv_iload_n d_Reader_term_24 rfl rfl ?_
            have := mz_hi i1_18
            refine mv_if_neZ (tgt := 32) (a := i1_18.toInt) d_Reader_term_25 (by decide) rfl (fun b2218 => ?_) (fun b2218 => ?_)
            · refine mv_iconst (v := 0) d_Reader_term_32 (by decide) ?_
              refine mv_istore_n (lv' := [(1, .int 0), (2, .int i2_18), (0, .ref o0)]) d_Reader_term_33 rfl (by decide) rfl ?_
              refine mv_iinc (v := (i2_18 + 1)) (lv' := [(2, .int (i2_18 + 1)), (1, .int 0), (0, .ref o0)]) d_Reader_term_34 rfl rfl (by decide) rfl ?_
              refine mv_goto (tgt := 4) d_Reader_term_37 (by decide) ?_
              have : (i2_18 + 1 : Int32).toInt = i2_18.toInt + 1 := mz_addn 1 1 (by decide) (by omega) (by omega)
              have T2219 : ∃ s1 : p_S, qS M2188 o0 pb pn s1 ∧ s1.1 = 0 ∧ (i2_18 + 1).toInt ≤ (s1.2.2 : Int) ∧ p_lp pn (p_no1 pb pn) s1 = p_lp pn (p_no1 pb pn) ps := ⟨s2199, ⟨_, _, _, _, _, _, _, q2208, q2209, q2210, q2211, q2212, q2213, q2214, h2215, Im.o h2216, Im.o h2217⟩, by omega, (by have h9 : s19.2.2 + 1 ≤ s2199.2.2 := (by rw [← e2200]; exact Nat.le_refl _); omega), (by have := (Im.o h40) (by omega); have := yC.d s19.2.2; have := yC.kn s19.2.2; have st : (p_no1 pb pn) s19 = s2199 := (by rw [show (p_no1 pb pn) s19 = p_nx s19 from if_pos ⟨by omega, by omega⟩]; simp only [e2200]); rw [← st, p_P.go p_no1_P s19]; exact e23)⟩
              have b2220 : (i2_18 + 1).toInt = i2_18.toInt + 1 := mz_addn 1 1 (by decide) (by have := mz_lo i2_18; omega) (by have := mz_hi i2_18; omega)
              exact (ih18 (i2_18 + 1) 0 T2190 M2188 n2189 I2192 t2195 (by first | omega | decide) q2196 T2219 (by omega))
            · refine mv_iconst (v := 1) d_Reader_term_28 (by decide) ?_
              refine mv_goto (tgt := 33) d_Reader_term_29 (by decide) ?_
              refine mv_istore_n (lv' := [(1, .int 1), (2, .int i2_18), (0, .ref o0)]) d_Reader_term_33 rfl (by decide) rfl ?_
              refine mv_iinc (v := (i2_18 + 1)) (lv' := [(2, .int (i2_18 + 1)), (1, .int 1), (0, .ref o0)]) d_Reader_term_34 rfl rfl (by decide) rfl ?_
              refine mv_goto (tgt := 4) d_Reader_term_37 (by decide) ?_
              have : (i2_18 + 1 : Int32).toInt = i2_18.toInt + 1 := mz_addn 1 1 (by decide) (by omega) (by omega)
              have T2221 : ∃ s1 : p_S, qS M2188 o0 pb pn s1 ∧ s1.1 = 0 ∧ (i2_18 + 1).toInt ≤ (s1.2.2 : Int) ∧ p_lp pn (p_no1 pb pn) s1 = p_lp pn (p_no1 pb pn) ps := ⟨s2199, ⟨_, _, _, _, _, _, _, q2208, q2209, q2210, q2211, q2212, q2213, q2214, h2215, Im.o h2216, Im.o h2217⟩, by omega, (by have h9 : s19.2.2 + 1 ≤ s2199.2.2 := (by rw [← e2200]; exact Nat.le_refl _); omega), (by have := (Im.o h40) (by omega); have := yC.d s19.2.2; have := yC.kn s19.2.2; have st : (p_no1 pb pn) s19 = s2199 := (by rw [show (p_no1 pb pn) s19 = p_nx s19 from if_pos ⟨by omega, by omega⟩]; simp only [e2200]); rw [← st, p_P.go p_no1_P s19]; exact e23)⟩
              have b2222 : (i2_18 + 1).toInt = i2_18.toInt + 1 := mz_addn 1 1 (by decide) (by have := mz_lo i2_18; omega) (by have := mz_hi i2_18; omega)
              exact (ih18 (i2_18 + 1) 1 T2190 M2188 n2189 I2192 t2195 (by first | omega | decide) q2196 T2221 (by omega))
  have T2223 : ∃ s1 : p_S, qS M0 o0 pb pn s1 ∧ s1.1 = 0 ∧ 0 ≤ (s1.2.2 : Int) ∧ p_lp pn (p_no1 pb pn) s1 = p_lp pn (p_no1 pb pn) ps := ⟨ps, ⟨_, _, _, _, _, _, _, q8, q9, q10, q11, q12, q13, q14, h15, Im.o h16, Im.o h17⟩, by omega, (by show (0 : Int) ≤ _; omega), rfl⟩
  exact mv_less (Nat.zero_le _) (Nat.zero_le _) (L4_18 4294967296 0 0 T0 M0 n0 I0 h_o0 (by first | omega | decide) hO T2223 (by show (2147483647 - (0 : Int) : Int) < _; decide))
set_option maxHeartbeats 100000000 in theorem tg_Reader_both {E r7 : Nat} {K K1 : Int} (hK9 : K1 = K + 1 ∧ 0 ≤ K ∧ K ≤ 3) (H_sum : ∀ {g : mj_G} {l : Launch} {d : Nat} {T0 : tm_H} {M0 : mj_M} {n0 x9 : Nat} {o0 : Nat} (h_o0 : T0 o0 = some (0, 9, 0)) {p : Int32} (hO : tm_at M0 o0 9 16 (.int p)) (hp : K1 ≤ p.toInt)  (hp2 : p.toInt ≤ K1) {pb : Nat → Int} {pn : Nat} {pa : Int} {ps : p_S} (yC : qC M0 o0 pb pn pa) (yD : qS M0 o0 pb pn ps) (yw : ps.1 = 0) (I0 : tm_I tm_FT (tm_in w_Reader_sum_q0_x) x9 T0 M0 n0 T0 M0 n0), mj_Met g l kY_Reader_sum (d + E + 4) [.ref o0] M0 n0 0 0 (tm_Q tm_FT (tm_in w_Reader_sum_q0_x) x9 T0 M0 n0 (fun r _ M => ∃ v : Int32, r = some (.int v) ∧ 0 ≤ v.toInt ∧ v.toInt ≤ 1 ∧ (v.toInt = 1 → tm_at M o0 9 16 (.int p)) ∧ (qS M o0 pb pn (p_sum pb pn pa (p_op pb pn pa r7) ps)) ∧ (v.toInt = 1 ∧ (p_sum pb pn pa (p_op pb pn pa r7) ps).1 = 0 ∨ v.toInt = 0 ∧ (p_sum pb pn pa (p_op pb pn pa r7) ps).1 ≠ 0)))) (H_condition : ∀ {g : mj_G} {l : Launch} {d : Nat} {T0 : tm_H} {M0 : mj_M} {n0 x9 : Nat} {o0 : Nat} (h_o0 : T0 o0 = some (0, 9, 0)) {p : Int32} (hO : tm_at M0 o0 9 16 (.int p)) (hp : K1 ≤ p.toInt)  (hp2 : p.toInt ≤ K1) {pb : Nat → Int} {pn : Nat} {pa : Int} {ps : p_S} (yC : qC M0 o0 pb pn pa) (yD : qS M0 o0 pb pn ps) (yw : ps.1 = 0) (I0 : tm_I tm_FT (tm_in w_Reader_condition_q0_x) x9 T0 M0 n0 T0 M0 n0), mj_Met g l kY_Reader_condition (d + E + 7) [.ref o0] M0 n0 0 0 (tm_Q tm_FT (tm_in w_Reader_condition_q0_x) x9 T0 M0 n0 (fun r _ M => ∃ v : Int32, r = some (.int v) ∧ 0 ≤ v.toInt ∧ v.toInt ≤ 1 ∧ (v.toInt = 1 → tm_at M o0 9 16 (.int p)) ∧ (qS M o0 pb pn (p_con pb pn pa r7 (p_oc pb pn pa r7) ps)) ∧ (v.toInt = 1 ∧ (p_con pb pn pa r7 (p_oc pb pn pa r7) ps).1 = 0 ∨ v.toInt = 0 ∧ (p_con pb pn pa r7 (p_oc pb pn pa r7) ps).1 ≠ 0)))) {g : mj_G} {l : Launch} {d : Nat} {T0 : tm_H} {M0 : mj_M} {n0 x9 : Nat} {o0 : Nat} (h_o0 : T0 o0 = some (0, 9, 0)) {p : Int32} (hO : tm_at M0 o0 9 16 (.int p)) (hp : K ≤ p.toInt)  (hp2 : p.toInt ≤ K) {pb : Nat → Int} {pn : Nat} {pa : Int} {ps : p_S} (yC : qC M0 o0 pb pn pa) (yD : qS M0 o0 pb pn ps) (yw : ps.1 = 0) (I0 : tm_I tm_FT (tm_in w_Reader_both_q0_x) x9 T0 M0 n0 T0 M0 n0) : mj_Met g l kY_Reader_both (d + E + 9) [.ref o0] M0 n0 0 0 (tm_Q tm_FT (tm_in w_Reader_both_q0_x) x9 T0 M0 n0 (fun r _ M => ∃ v : Int32, r = some (.int v) ∧ 0 ≤ v.toInt ∧ v.toInt ≤ 1 ∧ (v.toInt = 1 → tm_at M o0 9 16 (.int p)) ∧ (qS M o0 pb pn (p_bot pb pn pa (r7 + 1) (p_oc pb pn pa (r7 + 1)) ps)) ∧ (v.toInt = 1 ∧ (p_bot pb pn pa (r7 + 1) (p_oc pb pn pa (r7 + 1)) ps).1 = 0 ∨ v.toInt = 0 ∧ (p_bot pb pn pa (r7 + 1) (p_oc pb pn pa (r7 + 1)) ps).1 ≠ 0))) := by
  refine mj_enter (by decide) (Nat.le_of_ble_eq_true rfl) ?_
  have hK : ∀ {T : tm_H} {M : mj_M} {n : Nat}, tm_I tm_FT (tm_in w_Reader_both_q0_x) x9 T0 M0 n0 T M n → qC M o0 pb pn pa := fun I => yC.keep I0.1 I h_o0 (qW_of (by decide +kernel))
  obtain ⟨v1, v2, v3, v4, v5, v6, v7, q8, q9, q10, q11, q12, q13, q14, h15, h16, h17⟩ := yD
  replace h16 := Im.i h16
  replace h17 := Im.i h17
  refine mv_aload_n d_Reader_both_0 rfl rfl ?_
  obtain ⟨_, b24, -⟩ := I0.1 _ _ h_o0
  refine mv_callV (kc' := 0) (ks' := 0) (As := []) (st9 := [.ref o0]) d_Reader_both_1 lV_Reader_206 b24 rfl (tg_Reader_term hK9 H_sum H_condition (d := d) (x9 := x9) (o0 := o0) h_o0 (p := p) hO (by omega) (by first | omega | decide) (hK I0) ⟨_, _, _, _, _, _, _, q8, q9, q10, q11, q12, q13, q14, h15, Im.o h16, Im.o h17⟩ (by omega) I0.start) rfl (Nat.le_of_ble_eq_true rfl) (Nat.le_of_ble_eq_true rfl) (Nat.le_of_ble_eq_true rfl) (hst := rfl) (fun b18r M19 n20 b18 => ?_)
  obtain ⟨T21, J22, v25, rfl, b26, b27, o28, f29, f30⟩ := b18
  have I23 := I0.call J22 (tm_sub (by decide)) (Or.inl rfl)
  have t31 := J22.up h_o0
  obtain ⟨s32, e33⟩ : ∃ s9 : p_S, p_ter pb pn pa (r7 + 1) (p_oc pb pn pa (r7 + 1)) ps = s9 := ⟨_, rfl⟩
  rw [e33] at f29 f30
  obtain ⟨v34, v35, v36, v37, v38, v39, v40, q41, q42, q43, q44, q45, q46, q47, h48, h49, h50⟩ := f29
  replace h49 := Im.i h49
  replace h50 := Im.i h50
  have := mz_hi v25
  refine mv_if_neZ (tgt := 9) (a := v25.toInt) d_Reader_both_4 (by decide) rfl (fun b51 => ?_) (fun b51 => ?_)
  · have q52 := o28 (by omega)
    refine mv_iconst (v := 0) d_Reader_both_9 (by decide) ?_
    refine mv_istore_n (lv' := [(1, .int 0), (0, .ref o0)]) d_Reader_both_10 rfl (by decide) rfl ?_
    have L11_53 : ∀ (k : Nat) (i1_53 : Int32) (T_53 : tm_H) (M_53 : mj_M) (n_53 : Nat), tm_I tm_FT (tm_in w_Reader_both_q0_x) x9 T0 M0 n0 T_53 M_53 n_53 → T_53 o0 = some (0, 9, 0) → 0 ≤ i1_53.toInt → tm_at M_53 o0 9 16 (.int p) → (∃ s1 : p_S, qS M_53 o0 pb pn s1 ∧ s1.1 = 0 ∧ i1_53.toInt ≤ (s1.2.2 : Int) ∧ p_lp pn (p_bo1 pb pn pa (r7 + 1) (p_oc pb pn pa (r7 + 1))) s1 = p_bot pb pn pa (r7 + 1) (p_oc pb pn pa (r7 + 1)) ps) → 2147483647 - i1_53.toInt < (k : Int) → mj_V g l kY_Reader_both (d + E + 9) 11 [(1, .int i1_53), (0, .ref o0)] [] M_53 n_53 0 0 (tm_Q tm_FT (tm_in w_Reader_both_q0_x) x9 T0 M0 n0 (fun r _ M => ∃ v : Int32, r = some (.int v) ∧ 0 ≤ v.toInt ∧ v.toInt ≤ 1 ∧ (v.toInt = 1 → tm_at M o0 9 16 (.int p)) ∧ (qS M o0 pb pn (p_bot pb pn pa (r7 + 1) (p_oc pb pn pa (r7 + 1)) ps)) ∧ (v.toInt = 1 ∧ (p_bot pb pn pa (r7 + 1) (p_oc pb pn pa (r7 + 1)) ps).1 = 0 ∨ v.toInt = 0 ∧ (p_bot pb pn pa (r7 + 1) (p_oc pb pn pa (r7 + 1)) ps).1 ≠ 0))) := by
      intro k53
      induction k53 with
      | zero =>
        intro i1_53 T_53 M_53 n_53 I_53 h_q0_53 iv0_53 kp0_53 kKT9_53 hk53
        have := mz_hi i1_53
        omega
      | succ k53 ih53 =>
        intro i1_53 T_53 M_53 n_53 I_53 h_q0_53 iv0_53 kp0_53 kKT9_53 hk53
        obtain ⟨s54, f55, h56, h57, e58⟩ := kKT9_53
        obtain ⟨v59, v60, v61, v62, v63, v64, v65, q66, q67, q68, q69, q70, q71, q72, h73, h74, h75⟩ := f55
        replace h74 := Im.i h74
        replace h75 := Im.i h75
        refine mv_iload_n d_Reader_both_11 rfl rfl ?_
        refine mv_sipush (v := 400) d_Reader_both_12 (by decide) ?_
        have := mz_hi i1_53
        refine mv_icmp_geZ (tgt := 53) (a := i1_53.toInt) (b := 400) d_Reader_both_15 (by decide) rfl (by decide) (fun b76 => ?_) (fun b76 => ?_)
        · refine mv_iconst (v := 1) d_Reader_both_53 (by decide) ?_
          exact mv_iret d_Reader_both_54 rfl (by decide) ⟨_, I_53, _, rfl, by decide, by decide, fun _ => kp0_53, (by have := (Im.o h75) (by omega); have := yC.d s54.2.2; have := yC.kn s54.2.2; have hX := e58.symm.trans (p_lp_stop (show (p_bo1 pb pn pa (r7 + 1) (p_oc pb pn pa (r7 + 1))) s54 = s54 from if_neg (fun h9 => by omega))); have eT : p_bot pb pn pa (r7 + 1) (p_oc pb pn pa (r7 + 1)) ps = s54 := (by exact hX); rw [eT]; exact ⟨⟨_, _, _, _, _, _, _, q66, q67, q68, q69, q70, q71, q72, h73, Im.o h74, Im.o h75⟩, (Or.inl ⟨by first | decide | omega, by omega⟩)⟩)⟩
        · refine mv_aload_n d_Reader_both_18 rfl rfl ?_
          refine mv_bipush (v := 31) d_Reader_both_19 (by decide) ?_
          obtain ⟨_, b77, -⟩ := I_53.1 _ _ h_q0_53
          refine mv_callV (kc1 := 0) (ks1 := 0) (kc' := 0) (ks' := 0) (As := [.int 31]) (st9 := [.int 31, .ref o0]) d_Reader_both_21 lV_Reader_52 b77 rfl (mj_enter (by decide) (Nat.le_of_ble_eq_true rfl) ?_) rfl (Nat.le_of_ble_eq_true rfl) (Nat.le_of_ble_eq_true rfl) (Nat.le_of_ble_eq_true rfl) (hst := rfl) (fun _ _ _ h => h)
          refine mv_aload_n d_Reader_isWord_0 rfl rfl ?_
          refine tr_getK (k := 10) q69 d_Reader_isWord_1 f_Reader_41_9 ?_
          refine mv_iconst (v := 1) d_Reader_isWord_4 (by decide) ?_
          have := mz_hi v62
          refine mv_icmp_neZ (tgt := 20) (a := v62.toInt) (b := 1) d_Reader_isWord_5 (by decide) rfl (by decide) (fun b78 => ?_) (fun b78 => ?_)
          · refine mv_iconst (v := 0) d_Reader_isWord_20 (by decide) ?_
            refine mv_iret d_Reader_isWord_21 rfl (by decide) ?_
            refine mv_if_eq_t (tgt := 53) d_Reader_both_24 (by decide) (by decide) ?_
            refine mv_iconst (v := 1) d_Reader_both_53 (by decide) ?_
            exact mv_iret d_Reader_both_54 rfl (by decide) ⟨_, I_53, _, rfl, by decide, by decide, fun _ => kp0_53, (by have := (Im.o h75) (by omega); have := yC.d s54.2.2; have := yC.kn s54.2.2; have hX := e58.symm.trans (p_lp_stop (show (p_bo1 pb pn pa (r7 + 1) (p_oc pb pn pa (r7 + 1))) s54 = s54 from if_neg (fun h9 => by omega))); have eT : p_bot pb pn pa (r7 + 1) (p_oc pb pn pa (r7 + 1)) ps = s54 := (by exact hX); rw [eT]; exact ⟨⟨_, _, _, _, _, _, _, q66, q67, q68, q69, q70, q71, q72, h73, Im.o h74, Im.o h75⟩, (Or.inl ⟨by first | decide | omega, by omega⟩)⟩)⟩
          · refine mv_aload_n d_Reader_isWord_8 rfl rfl ?_
            refine tr_getK (k := 13) q72 d_Reader_isWord_9 f_Reader_241_9 ?_
            refine mv_iload_n d_Reader_isWord_12 rfl rfl ?_
            have := mz_hi v65
            refine mv_icmp_neZ (tgt := 20) (a := v65.toInt) (b := 31) d_Reader_isWord_13 (by decide) rfl (by decide) (fun b79 => ?_) (fun b79 => ?_)
            · refine mv_iconst (v := 0) d_Reader_isWord_20 (by decide) ?_
              refine mv_iret d_Reader_isWord_21 rfl (by decide) ?_
              refine mv_if_eq_t (tgt := 53) d_Reader_both_24 (by decide) (by decide) ?_
              refine mv_iconst (v := 1) d_Reader_both_53 (by decide) ?_
              exact mv_iret d_Reader_both_54 rfl (by decide) ⟨_, I_53, _, rfl, by decide, by decide, fun _ => kp0_53, (by have := (Im.o h75) (by omega); have := yC.d s54.2.2; have := yC.kn s54.2.2; have hX := e58.symm.trans (p_lp_stop (show (p_bo1 pb pn pa (r7 + 1) (p_oc pb pn pa (r7 + 1))) s54 = s54 from if_neg (fun h9 => by omega))); have eT : p_bot pb pn pa (r7 + 1) (p_oc pb pn pa (r7 + 1)) ps = s54 := (by exact hX); rw [eT]; exact ⟨⟨_, _, _, _, _, _, _, q66, q67, q68, q69, q70, q71, q72, h73, Im.o h74, Im.o h75⟩, (Or.inl ⟨by first | decide | omega, by omega⟩)⟩)⟩
            · refine mv_iconst (v := 1) d_Reader_isWord_16 (by decide) ?_
              refine mv_goto (tgt := 21) d_Reader_isWord_17 (by decide) ?_
              refine mv_iret d_Reader_isWord_21 rfl (by decide) ?_
              refine mv_if_eq_f (tgt := 53) d_Reader_both_24 (by decide) (by decide) ?_
              refine mv_aload_n d_Reader_both_27 rfl rfl ?_
              obtain ⟨_, b86, -⟩ := I_53.1 _ _ h_q0_53
              refine mv_callV (kc' := 0) (ks' := 0) (As := []) (st9 := [.ref o0]) d_Reader_both_28 lV_Reader_82 b86 rfl (tc_Reader_advance_x (d := (d + E + 8)) (x9 := x9) (o0 := o0) h_q0_53 (hK I_53) (qS.a (show qS M_53 o0 pb pn s54 from ⟨_, _, _, _, _, _, _, q66, q67, q68, q69, q70, q71, q72, h73, Im.o h74, Im.o h75⟩)) (by have := (Im.o h75) (by omega); have := yC.d s54.2.2; have := yC.kn s54.2.2; show s54.2.2 + 1 ≤ 401; omega) I_53.start) rfl (Nat.le_of_ble_eq_true rfl) (Nat.le_of_ble_eq_true rfl) (Nat.le_of_ble_eq_true rfl) (hst := rfl) (fun b80r M81 n82 b80 => ?_)
              obtain ⟨T83, J84, rfl, f87⟩ := b80
              have I85 := I_53.call J84 (tm_sub (by decide)) (Or.inl rfl)
              have t88 := J84.up h_q0_53
              have q89 := J84.keep h_q0_53 (by decide) kp0_53
              have q90 := J84.keep h_q0_53 (by decide) q66
              have q91 := J84.keep h_q0_53 (by decide) q67
              obtain ⟨s92, e93⟩ : ∃ s9 : p_S, p_nx s54 = s9 := ⟨_, rfl⟩
              rw [e93] at f87
              have : s92.1 = 0 := by rw [← e93]; show s54.1 = 0; omega
              obtain ⟨v94, v95, v96, v97, v98, v99, v100, q101, q102, q103, q104, q105, q106, q107, h108, h109, h110⟩ := f87
              replace h109 := Im.i h109
              replace h110 := Im.i h110
              refine mv_aload_n d_Reader_both_31 rfl rfl ?_
              obtain ⟨_, b117, -⟩ := I85.1 _ _ t88
              refine mv_callV (kc' := 0) (ks' := 0) (As := []) (st9 := [.ref o0]) d_Reader_both_32 lV_Reader_206 b117 rfl (tg_Reader_term hK9 H_sum H_condition (d := d) (x9 := x9) (o0 := o0) t88 (p := p) q89 (by omega) (by first | omega | decide) (hK I85) ⟨_, _, _, _, _, _, _, q101, q102, q103, q104, q105, q106, q107, h108, Im.o h109, Im.o h110⟩ (by omega) I85.start) rfl (Nat.le_of_ble_eq_true rfl) (Nat.le_of_ble_eq_true rfl) (Nat.le_of_ble_eq_true rfl) (hst := rfl) (fun b111r M112 n113 b111 => ?_)
              obtain ⟨T114, J115, v118, rfl, b119, b120, o121, f122, f123⟩ := b111
              have I116 := I85.call J115 (tm_sub (by decide)) (Or.inl rfl)
              have t124 := J115.up t88
              obtain ⟨s125, e126⟩ : ∃ s9 : p_S, p_ter pb pn pa (r7 + 1) (p_oc pb pn pa (r7 + 1)) s92 = s9 := ⟨_, rfl⟩
              rw [e126] at f122 f123
              obtain ⟨v127, v128, v129, v130, v131, v132, v133, q134, q135, q136, q137, q138, q139, q140, h141, h142, h143⟩ := f122
              replace h142 := Im.i h142
              replace h143 := Im.i h143
              have := mz_hi v118
              refine mv_if_neZ (tgt := 40) (a := v118.toInt) d_Reader_both_35 (by decide) rfl (fun b144 => ?_) (fun b144 => ?_)
              · have q145 := o121 (by omega)
                refine mv_aload_n d_Reader_both_40 rfl rfl ?_
                refine mv_bipush (v := 9) d_Reader_both_41 (by decide) ?_
                refine mv_iconst (v := 0) d_Reader_both_43 (by decide) ?_
                obtain ⟨_, b152, -⟩ := I116.1 _ _ t124
                refine mv_callV (kc' := 0) (ks' := 0) (As := [.int 9, .int 0]) (st9 := [.int 0, .int 9, .ref o0]) d_Reader_both_44 lV_Reader_203 b152 rfl (tc_Reader_emit (d := (d + E + 8)) (x9 := x9) (o0 := o0) (x1 := 9) (x2 := 0) t124 I116.start) rfl (Nat.le_of_ble_eq_true rfl) (Nat.le_of_ble_eq_true rfl) (Nat.le_of_ble_eq_true rfl) (hst := rfl) (fun b146r M147 n148 b146 => ?_)
                obtain ⟨T149, J150, rfl⟩ := b146
                have I151 := I116.call J150 (tm_sub (by decide)) (Or.inl rfl)
                have t153 := J150.up t124
                have q154 := J150.keep (I116.up h_o0) (by decide) q134
                have q155 := J150.keep (I116.up h_o0) (by decide) q135
                have q156 := J150.keep (I116.up h_o0) (by decide) q136
                have q157 := J150.keep (I116.up h_o0) (by decide) q137
                have q158 := J150.keep (I116.up h_o0) (by decide) q138
                have q159 := J150.keep (I116.up h_o0) (by decide) q139
                have q160 := J150.keep (I116.up h_o0) (by decide) q140
                have q161 := J150.keep t124 (by decide) q145
                refine mv_iinc (v := (i1_53 + 1)) (lv' := [(1, .int (i1_53 + 1)), (0, .ref o0)]) d_Reader_both_47 rfl rfl (by decide) rfl ?_
                refine mv_goto (tgt := 11) d_Reader_both_50 (by decide) ?_
                have : (i1_53 + 1 : Int32).toInt = i1_53.toInt + 1 := mz_addn 1 1 (by decide) (by omega) (by omega)
                have T162 : ∃ s1 : p_S, qS M147 o0 pb pn s1 ∧ s1.1 = 0 ∧ (i1_53 + 1).toInt ≤ (s1.2.2 : Int) ∧ p_lp pn (p_bo1 pb pn pa (r7 + 1) (p_oc pb pn pa (r7 + 1))) s1 = p_bot pb pn pa (r7 + 1) (p_oc pb pn pa (r7 + 1)) ps := ⟨s125, ⟨_, _, _, _, _, _, _, q154, q155, q156, q157, q158, q159, q160, h141, Im.o h142, Im.o h143⟩, by omega, (by have h9 : s54.2.2 + 1 ≤ s125.2.2 := (by rw [← e126, ← e93]; exact p_ter_M (p_oc_M _) (p_nx s54)); omega), (by have := (Im.o h75) (by omega); have := yC.d s54.2.2; have := yC.kn s54.2.2; have st : (p_bo1 pb pn pa (r7 + 1) (p_oc pb pn pa (r7 + 1))) s54 = s125 := (by rw [show (p_bo1 pb pn pa (r7 + 1) (p_oc pb pn pa (r7 + 1))) s54 = p_ter pb pn pa (r7 + 1) (p_oc pb pn pa (r7 + 1)) (p_nx s54) from if_pos ⟨by omega, by omega⟩]; simp only [e93, e126]); rw [← st, p_P.go (p_bo1_P (p_oc_M _)) s54]; exact e58)⟩
                have b163 : (i1_53 + 1).toInt = i1_53.toInt + 1 := mz_addn 1 1 (by decide) (by have := mz_lo i1_53; omega) (by have := mz_hi i1_53; omega)
                exact (ih53 (i1_53 + 1) T149 M147 n148 I151 t153 (by first | omega | decide) q161 T162 (by omega))
              · refine mv_iconst (v := 0) d_Reader_both_38 (by decide) ?_
                exact mv_iret d_Reader_both_39 rfl (by decide) ⟨_, I116, _, rfl, by decide, by decide, fun h => absurd h (by decide), (by have := (Im.o h75) (by omega); have := yC.d s54.2.2; have := yC.kn s54.2.2; have hb : s125.1 ≠ 0 := (by omega); have z1 : ∀ c, p_sg pb pn c s125 = s125 := (fun c => p_sg_Z s125 hb); have z2 : ∀ c, p_wd pb pn c s125 = s125 := (fun c => p_wd_Z s125 hb); have z3 : ∀ op, p_sum pb pn pa op s125 = s125 := (fun op => p_sum_Z s125 hb); have z4 : ∀ r oc, p_con pb pn pa r oc s125 = s125 := (fun r oc => p_con_Z s125 hb); have z5 : p_prt pb pn s125 = s125 := p_prt_Z s125 hb; have st : (p_bo1 pb pn pa (r7 + 1) (p_oc pb pn pa (r7 + 1))) s54 = s125 := (by rw [show (p_bo1 pb pn pa (r7 + 1) (p_oc pb pn pa (r7 + 1))) s54 = p_ter pb pn pa (r7 + 1) (p_oc pb pn pa (r7 + 1)) (p_nx s54) from if_pos ⟨by omega, by omega⟩]; simp only [e93, e126]); have eT : p_bot pb pn pa (r7 + 1) (p_oc pb pn pa (r7 + 1)) ps = s125 := (by rw [← e58, ← p_P.go (p_bo1_P (p_oc_M _)) s54, st]; exact p_lp_stop (p_bo1_Z s125 hb)); rw [eT]; exact ⟨⟨_, _, _, _, _, _, _, q134, q135, q136, q137, q138, q139, q140, h141, Im.o h142, Im.o h143⟩, (Or.inr ⟨by first | decide | omega, by omega⟩)⟩)⟩
    have T164 : ∃ s1 : p_S, qS M19 o0 pb pn s1 ∧ s1.1 = 0 ∧ 0 ≤ (s1.2.2 : Int) ∧ p_lp pn (p_bo1 pb pn pa (r7 + 1) (p_oc pb pn pa (r7 + 1))) s1 = p_bot pb pn pa (r7 + 1) (p_oc pb pn pa (r7 + 1)) ps := ⟨s32, ⟨_, _, _, _, _, _, _, q41, q42, q43, q44, q45, q46, q47, h48, Im.o h49, Im.o h50⟩, by omega, (by show (0 : Int) ≤ _; omega), (by rw [← e33]; rfl)⟩
    exact mv_less (Nat.zero_le _) (Nat.zero_le _) (L11_53 4294967296 0 T21 M19 n20 I23 t31 (by first | omega | decide) q52 T164 (by show (2147483647 - (0 : Int) : Int) < _; decide))
  · refine mv_iconst (v := 0) d_Reader_both_7 (by decide) ?_
    exact mv_iret d_Reader_both_8 rfl (by decide) ⟨_, I23, _, rfl, by decide, by decide, fun h => absurd h (by decide), (by have hb : s32.1 ≠ 0 := (by omega); have z1 : ∀ c, p_sg pb pn c s32 = s32 := (fun c => p_sg_Z s32 hb); have z2 : ∀ c, p_wd pb pn c s32 = s32 := (fun c => p_wd_Z s32 hb); have z3 : ∀ op, p_sum pb pn pa op s32 = s32 := (fun op => p_sum_Z s32 hb); have z4 : ∀ r oc, p_con pb pn pa r oc s32 = s32 := (fun r oc => p_con_Z s32 hb); have z5 : p_prt pb pn s32 = s32 := p_prt_Z s32 hb; have eT : p_bot pb pn pa (r7 + 1) (p_oc pb pn pa (r7 + 1)) ps = s32 := (by unfold p_bot; simp only [e33]; exact p_lp_stop (p_bo1_Z s32 hb)); rw [eT]; exact ⟨⟨_, _, _, _, _, _, _, q41, q42, q43, q44, q45, q46, q47, h48, Im.o h49, Im.o h50⟩, (Or.inr ⟨by first | decide | omega, by omega⟩)⟩)⟩
set_option maxHeartbeats 100000000 in theorem tg_Reader_condition {E r7 : Nat} {K K1 : Int} (hK9 : K1 = K + 1 ∧ 0 ≤ K ∧ K ≤ 3) (H_sum : ∀ {g : mj_G} {l : Launch} {d : Nat} {T0 : tm_H} {M0 : mj_M} {n0 x9 : Nat} {o0 : Nat} (h_o0 : T0 o0 = some (0, 9, 0)) {p : Int32} (hO : tm_at M0 o0 9 16 (.int p)) (hp : K1 ≤ p.toInt)  (hp2 : p.toInt ≤ K1) {pb : Nat → Int} {pn : Nat} {pa : Int} {ps : p_S} (yC : qC M0 o0 pb pn pa) (yD : qS M0 o0 pb pn ps) (yw : ps.1 = 0) (I0 : tm_I tm_FT (tm_in w_Reader_sum_q0_x) x9 T0 M0 n0 T0 M0 n0), mj_Met g l kY_Reader_sum (d + E + 4) [.ref o0] M0 n0 0 0 (tm_Q tm_FT (tm_in w_Reader_sum_q0_x) x9 T0 M0 n0 (fun r _ M => ∃ v : Int32, r = some (.int v) ∧ 0 ≤ v.toInt ∧ v.toInt ≤ 1 ∧ (v.toInt = 1 → tm_at M o0 9 16 (.int p)) ∧ (qS M o0 pb pn (p_sum pb pn pa (p_op pb pn pa r7) ps)) ∧ (v.toInt = 1 ∧ (p_sum pb pn pa (p_op pb pn pa r7) ps).1 = 0 ∨ v.toInt = 0 ∧ (p_sum pb pn pa (p_op pb pn pa r7) ps).1 ≠ 0)))) (H_condition : ∀ {g : mj_G} {l : Launch} {d : Nat} {T0 : tm_H} {M0 : mj_M} {n0 x9 : Nat} {o0 : Nat} (h_o0 : T0 o0 = some (0, 9, 0)) {p : Int32} (hO : tm_at M0 o0 9 16 (.int p)) (hp : K1 ≤ p.toInt)  (hp2 : p.toInt ≤ K1) {pb : Nat → Int} {pn : Nat} {pa : Int} {ps : p_S} (yC : qC M0 o0 pb pn pa) (yD : qS M0 o0 pb pn ps) (yw : ps.1 = 0) (I0 : tm_I tm_FT (tm_in w_Reader_condition_q0_x) x9 T0 M0 n0 T0 M0 n0), mj_Met g l kY_Reader_condition (d + E + 7) [.ref o0] M0 n0 0 0 (tm_Q tm_FT (tm_in w_Reader_condition_q0_x) x9 T0 M0 n0 (fun r _ M => ∃ v : Int32, r = some (.int v) ∧ 0 ≤ v.toInt ∧ v.toInt ≤ 1 ∧ (v.toInt = 1 → tm_at M o0 9 16 (.int p)) ∧ (qS M o0 pb pn (p_con pb pn pa r7 (p_oc pb pn pa r7) ps)) ∧ (v.toInt = 1 ∧ (p_con pb pn pa r7 (p_oc pb pn pa r7) ps).1 = 0 ∨ v.toInt = 0 ∧ (p_con pb pn pa r7 (p_oc pb pn pa r7) ps).1 ≠ 0)))) {g : mj_G} {l : Launch} {d : Nat} {T0 : tm_H} {M0 : mj_M} {n0 x9 : Nat} {o0 : Nat} (h_o0 : T0 o0 = some (0, 9, 0)) {p : Int32} (hO : tm_at M0 o0 9 16 (.int p)) (hp : K ≤ p.toInt)  (hp2 : p.toInt ≤ K) {pb : Nat → Int} {pn : Nat} {pa : Int} {ps : p_S} (yC : qC M0 o0 pb pn pa) (yD : qS M0 o0 pb pn ps) (yw : ps.1 = 0) (I0 : tm_I tm_FT (tm_in w_Reader_condition_q0_x) x9 T0 M0 n0 T0 M0 n0) : mj_Met g l kY_Reader_condition (d + E + 10) [.ref o0] M0 n0 0 0 (tm_Q tm_FT (tm_in w_Reader_condition_q0_x) x9 T0 M0 n0 (fun r _ M => ∃ v : Int32, r = some (.int v) ∧ 0 ≤ v.toInt ∧ v.toInt ≤ 1 ∧ (v.toInt = 1 → tm_at M o0 9 16 (.int p)) ∧ (qS M o0 pb pn (p_con pb pn pa (r7 + 1) (p_oc pb pn pa (r7 + 1)) ps)) ∧ (v.toInt = 1 ∧ (p_con pb pn pa (r7 + 1) (p_oc pb pn pa (r7 + 1)) ps).1 = 0 ∨ v.toInt = 0 ∧ (p_con pb pn pa (r7 + 1) (p_oc pb pn pa (r7 + 1)) ps).1 ≠ 0))) := by
  refine mj_enter (by decide) (Nat.le_of_ble_eq_true rfl) ?_
  have hK : ∀ {T : tm_H} {M : mj_M} {n : Nat}, tm_I tm_FT (tm_in w_Reader_condition_q0_x) x9 T0 M0 n0 T M n → qC M o0 pb pn pa := fun I => yC.keep I0.1 I h_o0 (qW_of (by decide +kernel))
  obtain ⟨v1, v2, v3, v4, v5, v6, v7, q8, q9, q10, q11, q12, q13, q14, h15, h16, h17⟩ := yD
  replace h16 := Im.i h16
  replace h17 := Im.i h17
  refine mv_aload_n d_Reader_condition_0 rfl rfl ?_
  obtain ⟨_, b24, -⟩ := I0.1 _ _ h_o0
  refine mv_callV (kc' := 0) (ks' := 0) (As := []) (st9 := [.ref o0]) d_Reader_condition_1 lV_Reader_198 b24 rfl (tg_Reader_both hK9 H_sum H_condition (d := d) (x9 := x9) (o0 := o0) h_o0 (p := p) hO (by omega) (by first | omega | decide) (hK I0) ⟨_, _, _, _, _, _, _, q8, q9, q10, q11, q12, q13, q14, h15, Im.o h16, Im.o h17⟩ (by omega) I0.start) rfl (Nat.le_of_ble_eq_true rfl) (Nat.le_of_ble_eq_true rfl) (Nat.le_of_ble_eq_true rfl) (hst := rfl) (fun b18r M19 n20 b18 => ?_)
  obtain ⟨T21, J22, v25, rfl, b26, b27, o28, f29, f30⟩ := b18
  have I23 := I0.call J22 (tm_sub (by decide)) (Or.inl rfl)
  have t31 := J22.up h_o0
  obtain ⟨s32, e33⟩ : ∃ s9 : p_S, p_bot pb pn pa (r7 + 1) (p_oc pb pn pa (r7 + 1)) ps = s9 := ⟨_, rfl⟩
  rw [e33] at f29 f30
  obtain ⟨v34, v35, v36, v37, v38, v39, v40, q41, q42, q43, q44, q45, q46, q47, h48, h49, h50⟩ := f29
  replace h49 := Im.i h49
  replace h50 := Im.i h50
  have := mz_hi v25
  refine mv_if_neZ (tgt := 9) (a := v25.toInt) d_Reader_condition_4 (by decide) rfl (fun b51 => ?_) (fun b51 => ?_)
  · have q52 := o28 (by omega)
    refine mv_iconst (v := 0) d_Reader_condition_9 (by decide) ?_
    refine mv_istore_n (lv' := [(1, .int 0), (0, .ref o0)]) d_Reader_condition_10 rfl (by decide) rfl ?_
    have L11_53 : ∀ (k : Nat) (i1_53 : Int32) (T_53 : tm_H) (M_53 : mj_M) (n_53 : Nat), tm_I tm_FT (tm_in w_Reader_condition_q0_x) x9 T0 M0 n0 T_53 M_53 n_53 → T_53 o0 = some (0, 9, 0) → 0 ≤ i1_53.toInt → tm_at M_53 o0 9 16 (.int p) → (∃ s1 : p_S, qS M_53 o0 pb pn s1 ∧ s1.1 = 0 ∧ i1_53.toInt ≤ (s1.2.2 : Int) ∧ p_lp pn (p_co1 pb pn pa (r7 + 1) (p_oc pb pn pa (r7 + 1))) s1 = p_con pb pn pa (r7 + 1) (p_oc pb pn pa (r7 + 1)) ps) → 2147483647 - i1_53.toInt < (k : Int) → mj_V g l kY_Reader_condition (d + E + 10) 11 [(1, .int i1_53), (0, .ref o0)] [] M_53 n_53 0 0 (tm_Q tm_FT (tm_in w_Reader_condition_q0_x) x9 T0 M0 n0 (fun r _ M => ∃ v : Int32, r = some (.int v) ∧ 0 ≤ v.toInt ∧ v.toInt ≤ 1 ∧ (v.toInt = 1 → tm_at M o0 9 16 (.int p)) ∧ (qS M o0 pb pn (p_con pb pn pa (r7 + 1) (p_oc pb pn pa (r7 + 1)) ps)) ∧ (v.toInt = 1 ∧ (p_con pb pn pa (r7 + 1) (p_oc pb pn pa (r7 + 1)) ps).1 = 0 ∨ v.toInt = 0 ∧ (p_con pb pn pa (r7 + 1) (p_oc pb pn pa (r7 + 1)) ps).1 ≠ 0))) := by
      intro k53
      induction k53 with
      | zero =>
        intro i1_53 T_53 M_53 n_53 I_53 h_q0_53 iv0_53 kp0_53 kKT9_53 hk53
        have := mz_hi i1_53
        omega
      | succ k53 ih53 =>
        intro i1_53 T_53 M_53 n_53 I_53 h_q0_53 iv0_53 kp0_53 kKT9_53 hk53
        obtain ⟨s54, f55, h56, h57, e58⟩ := kKT9_53
        obtain ⟨v59, v60, v61, v62, v63, v64, v65, q66, q67, q68, q69, q70, q71, q72, h73, h74, h75⟩ := f55
        replace h74 := Im.i h74
        replace h75 := Im.i h75
        refine mv_iload_n d_Reader_condition_11 rfl rfl ?_
        refine mv_sipush (v := 400) d_Reader_condition_12 (by decide) ?_
        have := mz_hi i1_53
        refine mv_icmp_geZ (tgt := 53) (a := i1_53.toInt) (b := 400) d_Reader_condition_15 (by decide) rfl (by decide) (fun b76 => ?_) (fun b76 => ?_)
        · refine mv_iconst (v := 1) d_Reader_condition_53 (by decide) ?_
          exact mv_iret d_Reader_condition_54 rfl (by decide) ⟨_, I_53, _, rfl, by decide, by decide, fun _ => kp0_53, (by have := (Im.o h75) (by omega); have := yC.d s54.2.2; have := yC.kn s54.2.2; have hX := e58.symm.trans (p_lp_stop (show (p_co1 pb pn pa (r7 + 1) (p_oc pb pn pa (r7 + 1))) s54 = s54 from if_neg (fun h9 => by omega))); have eT : p_con pb pn pa (r7 + 1) (p_oc pb pn pa (r7 + 1)) ps = s54 := (by exact hX); rw [eT]; exact ⟨⟨_, _, _, _, _, _, _, q66, q67, q68, q69, q70, q71, q72, h73, Im.o h74, Im.o h75⟩, (Or.inl ⟨by first | decide | omega, by omega⟩)⟩)⟩
        · refine mv_aload_n d_Reader_condition_18 rfl rfl ?_
          refine mv_bipush (v := 32) d_Reader_condition_19 (by decide) ?_
          obtain ⟨_, b77, -⟩ := I_53.1 _ _ h_q0_53
          refine mv_callV (kc1 := 0) (ks1 := 0) (kc' := 0) (ks' := 0) (As := [.int 32]) (st9 := [.int 32, .ref o0]) d_Reader_condition_21 lV_Reader_52 b77 rfl (mj_enter (by decide) (Nat.le_of_ble_eq_true rfl) ?_) rfl (Nat.le_of_ble_eq_true rfl) (Nat.le_of_ble_eq_true rfl) (Nat.le_of_ble_eq_true rfl) (hst := rfl) (fun _ _ _ h => h)
          refine mv_aload_n d_Reader_isWord_0 rfl rfl ?_
          refine tr_getK (k := 10) q69 d_Reader_isWord_1 f_Reader_41_9 ?_
          refine mv_iconst (v := 1) d_Reader_isWord_4 (by decide) ?_
          have := mz_hi v62
          refine mv_icmp_neZ (tgt := 20) (a := v62.toInt) (b := 1) d_Reader_isWord_5 (by decide) rfl (by decide) (fun b78 => ?_) (fun b78 => ?_)
          · refine mv_iconst (v := 0) d_Reader_isWord_20 (by decide) ?_
            refine mv_iret d_Reader_isWord_21 rfl (by decide) ?_
            refine mv_if_eq_t (tgt := 53) d_Reader_condition_24 (by decide) (by decide) ?_
            refine mv_iconst (v := 1) d_Reader_condition_53 (by decide) ?_
            exact mv_iret d_Reader_condition_54 rfl (by decide) ⟨_, I_53, _, rfl, by decide, by decide, fun _ => kp0_53, (by have := (Im.o h75) (by omega); have := yC.d s54.2.2; have := yC.kn s54.2.2; have hX := e58.symm.trans (p_lp_stop (show (p_co1 pb pn pa (r7 + 1) (p_oc pb pn pa (r7 + 1))) s54 = s54 from if_neg (fun h9 => by omega))); have eT : p_con pb pn pa (r7 + 1) (p_oc pb pn pa (r7 + 1)) ps = s54 := (by exact hX); rw [eT]; exact ⟨⟨_, _, _, _, _, _, _, q66, q67, q68, q69, q70, q71, q72, h73, Im.o h74, Im.o h75⟩, (Or.inl ⟨by first | decide | omega, by omega⟩)⟩)⟩
          · refine mv_aload_n d_Reader_isWord_8 rfl rfl ?_
            refine tr_getK (k := 13) q72 d_Reader_isWord_9 f_Reader_241_9 ?_
            refine mv_iload_n d_Reader_isWord_12 rfl rfl ?_
            have := mz_hi v65
            refine mv_icmp_neZ (tgt := 20) (a := v65.toInt) (b := 32) d_Reader_isWord_13 (by decide) rfl (by decide) (fun b79 => ?_) (fun b79 => ?_)
            · refine mv_iconst (v := 0) d_Reader_isWord_20 (by decide) ?_
              refine mv_iret d_Reader_isWord_21 rfl (by decide) ?_
              refine mv_if_eq_t (tgt := 53) d_Reader_condition_24 (by decide) (by decide) ?_
              refine mv_iconst (v := 1) d_Reader_condition_53 (by decide) ?_
              exact mv_iret d_Reader_condition_54 rfl (by decide) ⟨_, I_53, _, rfl, by decide, by decide, fun _ => kp0_53, (by have := (Im.o h75) (by omega); have := yC.d s54.2.2; have := yC.kn s54.2.2; have hX := e58.symm.trans (p_lp_stop (show (p_co1 pb pn pa (r7 + 1) (p_oc pb pn pa (r7 + 1))) s54 = s54 from if_neg (fun h9 => by omega))); have eT : p_con pb pn pa (r7 + 1) (p_oc pb pn pa (r7 + 1)) ps = s54 := (by exact hX); rw [eT]; exact ⟨⟨_, _, _, _, _, _, _, q66, q67, q68, q69, q70, q71, q72, h73, Im.o h74, Im.o h75⟩, (Or.inl ⟨by first | decide | omega, by omega⟩)⟩)⟩
            · refine mv_iconst (v := 1) d_Reader_isWord_16 (by decide) ?_
              refine mv_goto (tgt := 21) d_Reader_isWord_17 (by decide) ?_
              refine mv_iret d_Reader_isWord_21 rfl (by decide) ?_
              refine mv_if_eq_f (tgt := 53) d_Reader_condition_24 (by decide) (by decide) ?_
              refine mv_aload_n d_Reader_condition_27 rfl rfl ?_
              obtain ⟨_, b86, -⟩ := I_53.1 _ _ h_q0_53
              refine mv_callV (kc' := 0) (ks' := 0) (As := []) (st9 := [.ref o0]) d_Reader_condition_28 lV_Reader_82 b86 rfl (tc_Reader_advance_x (d := (d + E + 9)) (x9 := x9) (o0 := o0) h_q0_53 (hK I_53) (qS.a (show qS M_53 o0 pb pn s54 from ⟨_, _, _, _, _, _, _, q66, q67, q68, q69, q70, q71, q72, h73, Im.o h74, Im.o h75⟩)) (by have := (Im.o h75) (by omega); have := yC.d s54.2.2; have := yC.kn s54.2.2; show s54.2.2 + 1 ≤ 401; omega) I_53.start) rfl (Nat.le_of_ble_eq_true rfl) (Nat.le_of_ble_eq_true rfl) (Nat.le_of_ble_eq_true rfl) (hst := rfl) (fun b80r M81 n82 b80 => ?_)
              obtain ⟨T83, J84, rfl, f87⟩ := b80
              have I85 := I_53.call J84 (tm_sub (by decide)) (Or.inl rfl)
              have t88 := J84.up h_q0_53
              have q89 := J84.keep h_q0_53 (by decide) kp0_53
              have q90 := J84.keep h_q0_53 (by decide) q66
              have q91 := J84.keep h_q0_53 (by decide) q67
              obtain ⟨s92, e93⟩ : ∃ s9 : p_S, p_nx s54 = s9 := ⟨_, rfl⟩
              rw [e93] at f87
              have : s92.1 = 0 := by rw [← e93]; show s54.1 = 0; omega
              obtain ⟨v94, v95, v96, v97, v98, v99, v100, q101, q102, q103, q104, q105, q106, q107, h108, h109, h110⟩ := f87
              replace h109 := Im.i h109
              replace h110 := Im.i h110
              refine mv_aload_n d_Reader_condition_31 rfl rfl ?_
              obtain ⟨_, b117, -⟩ := I85.1 _ _ t88
              refine mv_callV (kc' := 0) (ks' := 0) (As := []) (st9 := [.ref o0]) d_Reader_condition_32 lV_Reader_198 b117 rfl (tg_Reader_both hK9 H_sum H_condition (d := d) (x9 := x9) (o0 := o0) t88 (p := p) q89 (by omega) (by first | omega | decide) (hK I85) ⟨_, _, _, _, _, _, _, q101, q102, q103, q104, q105, q106, q107, h108, Im.o h109, Im.o h110⟩ (by omega) I85.start) rfl (Nat.le_of_ble_eq_true rfl) (Nat.le_of_ble_eq_true rfl) (Nat.le_of_ble_eq_true rfl) (hst := rfl) (fun b111r M112 n113 b111 => ?_)
              obtain ⟨T114, J115, v118, rfl, b119, b120, o121, f122, f123⟩ := b111
              have I116 := I85.call J115 (tm_sub (by decide)) (Or.inl rfl)
              have t124 := J115.up t88
              obtain ⟨s125, e126⟩ : ∃ s9 : p_S, p_bot pb pn pa (r7 + 1) (p_oc pb pn pa (r7 + 1)) s92 = s9 := ⟨_, rfl⟩
              rw [e126] at f122 f123
              obtain ⟨v127, v128, v129, v130, v131, v132, v133, q134, q135, q136, q137, q138, q139, q140, h141, h142, h143⟩ := f122
              replace h142 := Im.i h142
              replace h143 := Im.i h143
              have := mz_hi v118
              refine mv_if_neZ (tgt := 40) (a := v118.toInt) d_Reader_condition_35 (by decide) rfl (fun b144 => ?_) (fun b144 => ?_)
              · have q145 := o121 (by omega)
                refine mv_aload_n d_Reader_condition_40 rfl rfl ?_
                refine mv_bipush (v := 10) d_Reader_condition_41 (by decide) ?_
                refine mv_iconst (v := 0) d_Reader_condition_43 (by decide) ?_
                obtain ⟨_, b152, -⟩ := I116.1 _ _ t124
                refine mv_callV (kc' := 0) (ks' := 0) (As := [.int 10, .int 0]) (st9 := [.int 0, .int 10, .ref o0]) d_Reader_condition_44 lV_Reader_203 b152 rfl (tc_Reader_emit (d := (d + E + 9)) (x9 := x9) (o0 := o0) (x1 := 10) (x2 := 0) t124 I116.start) rfl (Nat.le_of_ble_eq_true rfl) (Nat.le_of_ble_eq_true rfl) (Nat.le_of_ble_eq_true rfl) (hst := rfl) (fun b146r M147 n148 b146 => ?_)
                obtain ⟨T149, J150, rfl⟩ := b146
                have I151 := I116.call J150 (tm_sub (by decide)) (Or.inl rfl)
                have t153 := J150.up t124
                have q154 := J150.keep (I116.up h_o0) (by decide) q134
                have q155 := J150.keep (I116.up h_o0) (by decide) q135
                have q156 := J150.keep (I116.up h_o0) (by decide) q136
                have q157 := J150.keep (I116.up h_o0) (by decide) q137
                have q158 := J150.keep (I116.up h_o0) (by decide) q138
                have q159 := J150.keep (I116.up h_o0) (by decide) q139
                have q160 := J150.keep (I116.up h_o0) (by decide) q140
                have q161 := J150.keep t124 (by decide) q145
                refine mv_iinc (v := (i1_53 + 1)) (lv' := [(1, .int (i1_53 + 1)), (0, .ref o0)]) d_Reader_condition_47 rfl rfl (by decide) rfl ?_
                refine mv_goto (tgt := 11) d_Reader_condition_50 (by decide) ?_
                have : (i1_53 + 1 : Int32).toInt = i1_53.toInt + 1 := mz_addn 1 1 (by decide) (by omega) (by omega)
                have T162 : ∃ s1 : p_S, qS M147 o0 pb pn s1 ∧ s1.1 = 0 ∧ (i1_53 + 1).toInt ≤ (s1.2.2 : Int) ∧ p_lp pn (p_co1 pb pn pa (r7 + 1) (p_oc pb pn pa (r7 + 1))) s1 = p_con pb pn pa (r7 + 1) (p_oc pb pn pa (r7 + 1)) ps := ⟨s125, ⟨_, _, _, _, _, _, _, q154, q155, q156, q157, q158, q159, q160, h141, Im.o h142, Im.o h143⟩, by omega, (by have h9 : s54.2.2 + 1 ≤ s125.2.2 := (by rw [← e126, ← e93]; exact p_bot_M (p_oc_M _) (p_nx s54)); omega), (by have := (Im.o h75) (by omega); have := yC.d s54.2.2; have := yC.kn s54.2.2; have st : (p_co1 pb pn pa (r7 + 1) (p_oc pb pn pa (r7 + 1))) s54 = s125 := (by rw [show (p_co1 pb pn pa (r7 + 1) (p_oc pb pn pa (r7 + 1))) s54 = p_bot pb pn pa (r7 + 1) (p_oc pb pn pa (r7 + 1)) (p_nx s54) from if_pos ⟨by omega, by omega⟩]; simp only [e93, e126]); rw [← st, p_P.go (p_co1_P (p_oc_M _)) s54]; exact e58)⟩
                have b163 : (i1_53 + 1).toInt = i1_53.toInt + 1 := mz_addn 1 1 (by decide) (by have := mz_lo i1_53; omega) (by have := mz_hi i1_53; omega)
                exact (ih53 (i1_53 + 1) T149 M147 n148 I151 t153 (by first | omega | decide) q161 T162 (by omega))
              · refine mv_iconst (v := 0) d_Reader_condition_38 (by decide) ?_
                exact mv_iret d_Reader_condition_39 rfl (by decide) ⟨_, I116, _, rfl, by decide, by decide, fun h => absurd h (by decide), (by have := (Im.o h75) (by omega); have := yC.d s54.2.2; have := yC.kn s54.2.2; have hb : s125.1 ≠ 0 := (by omega); have z1 : ∀ c, p_sg pb pn c s125 = s125 := (fun c => p_sg_Z s125 hb); have z2 : ∀ c, p_wd pb pn c s125 = s125 := (fun c => p_wd_Z s125 hb); have z3 : ∀ op, p_sum pb pn pa op s125 = s125 := (fun op => p_sum_Z s125 hb); have z4 : ∀ r oc, p_con pb pn pa r oc s125 = s125 := (fun r oc => p_con_Z s125 hb); have z5 : p_prt pb pn s125 = s125 := p_prt_Z s125 hb; have st : (p_co1 pb pn pa (r7 + 1) (p_oc pb pn pa (r7 + 1))) s54 = s125 := (by rw [show (p_co1 pb pn pa (r7 + 1) (p_oc pb pn pa (r7 + 1))) s54 = p_bot pb pn pa (r7 + 1) (p_oc pb pn pa (r7 + 1)) (p_nx s54) from if_pos ⟨by omega, by omega⟩]; simp only [e93, e126]); have eT : p_con pb pn pa (r7 + 1) (p_oc pb pn pa (r7 + 1)) ps = s125 := (by rw [← e58, ← p_P.go (p_co1_P (p_oc_M _)) s54, st]; exact p_lp_stop (p_co1_Z s125 hb)); rw [eT]; exact ⟨⟨_, _, _, _, _, _, _, q134, q135, q136, q137, q138, q139, q140, h141, Im.o h142, Im.o h143⟩, (Or.inr ⟨by first | decide | omega, by omega⟩)⟩)⟩
    have T164 : ∃ s1 : p_S, qS M19 o0 pb pn s1 ∧ s1.1 = 0 ∧ 0 ≤ (s1.2.2 : Int) ∧ p_lp pn (p_co1 pb pn pa (r7 + 1) (p_oc pb pn pa (r7 + 1))) s1 = p_con pb pn pa (r7 + 1) (p_oc pb pn pa (r7 + 1)) ps := ⟨s32, ⟨_, _, _, _, _, _, _, q41, q42, q43, q44, q45, q46, q47, h48, Im.o h49, Im.o h50⟩, by omega, (by show (0 : Int) ≤ _; omega), (by rw [← e33]; rfl)⟩
    exact mv_less (Nat.zero_le _) (Nat.zero_le _) (L11_53 4294967296 0 T21 M19 n20 I23 t31 (by first | omega | decide) q52 T164 (by show (2147483647 - (0 : Int) : Int) < _; decide))
  · refine mv_iconst (v := 0) d_Reader_condition_7 (by decide) ?_
    exact mv_iret d_Reader_condition_8 rfl (by decide) ⟨_, I23, _, rfl, by decide, by decide, fun h => absurd h (by decide), (by have hb : s32.1 ≠ 0 := (by omega); have z1 : ∀ c, p_sg pb pn c s32 = s32 := (fun c => p_sg_Z s32 hb); have z2 : ∀ c, p_wd pb pn c s32 = s32 := (fun c => p_wd_Z s32 hb); have z3 : ∀ op, p_sum pb pn pa op s32 = s32 := (fun op => p_sum_Z s32 hb); have z4 : ∀ r oc, p_con pb pn pa r oc s32 = s32 := (fun r oc => p_con_Z s32 hb); have z5 : p_prt pb pn s32 = s32 := p_prt_Z s32 hb; have eT : p_con pb pn pa (r7 + 1) (p_oc pb pn pa (r7 + 1)) ps = s32 := (by unfold p_con; simp only [e33]; exact p_lp_stop (p_co1_Z s32 hb)); rw [eT]; exact ⟨⟨_, _, _, _, _, _, _, q41, q42, q43, q44, q45, q46, q47, h48, Im.o h49, Im.o h50⟩, (Or.inr ⟨by first | decide | omega, by omega⟩)⟩)⟩
def w_Reader_sum_q1_x : List Nat := [901, 902, 909, 910, 911, 912, 913, 914, 916, 918, 967]
theorem tc_Reader_sum_q1_x {g : mj_G} {l : Launch} {d : Nat} {T0 : tm_H} {M0 : mj_M} {n0 x9 : Nat} {o0 : Nat} (h_o0 : T0 o0 = some (0, 9, 0)) {p : Int32} (hO : tm_at M0 o0 9 16 (.int p)) (hp : 3 ≤ p.toInt)  (hp2 : p.toInt ≤ 3) {pb : Nat → Int} {pn : Nat} {pa : Int} {ps : p_S} (yC : qC M0 o0 pb pn pa) (yD : qS M0 o0 pb pn ps) (yw : ps.1 = 0) (I0 : tm_I tm_FT (tm_in w_Reader_sum_q1_x) x9 T0 M0 n0 T0 M0 n0) : mj_Met g l kY_Reader_sum (d + 7) [.ref o0] M0 n0 0 0 (tm_Q tm_FT (tm_in w_Reader_sum_q1_x) x9 T0 M0 n0 (fun r _ M => ∃ v : Int32, r = some (.int v) ∧ 0 ≤ v.toInt ∧ v.toInt ≤ 1 ∧ (v.toInt = 1 → tm_at M o0 9 16 (.int p)) ∧ (qS M o0 pb pn (p_sum pb pn pa (p_op pb pn pa 1) ps)) ∧ (v.toInt = 1 ∧ (p_sum pb pn pa (p_op pb pn pa 1) ps).1 = 0 ∨ v.toInt = 0 ∧ (p_sum pb pn pa (p_op pb pn pa 1) ps).1 ≠ 0))) := tg_Reader_sum (E := 0) (r7 := 0) (K := 3) (K1 := 4) (by decide) @tc_Reader_sum_q0_x @tc_Reader_condition_q0_x h_o0 hO hp hp2 yC yD yw I0
def w_Reader_condition_q1_x : List Nat := [901, 902, 909, 910, 911, 912, 913, 914, 916, 918, 967]
theorem tc_Reader_condition_q1_x {g : mj_G} {l : Launch} {d : Nat} {T0 : tm_H} {M0 : mj_M} {n0 x9 : Nat} {o0 : Nat} (h_o0 : T0 o0 = some (0, 9, 0)) {p : Int32} (hO : tm_at M0 o0 9 16 (.int p)) (hp : 3 ≤ p.toInt)  (hp2 : p.toInt ≤ 3) {pb : Nat → Int} {pn : Nat} {pa : Int} {ps : p_S} (yC : qC M0 o0 pb pn pa) (yD : qS M0 o0 pb pn ps) (yw : ps.1 = 0) (I0 : tm_I tm_FT (tm_in w_Reader_condition_q1_x) x9 T0 M0 n0 T0 M0 n0) : mj_Met g l kY_Reader_condition (d + 10) [.ref o0] M0 n0 0 0 (tm_Q tm_FT (tm_in w_Reader_condition_q1_x) x9 T0 M0 n0 (fun r _ M => ∃ v : Int32, r = some (.int v) ∧ 0 ≤ v.toInt ∧ v.toInt ≤ 1 ∧ (v.toInt = 1 → tm_at M o0 9 16 (.int p)) ∧ (qS M o0 pb pn (p_con pb pn pa 1 (p_oc pb pn pa 1) ps)) ∧ (v.toInt = 1 ∧ (p_con pb pn pa 1 (p_oc pb pn pa 1) ps).1 = 0 ∨ v.toInt = 0 ∧ (p_con pb pn pa 1 (p_oc pb pn pa 1) ps).1 ≠ 0))) := tg_Reader_condition (E := 0) (r7 := 0) (K := 3) (K1 := 4) (by decide) @tc_Reader_sum_q0_x @tc_Reader_condition_q0_x h_o0 hO hp hp2 yC yD yw I0
def w_Reader_sum_q2_x : List Nat := [901, 902, 909, 910, 911, 912, 913, 914, 916, 918, 967]
theorem tc_Reader_sum_q2_x {g : mj_G} {l : Launch} {d : Nat} {T0 : tm_H} {M0 : mj_M} {n0 x9 : Nat} {o0 : Nat} (h_o0 : T0 o0 = some (0, 9, 0)) {p : Int32} (hO : tm_at M0 o0 9 16 (.int p)) (hp : 2 ≤ p.toInt)  (hp2 : p.toInt ≤ 2) {pb : Nat → Int} {pn : Nat} {pa : Int} {ps : p_S} (yC : qC M0 o0 pb pn pa) (yD : qS M0 o0 pb pn ps) (yw : ps.1 = 0) (I0 : tm_I tm_FT (tm_in w_Reader_sum_q2_x) x9 T0 M0 n0 T0 M0 n0) : mj_Met g l kY_Reader_sum (d + 10) [.ref o0] M0 n0 0 0 (tm_Q tm_FT (tm_in w_Reader_sum_q2_x) x9 T0 M0 n0 (fun r _ M => ∃ v : Int32, r = some (.int v) ∧ 0 ≤ v.toInt ∧ v.toInt ≤ 1 ∧ (v.toInt = 1 → tm_at M o0 9 16 (.int p)) ∧ (qS M o0 pb pn (p_sum pb pn pa (p_op pb pn pa 2) ps)) ∧ (v.toInt = 1 ∧ (p_sum pb pn pa (p_op pb pn pa 2) ps).1 = 0 ∨ v.toInt = 0 ∧ (p_sum pb pn pa (p_op pb pn pa 2) ps).1 ≠ 0))) := tg_Reader_sum (E := 3) (r7 := 1) (K := 2) (K1 := 3) (by decide) @tc_Reader_sum_q1_x @tc_Reader_condition_q1_x h_o0 hO hp hp2 yC yD yw I0
def w_Reader_condition_q2_x : List Nat := [901, 902, 909, 910, 911, 912, 913, 914, 916, 918, 967]
theorem tc_Reader_condition_q2_x {g : mj_G} {l : Launch} {d : Nat} {T0 : tm_H} {M0 : mj_M} {n0 x9 : Nat} {o0 : Nat} (h_o0 : T0 o0 = some (0, 9, 0)) {p : Int32} (hO : tm_at M0 o0 9 16 (.int p)) (hp : 2 ≤ p.toInt)  (hp2 : p.toInt ≤ 2) {pb : Nat → Int} {pn : Nat} {pa : Int} {ps : p_S} (yC : qC M0 o0 pb pn pa) (yD : qS M0 o0 pb pn ps) (yw : ps.1 = 0) (I0 : tm_I tm_FT (tm_in w_Reader_condition_q2_x) x9 T0 M0 n0 T0 M0 n0) : mj_Met g l kY_Reader_condition (d + 13) [.ref o0] M0 n0 0 0 (tm_Q tm_FT (tm_in w_Reader_condition_q2_x) x9 T0 M0 n0 (fun r _ M => ∃ v : Int32, r = some (.int v) ∧ 0 ≤ v.toInt ∧ v.toInt ≤ 1 ∧ (v.toInt = 1 → tm_at M o0 9 16 (.int p)) ∧ (qS M o0 pb pn (p_con pb pn pa 2 (p_oc pb pn pa 2) ps)) ∧ (v.toInt = 1 ∧ (p_con pb pn pa 2 (p_oc pb pn pa 2) ps).1 = 0 ∨ v.toInt = 0 ∧ (p_con pb pn pa 2 (p_oc pb pn pa 2) ps).1 ≠ 0))) := tg_Reader_condition (E := 3) (r7 := 1) (K := 2) (K1 := 3) (by decide) @tc_Reader_sum_q1_x @tc_Reader_condition_q1_x h_o0 hO hp hp2 yC yD yw I0
def w_Reader_sum_q3_x : List Nat := [901, 902, 909, 910, 911, 912, 913, 914, 916, 918, 967]
theorem tc_Reader_sum_q3_x {g : mj_G} {l : Launch} {d : Nat} {T0 : tm_H} {M0 : mj_M} {n0 x9 : Nat} {o0 : Nat} (h_o0 : T0 o0 = some (0, 9, 0)) {p : Int32} (hO : tm_at M0 o0 9 16 (.int p)) (hp : 1 ≤ p.toInt)  (hp2 : p.toInt ≤ 1) {pb : Nat → Int} {pn : Nat} {pa : Int} {ps : p_S} (yC : qC M0 o0 pb pn pa) (yD : qS M0 o0 pb pn ps) (yw : ps.1 = 0) (I0 : tm_I tm_FT (tm_in w_Reader_sum_q3_x) x9 T0 M0 n0 T0 M0 n0) : mj_Met g l kY_Reader_sum (d + 13) [.ref o0] M0 n0 0 0 (tm_Q tm_FT (tm_in w_Reader_sum_q3_x) x9 T0 M0 n0 (fun r _ M => ∃ v : Int32, r = some (.int v) ∧ 0 ≤ v.toInt ∧ v.toInt ≤ 1 ∧ (v.toInt = 1 → tm_at M o0 9 16 (.int p)) ∧ (qS M o0 pb pn (p_sum pb pn pa (p_op pb pn pa 3) ps)) ∧ (v.toInt = 1 ∧ (p_sum pb pn pa (p_op pb pn pa 3) ps).1 = 0 ∨ v.toInt = 0 ∧ (p_sum pb pn pa (p_op pb pn pa 3) ps).1 ≠ 0))) := tg_Reader_sum (E := 6) (r7 := 2) (K := 1) (K1 := 2) (by decide) @tc_Reader_sum_q2_x @tc_Reader_condition_q2_x h_o0 hO hp hp2 yC yD yw I0
def w_Reader_condition_q3_x : List Nat := [901, 902, 909, 910, 911, 912, 913, 914, 916, 918, 967]
theorem tc_Reader_condition_q3_x {g : mj_G} {l : Launch} {d : Nat} {T0 : tm_H} {M0 : mj_M} {n0 x9 : Nat} {o0 : Nat} (h_o0 : T0 o0 = some (0, 9, 0)) {p : Int32} (hO : tm_at M0 o0 9 16 (.int p)) (hp : 1 ≤ p.toInt)  (hp2 : p.toInt ≤ 1) {pb : Nat → Int} {pn : Nat} {pa : Int} {ps : p_S} (yC : qC M0 o0 pb pn pa) (yD : qS M0 o0 pb pn ps) (yw : ps.1 = 0) (I0 : tm_I tm_FT (tm_in w_Reader_condition_q3_x) x9 T0 M0 n0 T0 M0 n0) : mj_Met g l kY_Reader_condition (d + 16) [.ref o0] M0 n0 0 0 (tm_Q tm_FT (tm_in w_Reader_condition_q3_x) x9 T0 M0 n0 (fun r _ M => ∃ v : Int32, r = some (.int v) ∧ 0 ≤ v.toInt ∧ v.toInt ≤ 1 ∧ (v.toInt = 1 → tm_at M o0 9 16 (.int p)) ∧ (qS M o0 pb pn (p_con pb pn pa 3 (p_oc pb pn pa 3) ps)) ∧ (v.toInt = 1 ∧ (p_con pb pn pa 3 (p_oc pb pn pa 3) ps).1 = 0 ∨ v.toInt = 0 ∧ (p_con pb pn pa 3 (p_oc pb pn pa 3) ps).1 ≠ 0))) := tg_Reader_condition (E := 6) (r7 := 2) (K := 1) (K1 := 2) (by decide) @tc_Reader_sum_q2_x @tc_Reader_condition_q2_x h_o0 hO hp hp2 yC yD yw I0
def w_Reader_sum_q4_x : List Nat := [901, 902, 909, 910, 911, 912, 913, 914, 916, 918, 967]
theorem tc_Reader_sum_q4_x {g : mj_G} {l : Launch} {d : Nat} {T0 : tm_H} {M0 : mj_M} {n0 x9 : Nat} {o0 : Nat} (h_o0 : T0 o0 = some (0, 9, 0)) {p : Int32} (hO : tm_at M0 o0 9 16 (.int p)) (hp : 0 ≤ p.toInt)  (hp2 : p.toInt ≤ 0) {pb : Nat → Int} {pn : Nat} {pa : Int} {ps : p_S} (yC : qC M0 o0 pb pn pa) (yD : qS M0 o0 pb pn ps) (yw : ps.1 = 0) (I0 : tm_I tm_FT (tm_in w_Reader_sum_q4_x) x9 T0 M0 n0 T0 M0 n0) : mj_Met g l kY_Reader_sum (d + 16) [.ref o0] M0 n0 0 0 (tm_Q tm_FT (tm_in w_Reader_sum_q4_x) x9 T0 M0 n0 (fun r _ M => ∃ v : Int32, r = some (.int v) ∧ 0 ≤ v.toInt ∧ v.toInt ≤ 1 ∧ (v.toInt = 1 → tm_at M o0 9 16 (.int p)) ∧ (qS M o0 pb pn (p_sum pb pn pa (p_op pb pn pa 4) ps)) ∧ (v.toInt = 1 ∧ (p_sum pb pn pa (p_op pb pn pa 4) ps).1 = 0 ∨ v.toInt = 0 ∧ (p_sum pb pn pa (p_op pb pn pa 4) ps).1 ≠ 0))) := tg_Reader_sum (E := 9) (r7 := 3) (K := 0) (K1 := 1) (by decide) @tc_Reader_sum_q3_x @tc_Reader_condition_q3_x h_o0 hO hp hp2 yC yD yw I0
def w_Reader_condition_q4_x : List Nat := [901, 902, 909, 910, 911, 912, 913, 914, 916, 918, 967]
theorem tc_Reader_condition_q4_x {g : mj_G} {l : Launch} {d : Nat} {T0 : tm_H} {M0 : mj_M} {n0 x9 : Nat} {o0 : Nat} (h_o0 : T0 o0 = some (0, 9, 0)) {p : Int32} (hO : tm_at M0 o0 9 16 (.int p)) (hp : 0 ≤ p.toInt)  (hp2 : p.toInt ≤ 0) {pb : Nat → Int} {pn : Nat} {pa : Int} {ps : p_S} (yC : qC M0 o0 pb pn pa) (yD : qS M0 o0 pb pn ps) (yw : ps.1 = 0) (I0 : tm_I tm_FT (tm_in w_Reader_condition_q4_x) x9 T0 M0 n0 T0 M0 n0) : mj_Met g l kY_Reader_condition (d + 19) [.ref o0] M0 n0 0 0 (tm_Q tm_FT (tm_in w_Reader_condition_q4_x) x9 T0 M0 n0 (fun r _ M => ∃ v : Int32, r = some (.int v) ∧ 0 ≤ v.toInt ∧ v.toInt ≤ 1 ∧ (v.toInt = 1 → tm_at M o0 9 16 (.int p)) ∧ (qS M o0 pb pn (p_con pb pn pa 4 (p_oc pb pn pa 4) ps)) ∧ (v.toInt = 1 ∧ (p_con pb pn pa 4 (p_oc pb pn pa 4) ps).1 = 0 ∨ v.toInt = 0 ∧ (p_con pb pn pa 4 (p_oc pb pn pa 4) ps).1 ≠ 0))) := tg_Reader_condition (E := 9) (r7 := 3) (K := 0) (K1 := 1) (by decide) @tc_Reader_sum_q3_x @tc_Reader_condition_q3_x h_o0 hO hp hp2 yC yD yw I0
