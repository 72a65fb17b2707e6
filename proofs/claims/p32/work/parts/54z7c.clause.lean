def w_Reader_clause_q4_r : List Nat := [604, 605, 606, 901, 902, 909, 910, 911, 912, 913, 914, 916, 918, 967, 5003]
set_option maxHeartbeats 100000000 in theorem tc_Reader_clause_q4_r {g : mj_G} {l : Launch} {d : Nat} {T0 : tm_H} {M0 : mj_M} {n0 x9 : Nat} {o0 : Nat} {o1 : Nat} {x2 : Int32} (h_o0 : T0 o0 = some (0, 9, 0)) (h_o1 : T0 o1 = some (0, 6, 0)) {p : Int32} (hO : tm_at M0 o0 9 16 (.int p)) (hp : 0 ≤ p.toInt) (hp2 : p.toInt ≤ 0) {pb : Nat → Int} {pn : Nat} {pa : Int} {ps : p_S} (yC : qC M0 o0 pb pn pa) (yD : qS M0 o0 pb pn ps) (yw : ps.1 = 0) {pc9 : Nat} {pN9 : List (Nat × Nat)} {e1 : Nat} {s1 : Int32} (h_e1 : T0 e1 = some (3, 3, o1)) (yq1 : tm_at M0 o1 6 11 (.ref e1)) (yz1 : tm_at M0 e1 0 2 (.int s1)) (ys1 : s1.toInt ≤ 6) (yE : qE M0 e1 pb pN9) (yb9 : x2.toInt = (pc9 : Int)) (I0 : tm_I tm_FT (tm_in w_Reader_clause_q4_r) x9 T0 M0 n0 T0 M0 n0) : mj_Met g l kY_Reader_clause (d + 21) [.ref o0, .ref o1, .int x2] M0 n0 7 965 (tm_Q tm_FT (tm_in w_Reader_clause_q4_r) x9 T0 M0 n0 (fun r _ M => ∃ v : Int32, r = some (.int v) ∧ 0 ≤ v.toInt ∧ v.toInt ≤ 1 ∧ (v.toInt = 1 → tm_at M o0 9 16 (.int p)) ∧ (∃ s : Int32, tm_at M e1 0 2 (.int s) ∧ s.toInt ≤ 6) ∧ (∀ (a o : Nat) (w : Value), T0 a = some (3, 3, o) → o ≠ o1 → tm_at M0 a 0 2 w → tm_at M a 0 2 w) ∧ (qS M o0 pb pn ((p_cl pb pn pa (pc9, pN9, ps)).2)) ∧ (v.toInt = 1 ∧ ((p_cl pb pn pa (pc9, pN9, ps)).2).1 = 0 ∨ v.toInt = 0 ∧ ((p_cl pb pn pa (pc9, pN9, ps)).2).1 ≠ 0) ∧ (v.toInt = 1 → qE M e1 pb (p_cl pb pn pa (pc9, pN9, ps)).1))) := by
  refine mj_enter (by decide) (Nat.le_of_ble_eq_true rfl) ?_
  have hK : ∀ {T : tm_H} {M : mj_M} {n : Nat}, tm_I tm_FT (tm_in w_Reader_clause_q4_r) x9 T0 M0 n0 T M n → qC M o0 pb pn pa := fun I => yC.keep I0.1 I h_o0 (qW_of (by decide +kernel))
  obtain ⟨v1, v2, v3, v4, v5, v6, v7, q8, q9, q10, q11, q12, q13, q14, h15, h16, h17⟩ := yD
  replace h16 := Im.i h16
  replace h17 := Im.i h17
  obtain ⟨_, _, _, _, zz1⟩ := tm_lsn I0 h_e1 yz1
  have yp1 := zz1.2.1
  have yl1 := yE.k yz1
  have K0L : ∀ (a o : Nat) (w : Value), T0 a = some (3, 3, o) → o ≠ o1 → tm_at M0 a 0 2 w → tm_at M0 a 0 2 w := fun a o w h hx q => q
  refine mv_aload_n d_Reader_clause_0 rfl rfl ?_
  refine mv_bipush (v := 26) d_Reader_clause_1 (by decide) ?_
  obtain ⟨_, b18, -⟩ := I0.1 _ _ h_o0
  refine mv_callV (kc1 := 0) (ks1 := 0) (kc' := 7) (ks' := 965) (As := [.int 26]) (st9 := [.int 26, .ref o0]) d_Reader_clause_3 lV_Reader_52 b18 rfl (mj_enter (by decide) (Nat.le_of_ble_eq_true rfl) ?_) rfl (Nat.le_of_ble_eq_true rfl) (Nat.le_of_ble_eq_true rfl) (Nat.le_of_ble_eq_true rfl) (hst := rfl) (fun _ _ _ h => h)
  refine mv_aload_n d_Reader_isWord_0 rfl rfl ?_
  refine tr_getK (k := 10) q11 d_Reader_isWord_1 f_Reader_41_9 ?_
  refine mv_iconst (v := 1) d_Reader_isWord_4 (by decide) ?_
  have := mz_hi v4
  refine mv_icmp_neZ (tgt := 20) (a := v4.toInt) (b := 1) d_Reader_isWord_5 (by decide) rfl (by decide) (fun b19 => ?_) (fun b19 => ?_)
  · refine mv_iconst (v := 0) d_Reader_isWord_20 (by decide) ?_
    refine mv_iret d_Reader_isWord_21 rfl (by decide) ?_
    refine mv_istore_n (lv' := [(3, .int 0), (0, .ref o0), (1, .ref o1), (2, .int x2)]) d_Reader_clause_6 rfl (by decide) rfl ?_
    refine mv_aload_n d_Reader_clause_7 rfl rfl ?_
    refine mv_bipush (v := 24) d_Reader_clause_8 (by decide) ?_
    obtain ⟨_, b20, -⟩ := I0.1 _ _ h_o0
    refine mv_callV (kc1 := 0) (ks1 := 0) (kc' := 0) (ks' := 0) (As := [.int 24]) (st9 := [.int 24, .ref o0]) d_Reader_clause_10 lV_Reader_52 b20 rfl (mj_enter (by decide) (Nat.le_of_ble_eq_true rfl) ?_) rfl (Nat.le_of_ble_eq_true rfl) (Nat.le_of_ble_eq_true rfl) (Nat.le_of_ble_eq_true rfl) (hst := rfl) (fun _ _ _ h => h)
    refine mv_aload_n d_Reader_isWord_0 rfl rfl ?_
    refine tr_getK (k := 10) q11 d_Reader_isWord_1 f_Reader_41_9 ?_
    refine mv_iconst (v := 1) d_Reader_isWord_4 (by decide) ?_
    have := mz_hi v4
    refine mv_icmp_neZ (tgt := 20) (a := v4.toInt) (b := 1) d_Reader_isWord_5 (by decide) rfl (by decide) (fun b21 => ?_) (fun b21 => absurd b21 (by omega))
    refine mv_iconst (v := 0) d_Reader_isWord_20 (by decide) ?_
    refine mv_iret d_Reader_isWord_21 rfl (by decide) ?_
    refine mv_istore (lv' := [(4, .int 0), (3, .int 0), (0, .ref o0), (1, .ref o1), (2, .int x2)]) d_Reader_clause_13 (by decide) rfl ?_
    refine mv_iload_n d_Reader_clause_15 rfl rfl ?_
    refine mv_if_ne_f (tgt := 39) d_Reader_clause_16 (by decide) (by decide) ?_
    refine mv_iload d_Reader_clause_19 rfl ?_
    refine mv_if_ne_f (tgt := 39) d_Reader_clause_21 (by decide) (by decide) ?_
    refine mv_aload_n d_Reader_clause_24 rfl rfl ?_
    refine mv_bipush (v := 25) d_Reader_clause_25 (by decide) ?_
    obtain ⟨_, b22, -⟩ := I0.1 _ _ h_o0
    refine mv_callV (kc1 := 0) (ks1 := 0) (kc' := 0) (ks' := 0) (As := [.int 25]) (st9 := [.int 25, .ref o0]) d_Reader_clause_27 lV_Reader_52 b22 rfl (mj_enter (by decide) (Nat.le_of_ble_eq_true rfl) ?_) rfl (Nat.le_of_ble_eq_true rfl) (Nat.le_of_ble_eq_true rfl) (Nat.le_of_ble_eq_true rfl) (hst := rfl) (fun _ _ _ h => h)
    refine mv_aload_n d_Reader_isWord_0 rfl rfl ?_
    refine tr_getK (k := 10) q11 d_Reader_isWord_1 f_Reader_41_9 ?_
    refine mv_iconst (v := 1) d_Reader_isWord_4 (by decide) ?_
    have := mz_hi v4
    refine mv_icmp_neZ (tgt := 20) (a := v4.toInt) (b := 1) d_Reader_isWord_5 (by decide) rfl (by decide) (fun b23 => ?_) (fun b23 => absurd b23 (by omega))
    refine mv_iconst (v := 0) d_Reader_isWord_20 (by decide) ?_
    refine mv_iret d_Reader_isWord_21 rfl (by decide) ?_
    refine mv_if_ne_f (tgt := 39) d_Reader_clause_30 (by decide) (by decide) ?_
    refine mv_aload_n d_Reader_clause_33 rfl rfl ?_
    refine mv_iconst (v := 1) d_Reader_clause_34 (by decide) ?_
    obtain ⟨_, b24, -⟩ := I0.1 _ _ h_o0
    refine mv_callV (kc1 := 0) (ks1 := 0) (kc' := 0) (ks' := 0) (As := [.int 1]) (st9 := [.int 1, .ref o0]) d_Reader_clause_35 lV_Reader_56 b24 rfl (mj_enter (by decide) (Nat.le_of_ble_eq_true rfl) ?_) rfl (Nat.le_of_ble_eq_true rfl) (Nat.le_of_ble_eq_true rfl) (Nat.le_of_ble_eq_true rfl) (hst := rfl) (fun _ _ _ h => h)
    refine mv_aload_n d_Reader_refuse_0 rfl rfl ?_
    refine mv_iload_n d_Reader_refuse_1 rfl rfl ?_
    refine tr_putKM tm_okF I0 h_o0 (k := 1) rfl ⟨_, rfl⟩ (Or.inl (by decide)) d_Reader_refuse_2 p_Reader_70_9 rfl rfl (fun M25 I26 q27 K28 K28M => ?_)
    have K29 : ∀ (a o : Nat) (w : Value), T0 a = some (3, 3, o) → o ≠ o1 → tm_at M0 a 0 2 w → tm_at M25 a 0 2 w := fun a o w h hx q => K28 _ 0 2 _ rfl (K0L a o w h hx q)
    have Q30 : qE M25 e1 pb pN9 := yE.put I0.1 (I0.up h_e1) h_o0 K28 K28M rfl rfl rfl
    refine mv_aload_n d_Reader_refuse_5 rfl rfl ?_
    refine mv_aload_n d_Reader_refuse_6 rfl rfl ?_
    refine tr_getK (k := 11) (K28 _ 9 11 _ rfl q12) d_Reader_refuse_7 f_Reader_175_9 ?_
    refine tr_putKM tm_okF I26 h_o0 (k := 2) rfl ⟨_, rfl⟩ (Or.inl (by decide)) d_Reader_refuse_10 p_Reader_11_9 rfl rfl (fun M31 I32 q33 K34 K34M => ?_)
    have K35 : ∀ (a o : Nat) (w : Value), T0 a = some (3, 3, o) → o ≠ o1 → tm_at M0 a 0 2 w → tm_at M31 a 0 2 w := fun a o w h hx q => K34 _ 0 2 _ rfl (K29 a o w h hx q)
    have Q36 : qE M31 e1 pb pN9 := Q30.put I26.1 (I26.up h_e1) h_o0 K34 K34M rfl rfl rfl
    refine mv_iconst (v := 0) d_Reader_refuse_13 (by decide) ?_
    obtain ⟨s37, e38⟩ : ∃ s9 : p_S, p_fl pb pn 1 ps = s9 := ⟨_, rfl⟩
    have h39 := q_fl e38 (by omega) (by decide)
    have h40 : (1 : Int32).toInt = s37.1 := (by have e9 : (1 : Int32).toInt = 1 := (by decide); omega)
    have h41 : Im (s37.1 ≠ 0 → v5.toInt = (s37.2.1 : Int)) := Im.i (fun _ => by have := (Im.o h17) (by omega); omega)
    have h42 : Im (s37.1 = 0 → v3.toInt = (s37.2.2 : Int) ∧ v4.toInt = p_ki pb pn s37.2.2 ∧ v5.toInt = (p_st pb pn s37.2.2 : Int) ∧ v6.toInt = (p_sp pb pn s37.2.2 : Int) ∧ v7.toInt = p_va pb pn s37.2.2 ∧ v5.toInt = -1) := Im.i (fun z9 => absurd z9 h39.2.2)
    refine mv_iret d_Reader_refuse_14 rfl (by decide) ?_
    exact mv_iret d_Reader_clause_38 rfl (by decide) ⟨_, I32, _, rfl, by decide, by decide, fun h => absurd h (by decide), ⟨_, (K34 _ 0 2 _ rfl (K28 _ 0 2 _ rfl yz1)), by omega⟩, K35, (by have := (Im.o h17) (by omega); have := yC.d ps.2.2; have := yC.kn ps.2.2; have hb : s37.1 ≠ 0 := (by omega); have z1 : ∀ c, p_sg pb pn c s37 = s37 := (fun c => p_sg_Z s37 hb); have z2 : ∀ c, p_wd pb pn c s37 = s37 := (fun c => p_wd_Z s37 hb); have z3 : ∀ op, p_sum pb pn pa op s37 = s37 := (fun op => p_sum_Z s37 hb); have z4 : ∀ r oc, p_con pb pn pa r oc s37 = s37 := (fun r oc => p_con_Z s37 hb); have z5 : p_prt pb pn s37 = s37 := p_prt_Z s37 hb; have eC := p_cl_1 (b := pb) (n := pn) (na := pa) (c := pc9) (N := pN9) (s := ps) yw (by omega) (by omega) (by omega); have eT : (p_cl pb pn pa (pc9, pN9, ps)).2 = s37 := (congrArg Prod.snd eC).trans (by show _ = _; (try dsimp only); first | (simp only [e38, z1, z2, z3, z4, z5]; done) | rfl); rw [eT]; exact ⟨⟨_, _, _, _, _, _, _, (K34 _ 9 1 _ rfl q27), q33, (K34 _ 9 9 _ rfl (K28 _ 9 9 _ rfl q10)), (K34 _ 9 10 _ rfl (K28 _ 9 10 _ rfl q11)), (K34 _ 9 11 _ rfl (K28 _ 9 11 _ rfl q12)), (K34 _ 9 12 _ rfl (K28 _ 9 12 _ rfl q13)), (K34 _ 9 13 _ rfl (K28 _ 9 13 _ rfl q14)), h40, Im.o h41, Im.o h42⟩, (Or.inr ⟨by first | decide | omega, by omega⟩), (fun h => absurd h (by decide))⟩)⟩
  · refine mv_aload_n d_Reader_isWord_8 rfl rfl ?_
    refine tr_getK (k := 13) q14 d_Reader_isWord_9 f_Reader_241_9 ?_
    refine mv_iload_n d_Reader_isWord_12 rfl rfl ?_
    have := mz_hi v7
    refine mv_icmp_neZ (tgt := 20) (a := v7.toInt) (b := 26) d_Reader_isWord_13 (by decide) rfl (by decide) (fun b43 => ?_) (fun b43 => ?_)
    · refine mv_iconst (v := 0) d_Reader_isWord_20 (by decide) ?_
      refine mv_iret d_Reader_isWord_21 rfl (by decide) ?_
      refine mv_istore_n (lv' := [(3, .int 0), (0, .ref o0), (1, .ref o1), (2, .int x2)]) d_Reader_clause_6 rfl (by decide) rfl ?_
      refine mv_aload_n d_Reader_clause_7 rfl rfl ?_
      refine mv_bipush (v := 24) d_Reader_clause_8 (by decide) ?_
      obtain ⟨_, b44, -⟩ := I0.1 _ _ h_o0
      refine mv_callV (kc1 := 0) (ks1 := 0) (kc' := 0) (ks' := 0) (As := [.int 24]) (st9 := [.int 24, .ref o0]) d_Reader_clause_10 lV_Reader_52 b44 rfl (mj_enter (by decide) (Nat.le_of_ble_eq_true rfl) ?_) rfl (Nat.le_of_ble_eq_true rfl) (Nat.le_of_ble_eq_true rfl) (Nat.le_of_ble_eq_true rfl) (hst := rfl) (fun _ _ _ h => h)
      refine mv_aload_n d_Reader_isWord_0 rfl rfl ?_
      refine tr_getK (k := 10) q11 d_Reader_isWord_1 f_Reader_41_9 ?_
      refine mv_iconst (v := 1) d_Reader_isWord_4 (by decide) ?_
      have := mz_hi v4
      refine mv_icmp_neZ (tgt := 20) (a := v4.toInt) (b := 1) d_Reader_isWord_5 (by decide) rfl (by decide) (fun b45 => absurd b45 (by omega)) (fun b45 => ?_)
      refine mv_aload_n d_Reader_isWord_8 rfl rfl ?_
      refine tr_getK (k := 13) q14 d_Reader_isWord_9 f_Reader_241_9 ?_
      refine mv_iload_n d_Reader_isWord_12 rfl rfl ?_
      have := mz_hi v7
      refine mv_icmp_neZ (tgt := 20) (a := v7.toInt) (b := 24) d_Reader_isWord_13 (by decide) rfl (by decide) (fun b46 => ?_) (fun b46 => ?_)
      · refine mv_iconst (v := 0) d_Reader_isWord_20 (by decide) ?_
        refine mv_iret d_Reader_isWord_21 rfl (by decide) ?_
        refine mv_istore (lv' := [(4, .int 0), (3, .int 0), (0, .ref o0), (1, .ref o1), (2, .int x2)]) d_Reader_clause_13 (by decide) rfl ?_
        refine mv_iload_n d_Reader_clause_15 rfl rfl ?_
        refine mv_if_ne_f (tgt := 39) d_Reader_clause_16 (by decide) (by decide) ?_
        refine mv_iload d_Reader_clause_19 rfl ?_
        refine mv_if_ne_f (tgt := 39) d_Reader_clause_21 (by decide) (by decide) ?_
        refine mv_aload_n d_Reader_clause_24 rfl rfl ?_
        refine mv_bipush (v := 25) d_Reader_clause_25 (by decide) ?_
        obtain ⟨_, b47, -⟩ := I0.1 _ _ h_o0
        refine mv_callV (kc1 := 0) (ks1 := 0) (kc' := 0) (ks' := 0) (As := [.int 25]) (st9 := [.int 25, .ref o0]) d_Reader_clause_27 lV_Reader_52 b47 rfl (mj_enter (by decide) (Nat.le_of_ble_eq_true rfl) ?_) rfl (Nat.le_of_ble_eq_true rfl) (Nat.le_of_ble_eq_true rfl) (Nat.le_of_ble_eq_true rfl) (hst := rfl) (fun _ _ _ h => h)
        refine mv_aload_n d_Reader_isWord_0 rfl rfl ?_
        refine tr_getK (k := 10) q11 d_Reader_isWord_1 f_Reader_41_9 ?_
        refine mv_iconst (v := 1) d_Reader_isWord_4 (by decide) ?_
        have := mz_hi v4
        refine mv_icmp_neZ (tgt := 20) (a := v4.toInt) (b := 1) d_Reader_isWord_5 (by decide) rfl (by decide) (fun b48 => absurd b48 (by omega)) (fun b48 => ?_)
        refine mv_aload_n d_Reader_isWord_8 rfl rfl ?_
        refine tr_getK (k := 13) q14 d_Reader_isWord_9 f_Reader_241_9 ?_
        refine mv_iload_n d_Reader_isWord_12 rfl rfl ?_
        have := mz_hi v7
        refine mv_icmp_neZ (tgt := 20) (a := v7.toInt) (b := 25) d_Reader_isWord_13 (by decide) rfl (by decide) (fun b49 => ?_) (fun b49 => ?_)
        · refine mv_iconst (v := 0) d_Reader_isWord_20 (by decide) ?_
          refine mv_iret d_Reader_isWord_21 rfl (by decide) ?_
          refine mv_if_ne_f (tgt := 39) d_Reader_clause_30 (by decide) (by decide) ?_
          refine mv_aload_n d_Reader_clause_33 rfl rfl ?_
          refine mv_iconst (v := 1) d_Reader_clause_34 (by decide) ?_
          obtain ⟨_, b50, -⟩ := I0.1 _ _ h_o0
          refine mv_callV (kc1 := 0) (ks1 := 0) (kc' := 0) (ks' := 0) (As := [.int 1]) (st9 := [.int 1, .ref o0]) d_Reader_clause_35 lV_Reader_56 b50 rfl (mj_enter (by decide) (Nat.le_of_ble_eq_true rfl) ?_) rfl (Nat.le_of_ble_eq_true rfl) (Nat.le_of_ble_eq_true rfl) (Nat.le_of_ble_eq_true rfl) (hst := rfl) (fun _ _ _ h => h)
          refine mv_aload_n d_Reader_refuse_0 rfl rfl ?_
          refine mv_iload_n d_Reader_refuse_1 rfl rfl ?_
          refine tr_putKM tm_okF I0 h_o0 (k := 1) rfl ⟨_, rfl⟩ (Or.inl (by decide)) d_Reader_refuse_2 p_Reader_70_9 rfl rfl (fun M51 I52 q53 K54 K54M => ?_)
          have K55 : ∀ (a o : Nat) (w : Value), T0 a = some (3, 3, o) → o ≠ o1 → tm_at M0 a 0 2 w → tm_at M51 a 0 2 w := fun a o w h hx q => K54 _ 0 2 _ rfl (K0L a o w h hx q)
          have Q56 : qE M51 e1 pb pN9 := yE.put I0.1 (I0.up h_e1) h_o0 K54 K54M rfl rfl rfl
          refine mv_aload_n d_Reader_refuse_5 rfl rfl ?_
          refine mv_aload_n d_Reader_refuse_6 rfl rfl ?_
          refine tr_getK (k := 11) (K54 _ 9 11 _ rfl q12) d_Reader_refuse_7 f_Reader_175_9 ?_
          refine tr_putKM tm_okF I52 h_o0 (k := 2) rfl ⟨_, rfl⟩ (Or.inl (by decide)) d_Reader_refuse_10 p_Reader_11_9 rfl rfl (fun M57 I58 q59 K60 K60M => ?_)
          have K61 : ∀ (a o : Nat) (w : Value), T0 a = some (3, 3, o) → o ≠ o1 → tm_at M0 a 0 2 w → tm_at M57 a 0 2 w := fun a o w h hx q => K60 _ 0 2 _ rfl (K55 a o w h hx q)
          have Q62 : qE M57 e1 pb pN9 := Q56.put I52.1 (I52.up h_e1) h_o0 K60 K60M rfl rfl rfl
          refine mv_iconst (v := 0) d_Reader_refuse_13 (by decide) ?_
          obtain ⟨s63, e64⟩ : ∃ s9 : p_S, p_fl pb pn 1 ps = s9 := ⟨_, rfl⟩
          have h65 := q_fl e64 (by omega) (by decide)
          have h66 : (1 : Int32).toInt = s63.1 := (by have e9 : (1 : Int32).toInt = 1 := (by decide); omega)
          have h67 : Im (s63.1 ≠ 0 → v5.toInt = (s63.2.1 : Int)) := Im.i (fun _ => by have := (Im.o h17) (by omega); omega)
          have h68 : Im (s63.1 = 0 → v3.toInt = (s63.2.2 : Int) ∧ v4.toInt = p_ki pb pn s63.2.2 ∧ v5.toInt = (p_st pb pn s63.2.2 : Int) ∧ v6.toInt = (p_sp pb pn s63.2.2 : Int) ∧ v7.toInt = p_va pb pn s63.2.2 ∧ v5.toInt = -1) := Im.i (fun z9 => absurd z9 h65.2.2)
          refine mv_iret d_Reader_refuse_14 rfl (by decide) ?_
          exact mv_iret d_Reader_clause_38 rfl (by decide) ⟨_, I58, _, rfl, by decide, by decide, fun h => absurd h (by decide), ⟨_, (K60 _ 0 2 _ rfl (K54 _ 0 2 _ rfl yz1)), by omega⟩, K61, (by have := (Im.o h17) (by omega); have := yC.d ps.2.2; have := yC.kn ps.2.2; have hb : s63.1 ≠ 0 := (by omega); have z1 : ∀ c, p_sg pb pn c s63 = s63 := (fun c => p_sg_Z s63 hb); have z2 : ∀ c, p_wd pb pn c s63 = s63 := (fun c => p_wd_Z s63 hb); have z3 : ∀ op, p_sum pb pn pa op s63 = s63 := (fun op => p_sum_Z s63 hb); have z4 : ∀ r oc, p_con pb pn pa r oc s63 = s63 := (fun r oc => p_con_Z s63 hb); have z5 : p_prt pb pn s63 = s63 := p_prt_Z s63 hb; have eC := p_cl_1 (b := pb) (n := pn) (na := pa) (c := pc9) (N := pN9) (s := ps) yw (by omega) (by omega) (by omega); have eT : (p_cl pb pn pa (pc9, pN9, ps)).2 = s63 := (congrArg Prod.snd eC).trans (by show _ = _; (try dsimp only); first | (simp only [e64, z1, z2, z3, z4, z5]; done) | rfl); rw [eT]; exact ⟨⟨_, _, _, _, _, _, _, (K60 _ 9 1 _ rfl q53), q59, (K60 _ 9 9 _ rfl (K54 _ 9 9 _ rfl q10)), (K60 _ 9 10 _ rfl (K54 _ 9 10 _ rfl q11)), (K60 _ 9 11 _ rfl (K54 _ 9 11 _ rfl q12)), (K60 _ 9 12 _ rfl (K54 _ 9 12 _ rfl q13)), (K60 _ 9 13 _ rfl (K54 _ 9 13 _ rfl q14)), h66, Im.o h67, Im.o h68⟩, (Or.inr ⟨by first | decide | omega, by omega⟩), (fun h => absurd h (by decide))⟩)⟩
        · refine mv_iconst (v := 1) d_Reader_isWord_16 (by decide) ?_
          refine mv_goto (tgt := 21) d_Reader_isWord_17 (by decide) ?_
          refine mv_iret d_Reader_isWord_21 rfl (by decide) ?_
          refine mv_if_ne_t (tgt := 39) d_Reader_clause_30 (by decide) (by decide) ?_
          refine mv_iload_n d_Reader_clause_39 rfl rfl ?_
          refine mv_bipush (v := 12) d_Reader_clause_40 (by decide) ?_
          have := mz_hi x2
          refine mv_icmp_geZ (tgt := 61) (a := x2.toInt) (b := 12) d_Reader_clause_42 (by decide) rfl (by decide) (fun b69 => ?_) (fun b69 => ?_)
          · refine mv_aload_n d_Reader_clause_61 rfl rfl ?_
            refine mv_iconst (v := 4) d_Reader_clause_62 (by decide) ?_
            obtain ⟨_, b70, -⟩ := I0.1 _ _ h_o0
            refine mv_callV (kc1 := 0) (ks1 := 0) (kc' := 0) (ks' := 0) (As := [.int 4]) (st9 := [.int 4, .ref o0]) d_Reader_clause_63 lV_Reader_56 b70 rfl (mj_enter (by decide) (Nat.le_of_ble_eq_true rfl) ?_) rfl (Nat.le_of_ble_eq_true rfl) (Nat.le_of_ble_eq_true rfl) (Nat.le_of_ble_eq_true rfl) (hst := rfl) (fun _ _ _ h => h)
            refine mv_aload_n d_Reader_refuse_0 rfl rfl ?_
            refine mv_iload_n d_Reader_refuse_1 rfl rfl ?_
            refine tr_putKM tm_okF I0 h_o0 (k := 1) rfl ⟨_, rfl⟩ (Or.inl (by decide)) d_Reader_refuse_2 p_Reader_70_9 rfl rfl (fun M71 I72 q73 K74 K74M => ?_)
            have K75 : ∀ (a o : Nat) (w : Value), T0 a = some (3, 3, o) → o ≠ o1 → tm_at M0 a 0 2 w → tm_at M71 a 0 2 w := fun a o w h hx q => K74 _ 0 2 _ rfl (K0L a o w h hx q)
            have Q76 : qE M71 e1 pb pN9 := yE.put I0.1 (I0.up h_e1) h_o0 K74 K74M rfl rfl rfl
            refine mv_aload_n d_Reader_refuse_5 rfl rfl ?_
            refine mv_aload_n d_Reader_refuse_6 rfl rfl ?_
            refine tr_getK (k := 11) (K74 _ 9 11 _ rfl q12) d_Reader_refuse_7 f_Reader_175_9 ?_
            refine tr_putKM tm_okF I72 h_o0 (k := 2) rfl ⟨_, rfl⟩ (Or.inl (by decide)) d_Reader_refuse_10 p_Reader_11_9 rfl rfl (fun M77 I78 q79 K80 K80M => ?_)
            have K81 : ∀ (a o : Nat) (w : Value), T0 a = some (3, 3, o) → o ≠ o1 → tm_at M0 a 0 2 w → tm_at M77 a 0 2 w := fun a o w h hx q => K80 _ 0 2 _ rfl (K75 a o w h hx q)
            have Q82 : qE M77 e1 pb pN9 := Q76.put I72.1 (I72.up h_e1) h_o0 K80 K80M rfl rfl rfl
            refine mv_iconst (v := 0) d_Reader_refuse_13 (by decide) ?_
            obtain ⟨s83, e84⟩ : ∃ s9 : p_S, p_fl pb pn 4 ps = s9 := ⟨_, rfl⟩
            have h85 := q_fl e84 (by omega) (by decide)
            have h86 : (4 : Int32).toInt = s83.1 := (by have e9 : (4 : Int32).toInt = 4 := (by decide); omega)
            have h87 : Im (s83.1 ≠ 0 → v5.toInt = (s83.2.1 : Int)) := Im.i (fun _ => by have := (Im.o h17) (by omega); omega)
            have h88 : Im (s83.1 = 0 → v3.toInt = (s83.2.2 : Int) ∧ v4.toInt = p_ki pb pn s83.2.2 ∧ v5.toInt = (p_st pb pn s83.2.2 : Int) ∧ v6.toInt = (p_sp pb pn s83.2.2 : Int) ∧ v7.toInt = p_va pb pn s83.2.2 ∧ v5.toInt = -1) := Im.i (fun z9 => absurd z9 h85.2.2)
            refine mv_iret d_Reader_refuse_14 rfl (by decide) ?_
            exact mv_iret d_Reader_clause_66 rfl (by decide) ⟨_, I78, _, rfl, by decide, by decide, fun h => absurd h (by decide), ⟨_, (K80 _ 0 2 _ rfl (K74 _ 0 2 _ rfl yz1)), by omega⟩, K81, (by have := (Im.o h17) (by omega); have := yC.d ps.2.2; have := yC.kn ps.2.2; have hb : s83.1 ≠ 0 := (by omega); have z1 : ∀ c, p_sg pb pn c s83 = s83 := (fun c => p_sg_Z s83 hb); have z2 : ∀ c, p_wd pb pn c s83 = s83 := (fun c => p_wd_Z s83 hb); have z3 : ∀ op, p_sum pb pn pa op s83 = s83 := (fun op => p_sum_Z s83 hb); have z4 : ∀ r oc, p_con pb pn pa r oc s83 = s83 := (fun r oc => p_con_Z s83 hb); have z5 : p_prt pb pn s83 = s83 := p_prt_Z s83 hb; have eC := p_cl_4 (b := pb) (n := pn) (na := pa) (c := pc9) (N := pN9) (s := ps) yw (by omega) (by omega); have eT : (p_cl pb pn pa (pc9, pN9, ps)).2 = s83 := (congrArg Prod.snd eC).trans (by show _ = _; (try dsimp only); first | (simp only [e84, z1, z2, z3, z4, z5]; done) | rfl); rw [eT]; exact ⟨⟨_, _, _, _, _, _, _, (K80 _ 9 1 _ rfl q73), q79, (K80 _ 9 9 _ rfl (K74 _ 9 9 _ rfl q10)), (K80 _ 9 10 _ rfl (K74 _ 9 10 _ rfl q11)), (K80 _ 9 11 _ rfl (K74 _ 9 11 _ rfl q12)), (K80 _ 9 12 _ rfl (K74 _ 9 12 _ rfl q13)), (K80 _ 9 13 _ rfl (K74 _ 9 13 _ rfl q14)), h86, Im.o h87, Im.o h88⟩, (Or.inr ⟨by first | decide | omega, by omega⟩), (fun h => absurd h (by decide))⟩)⟩
          · refine mv_iload_n d_Reader_clause_45 rfl rfl ?_
            refine mv_if_eq_t (tgt := 67) d_Reader_clause_46 (by decide) (by decide) ?_
            refine mv_iload_n d_Reader_clause_67 rfl rfl ?_
            refine mv_if_eq_t (tgt := 105) d_Reader_clause_68 (by decide) (by decide) ?_
            refine mv_iload d_Reader_clause_105 rfl ?_
            refine mv_if_eq_t (tgt := 121) d_Reader_clause_107 (by decide) (by decide) ?_
            refine mv_aload_n d_Reader_clause_121 rfl rfl ?_
            refine mv_aload_n d_Reader_clause_122 rfl rfl ?_
            obtain ⟨_, b95, -⟩ := I0.1 _ _ h_o0
            refine mv_callV (kc' := 0) (ks' := 0) (As := [.ref o1]) (st9 := [.ref o1, .ref o0]) d_Reader_clause_123 lV_Reader_160 b95 rfl (tc_Reader_trustClause_x (d := (d + 18)) (x9 := x9) (o0 := o0) (o1 := o1) h_o0 h_o1 (hK I0) ⟨_, _, _, _, _, _, _, q8, q9, q10, q11, q12, q13, q14, h15, Im.o h16, Im.o h17⟩ (by omega) (by have := (Im.o h17) (by omega); have := yC.d ps.2.2; have := yC.kn ps.2.2; show p_ki pb pn ps.2.2 ≠ 0; omega) I0.start) rfl (Nat.le_of_ble_eq_true rfl) (Nat.le_of_ble_eq_true rfl) (Nat.le_of_ble_eq_true rfl) (hst := rfl) (fun b89r M90 n91 b89 => ?_)
            obtain ⟨T92, J93, v96, rfl, b97, b98, f99, f100⟩ := b89
            have I94 := I0.call J93 (tm_sub (by decide)) (Or.inl rfl)
            have t101 := J93.up h_o0
            have t102 := J93.up h_o1
            have K103 : ∀ (a o : Nat) (w : Value), T0 a = some (3, 3, o) → o ≠ o1 → tm_at M0 a 0 2 w → tm_at M90 a 0 2 w := fun a o w h hx q => J93.keepL (I0.up h) (by decide) (K0L a o w h hx q)
            have Q104 : qE M90 e1 pb pN9 := yE.keep I0.1 J93 (I0.up h_e1) (by decide) (by decide) (by decide)
            have q105 := J93.keep h_o0 (by decide) hO
            have q106 := J93.keep h_o1 (by decide) yq1
            have t107 := J93.up h_e1
            have q108 := J93.keepL h_e1 (by decide) yz1
            obtain ⟨s109, e110⟩ : ∃ s9 : p_S, p_tru pb pn (p_nx ps) = s9 := ⟨_, rfl⟩
            rw [e110] at f99 f100
            obtain ⟨v111, v112, v113, v114, v115, v116, v117, q118, q119, q120, q121, q122, q123, q124, h125, h126, h127⟩ := f99
            replace h126 := Im.i h126
            replace h127 := Im.i h127
            have := mz_hi v96
            refine mv_if_neZ (tgt := 131) (a := v96.toInt) d_Reader_clause_126 (by decide) rfl (fun b128 => ?_) (fun b128 => ?_)
            · refine mv_aload_n d_Reader_clause_131 rfl rfl ?_
              refine mv_bipush (v := 59) d_Reader_clause_132 (by decide) ?_
              obtain ⟨_, b135, -⟩ := I94.1 _ _ t101
              refine mv_callV (kc' := 0) (ks' := 0) (As := [.int 59]) (st9 := [.int 59, .ref o0]) d_Reader_clause_134 lV_Reader_63 b135 rfl (tc_Reader_sign_x (d := (d + 19)) (x9 := x9) (o0 := o0) (x1 := 59) t101 (hK I94) ⟨_, _, _, _, _, _, _, q118, q119, q120, q121, q122, q123, q124, h125, Im.o h126, Im.o h127⟩ (by omega) (by first | omega | decide) I94.start) rfl (Nat.le_of_ble_eq_true rfl) (Nat.le_of_ble_eq_true rfl) (Nat.le_of_ble_eq_true rfl) (hst := rfl) (fun b129r M130 n131 b129 => ?_)
              obtain ⟨T132, J133, v136, rfl, b137, b138, f139, f140⟩ := b129
              have I134 := I94.call J133 (tm_sub (by decide)) (Or.inl rfl)
              have t141 := J133.up t101
              have t142 := J133.up t102
              have K143 : ∀ (a o : Nat) (w : Value), T0 a = some (3, 3, o) → o ≠ o1 → tm_at M0 a 0 2 w → tm_at M130 a 0 2 w := fun a o w h hx q => J133.keepL (I94.up h) (by decide) (K103 a o w h hx q)
              have Q144 : qE M130 e1 pb pN9 := Q104.keep I94.1 J133 (I94.up h_e1) (by decide) (by decide) (by decide)
              have q145 := J133.keep t101 (by decide) q105
              have q146 := J133.keep t102 (by decide) q106
              have t147 := J133.up t107
              have q148 := J133.keepL t107 (by decide) q108
              rw [show (59 : Int32).toInt = 59 from by decide] at f139 f140
              obtain ⟨s149, e150⟩ : ∃ s9 : p_S, p_sg pb pn 59 s109 = s9 := ⟨_, rfl⟩
              rw [e150] at f139 f140
              obtain ⟨v151, v152, v153, v154, v155, v156, v157, q158, q159, q160, q161, q162, q163, q164, h165, h166, h167⟩ := f139
              replace h166 := Im.i h166
              replace h167 := Im.i h167
              exact mv_iret d_Reader_clause_137 rfl (mz_nb (by omega) (by omega)) ⟨_, I134, _, rfl, by omega, by omega, fun _ => q145, ⟨_, q148, by omega⟩, K143, (by have := (Im.o h17) (by omega); have := yC.d ps.2.2; have := yC.kn ps.2.2; have eC := p_cl_t (b := pb) (n := pn) (na := pa) (c := pc9) (N := pN9) (s := ps) yw (by omega) (by omega); have eT : (p_cl pb pn pa (pc9, pN9, ps)).2 = s149 := (congrArg Prod.snd eC).trans (by show _ = _; (try dsimp only); first | (simp only [e110, e150]; done) | rfl); rw [eT]; exact ⟨⟨_, _, _, _, _, _, _, q158, q159, q160, q161, q162, q163, q164, h165, Im.o h166, Im.o h167⟩, (by omega), (fun _ => by have eN : (p_cl pb pn pa (pc9, pN9, ps)).1 = pN9 := (congrArg Prod.fst eC).trans rfl; rw [eN]; exact Q144)⟩)⟩
            · refine mv_iconst (v := 0) d_Reader_clause_129 (by decide) ?_
              exact mv_iret d_Reader_clause_130 rfl (by decide) ⟨_, I94, _, rfl, by decide, by decide, fun h => absurd h (by decide), ⟨_, q108, by omega⟩, K103, (by have := (Im.o h17) (by omega); have := yC.d ps.2.2; have := yC.kn ps.2.2; have hb : s109.1 ≠ 0 := (by omega); have z1 : ∀ c, p_sg pb pn c s109 = s109 := (fun c => p_sg_Z s109 hb); have z2 : ∀ c, p_wd pb pn c s109 = s109 := (fun c => p_wd_Z s109 hb); have z3 : ∀ op, p_sum pb pn pa op s109 = s109 := (fun op => p_sum_Z s109 hb); have z4 : ∀ r oc, p_con pb pn pa r oc s109 = s109 := (fun r oc => p_con_Z s109 hb); have z5 : p_prt pb pn s109 = s109 := p_prt_Z s109 hb; have eC := p_cl_t (b := pb) (n := pn) (na := pa) (c := pc9) (N := pN9) (s := ps) yw (by omega) (by omega); have eT : (p_cl pb pn pa (pc9, pN9, ps)).2 = s109 := (congrArg Prod.snd eC).trans (by show _ = _; (try dsimp only); first | (simp only [e110, z1, z2, z3, z4, z5]; done) | rfl); rw [eT]; exact ⟨⟨_, _, _, _, _, _, _, q118, q119, q120, q121, q122, q123, q124, h125, Im.o h126, Im.o h127⟩, (Or.inr ⟨by first | decide | omega, by omega⟩), (fun h => absurd h (by decide))⟩)⟩
      · refine mv_iconst (v := 1) d_Reader_isWord_16 (by decide) ?_
        refine mv_goto (tgt := 21) d_Reader_isWord_17 (by decide) ?_
        refine mv_iret d_Reader_isWord_21 rfl (by decide) ?_
        refine mv_istore (lv' := [(4, .int 1), (3, .int 0), (0, .ref o0), (1, .ref o1), (2, .int x2)]) d_Reader_clause_13 (by decide) rfl ?_
        refine mv_iload_n d_Reader_clause_15 rfl rfl ?_
        refine mv_if_ne_f (tgt := 39) d_Reader_clause_16 (by decide) (by decide) ?_
        refine mv_iload d_Reader_clause_19 rfl ?_
        refine mv_if_ne_t (tgt := 39) d_Reader_clause_21 (by decide) (by decide) ?_
        refine mv_iload_n d_Reader_clause_39 rfl rfl ?_
        refine mv_bipush (v := 12) d_Reader_clause_40 (by decide) ?_
        have := mz_hi x2
        refine mv_icmp_geZ (tgt := 61) (a := x2.toInt) (b := 12) d_Reader_clause_42 (by decide) rfl (by decide) (fun b168 => ?_) (fun b168 => ?_)
        · refine mv_aload_n d_Reader_clause_61 rfl rfl ?_
          refine mv_iconst (v := 4) d_Reader_clause_62 (by decide) ?_
          obtain ⟨_, b169, -⟩ := I0.1 _ _ h_o0
          refine mv_callV (kc1 := 0) (ks1 := 0) (kc' := 0) (ks' := 0) (As := [.int 4]) (st9 := [.int 4, .ref o0]) d_Reader_clause_63 lV_Reader_56 b169 rfl (mj_enter (by decide) (Nat.le_of_ble_eq_true rfl) ?_) rfl (Nat.le_of_ble_eq_true rfl) (Nat.le_of_ble_eq_true rfl) (Nat.le_of_ble_eq_true rfl) (hst := rfl) (fun _ _ _ h => h)
          refine mv_aload_n d_Reader_refuse_0 rfl rfl ?_
          refine mv_iload_n d_Reader_refuse_1 rfl rfl ?_
          refine tr_putKM tm_okF I0 h_o0 (k := 1) rfl ⟨_, rfl⟩ (Or.inl (by decide)) d_Reader_refuse_2 p_Reader_70_9 rfl rfl (fun M170 I171 q172 K173 K173M => ?_)
          have K174 : ∀ (a o : Nat) (w : Value), T0 a = some (3, 3, o) → o ≠ o1 → tm_at M0 a 0 2 w → tm_at M170 a 0 2 w := fun a o w h hx q => K173 _ 0 2 _ rfl (K0L a o w h hx q)
          have Q175 : qE M170 e1 pb pN9 := yE.put I0.1 (I0.up h_e1) h_o0 K173 K173M rfl rfl rfl
          refine mv_aload_n d_Reader_refuse_5 rfl rfl ?_
          refine mv_aload_n d_Reader_refuse_6 rfl rfl ?_
          refine tr_getK (k := 11) (K173 _ 9 11 _ rfl q12) d_Reader_refuse_7 f_Reader_175_9 ?_
          refine tr_putKM tm_okF I171 h_o0 (k := 2) rfl ⟨_, rfl⟩ (Or.inl (by decide)) d_Reader_refuse_10 p_Reader_11_9 rfl rfl (fun M176 I177 q178 K179 K179M => ?_)
          have K180 : ∀ (a o : Nat) (w : Value), T0 a = some (3, 3, o) → o ≠ o1 → tm_at M0 a 0 2 w → tm_at M176 a 0 2 w := fun a o w h hx q => K179 _ 0 2 _ rfl (K174 a o w h hx q)
          have Q181 : qE M176 e1 pb pN9 := Q175.put I171.1 (I171.up h_e1) h_o0 K179 K179M rfl rfl rfl
          refine mv_iconst (v := 0) d_Reader_refuse_13 (by decide) ?_
          obtain ⟨s182, e183⟩ : ∃ s9 : p_S, p_fl pb pn 4 ps = s9 := ⟨_, rfl⟩
          have h184 := q_fl e183 (by omega) (by decide)
          have h185 : (4 : Int32).toInt = s182.1 := (by have e9 : (4 : Int32).toInt = 4 := (by decide); omega)
          have h186 : Im (s182.1 ≠ 0 → v5.toInt = (s182.2.1 : Int)) := Im.i (fun _ => by have := (Im.o h17) (by omega); omega)
          have h187 : Im (s182.1 = 0 → v3.toInt = (s182.2.2 : Int) ∧ v4.toInt = p_ki pb pn s182.2.2 ∧ v5.toInt = (p_st pb pn s182.2.2 : Int) ∧ v6.toInt = (p_sp pb pn s182.2.2 : Int) ∧ v7.toInt = p_va pb pn s182.2.2 ∧ v5.toInt = -1) := Im.i (fun z9 => absurd z9 h184.2.2)
          refine mv_iret d_Reader_refuse_14 rfl (by decide) ?_
          exact mv_iret d_Reader_clause_66 rfl (by decide) ⟨_, I177, _, rfl, by decide, by decide, fun h => absurd h (by decide), ⟨_, (K179 _ 0 2 _ rfl (K173 _ 0 2 _ rfl yz1)), by omega⟩, K180, (by have := (Im.o h17) (by omega); have := yC.d ps.2.2; have := yC.kn ps.2.2; have hb : s182.1 ≠ 0 := (by omega); have z1 : ∀ c, p_sg pb pn c s182 = s182 := (fun c => p_sg_Z s182 hb); have z2 : ∀ c, p_wd pb pn c s182 = s182 := (fun c => p_wd_Z s182 hb); have z3 : ∀ op, p_sum pb pn pa op s182 = s182 := (fun op => p_sum_Z s182 hb); have z4 : ∀ r oc, p_con pb pn pa r oc s182 = s182 := (fun r oc => p_con_Z s182 hb); have z5 : p_prt pb pn s182 = s182 := p_prt_Z s182 hb; have eC := p_cl_4 (b := pb) (n := pn) (na := pa) (c := pc9) (N := pN9) (s := ps) yw (by omega) (by omega); have eT : (p_cl pb pn pa (pc9, pN9, ps)).2 = s182 := (congrArg Prod.snd eC).trans (by show _ = _; (try dsimp only); first | (simp only [e183, z1, z2, z3, z4, z5]; done) | rfl); rw [eT]; exact ⟨⟨_, _, _, _, _, _, _, (K179 _ 9 1 _ rfl q172), q178, (K179 _ 9 9 _ rfl (K173 _ 9 9 _ rfl q10)), (K179 _ 9 10 _ rfl (K173 _ 9 10 _ rfl q11)), (K179 _ 9 11 _ rfl (K173 _ 9 11 _ rfl q12)), (K179 _ 9 12 _ rfl (K173 _ 9 12 _ rfl q13)), (K179 _ 9 13 _ rfl (K173 _ 9 13 _ rfl q14)), h185, Im.o h186, Im.o h187⟩, (Or.inr ⟨by first | decide | omega, by omega⟩), (fun h => absurd h (by decide))⟩)⟩
        · refine mv_iload_n d_Reader_clause_45 rfl rfl ?_
          refine mv_if_eq_t (tgt := 67) d_Reader_clause_46 (by decide) (by decide) ?_
          refine mv_iload_n d_Reader_clause_67 rfl rfl ?_
          refine mv_if_eq_t (tgt := 105) d_Reader_clause_68 (by decide) (by decide) ?_
          refine mv_iload d_Reader_clause_105 rfl ?_
          refine mv_if_eq_f (tgt := 121) d_Reader_clause_107 (by decide) (by decide) ?_
          refine mv_aload_n d_Reader_clause_110 rfl rfl ?_
          refine mv_aload_n d_Reader_clause_111 rfl rfl ?_
          obtain ⟨_, b194, -⟩ := I0.1 _ _ h_o0
          refine mv_callV (kc' := 0) (ks' := 0) (As := [.ref o1]) (st9 := [.ref o1, .ref o0]) d_Reader_clause_112 lV_Reader_156 b194 rfl (tc_Reader_markClause_x (d := (d + 18)) (x9 := x9) (o0 := o0) (o1 := o1) h_o0 h_o1 (ps := ps) (hK I0) ⟨_, _, _, _, _, _, _, q8, q9, q10, q11, q12, q13, q14, h15, Im.o h16, Im.o h17⟩ (by omega) (by have := (Im.o h17) (by omega); have := yC.d ps.2.2; have := yC.kn ps.2.2; show p_ki pb pn ps.2.2 ≠ 0; omega) I0.start) rfl (Nat.le_of_ble_eq_true rfl) (Nat.le_of_ble_eq_true rfl) (Nat.le_of_ble_eq_true rfl) (hst := rfl) (fun b188r M189 n190 b188 => ?_)
          obtain ⟨T191, J192, v195, rfl, b196, b197, f198⟩ := b188
          have I193 := I0.call J192 (tm_sub (by decide)) (Or.inl rfl)
          have t199 := J192.up h_o0
          have t200 := J192.up h_o1
          have K201 : ∀ (a o : Nat) (w : Value), T0 a = some (3, 3, o) → o ≠ o1 → tm_at M0 a 0 2 w → tm_at M189 a 0 2 w := fun a o w h hx q => J192.keepL (I0.up h) (by decide) (K0L a o w h hx q)
          have Q202 : qE M189 e1 pb pN9 := yE.keep I0.1 J192 (I0.up h_e1) (by decide) (by decide) (by decide)
          have q203 := J192.keep h_o0 (by decide) hO
          have q204 := J192.keep h_o1 (by decide) yq1
          have t205 := J192.up h_e1
          have q206 := J192.keepL h_e1 (by decide) yz1
          obtain ⟨s207, f208, f209, f210, f211⟩ := f198
          replace f210 := Im.i f210
          replace f211 := Im.i f211
          obtain ⟨v212, v213, v214, v215, v216, v217, v218, q219, q220, q221, q222, q223, q224, q225, h226, h227, h228⟩ := f208
          replace h227 := Im.i h227
          replace h228 := Im.i h228
          have := mz_hi v195
          refine mv_if_eqZ (tgt := 129) (a := v195.toInt) d_Reader_clause_115 (by decide) rfl (fun b229 => ?_) (fun b229 => ?_)
          · refine mv_iconst (v := 0) d_Reader_clause_129 (by decide) ?_
            exact mv_iret d_Reader_clause_130 rfl (by decide) ⟨_, I193, _, rfl, by decide, by decide, fun h => absurd h (by decide), ⟨_, q206, by omega⟩, K201, (by have := (Im.o h17) (by omega); have := yC.d ps.2.2; have := yC.kn ps.2.2; have eK := (Im.o f211) (by omega); have hb : s207.1 ≠ 0 := (by omega); have z1 : ∀ c, p_sg pb pn c s207 = s207 := (fun c => p_sg_Z s207 hb); have z2 : ∀ c, p_wd pb pn c s207 = s207 := (fun c => p_wd_Z s207 hb); have z3 : ∀ op, p_sum pb pn pa op s207 = s207 := (fun op => p_sum_Z s207 hb); have z4 : ∀ r oc, p_con pb pn pa r oc s207 = s207 := (fun r oc => p_con_Z s207 hb); have z5 : p_prt pb pn s207 = s207 := p_prt_Z s207 hb; have eC := p_cl_m (b := pb) (n := pn) (na := pa) (c := pc9) (N := pN9) (s := ps) yw (by omega) (by omega); have eT : (p_cl pb pn pa (pc9, pN9, ps)).2 = s207 := (congrArg Prod.snd eC).trans (by show _ = _; (try dsimp only); first | (simp only [eK, z1, z2, z3, z4, z5]; done) | rfl); rw [eT]; exact ⟨⟨_, _, _, _, _, _, _, q219, q220, q221, q222, q223, q224, q225, h226, Im.o h227, Im.o h228⟩, (Or.inr ⟨by first | decide | omega, by omega⟩), (fun h => absurd h (by decide))⟩)⟩
          · refine mv_goto (tgt := 131) d_Reader_clause_118 (by decide) ?_
            refine mv_aload_n d_Reader_clause_131 rfl rfl ?_
            refine mv_bipush (v := 59) d_Reader_clause_132 (by decide) ?_
            obtain ⟨_, b236, -⟩ := I193.1 _ _ t199
            refine mv_callV (kc' := 0) (ks' := 0) (As := [.int 59]) (st9 := [.int 59, .ref o0]) d_Reader_clause_134 lV_Reader_63 b236 rfl (tc_Reader_sign_x (d := (d + 19)) (x9 := x9) (o0 := o0) (x1 := 59) t199 (hK I193) ⟨_, _, _, _, _, _, _, q219, q220, q221, q222, q223, q224, q225, h226, Im.o h227, Im.o h228⟩ (by omega) (by first | omega | decide) I193.start) rfl (Nat.le_of_ble_eq_true rfl) (Nat.le_of_ble_eq_true rfl) (Nat.le_of_ble_eq_true rfl) (hst := rfl) (fun b230r M231 n232 b230 => ?_)
            obtain ⟨T233, J234, v237, rfl, b238, b239, f240, f241⟩ := b230
            have I235 := I193.call J234 (tm_sub (by decide)) (Or.inl rfl)
            have t242 := J234.up t199
            have t243 := J234.up t200
            have K244 : ∀ (a o : Nat) (w : Value), T0 a = some (3, 3, o) → o ≠ o1 → tm_at M0 a 0 2 w → tm_at M231 a 0 2 w := fun a o w h hx q => J234.keepL (I193.up h) (by decide) (K201 a o w h hx q)
            have Q245 : qE M231 e1 pb pN9 := Q202.keep I193.1 J234 (I193.up h_e1) (by decide) (by decide) (by decide)
            have q246 := J234.keep t199 (by decide) q203
            have q247 := J234.keep t200 (by decide) q204
            have t248 := J234.up t205
            have q249 := J234.keepL t205 (by decide) q206
            rw [show (59 : Int32).toInt = 59 from by decide] at f240 f241
            obtain ⟨s250, e251⟩ : ∃ s9 : p_S, p_sg pb pn 59 s207 = s9 := ⟨_, rfl⟩
            rw [e251] at f240 f241
            obtain ⟨v252, v253, v254, v255, v256, v257, v258, q259, q260, q261, q262, q263, q264, q265, h266, h267, h268⟩ := f240
            replace h267 := Im.i h267
            replace h268 := Im.i h268
            exact mv_iret d_Reader_clause_137 rfl (mz_nb (by omega) (by omega)) ⟨_, I235, _, rfl, by omega, by omega, fun _ => q246, ⟨_, q249, by omega⟩, K244, (by have := (Im.o h17) (by omega); have := yC.d ps.2.2; have := yC.kn ps.2.2; have eK := (Im.o f210) (by omega); have eC := p_cl_m (b := pb) (n := pn) (na := pa) (c := pc9) (N := pN9) (s := ps) yw (by omega) (by omega); have eT : (p_cl pb pn pa (pc9, pN9, ps)).2 = s250 := (congrArg Prod.snd eC).trans (by show _ = _; (try dsimp only); first | (simp only [eK, e251]; done) | rfl); rw [eT]; exact ⟨⟨_, _, _, _, _, _, _, q259, q260, q261, q262, q263, q264, q265, h266, Im.o h267, Im.o h268⟩, (by omega), (fun _ => by have eN : (p_cl pb pn pa (pc9, pN9, ps)).1 = pN9 := (congrArg Prod.fst eC).trans rfl; rw [eN]; exact Q245)⟩)⟩
    · refine mv_iconst (v := 1) d_Reader_isWord_16 (by decide) ?_
      refine mv_goto (tgt := 21) d_Reader_isWord_17 (by decide) ?_
      refine mv_iret d_Reader_isWord_21 rfl (by decide) ?_
      refine mv_istore_n (lv' := [(3, .int 1), (0, .ref o0), (1, .ref o1), (2, .int x2)]) d_Reader_clause_6 rfl (by decide) rfl ?_
      refine mv_aload_n d_Reader_clause_7 rfl rfl ?_
      refine mv_bipush (v := 24) d_Reader_clause_8 (by decide) ?_
      obtain ⟨_, b269, -⟩ := I0.1 _ _ h_o0
      refine mv_callV (kc1 := 0) (ks1 := 0) (kc' := 7) (ks' := 965) (As := [.int 24]) (st9 := [.int 24, .ref o0]) d_Reader_clause_10 lV_Reader_52 b269 rfl (mj_enter (by decide) (Nat.le_of_ble_eq_true rfl) ?_) rfl (Nat.le_of_ble_eq_true rfl) (Nat.le_of_ble_eq_true rfl) (Nat.le_of_ble_eq_true rfl) (hst := rfl) (fun _ _ _ h => h)
      refine mv_aload_n d_Reader_isWord_0 rfl rfl ?_
      refine tr_getK (k := 10) q11 d_Reader_isWord_1 f_Reader_41_9 ?_
      refine mv_iconst (v := 1) d_Reader_isWord_4 (by decide) ?_
      have := mz_hi v4
      refine mv_icmp_neZ (tgt := 20) (a := v4.toInt) (b := 1) d_Reader_isWord_5 (by decide) rfl (by decide) (fun b270 => absurd b270 (by omega)) (fun b270 => ?_)
      refine mv_aload_n d_Reader_isWord_8 rfl rfl ?_
      refine tr_getK (k := 13) q14 d_Reader_isWord_9 f_Reader_241_9 ?_
      refine mv_iload_n d_Reader_isWord_12 rfl rfl ?_
      have := mz_hi v7
      refine mv_icmp_neZ (tgt := 20) (a := v7.toInt) (b := 24) d_Reader_isWord_13 (by decide) rfl (by decide) (fun b271 => ?_) (fun b271 => absurd b271 (by omega))
      refine mv_iconst (v := 0) d_Reader_isWord_20 (by decide) ?_
      refine mv_iret d_Reader_isWord_21 rfl (by decide) ?_
      refine mv_istore (lv' := [(4, .int 0), (3, .int 1), (0, .ref o0), (1, .ref o1), (2, .int x2)]) d_Reader_clause_13 (by decide) rfl ?_
      refine mv_iload_n d_Reader_clause_15 rfl rfl ?_
      refine mv_if_ne_t (tgt := 39) d_Reader_clause_16 (by decide) (by decide) ?_
      refine mv_iload_n d_Reader_clause_39 rfl rfl ?_
      refine mv_bipush (v := 12) d_Reader_clause_40 (by decide) ?_
      have := mz_hi x2
      refine mv_icmp_geZ (tgt := 61) (a := x2.toInt) (b := 12) d_Reader_clause_42 (by decide) rfl (by decide) (fun b272 => ?_) (fun b272 => ?_)
      · refine mv_aload_n d_Reader_clause_61 rfl rfl ?_
        refine mv_iconst (v := 4) d_Reader_clause_62 (by decide) ?_
        obtain ⟨_, b273, -⟩ := I0.1 _ _ h_o0
        refine mv_callV (kc1 := 0) (ks1 := 0) (kc' := 0) (ks' := 0) (As := [.int 4]) (st9 := [.int 4, .ref o0]) d_Reader_clause_63 lV_Reader_56 b273 rfl (mj_enter (by decide) (Nat.le_of_ble_eq_true rfl) ?_) rfl (Nat.le_of_ble_eq_true rfl) (Nat.le_of_ble_eq_true rfl) (Nat.le_of_ble_eq_true rfl) (hst := rfl) (fun _ _ _ h => h)
        refine mv_aload_n d_Reader_refuse_0 rfl rfl ?_
        refine mv_iload_n d_Reader_refuse_1 rfl rfl ?_
        refine tr_putKM tm_okF I0 h_o0 (k := 1) rfl ⟨_, rfl⟩ (Or.inl (by decide)) d_Reader_refuse_2 p_Reader_70_9 rfl rfl (fun M274 I275 q276 K277 K277M => ?_)
        have K278 : ∀ (a o : Nat) (w : Value), T0 a = some (3, 3, o) → o ≠ o1 → tm_at M0 a 0 2 w → tm_at M274 a 0 2 w := fun a o w h hx q => K277 _ 0 2 _ rfl (K0L a o w h hx q)
        have Q279 : qE M274 e1 pb pN9 := yE.put I0.1 (I0.up h_e1) h_o0 K277 K277M rfl rfl rfl
        refine mv_aload_n d_Reader_refuse_5 rfl rfl ?_
        refine mv_aload_n d_Reader_refuse_6 rfl rfl ?_
        refine tr_getK (k := 11) (K277 _ 9 11 _ rfl q12) d_Reader_refuse_7 f_Reader_175_9 ?_
        refine tr_putKM tm_okF I275 h_o0 (k := 2) rfl ⟨_, rfl⟩ (Or.inl (by decide)) d_Reader_refuse_10 p_Reader_11_9 rfl rfl (fun M280 I281 q282 K283 K283M => ?_)
        have K284 : ∀ (a o : Nat) (w : Value), T0 a = some (3, 3, o) → o ≠ o1 → tm_at M0 a 0 2 w → tm_at M280 a 0 2 w := fun a o w h hx q => K283 _ 0 2 _ rfl (K278 a o w h hx q)
        have Q285 : qE M280 e1 pb pN9 := Q279.put I275.1 (I275.up h_e1) h_o0 K283 K283M rfl rfl rfl
        refine mv_iconst (v := 0) d_Reader_refuse_13 (by decide) ?_
        obtain ⟨s286, e287⟩ : ∃ s9 : p_S, p_fl pb pn 4 ps = s9 := ⟨_, rfl⟩
        have h288 := q_fl e287 (by omega) (by decide)
        have h289 : (4 : Int32).toInt = s286.1 := (by have e9 : (4 : Int32).toInt = 4 := (by decide); omega)
        have h290 : Im (s286.1 ≠ 0 → v5.toInt = (s286.2.1 : Int)) := Im.i (fun _ => by have := (Im.o h17) (by omega); omega)
        have h291 : Im (s286.1 = 0 → v3.toInt = (s286.2.2 : Int) ∧ v4.toInt = p_ki pb pn s286.2.2 ∧ v5.toInt = (p_st pb pn s286.2.2 : Int) ∧ v6.toInt = (p_sp pb pn s286.2.2 : Int) ∧ v7.toInt = p_va pb pn s286.2.2 ∧ v5.toInt = -1) := Im.i (fun z9 => absurd z9 h288.2.2)
        refine mv_iret d_Reader_refuse_14 rfl (by decide) ?_
        exact mv_iret d_Reader_clause_66 rfl (by decide) ⟨_, I281, _, rfl, by decide, by decide, fun h => absurd h (by decide), ⟨_, (K283 _ 0 2 _ rfl (K277 _ 0 2 _ rfl yz1)), by omega⟩, K284, (by have := (Im.o h17) (by omega); have := yC.d ps.2.2; have := yC.kn ps.2.2; have hb : s286.1 ≠ 0 := (by omega); have z1 : ∀ c, p_sg pb pn c s286 = s286 := (fun c => p_sg_Z s286 hb); have z2 : ∀ c, p_wd pb pn c s286 = s286 := (fun c => p_wd_Z s286 hb); have z3 : ∀ op, p_sum pb pn pa op s286 = s286 := (fun op => p_sum_Z s286 hb); have z4 : ∀ r oc, p_con pb pn pa r oc s286 = s286 := (fun r oc => p_con_Z s286 hb); have z5 : p_prt pb pn s286 = s286 := p_prt_Z s286 hb; have eC := p_cl_4 (b := pb) (n := pn) (na := pa) (c := pc9) (N := pN9) (s := ps) yw (by omega) (by omega); have eT : (p_cl pb pn pa (pc9, pN9, ps)).2 = s286 := (congrArg Prod.snd eC).trans (by show _ = _; (try dsimp only); first | (simp only [e287, z1, z2, z3, z4, z5]; done) | rfl); rw [eT]; exact ⟨⟨_, _, _, _, _, _, _, (K283 _ 9 1 _ rfl q276), q282, (K283 _ 9 9 _ rfl (K277 _ 9 9 _ rfl q10)), (K283 _ 9 10 _ rfl (K277 _ 9 10 _ rfl q11)), (K283 _ 9 11 _ rfl (K277 _ 9 11 _ rfl q12)), (K283 _ 9 12 _ rfl (K277 _ 9 12 _ rfl q13)), (K283 _ 9 13 _ rfl (K277 _ 9 13 _ rfl q14)), h289, Im.o h290, Im.o h291⟩, (Or.inr ⟨by first | decide | omega, by omega⟩), (fun h => absurd h (by decide))⟩)⟩
      · refine mv_iload_n d_Reader_clause_45 rfl rfl ?_
        refine mv_if_eq_f (tgt := 67) d_Reader_clause_46 (by decide) (by decide) ?_
        refine mv_aload_n d_Reader_clause_49 rfl rfl ?_
        refine tr_getK (k := 11) yq1 d_Reader_clause_50 f_Reader_136_6 ?_
        obtain ⟨m293, e294, N295, f296, h292⟩ := tm_lsn I0 h_e1 yz1
        refine mv_callV_s (kc' := 7) (ks' := 965) [] [.ref e1] d_Reader_clause_53 lV_Reader_142 h292.1 rfl (tc_L_size (d := (d + 20)) h292.1) rfl (Nat.le_of_ble_eq_true rfl) (Nat.le_of_ble_eq_true rfl) (Nat.le_of_ble_eq_true rfl) rfl ?_
        refine mv_bipush (v := 6) d_Reader_clause_56 (by decide) ?_
        have := mz_hi s1
        refine mv_icmp_ltZ (tgt := 67) (a := s1.toInt) (b := 6) d_Reader_clause_58 (by decide) rfl (by decide) (fun b297 => ?_) (fun b297 => ?_)
        · refine mv_iload_n d_Reader_clause_67 rfl rfl ?_
          refine mv_if_eq_f (tgt := 105) d_Reader_clause_68 (by decide) (by decide) ?_
          refine mv_aload_n d_Reader_clause_71 rfl rfl ?_
          refine mv_aload_n d_Reader_clause_72 rfl rfl ?_
          obtain ⟨_, b304, -⟩ := I0.1 _ _ h_o0
          refine mv_callV (kc' := 2) (ks' := 158) (As := [.ref o1]) (st9 := [.ref o1, .ref o0]) d_Reader_clause_73 lV_Reader_59 b304 rfl (tc_Reader_endText_q4_x (d := d) (x9 := x9) (o0 := o0) (o1 := o1) h_o0 h_o1 (p := p) hO (by omega) (ps := ps) (by first | omega | decide) (hK I0) ⟨_, _, _, _, _, _, _, q8, q9, q10, q11, q12, q13, q14, h15, Im.o h16, Im.o h17⟩ (by omega) (by have := (Im.o h17) (by omega); have := yC.d ps.2.2; have := yC.kn ps.2.2; show p_ki pb pn ps.2.2 ≠ 0; omega) h_e1 yq1 yE I0.start) rfl (Nat.le_of_ble_eq_true rfl) (Nat.le_of_ble_eq_true rfl) (Nat.le_of_ble_eq_true rfl) (hst := rfl) (fun b298r M299 n300 b298 => ?_)
          obtain ⟨T301, J302, b306⟩ := b298
          have I303 := I0.call J302 (tm_sub (by decide)) (Or.inl rfl)
          have t307 := J302.up h_o0
          have t308 := J302.up h_o1
          have K309 : ∀ (a o : Nat) (w : Value), T0 a = some (3, 3, o) → o ≠ o1 → tm_at M0 a 0 2 w → tm_at M299 a 0 2 w := fun a o w h hx q => J302.keepL (I0.up h) (by decide) (K0L a o w h hx q)
          have Q310 : qE M299 e1 pb pN9 := yE.keep I0.1 J302 (I0.up h_e1) (by decide) (by decide) (by decide)
          have q311 := J302.keep h_o1 (by decide) yq1
          have t312 := J302.up h_e1
          have q313 := J302.keepL h_e1 (by decide) yz1
          rcases b306 with ⟨rfl, f315, f316⟩ | ⟨a305, rfl, t_a305, o314, g317, g318, g319, v320, g321, g322⟩
          · obtain ⟨s323, e324⟩ : ∃ s9 : p_S, p_en1 pb pn pa pN9 (p_nx ps) = s9 := ⟨_, rfl⟩
            rw [e324] at f315 f316
            obtain ⟨v325, v326, v327, v328, v329, v330, v331, q332, q333, q334, q335, q336, q337, q338, h339, h340, h341⟩ := f315
            replace h340 := Im.i h340
            replace h341 := Im.i h341
            refine mv_astoreN (lv' := [(5, .null), (4, .int 0), (3, .int 1), (0, .ref o0), (1, .ref o1), (2, .int x2)]) d_Reader_clause_76 (by decide) rfl ?_
            refine mv_aloadN d_Reader_clause_78 rfl ?_
            refine mv_ifnonnullN d_Reader_clause_80 ?_
            refine mv_iconst (v := 0) d_Reader_clause_83 (by decide) ?_
            exact mv_iret d_Reader_clause_84 rfl (by decide) ⟨_, I303, _, rfl, by decide, by decide, fun h => absurd h (by decide), ⟨_, q313, by omega⟩, K309, (by have := (Im.o h17) (by omega); have := yC.d ps.2.2; have := yC.kn ps.2.2; have hb : s323.1 ≠ 0 := (by omega); have z1 : ∀ c, p_sg pb pn c s323 = s323 := (fun c => p_sg_Z s323 hb); have z2 : ∀ c, p_wd pb pn c s323 = s323 := (fun c => p_wd_Z s323 hb); have z3 : ∀ op, p_sum pb pn pa op s323 = s323 := (fun op => p_sum_Z s323 hb); have z4 : ∀ r oc, p_con pb pn pa r oc s323 = s323 := (fun r oc => p_con_Z s323 hb); have z5 : p_prt pb pn s323 = s323 := p_prt_Z s323 hb; have eC := p_cl_e (b := pb) (n := pn) (na := pa) (c := pc9) (N := pN9) (s := ps) yw (by omega) (by omega) (by omega); have eT : (p_cl pb pn pa (pc9, pN9, ps)).2 = s323 := (congrArg Prod.snd eC).trans (by show _ = _; (try dsimp only); first | (simp only [e324, z1, z2, z3, z4, z5]; done) | rfl); rw [eT]; exact ⟨⟨_, _, _, _, _, _, _, q332, q333, q334, q335, q336, q337, q338, h339, Im.o h340, Im.o h341⟩, (Or.inr ⟨by first | decide | omega, by omega⟩), (fun h => absurd h (by decide))⟩)⟩
          · obtain ⟨s342, e343⟩ : ∃ s9 : p_S, p_en1 pb pn pa pN9 (p_nx ps) = s9 := ⟨_, rfl⟩
            rw [e343] at g317 g318
            obtain ⟨v344, v345, v346, v347, v348, v349, v350, q351, q352, q353, q354, q355, q356, q357, h358, h359, h360⟩ := g317
            replace h359 := Im.i h359
            replace h360 := Im.i h360
            refine mv_astore (lv' := [(5, .ref a305), (4, .int 0), (3, .int 1), (0, .ref o0), (1, .ref o1), (2, .int x2)]) d_Reader_clause_76 (by decide) rfl ?_
            refine mv_aload d_Reader_clause_78 rfl ?_
            refine mv_ifnonnull (tgt := 85) d_Reader_clause_80 (by decide) ?_
            refine mv_aload_n d_Reader_clause_85 rfl rfl ?_
            refine tr_getK (k := 11) q311 d_Reader_clause_86 f_Reader_136_6 ?_
            refine tr_new (kc' := 1) (ks' := 154) tm_okF I303 d_Reader_clause_89 n_Reader_147 (Nat.le_of_ble_eq_true rfl) (Nat.le_of_ble_eq_true rfl) (fun T361 M362 I363 t_x364 m365 h366 u367 K368 => ?_)
            have K369 : ∀ (a o : Nat) (w : Value), T0 a = some (3, 3, o) → o ≠ o1 → tm_at M0 a 0 2 w → tm_at M362 a 0 2 w := fun a o w h hx q => tm_at.eq (K368 _ _ (I303.up h)) (K309 a o w h hx q)
            have Q370 : qE M362 e1 pb pN9 := Q310.made I303.1 (I303.up h_e1) K368
            have q371 := tm_at.eq (K368 _ _ t308) q311
            have t372 := u367 _ _ t312
            have t373 := u367 _ _ t308
            have q374 := tm_at.eq (K368 _ _ t312) q313
            have q375 := tm_at.eq (K368 _ _ t307) o314
            have t376 := u367 _ _ t307
            have q377 := tm_at.eq (K368 _ _ (I303.up h_o0)) q351
            have q378 := tm_at.eq (K368 _ _ (I303.up h_o0)) q352
            have q379 := tm_at.eq (K368 _ _ (I303.up h_o0)) q353
            have q380 := tm_at.eq (K368 _ _ (I303.up h_o0)) q354
            have q381 := tm_at.eq (K368 _ _ (I303.up h_o0)) q355
            have q382 := tm_at.eq (K368 _ _ (I303.up h_o0)) q356
            have q383 := tm_at.eq (K368 _ _ (I303.up h_o0)) q357
            have q384 := tm_at.eq (K368 _ _ t_a305) g321
            have t385 := u367 _ _ t_a305
            refine mv_dup d_Reader_clause_92 rfl ?_
            refine mv_aload d_Reader_clause_93 rfl ?_
            refine mv_callI (kc' := 1) (ks' := 154) (As := [.ref a305]) (st9 := [.ref a305, .ref n300, .ref n300, .ref e1]) d_Reader_clause_95 lI_Reader_149 (tc_End_init (d := (d + 19)) (o0 := n300) (o1 := a305) t_x364 t385 m365 I363.start) rfl (Nat.le_of_ble_eq_true rfl) (Nat.le_of_ble_eq_true rfl) (Nat.le_of_ble_eq_true rfl) (hst := rfl) (fun b386r M387 n388 b386 => ?_)
            obtain ⟨T389, J390, rfl, m392⟩ := b386
            have I391 := I363.call J390 (tm_sub (by decide)) (Or.inr h366)
            have t393 := J390.up t_x364
            have t394 := J390.up t385
            have t395 := J390.up t376
            have t396 := J390.up t373
            have t397 := J390.up t372
            have K398 : ∀ (a o : Nat) (w : Value), T0 a = some (3, 3, o) → o ≠ o1 → tm_at M0 a 0 2 w → tm_at M387 a 0 2 w := fun a o w h hx q => J390.keepL (I363.up h) (by decide) (K369 a o w h hx q)
            have Q399 : qE M387 e1 pb pN9 := Q370.keep I363.1 J390 (I363.up h_e1) (by decide) (by decide) (by decide)
            have q400 := J390.keep t373 (by decide) q371
            have q401 := J390.keepL t372 (by decide) q374
            have q402 := J390.keep t376 (by decide) q375
            have q403 := J390.keep t376 (by decide) q377
            have q404 := J390.keep t376 (by decide) q378
            have q405 := J390.keep t376 (by decide) q379
            have q406 := J390.keep t376 (by decide) q380
            have q407 := J390.keep t376 (by decide) q381
            have q408 := J390.keep t376 (by decide) q382
            have q409 := J390.keep t376 (by decide) q383
            have q410 := J390.keep t385 (by decide) q384
            obtain ⟨T411, I412, t_x413, u414⟩ := I391.sealO tm_okF t393 h366 m392 (fun _ z9 => (tm_fs_cons ⟨_, rfl, z9 _ _ t394 (Nat.le_of_ble_eq_true rfl)⟩ (tm_fs_cons ⟨_, rfl⟩ (tm_fs_cons ⟨_, rfl⟩ (tm_fs_cons ⟨_, rfl⟩ tm_fs_nil)))))
            have t415 := u414 _ _ t397 (tm_dif t397 t393 rfl)
            have t416 := u414 _ _ t396 (tm_dif t396 t393 rfl)
            have t417 := u414 _ _ t395 (tm_dif t395 t393 rfl)
            have t418 := u414 _ _ t394 (tm_dif t394 t393 rfl)
            have q419 : tm_at M387 n300 3 0 (.ref a305) := ⟨_, m392, rfl⟩
            have q420 : tm_at M387 n300 3 1 (.int 0) := ⟨_, m392, rfl⟩
            have q421 : tm_at M387 n300 3 2 (.int 0) := ⟨_, m392, rfl⟩
            have q422 : tm_at M387 n300 3 3 (.int (-1)) := ⟨_, m392, rfl⟩
            have : tm_mx 3 = 72 := rfl
            obtain ⟨m424, e425, N426, f427, h423⟩ := tm_lsn I412 t415 q401
            refine mv_callV (kc' := 0) (ks' := 0) (As := [.ref n300]) (st9 := [.ref n300, .ref e1]) d_Reader_clause_98 lV_Reader_152 h423.1 rfl (tc_AL_addK (FT := tm_FT) (W := tm_in [5003]) (x := x9) (d := (d + 14)) tm_okF t415 t_x413 q401 (show _ < (72 : Int) by omega) rfl (C := "TrustDesk$End") (T9 := kF_End) (N9 := 4) rfl (mj_in1 (List.mem_of_getElem? (i := 2106) (by decide +kernel)) rfl) (by decide) (by decide) I412.start) rfl (Nat.le_of_ble_eq_true rfl) (Nat.le_of_ble_eq_true rfl) (Nat.le_of_ble_eq_true rfl) (hst := rfl) (fun b428r M429 n430 b428 => ?_)
            obtain ⟨T431, J432, rfl, q434, K435, K436, g437⟩ := b428
            have I433 := I412.call J432 (tm_sub (by decide)) (Or.inl rfl)
            have t438 := J432.up t415
            have t439 := J432.up t418
            have t440 := J432.up t417
            have t441 := J432.up t416
            have q442 := J432.keep t416 (by decide) q400
            have q443 := J432.keep t417 (by decide) q402
            have q444 := J432.keep t417 (by decide) q403
            have q445 := J432.keep t417 (by decide) q404
            have q446 := J432.keep t417 (by decide) q405
            have q447 := J432.keep t417 (by decide) q406
            have q448 := J432.keep t417 (by decide) q407
            have q449 := J432.keep t417 (by decide) q408
            have q450 := J432.keep t417 (by decide) q409
            have q451 := J432.keep t418 (by decide) q410
            have K452 : ∀ (a o : Nat) (w : Value), T0 a = some (3, 3, o) → o ≠ o1 → tm_at M0 a 0 2 w → tm_at M429 a 0 2 w := fun a o w h hx q => tm_at.eq (K435 _ _ _ (tm_lne (I412.up h) t415 hx) (I412.up h)) (K398 a o w h hx q)
            have Q453 : qE M429 e1 pb (pN9 ++ [(p_st pb pn (ps.2.2 + 1), p_sp pb pn (ps.2.2 + 1))]) := Q399.add (q := (p_st pb pn (ps.2.2 + 1), p_sp pb pn (ps.2.2 + 1))) I412.1 J432 (I412.up h_e1) (by decide) (by decide) q401 q434 (by omega) K436 g437 t_x413 q419 q410 g322 (p_lt_tok g319)
            have b454 : (s1 + 1).toInt = s1.toInt + 1 := mz_addn 1 1 (by decide) (by have := mz_lo s1; omega) (by omega)
            refine mv_pop d_Reader_clause_101 rfl ?_
            refine mv_goto (tgt := 131) d_Reader_clause_102 (by decide) ?_
            refine mv_aload_n d_Reader_clause_131 rfl rfl ?_
            refine mv_bipush (v := 59) d_Reader_clause_132 (by decide) ?_
            obtain ⟨_, b461, -⟩ := I433.1 _ _ t440
            refine mv_callV (kc' := 0) (ks' := 0) (As := [.int 59]) (st9 := [.int 59, .ref o0]) d_Reader_clause_134 lV_Reader_63 b461 rfl (tc_Reader_sign_x (d := (d + 19)) (x9 := x9) (o0 := o0) (x1 := 59) t440 (hK I433) ⟨_, _, _, _, _, _, _, q444, q445, q446, q447, q448, q449, q450, h358, Im.o h359, Im.o h360⟩ (by omega) (by first | omega | decide) I433.start) rfl (Nat.le_of_ble_eq_true rfl) (Nat.le_of_ble_eq_true rfl) (Nat.le_of_ble_eq_true rfl) (hst := rfl) (fun b455r M456 n457 b455 => ?_)
            obtain ⟨T458, J459, v462, rfl, b463, b464, f465, f466⟩ := b455
            have I460 := I433.call J459 (tm_sub (by decide)) (Or.inl rfl)
            have t467 := J459.up t439
            have t468 := J459.up t440
            have t469 := J459.up t441
            have K470 : ∀ (a o : Nat) (w : Value), T0 a = some (3, 3, o) → o ≠ o1 → tm_at M0 a 0 2 w → tm_at M456 a 0 2 w := fun a o w h hx q => J459.keepL (I433.up h) (by decide) (K452 a o w h hx q)
            have Q471 : qE M456 e1 pb (pN9 ++ [(p_st pb pn (ps.2.2 + 1), p_sp pb pn (ps.2.2 + 1))]) := Q453.keep I433.1 J459 (I433.up h_e1) (by decide) (by decide) (by decide)
            have q472 := J459.keep t441 (by decide) q442
            have t473 := J459.up t438
            have q474 := J459.keep t440 (by decide) q443
            have q475 := J459.keep t439 (by decide) q451
            have q476 := J459.keepL t438 (by decide) q434
            rw [show (59 : Int32).toInt = 59 from by decide] at f465 f466
            obtain ⟨s477, e478⟩ : ∃ s9 : p_S, p_sg pb pn 59 s342 = s9 := ⟨_, rfl⟩
            rw [e478] at f465 f466
            obtain ⟨v479, v480, v481, v482, v483, v484, v485, q486, q487, q488, q489, q490, q491, q492, h493, h494, h495⟩ := f465
            replace h494 := Im.i h494
            replace h495 := Im.i h495
            exact mv_iret d_Reader_clause_137 rfl (mz_nb (by omega) (by omega)) ⟨_, I460, _, rfl, by omega, by omega, fun _ => q474, ⟨_, q476, by omega⟩, K470, (by have := (Im.o h17) (by omega); have := yC.d ps.2.2; have := yC.kn ps.2.2; have eC := p_cl_e (b := pb) (n := pn) (na := pa) (c := pc9) (N := pN9) (s := ps) yw (by omega) (by omega) (by omega); have eT : (p_cl pb pn pa (pc9, pN9, ps)).2 = s477 := (congrArg Prod.snd eC).trans (by show _ = _; (try dsimp only); first | (simp only [e343, e478]; done) | rfl); rw [eT]; exact ⟨⟨_, _, _, _, _, _, _, q486, q487, q488, q489, q490, q491, q492, h493, Im.o h494, Im.o h495⟩, (by omega), (fun _ => by have eN : (p_cl pb pn pa (pc9, pN9, ps)).1 = pN9 ++ [(p_st pb pn (ps.2.2 + 1), p_sp pb pn (ps.2.2 + 1))] := (congrArg Prod.fst eC).trans rfl; rw [eN]; exact Q471)⟩)⟩
        · refine mv_aload_n d_Reader_clause_61 rfl rfl ?_
          refine mv_iconst (v := 4) d_Reader_clause_62 (by decide) ?_
          obtain ⟨_, b496, -⟩ := I0.1 _ _ h_o0
          refine mv_callV (kc1 := 0) (ks1 := 0) (kc' := 0) (ks' := 0) (As := [.int 4]) (st9 := [.int 4, .ref o0]) d_Reader_clause_63 lV_Reader_56 b496 rfl (mj_enter (by decide) (Nat.le_of_ble_eq_true rfl) ?_) rfl (Nat.le_of_ble_eq_true rfl) (Nat.le_of_ble_eq_true rfl) (Nat.le_of_ble_eq_true rfl) (hst := rfl) (fun _ _ _ h => h)
          refine mv_aload_n d_Reader_refuse_0 rfl rfl ?_
          refine mv_iload_n d_Reader_refuse_1 rfl rfl ?_
          refine tr_putKM tm_okF I0 h_o0 (k := 1) rfl ⟨_, rfl⟩ (Or.inl (by decide)) d_Reader_refuse_2 p_Reader_70_9 rfl rfl (fun M497 I498 q499 K500 K500M => ?_)
          have K501 : ∀ (a o : Nat) (w : Value), T0 a = some (3, 3, o) → o ≠ o1 → tm_at M0 a 0 2 w → tm_at M497 a 0 2 w := fun a o w h hx q => K500 _ 0 2 _ rfl (K0L a o w h hx q)
          have Q502 : qE M497 e1 pb pN9 := yE.put I0.1 (I0.up h_e1) h_o0 K500 K500M rfl rfl rfl
          refine mv_aload_n d_Reader_refuse_5 rfl rfl ?_
          refine mv_aload_n d_Reader_refuse_6 rfl rfl ?_
          refine tr_getK (k := 11) (K500 _ 9 11 _ rfl q12) d_Reader_refuse_7 f_Reader_175_9 ?_
          refine tr_putKM tm_okF I498 h_o0 (k := 2) rfl ⟨_, rfl⟩ (Or.inl (by decide)) d_Reader_refuse_10 p_Reader_11_9 rfl rfl (fun M503 I504 q505 K506 K506M => ?_)
          have K507 : ∀ (a o : Nat) (w : Value), T0 a = some (3, 3, o) → o ≠ o1 → tm_at M0 a 0 2 w → tm_at M503 a 0 2 w := fun a o w h hx q => K506 _ 0 2 _ rfl (K501 a o w h hx q)
          have Q508 : qE M503 e1 pb pN9 := Q502.put I498.1 (I498.up h_e1) h_o0 K506 K506M rfl rfl rfl
          refine mv_iconst (v := 0) d_Reader_refuse_13 (by decide) ?_
          obtain ⟨s509, e510⟩ : ∃ s9 : p_S, p_fl pb pn 4 ps = s9 := ⟨_, rfl⟩
          have h511 := q_fl e510 (by omega) (by decide)
          have h512 : (4 : Int32).toInt = s509.1 := (by have e9 : (4 : Int32).toInt = 4 := (by decide); omega)
          have h513 : Im (s509.1 ≠ 0 → v5.toInt = (s509.2.1 : Int)) := Im.i (fun _ => by have := (Im.o h17) (by omega); omega)
          have h514 : Im (s509.1 = 0 → v3.toInt = (s509.2.2 : Int) ∧ v4.toInt = p_ki pb pn s509.2.2 ∧ v5.toInt = (p_st pb pn s509.2.2 : Int) ∧ v6.toInt = (p_sp pb pn s509.2.2 : Int) ∧ v7.toInt = p_va pb pn s509.2.2 ∧ v5.toInt = -1) := Im.i (fun z9 => absurd z9 h511.2.2)
          refine mv_iret d_Reader_refuse_14 rfl (by decide) ?_
          exact mv_iret d_Reader_clause_66 rfl (by decide) ⟨_, I504, _, rfl, by decide, by decide, fun h => absurd h (by decide), ⟨_, (K506 _ 0 2 _ rfl (K500 _ 0 2 _ rfl yz1)), by omega⟩, K507, (by have := (Im.o h17) (by omega); have := yC.d ps.2.2; have := yC.kn ps.2.2; have hb : s509.1 ≠ 0 := (by omega); have z1 : ∀ c, p_sg pb pn c s509 = s509 := (fun c => p_sg_Z s509 hb); have z2 : ∀ c, p_wd pb pn c s509 = s509 := (fun c => p_wd_Z s509 hb); have z3 : ∀ op, p_sum pb pn pa op s509 = s509 := (fun op => p_sum_Z s509 hb); have z4 : ∀ r oc, p_con pb pn pa r oc s509 = s509 := (fun r oc => p_con_Z s509 hb); have z5 : p_prt pb pn s509 = s509 := p_prt_Z s509 hb; have eC := p_cl_4 (b := pb) (n := pn) (na := pa) (c := pc9) (N := pN9) (s := ps) yw (by omega) (by omega); have eT : (p_cl pb pn pa (pc9, pN9, ps)).2 = s509 := (congrArg Prod.snd eC).trans (by show _ = _; (try dsimp only); first | (simp only [e510, z1, z2, z3, z4, z5]; done) | rfl); rw [eT]; exact ⟨⟨_, _, _, _, _, _, _, (K506 _ 9 1 _ rfl q499), q505, (K506 _ 9 9 _ rfl (K500 _ 9 9 _ rfl q10)), (K506 _ 9 10 _ rfl (K500 _ 9 10 _ rfl q11)), (K506 _ 9 11 _ rfl (K500 _ 9 11 _ rfl q12)), (K506 _ 9 12 _ rfl (K500 _ 9 12 _ rfl q13)), (K506 _ 9 13 _ rfl (K500 _ 9 13 _ rfl q14)), h512, Im.o h513, Im.o h514⟩, (Or.inr ⟨by first | decide | omega, by omega⟩), (fun h => absurd h (by decide))⟩)⟩
