def w_Reader_readDeed_r : List Nat := [604, 605, 606, 901, 902, 908, 909, 910, 911, 912, 913, 914, 915, 916, 918, 954, 955, 956, 957, 967, 5003]
set_option maxHeartbeats 100000000 in theorem tc_Reader_readDeed_r {g : mj_G} {l : Launch} {d : Nat} {T0 : tm_H} {M0 : mj_M} {n0 x9 : Nat} {o0 : Nat} {o1 : Nat} (h_o0 : T0 o0 = some (0, 9, 0)) (h_o1 : T0 o1 = some (0, 6, 0)) {pb : Nat → Int} {pn : Nat} (yB : qB M0 o0 pb pn) {e1 : Nat} {s1 : Int32} (h_e1 : T0 e1 = some (3, 3, o1)) (yq1 : tm_at M0 o1 6 11 (.ref e1)) (yz1 : tm_at M0 e1 0 2 (.int s1)) (ys1 : s1.toInt ≤ 6) (yE : qE M0 e1 pb []) (I0 : tm_I tm_FT (tm_in w_Reader_readDeed_r) x9 T0 M0 n0 T0 M0 n0) : mj_Met g l kY_Reader_readDeed (d + 22) [.ref o0, .ref o1] M0 n0 98 13580 (tm_Q tm_FT (tm_in w_Reader_readDeed_r) x9 T0 M0 n0 (fun r _ M => ∃ v : Int32, r = some (.int v) ∧ 0 ≤ v.toInt ∧ v.toInt ≤ 1 ∧ (∃ s : Int32, tm_at M e1 0 2 (.int s) ∧ s.toInt ≤ 6) ∧ (∀ (a o : Nat) (w : Value), T0 a = some (3, 3, o) → o ≠ o1 → tm_at M0 a 0 2 w → tm_at M a 0 2 w) ∧ (∃ vf vp : Int32, tm_at M o0 9 1 (.int vf) ∧ tm_at M o0 9 2 (.int vp) ∧ vf.toInt = (p_dee pb pn).2.2.1 ∧ ((p_dee pb pn).2.2.1 = 0 ∧ v.toInt = 1 ∧ vp.toInt = -1 ∨ (p_dee pb pn).2.2.1 ≠ 0 ∧ v.toInt = 0 ∧ vp.toInt = ((p_dee pb pn).2.2.2.1 : Int))))) := by
  refine mj_enter (by decide) (Nat.le_of_ble_eq_true rfl) ?_
  have hB : ∀ {T : tm_H} {M : mj_M} {n : Nat}, tm_I tm_FT (tm_in w_Reader_readDeed_r) x9 T0 M0 n0 T M n → qB M o0 pb pn := fun I => yB.keep I0.1 I h_o0 (by decide +kernel) (by decide +kernel) (by decide +kernel)
  have := yB.1
  have := yB.2.1
  obtain ⟨_, _, _, _, zz1⟩ := tm_lsn I0 h_e1 yz1
  have yp1 := zz1.2.1
  have K0L : ∀ (a o : Nat) (w : Value), T0 a = some (3, 3, o) → o ≠ o1 → tm_at M0 a 0 2 w → tm_at M0 a 0 2 w := fun a o w h hx q => q
  refine mv_aload_n d_Reader_readDeed_0 rfl rfl ?_
  refine mv_bipush (v := 10) d_Reader_readDeed_1 (by decide) ?_
  obtain ⟨_, b7, -⟩ := I0.1 _ _ h_o0
  refine mv_callV (kc' := 98) (ks' := 13580) (As := [.int 10]) (st9 := [.int 10, .ref o0]) d_Reader_readDeed_3 lV_Reader_37 b7 rfl (tc_Reader_begin_x (d := (d + 12)) (x9 := x9) (o0 := o0) (x1 := 10) h_o0 (hB I0) (by decide) I0.start) rfl (Nat.le_of_ble_eq_true rfl) (Nat.le_of_ble_eq_true rfl) (Nat.le_of_ble_eq_true rfl) (hst := rfl) (fun b1r M2 n3 b1 => ?_)
  obtain ⟨T4, J5, rfl, f8, f9, f10⟩ := b1
  have I6 := I0.call J5 (tm_sub (by decide)) (Or.inl rfl)
  have t11 := J5.up h_o0
  have t12 := J5.up h_o1
  have K13 : ∀ (a o : Nat) (w : Value), T0 a = some (3, 3, o) → o ≠ o1 → tm_at M0 a 0 2 w → tm_at M2 a 0 2 w := fun a o w h hx q => J5.keepL (I0.up h) (by decide) (K0L a o w h hx q)
  have Q14 : qE M2 e1 pb ([]) := yE.keep I0.1 J5 (I0.up h_e1) (by decide) (by decide) (by decide)
  have q15 := J5.keep h_o1 (by decide) yq1
  have t16 := J5.up h_e1
  have q17 := J5.keepL h_e1 (by decide) yz1
  rw [show (10 : Int32).toInt = 10 from by decide] at f9
  obtain ⟨s18, e19⟩ : ∃ s9 : p_S, (0, 0, 0) = s9 := ⟨_, rfl⟩
  rw [e19] at f10
  have : s18.1 = 0 := by rw [← e19]
  have : s18.2.2 = 0 := by rw [← e19]
  obtain ⟨v20, v21, v22, v23, v24, v25, v26, q27, q28, q29, q30, q31, q32, q33, h34, h35, h36⟩ := f10
  replace h35 := Im.i h35
  replace h36 := Im.i h36
  have yC := f9
  refine mv_iconst (v := 0) d_Reader_readDeed_6 (by decide) ?_
  refine mv_istore_n (lv' := [(2, .int 0), (0, .ref o0), (1, .ref o1)]) d_Reader_readDeed_7 rfl (by decide) rfl ?_
  have L8_37 : ∀ (k : Nat) (i2_37 : Int32) (g0_37 : Int32) (T_37 : tm_H) (M_37 : mj_M) (n_37 : Nat), tm_I tm_FT (tm_in w_Reader_readDeed_r) x9 T0 M0 n0 T_37 M_37 n_37 → T_37 o0 = some (0, 9, 0) → T_37 o1 = some (0, 6, 0) → T_37 e1 = some (3, 3, o1) → i2_37.toInt ≤ 13 → 0 ≤ i2_37.toInt → g0_37.toInt ≤ 6 → tm_at M_37 o0 9 16 (.int 0) → tm_at M_37 o1 6 11 (.ref e1) → tm_at M_37 e1 0 2 (.int g0_37) → (∀ (a o : Nat) (w : Value), T0 a = some (3, 3, o) → o ≠ o1 → tm_at M0 a 0 2 w → tm_at M_37 a 0 2 w) → (∃ (c1 : Nat) (N1 : List (Nat × Nat)) (s1 : p_S), qS M_37 o0 pb pn s1 ∧ qC M_37 o0 pb pn 10 ∧ s1.1 = 0 ∧ qE M_37 e1 pb N1 ∧ i2_37.toInt = (c1 : Int) ∧ c1 ≤ 12 ∧ p_lp pn (p_de1 pb pn 10) (c1, N1, s1) = p_dee pb pn) → 13 - i2_37.toInt < (k : Int) → mj_V g l kY_Reader_readDeed (d + 22) 8 [(2, .int i2_37), (0, .ref o0), (1, .ref o1)] [] M_37 n_37 (k * 7) (k * 970) (tm_Q tm_FT (tm_in w_Reader_readDeed_r) x9 T0 M0 n0 (fun r _ M => ∃ v : Int32, r = some (.int v) ∧ 0 ≤ v.toInt ∧ v.toInt ≤ 1 ∧ (∃ s : Int32, tm_at M e1 0 2 (.int s) ∧ s.toInt ≤ 6) ∧ (∀ (a o : Nat) (w : Value), T0 a = some (3, 3, o) → o ≠ o1 → tm_at M0 a 0 2 w → tm_at M a 0 2 w) ∧ (∃ vf vp : Int32, tm_at M o0 9 1 (.int vf) ∧ tm_at M o0 9 2 (.int vp) ∧ vf.toInt = (p_dee pb pn).2.2.1 ∧ ((p_dee pb pn).2.2.1 = 0 ∧ v.toInt = 1 ∧ vp.toInt = -1 ∨ (p_dee pb pn).2.2.1 ≠ 0 ∧ v.toInt = 0 ∧ vp.toInt = ((p_dee pb pn).2.2.2.1 : Int))))) := by
    intro k37
    induction k37 with
    | zero =>
      intro i2_37 g0_37 T_37 M_37 n_37 I_37 h_q0_37 h_q1_37 h_e0_37 iv0_37 iv1_37 iv2_37 kp0_37 kp1_37 kg0_37 kKL_37 kKT9_37 hk37
      have := mz_hi i2_37
      exfalso; omega
    | succ k37 ih37 =>
      intro i2_37 g0_37 T_37 M_37 n_37 I_37 h_q0_37 h_q1_37 h_e0_37 iv0_37 iv1_37 iv2_37 kp0_37 kp1_37 kg0_37 kKL_37 kKT9_37 hk37
      obtain ⟨c38, N39, s40, f41, h42, h43, Q44, h45, h46, e47⟩ := kKT9_37
      obtain ⟨v48, v49, v50, v51, v52, v53, v54, q55, q56, q57, q58, q59, q60, q61, h62, h63, h64⟩ := f41
      replace h63 := Im.i h63
      replace h64 := Im.i h64
      have yC := h42
      refine mv_iload_n d_Reader_readDeed_8 rfl rfl ?_
      refine mv_bipush (v := 12) d_Reader_readDeed_9 (by decide) ?_
      have := mz_hi i2_37
      refine mv_icmp_gtZ (tgt := 38) (a := i2_37.toInt) (b := 12) d_Reader_readDeed_11 (by decide) rfl (by decide) (fun b65 => ?_) (fun b65 => ?_)
      · refine mv_iconst (v := 1) d_Reader_readDeed_38 (by decide) ?_
        exact mv_iret d_Reader_readDeed_39 rfl (by decide) ⟨_, I_37, _, rfl, by decide, by decide, ⟨_, kg0_37, by omega⟩, kKL_37, (by first | (have e9_ : (1 : Int32).toInt = 1 := (by decide); have hE : p_dee pb pn = (c38, N39, s40) := (by exact e47.symm.trans (p_lp_stop (show p_de1 pb pn 10 (c38, N39, s40) = (c38, N39, s40) from if_neg (fun h9 => by have h8 : s40.1 = 0 := h9.1; have h7 : p_ki pb pn s40.2.2 ≠ 0 := h9.2; omega)))); have z1 : (p_dee pb pn).2.2.1 = s40.1 := (by rw [hE]); have z3 : (p_dee pb pn).2.2.2.1 = s40.2.1 := (by rw [hE]); have := (Im.o h64) (by omega); exact ⟨_, _, q55, q56, by omega, by omega⟩) | (exfalso; omega))⟩
      · refine mv_aload_n d_Reader_readDeed_14 rfl rfl ?_
        refine tr_getK (k := 10) q58 d_Reader_readDeed_15 f_Reader_41_9 ?_
        have := mz_hi v51
        refine mv_if_eqZ (tgt := 38) (a := v51.toInt) d_Reader_readDeed_18 (by decide) rfl (fun b66 => ?_) (fun b66 => ?_)
        · refine mv_iconst (v := 1) d_Reader_readDeed_38 (by decide) ?_
          exact mv_iret d_Reader_readDeed_39 rfl (by decide) ⟨_, I_37, _, rfl, by decide, by decide, ⟨_, kg0_37, by omega⟩, kKL_37, (by first | (have e9_ : (1 : Int32).toInt = 1 := (by decide); have hE : p_dee pb pn = (c38, N39, s40) := (by have := (Im.o h64) (by omega); have := yC.d s40.2.2; have := yC.kn s40.2.2; exact e47.symm.trans (p_lp_stop (show p_de1 pb pn 10 (c38, N39, s40) = (c38, N39, s40) from if_neg (fun h9 => by have h8 : s40.1 = 0 := h9.1; have h7 : p_ki pb pn s40.2.2 ≠ 0 := h9.2; omega)))); have z1 : (p_dee pb pn).2.2.1 = s40.1 := (by rw [hE]); have z3 : (p_dee pb pn).2.2.2.1 = s40.2.1 := (by rw [hE]); have := (Im.o h64) (by omega); exact ⟨_, _, q55, q56, by omega, by omega⟩) | (exfalso; have := (Im.o h64) (by omega); have := yC.d s40.2.2; have := yC.kn s40.2.2; omega))⟩
        · refine mv_aload_n d_Reader_readDeed_21 rfl rfl ?_
          refine mv_aload_n d_Reader_readDeed_22 rfl rfl ?_
          refine mv_iload_n d_Reader_readDeed_23 rfl rfl ?_
          obtain ⟨_, b73, -⟩ := I_37.1 _ _ h_q0_37
          refine mv_callV (kc' := (k37 * 7 + 0)) (ks' := (k37 * 970 + 5)) (As := [.ref o1, .int i2_37]) (st9 := [.int i2_37, .ref o1, .ref o0]) d_Reader_readDeed_24 lV_Reader_48 b73 rfl (tc_Reader_clause_q4_r (d := d) (x9 := x9) (o0 := o0) (o1 := o1) (x2 := i2_37) h_q0_37 h_q1_37 (p := 0) kp0_37 (by decide) (ps := s40) (by first | omega | decide) h42 ⟨_, _, _, _, _, _, _, q55, q56, q57, q58, q59, q60, q61, h62, Im.o h63, Im.o h64⟩ (by omega) (pc9 := c38) h_e0_37 kp1_37 kg0_37 (by first | omega | decide) Q44 (by omega) I_37.start) rfl (by first | exact Nat.le_of_ble_eq_true rfl | omega) (by first | exact Nat.le_of_ble_eq_true rfl | omega) (by first | exact Nat.le_of_ble_eq_true rfl | omega) (hst := rfl) (fun b67r M68 n69 b67 => ?_)
          obtain ⟨T70, J71, v74, rfl, b75, b76, o77, ⟨s78, z79, h80⟩, K81, f82, f83, f84⟩ := b67
          have I72 := I_37.call J71 (tm_sub (by decide)) (Or.inl rfl)
          have t85 := J71.up h_q0_37
          have t86 := J71.up h_q1_37
          have K87 : ∀ (a o : Nat) (w : Value), T0 a = some (3, 3, o) → o ≠ o1 → tm_at M0 a 0 2 w → tm_at M68 a 0 2 w := fun a o w h hx q => K81 a o w (I_37.up h) hx (kKL_37 a o w h hx q)
          have q88 := J71.keep h_q1_37 (by decide) kp1_37
          have t89 := J71.up h_e0_37
          have h90 := h42.keep I_37.1 J71 (I_37.up h_o0) (qW_of (by decide +kernel))
          obtain ⟨s91, e92⟩ : ∃ s9 : p_S, (p_cl pb pn 10 (c38, N39, s40)).2 = s9 := ⟨_, rfl⟩
          rw [e92] at f82 f83
          obtain ⟨v93, v94, v95, v96, v97, v98, v99, q100, q101, q102, q103, q104, q105, q106, h107, h108, h109⟩ := f82
          replace h108 := Im.i h108
          replace h109 := Im.i h109
          have := mz_hi v74
          refine mv_if_neZ (tgt := 32) (a := v74.toInt) d_Reader_readDeed_27 (by decide) rfl (fun b110 => ?_) (fun b110 => ?_)
          · have q111 := o77 (by omega)
            refine mv_iinc (v := (i2_37 + 1)) (lv' := [(2, .int (i2_37 + 1)), (0, .ref o0), (1, .ref o1)]) d_Reader_readDeed_32 rfl rfl (by decide) rfl ?_
            refine mv_goto (tgt := 8) d_Reader_readDeed_35 (by decide) ?_
            have : (i2_37 + 1 : Int32).toInt = i2_37.toInt + 1 := mz_addn 1 1 (by decide) (by omega) (by omega)
            have hc9 := (p_cl_c (b := pb) (n := pn) (na := 10) (q := (c38, N39, s40)) (by rw [e92]; omega)).2.1
            have hc8 : c38 < 12 := hc9
            have T112 : ∃ (c1 : Nat) (N1 : List (Nat × Nat)) (s1 : p_S), qS M68 o0 pb pn s1 ∧ qC M68 o0 pb pn 10 ∧ s1.1 = 0 ∧ qE M68 e1 pb N1 ∧ (i2_37 + 1).toInt = (c1 : Int) ∧ c1 ≤ 12 ∧ p_lp pn (p_de1 pb pn 10) (c1, N1, s1) = p_dee pb pn := ⟨c38 + 1, (p_cl pb pn 10 (c38, N39, s40)).1, s91, ⟨_, _, _, _, _, _, _, q100, q101, q102, q103, q104, q105, q106, h107, Im.o h108, Im.o h109⟩, h90, by omega, f84 (by omega), by omega, by omega, (by have := (Im.o h64) (by omega); have := yC.d s40.2.2; have := yC.kn s40.2.2; have st : p_de1 pb pn 10 (c38, N39, s40) = (c38 + 1, (p_cl pb pn 10 (c38, N39, s40)).1, s91) := (by rw [show p_de1 pb pn 10 (c38, N39, s40) = (c38 + 1, p_cl pb pn 10 (c38, N39, s40)) from if_pos ⟨(by show s40.1 = 0; omega), (by show p_ki pb pn s40.2.2 ≠ 0; omega)⟩]; exact Prod.ext rfl (Prod.ext rfl e92)); rw [← st, p_P.go p_de1_P (c38, N39, s40)]; exact e47)⟩
            have b113 : (i2_37 + 1).toInt = i2_37.toInt + 1 := mz_addn 1 1 (by decide) (by have := mz_lo i2_37; omega) (by have := mz_hi i2_37; omega)
            exact mv_less (by omega) (by omega) (ih37 (i2_37 + 1) s78 T70 M68 n69 I72 t85 t86 t89 (by first | omega | decide) (by first | omega | decide) (by first | omega | decide) q111 q88 z79 K87 T112 (by omega))
          · refine mv_iconst (v := 0) d_Reader_readDeed_30 (by decide) ?_
            exact mv_iret d_Reader_readDeed_31 rfl (by decide) ⟨_, I72, _, rfl, by decide, by decide, ⟨_, z79, by omega⟩, K87, (by first | (have e9_ : (0 : Int32).toInt = 0 := (by decide); have hE : p_dee pb pn = (c38 + 1, (p_cl pb pn 10 (c38, N39, s40)).1, s91) := (by have := (Im.o h64) (by omega); have := yC.d s40.2.2; have := yC.kn s40.2.2; have hb : s91.1 ≠ 0 := (by omega); have st : p_de1 pb pn 10 (c38, N39, s40) = (c38 + 1, (p_cl pb pn 10 (c38, N39, s40)).1, s91) := (by rw [show p_de1 pb pn 10 (c38, N39, s40) = (c38 + 1, p_cl pb pn 10 (c38, N39, s40)) from if_pos ⟨(by show s40.1 = 0; omega), (by show p_ki pb pn s40.2.2 ≠ 0; omega)⟩]; exact Prod.ext rfl (Prod.ext rfl e92)); rw [← e47, ← p_P.go p_de1_P (c38, N39, s40), st]; exact p_lp_stop (if_neg (fun h9 => hb h9.1))); have z1 : (p_dee pb pn).2.2.1 = s91.1 := (by rw [hE]); have z3 : (p_dee pb pn).2.2.2.1 = s91.2.1 := (by rw [hE]); have := (Im.o h108) (by omega); exact ⟨_, _, q100, q101, by omega, by omega⟩) | (exfalso; have := (Im.o h64) (by omega); have := yC.d s40.2.2; have := yC.kn s40.2.2; omega))⟩
  have e0 : (0 : Int32).toInt = 0 := by decide
  have T114 : ∃ (c1 : Nat) (N1 : List (Nat × Nat)) (s1 : p_S), qS M2 o0 pb pn s1 ∧ qC M2 o0 pb pn 10 ∧ s1.1 = 0 ∧ qE M2 e1 pb N1 ∧ 0 = (c1 : Int) ∧ c1 ≤ 12 ∧ p_lp pn (p_de1 pb pn 10) (c1, N1, s1) = p_dee pb pn := ⟨0, [], s18, ⟨_, _, _, _, _, _, _, q27, q28, q29, q30, q31, q32, q33, h34, Im.o h35, Im.o h36⟩, f9, by omega, Q14, by omega, by omega, by rw [← e19]; rfl⟩
  have : (0 : Int32).toInt = 0 := by decide
  exact mv_less (Nat.le_of_ble_eq_true rfl) (Nat.le_of_ble_eq_true rfl) (L8_37 14 0 s1 T4 M2 n3 I6 t11 t12 t16 (by first | omega | decide) (by first | omega | decide) (by first | omega | decide) f8 q15 q17 K13 T114 (by show (13 - (0 : Int) : Int) < _; decide))
