def w_Fund_hasEnd_x : List Nat := []
set_option maxHeartbeats 100000000 in theorem tc_Fund_hasEnd_x {g : mj_G} {l : Launch} {d : Nat} {T0 : tm_H} {M0 : mj_M} {n0 x9 : Nat} {o0 : Nat} {x1 : Int64} (h_o0 : T0 o0 = some (0, 6, 0)) {e1 : Nat} {pb : Nat → Int} {pN9 : List (Nat × Nat)} (h_e1 : T0 e1 = some (3, 3, o0)) (yq1 : tm_at M0 o0 6 11 (.ref e1)) (yE : qE M0 e1 pb pN9) (I0 : tm_I tm_FT (tm_in w_Fund_hasEnd_x) x9 T0 M0 n0 T0 M0 n0) : mj_Met g l kY_Fund_hasEnd (d + 3) [.ref o0, .long x1] M0 n0 0 0 (tm_Q tm_FT (tm_in w_Fund_hasEnd_x) x9 T0 M0 n0 (fun r _ M => ∃ v : Int32, r = some (.int v) ∧ 0 ≤ v.toInt ∧ v.toInt ≤ 1 ∧ (v.toInt = p_hw pb pN9 x1.toInt))) := by
  refine mj_enter (by decide) (Nat.le_of_ble_eq_true rfl) ?_
  have hE : ∀ {T : tm_H} {M : mj_M} {n : Nat}, tm_I tm_FT (tm_in w_Fund_hasEnd_x) x9 T0 M0 n0 T M n → qE M e1 pb pN9 := fun I => yE.keep I0.1 I h_e1 (by decide +kernel) (by decide +kernel) (by decide +kernel)
  obtain ⟨s1, yz1, ys1⟩ := yE.1
  refine mv_iconst (v := 0) d_Fund_hasEnd_0 (by decide) ?_
  refine mv_istore_n (lv' := [(3, .int 0), (0, .ref o0), (1, .long x1)]) d_Fund_hasEnd_1 rfl (by decide) rfl ?_
  have L2_1 : ∀ (k : Nat) (i3_1 : Int32) (T_1 : tm_H) (M_1 : mj_M) (n_1 : Nat), tm_I tm_FT (tm_in w_Fund_hasEnd_x) x9 T0 M0 n0 T_1 M_1 n_1 → T_1 o0 = some (0, 6, 0) → T_1 e1 = some (3, 3, o0) → 0 ≤ i3_1.toInt → p_hw pb (List.drop (i3_1.toInt).toNat pN9) x1.toInt = p_hw pb pN9 x1.toInt → tm_at M_1 o0 6 11 (.ref e1) → tm_at M_1 e1 0 2 (.int s1) → 2147483647 - i3_1.toInt < (k : Int) → mj_V g l kY_Fund_hasEnd (d + 3) 2 [(3, .int i3_1), (0, .ref o0), (1, .long x1)] [] M_1 n_1 0 0 (tm_Q tm_FT (tm_in w_Fund_hasEnd_x) x9 T0 M0 n0 (fun r _ M => ∃ v : Int32, r = some (.int v) ∧ 0 ≤ v.toInt ∧ v.toInt ≤ 1 ∧ (v.toInt = p_hw pb pN9 x1.toInt))) := by
    intro k1
    induction k1 with
    | zero =>
      intro i3_1 T_1 M_1 n_1 I_1 h_q0_1 h_e0_1 iv0_1 iv1_1 kp0_1 kp1_1 hk1
      have := mz_hi i3_1
      omega
    | succ k1 ih1 =>
      intro i3_1 T_1 M_1 n_1 I_1 h_q0_1 h_e0_1 iv0_1 iv1_1 kp0_1 kp1_1 hk1
      refine mv_iload_n d_Fund_hasEnd_2 rfl rfl ?_
      refine mv_aload_n d_Fund_hasEnd_3 rfl rfl ?_
      refine tr_getK (k := 11) kp0_1 d_Fund_hasEnd_4 f_Fund_24_6 ?_
      obtain ⟨m3, e4, N5, f6, h2⟩ := tm_lsn I_1 h_e0_1 kp1_1
      refine mv_callV_s (kc' := 0) (ks' := 0) [] [.ref e1, .int i3_1] d_Fund_hasEnd_7 lV_Fund_61 h2.1 rfl (tc_L_size (d := (d + 2)) h2.1) rfl (Nat.le_of_ble_eq_true rfl) (Nat.le_of_ble_eq_true rfl) (Nat.le_of_ble_eq_true rfl) rfl ?_
      have := mz_hi i3_1
      have := mz_hi s1
      refine mv_icmp_geZ (tgt := 43) (a := i3_1.toInt) (b := s1.toInt) d_Fund_hasEnd_10 (by decide) rfl rfl (fun b7 => ?_) (fun b7 => ?_)
      · refine mv_iconst (v := 0) d_Fund_hasEnd_43 (by decide) ?_
        exact mv_iret d_Fund_hasEnd_44 rfl (by decide) ⟨_, I_1, _, rfl, by decide, by decide, (by have e9 := iv1_1; rw [List.drop_eq_nil_of_le (by omega)] at e9; exact (show (0 : Int32).toInt = 0 from by decide).trans e9)⟩
      · refine mv_aload_n d_Fund_hasEnd_13 rfl rfl ?_
        refine tr_getK (k := 11) kp0_1 d_Fund_hasEnd_14 f_Fund_24_6 ?_
        refine mv_iload_n d_Fund_hasEnd_17 rfl rfl ?_
        obtain ⟨m9, e10, N11, f12, h8⟩ := tm_lsn I_1 h_e0_1 kp1_1
        obtain ⟨u13e, u13i, a14, u13f, u13t⟩ := tm_el (i := i3_1) h8 (by omega) (by omega)
        have t_a14 : T_1 a14 = some (0, 3, 0) := u13t
        refine mv_callV_s (kc' := 0) (ks' := 0) [.int i3_1] [.int i3_1, .ref e1] d_Fund_hasEnd_18 lV_Fund_65 h8.1 rfl (tc_L_get (d := d) h8.1 u13e (by omega) (by omega) u13i u13f) rfl (Nat.le_of_ble_eq_true rfl) (Nat.le_of_ble_eq_true rfl) (Nat.le_of_ble_eq_true rfl) rfl ?_
        have h15 : i3_1.toNatClampNeg = (i3_1.toInt).toNat := by have := mz_nat9 (i := i3_1) (by omega); omega
        have f16 := u13f
        rw [h15] at f16
        have := (hE I_1).k kp1_1
        obtain ⟨a17, v18, z19, h20, q21, t_a17, q22, h23⟩ := (hE I_1).el I_1.1 h8 (by omega) f16
        obtain ⟨_, b24, -⟩ := I_1.1 _ _ t_a14
        refine mv_castS (T9 := kF_End) (N := 4) d_Fund_hasEnd_21 (mj_in1 (List.mem_of_getElem? (i := 751) (by decide +kernel)) rfl) b24 rfl ?_
        refine tr_getK (k := 0) q21 d_Fund_hasEnd_24 f_Fund_71_3 ?_
        refine tr_getK (k := 0) q22 d_Fund_hasEnd_27 f_Fund_75_4 ?_
        refine mv_lload_n d_Fund_hasEnd_30 rfl rfl ?_
        refine mv_lneZ (tgt := 37) (a := v18.toInt) (b := x1.toInt) d_Fund_hasEnd_31 d_Fund_hasEnd_32 (by decide) rfl rfl (fun b25 => ?_) (fun b25 => ?_)
        · refine mv_iinc (v := (i3_1 + 1)) (lv' := [(3, .int (i3_1 + 1)), (0, .ref o0), (1, .long x1)]) d_Fund_hasEnd_37 rfl rfl (by decide) rfl ?_
          refine mv_goto (tgt := 2) d_Fund_hasEnd_40 (by decide) ?_
          have b26 : (i3_1 + 1).toInt = i3_1.toInt + 1 := mz_addn 1 1 (by decide) (by have := mz_lo i3_1; omega) (by have := mz_hi i3_1; omega)
          exact (ih1 (i3_1 + 1) T_1 M_1 n_1 I_1 h_q0_1 h_e0_1 (by first | omega | decide) (by have e9 := iv1_1; rw [p_hw_dr h20, if_neg (by omega), show (i3_1.toInt).toNat + 1 = ((i3_1 + 1).toInt).toNat from by omega] at e9; exact e9) kp0_1 kp1_1 (by omega))
        · refine mv_iconst (v := 1) d_Fund_hasEnd_35 (by decide) ?_
          exact mv_iret d_Fund_hasEnd_36 rfl (by decide) ⟨_, I_1, _, rfl, by decide, by decide, (by have e9 := iv1_1; rw [p_hw_dr h20, if_pos (by omega)] at e9; exact (show (1 : Int32).toInt = 1 from by decide).trans e9)⟩
  exact mv_less (Nat.zero_le _) (Nat.zero_le _) (L2_1 4294967296 0 T0 M0 n0 I0 h_o0 h_e1 (by first | omega | decide) (by rw [show (0 : Int32).toInt = 0 from by decide]; rfl) yq1 yz1 (by show (2147483647 - (0 : Int) : Int) < _; decide))
def w_Reader_wordAsNumber_x : List Nat := []
set_option maxHeartbeats 100000000 in theorem tc_Reader_wordAsNumber_x {g : mj_G} {l : Launch} {d : Nat} {T0 : tm_H} {M0 : mj_M} {n0 x9 : Nat} {o0 : Nat} (h_o0 : T0 o0 = some (0, 9, 0))  {pb : Nat → Int} {pn : Nat} {pa : Int} {ps : p_S} (yC : qC M0 o0 pb pn pa) (yD : qS M0 o0 pb pn ps) (yw : ps.1 = 0) (yk1 : p_ki pb pn ps.2.2 = 1) (yk8 : p_sp pb pn ps.2.2 ≤ p_st pb pn ps.2.2 + 8) (I0 : tm_I tm_FT (tm_in w_Reader_wordAsNumber_x) x9 T0 M0 n0 T0 M0 n0) : mj_Met g l kY_Reader_wordAsNumber d [.ref o0] M0 n0 0 0 (tm_Q tm_FT (tm_in w_Reader_wordAsNumber_x) x9 T0 M0 n0 (fun r _ M => ∃ v : Int64, r = some (.long v) ∧ (v.toInt = p_wn pb (p_sp pb pn ps.2.2 - p_st pb pn ps.2.2) (p_st pb pn ps.2.2) 0))) := by
  refine mj_enter (by decide) (Nat.le_of_ble_eq_true rfl) ?_
  have hK : ∀ {T : tm_H} {M : mj_M} {n : Nat}, tm_I tm_FT (tm_in w_Reader_wordAsNumber_x) x9 T0 M0 n0 T M n → qC M o0 pb pn pa := fun I => yC.keep I0.1 I h_o0 (qW_of (by decide +kernel))
  obtain ⟨v1, v2, v3, v4, v5, v6, v7, q8, q9, q10, q11, q12, q13, q14, h15, h16, h17⟩ := yD
  replace h16 := Im.i h16
  replace h17 := Im.i h17
  have := (Im.o h17) yw
  have := yC.1.2.1
  have := p_tp_le (b := pb) (n := pn) (ps.2.2 + 1)
  have : p_sp pb pn ps.2.2 = p_tp pb pn (ps.2.2 + 1) := rfl
  have yW := p_lt_tok yk1
  have yW1 : p_st pb pn ps.2.2 ≤ p_sp pb pn ps.2.2 := yW.1
  have yW2 : ∀ i, p_st pb pn ps.2.2 ≤ i → i < p_sp pb pn ps.2.2 → 97 ≤ pb i ∧ pb i ≤ 122 := yW.2
  refine mv_lconst (v := 0) d_Reader_wordAsNumber_0 (by decide) ?_
  refine mv_lstore_n (lv' := [(1, .long 0), (0, .ref o0)]) d_Reader_wordAsNumber_1 rfl (by decide) rfl ?_
  refine mv_aload_n d_Reader_wordAsNumber_2 rfl rfl ?_
  refine tr_getK (k := 11) q12 d_Reader_wordAsNumber_3 f_Reader_175_9 ?_
  refine mv_istore_n (lv' := [(3, .int v5), (1, .long 0), (0, .ref o0)]) d_Reader_wordAsNumber_6 rfl (by decide) rfl ?_
  have L7_18 : ∀ (k : Nat) (i3_18 : Int32) (l1_18 : Int64) (T_18 : tm_H) (M_18 : mj_M) (n_18 : Nat), tm_I tm_FT (tm_in w_Reader_wordAsNumber_x) x9 T0 M0 n0 T_18 M_18 n_18 → T_18 o0 = some (0, 9, 0) → (p_st pb pn ps.2.2 : Int) ≤ i3_18.toInt → i3_18.toInt ≤ (p_sp pb pn ps.2.2 : Int) → l1_18.toInt = p_wn pb ((i3_18.toInt).toNat - p_st pb pn ps.2.2) (p_st pb pn ps.2.2) 0 → tm_at M_18 o0 9 12 (.int v6) → 2147483647 - i3_18.toInt < (k : Int) → mj_V g l kY_Reader_wordAsNumber d 7 [(3, .int i3_18), (1, .long l1_18), (0, .ref o0)] [] M_18 n_18 0 0 (tm_Q tm_FT (tm_in w_Reader_wordAsNumber_x) x9 T0 M0 n0 (fun r _ M => ∃ v : Int64, r = some (.long v) ∧ (v.toInt = p_wn pb (p_sp pb pn ps.2.2 - p_st pb pn ps.2.2) (p_st pb pn ps.2.2) 0))) := by
    intro k18
    induction k18 with
    | zero =>
      intro i3_18 l1_18 T_18 M_18 n_18 I_18 h_q0_18 iv0_18 iv1_18 iv2_18 kp0_18 hk18
      have := mz_hi i3_18
      omega
    | succ k18 ih18 =>
      intro i3_18 l1_18 T_18 M_18 n_18 I_18 h_q0_18 iv0_18 iv1_18 iv2_18 kp0_18 hk18
      refine mv_iload_n d_Reader_wordAsNumber_7 rfl rfl ?_
      have := mz_hi i3_18
      refine mv_if_ltZ (tgt := 52) (a := i3_18.toInt) d_Reader_wordAsNumber_8 (by decide) rfl (fun b19 => ?_) (fun b19 => ?_)
      · refine mv_lload_n d_Reader_wordAsNumber_52 rfl rfl ?_
        exact mv_lret d_Reader_wordAsNumber_53 rfl ⟨_, I_18, _, rfl, (by first | (have e9 := iv2_18; rw [show (i3_18.toInt).toNat - p_st pb pn ps.2.2 = p_sp pb pn ps.2.2 - p_st pb pn ps.2.2 from by omega] at e9; exact e9) | (exfalso; omega))⟩
      · refine mv_iload_n d_Reader_wordAsNumber_11 rfl rfl ?_
        refine mv_aload_n d_Reader_wordAsNumber_12 rfl rfl ?_
        refine tr_getK (k := 12) kp0_18 d_Reader_wordAsNumber_13 f_Reader_172_9 ?_
        have := mz_hi i3_18
        have := mz_hi v6
        refine mv_icmp_geZ (tgt := 52) (a := i3_18.toInt) (b := v6.toInt) d_Reader_wordAsNumber_16 (by decide) rfl rfl (fun b20 => ?_) (fun b20 => ?_)
        · refine mv_lload_n d_Reader_wordAsNumber_52 rfl rfl ?_
          exact mv_lret d_Reader_wordAsNumber_53 rfl ⟨_, I_18, _, rfl, (by first | (have e9 := iv2_18; rw [show (i3_18.toInt).toNat - p_st pb pn ps.2.2 = p_sp pb pn ps.2.2 - p_st pb pn ps.2.2 from by omega] at e9; exact e9) | (exfalso; omega))⟩
        · refine mv_iload_n d_Reader_wordAsNumber_19 rfl rfl ?_
          refine mv_sipush (v := 400) d_Reader_wordAsNumber_20 (by decide) ?_
          have := mz_hi i3_18
          refine mv_icmp_geZ (tgt := 52) (a := i3_18.toInt) (b := 400) d_Reader_wordAsNumber_23 (by decide) rfl (by decide) (fun b21 => ?_) (fun b21 => ?_)
          · refine mv_lload_n d_Reader_wordAsNumber_52 rfl rfl ?_
            exact mv_lret d_Reader_wordAsNumber_53 rfl ⟨_, I_18, _, rfl, (by first | (have e9 := iv2_18; rw [show (i3_18.toInt).toNat - p_st pb pn ps.2.2 = p_sp pb pn ps.2.2 - p_st pb pn ps.2.2 from by omega] at e9; exact e9) | (exfalso; omega))⟩
          · refine mv_lload_n d_Reader_wordAsNumber_26 rfl rfl ?_
            refine mv_ldc2 d_Reader_wordAsNumber_27 k_Reader_194 ?_
            refine mv_lmul d_Reader_wordAsNumber_30 ?_
            refine mv_aload_n d_Reader_wordAsNumber_31 rfl rfl ?_
            obtain ⟨a23, q22, t_a23⟩ := tm_atR I_18 h_q0_18 (k := 3) rfl
            refine tr_getK q22 d_Reader_wordAsNumber_32 f_Reader_15_9 ?_
            refine mv_iload_n d_Reader_wordAsNumber_35 rfl rfl ?_
            refine tr_iald9 (o := o0) (k := 3) I_18 q22 t_a23 (by decide) d_Reader_wordAsNumber_36 (vp_in_iff.mpr (by omega)) (fun v24 e25 => ?_)
            have : v24.toInt = pb (i3_18.toInt).toNat := by rw [e25, show i3_18.toNatClampNeg = (i3_18.toInt).toNat from by have := mz_nat9 (i := i3_18) (by omega); omega]; exact (hK I_18).1.2.2.2 _ (by omega)
            have := yW2 (i3_18.toInt).toNat (by omega) (by omega)
            refine mv_i2l (v := v24.toInt64) d_Reader_wordAsNumber_37 rfl ?_
            refine mv_ladd d_Reader_wordAsNumber_38 ?_
            refine mv_ldc2 d_Reader_wordAsNumber_39 k_Reader_196 ?_
            refine mv_lsub d_Reader_wordAsNumber_42 ?_
            refine mv_lconst (v := 1) d_Reader_wordAsNumber_43 (by decide) ?_
            refine mv_ladd d_Reader_wordAsNumber_44 ?_
            refine mv_lstore_n (lv' := [(1, .long ((((l1_18 * 32) + v24.toInt64) - 97) + 1)), (3, .int i3_18), (0, .ref o0)]) d_Reader_wordAsNumber_45 rfl (by decide) rfl ?_
            refine mv_iinc (v := (i3_18 + 1)) (lv' := [(3, .int (i3_18 + 1)), (1, .long ((((l1_18 * 32) + v24.toInt64) - 97) + 1)), (0, .ref o0)]) d_Reader_wordAsNumber_46 rfl rfl (by decide) rfl ?_
            refine mv_goto (tgt := 7) d_Reader_wordAsNumber_49 (by decide) ?_
            have hw8 := p_wn_8 (b := pb) (m := (i3_18.toInt).toNat - p_st pb pn ps.2.2) (s := p_st pb pn ps.2.2) (fun j hj => yW2 _ (by omega) (by omega)) (by omega)
            have : (((((l1_18 * 32) + v24.toInt64) - 97) + 1) : Int64).toInt = l1_18.toInt * 32 + v24.toInt - 97 + 1 := mz_addL (mz_subL (mz_addL (mz_mulL rfl (by decide) (by omega) (by omega)) (mz_wide _) (by omega) (by omega)) (by decide) (by omega) (by omega)) (by decide) (by omega) (by omega)
            have b26 : (i3_18 + 1).toInt = i3_18.toInt + 1 := mz_addn 1 1 (by decide) (by have := mz_lo i3_18; omega) (by have := mz_hi i3_18; omega)
            exact (ih18 (i3_18 + 1) ((((l1_18 * 32) + v24.toInt64) - 97) + 1) T_18 M_18 n_18 I_18 h_q0_18 (by first | omega | decide) (by first | omega | decide) (by have e9 := iv2_18; rw [show ((i3_18 + 1).toInt).toNat - p_st pb pn ps.2.2 = ((i3_18.toInt).toNat - p_st pb pn ps.2.2) + 1 from by omega, p_wn_out, ← e9, show p_st pb pn ps.2.2 + ((i3_18.toInt).toNat - p_st pb pn ps.2.2) = (i3_18.toInt).toNat from by omega]; omega) kp0_18 (by omega))
  exact mv_less (Nat.zero_le _) (Nat.zero_le _) (L7_18 4294967296 v5 0 T0 M0 n0 I0 h_o0 (by first | omega | decide) (by first | omega | decide) (by rw [show (0 : Int64).toInt = 0 from by decide, show (v5.toInt).toNat - p_st pb pn ps.2.2 = 0 from by omega]; rfl) q13 (by have := mz_lo v5; omega))
def w_Reader_endText_q4_x : List Nat := [901, 902, 909, 910, 911, 912, 913, 914, 916, 918, 967]
set_option maxHeartbeats 100000000 in theorem tc_Reader_endText_q4_x {g : mj_G} {l : Launch} {d : Nat} {T0 : tm_H} {M0 : mj_M} {n0 x9 : Nat} {o0 : Nat} {o1 : Nat} (h_o0 : T0 o0 = some (0, 9, 0)) (h_o1 : T0 o1 = some (0, 6, 0)) {p : Int32} (hO : tm_at M0 o0 9 16 (.int p)) (hp : 0 ≤ p.toInt) (hp2 : p.toInt ≤ 0) {pb : Nat → Int} {pn : Nat} {pa : Int} {ps : p_S} (yC : qC M0 o0 pb pn pa) (yD : qS M0 o0 pb pn ps) (yw : ps.1 = 0) (yz : p_ki pb pn ps.2.2 ≠ 0) {e1 : Nat} {pN9 : List (Nat × Nat)} (h_e1 : T0 e1 = some (3, 3, o1)) (yq1 : tm_at M0 o1 6 11 (.ref e1)) (yE : qE M0 e1 pb pN9) (I0 : tm_I tm_FT (tm_in w_Reader_endText_q4_x) x9 T0 M0 n0 T0 M0 n0) : mj_Met g l kY_Reader_endText (d + 20) [.ref o0, .ref o1] M0 n0 5 807 (tm_Q tm_FT (tm_in w_Reader_endText_q4_x) x9 T0 M0 n0 (fun r T M => (r = some .null ∧ qS M o0 pb pn (p_en1 pb pn pa pN9 (p_nx ps)) ∧ (p_en1 pb pn pa pN9 (p_nx ps)).1 ≠ 0) ∨ ∃ b, r = some (.ref b) ∧ T b = some (0, 4, 0) ∧ tm_at M o0 9 16 (.int p) ∧ qS M o0 pb pn (p_en1 pb pn pa pN9 (p_nx ps)) ∧ (p_en1 pb pn pa pN9 (p_nx ps)).1 = 0 ∧ p_ki pb pn (ps.2.2 + 1) = 1 ∧ ∃ nv : Int64, tm_at M b 4 0 (.long nv) ∧ nv.toInt = p_wn pb (p_sp pb pn (ps.2.2 + 1) - p_st pb pn (ps.2.2 + 1)) (p_st pb pn (ps.2.2 + 1)) 0)) := by
  refine mj_enter (by decide) (Nat.le_of_ble_eq_true rfl) ?_
  have hK : ∀ {T : tm_H} {M : mj_M} {n : Nat}, tm_I tm_FT (tm_in w_Reader_endText_q4_x) x9 T0 M0 n0 T M n → qC M o0 pb pn pa := fun I => yC.keep I0.1 I h_o0 (qW_of (by decide +kernel))
  obtain ⟨v1, v2, v3, v4, v5, v6, v7, q8, q9, q10, q11, q12, q13, q14, h15, h16, h17⟩ := yD
  replace h16 := Im.i h16
  replace h17 := Im.i h17
  have := yC.kn ps.2.2
  have hE : ∀ {T : tm_H} {M : mj_M} {n : Nat}, tm_I tm_FT (tm_in w_Reader_endText_q4_x) x9 T0 M0 n0 T M n → qE M e1 pb pN9 := fun I => yE.keep I0.1 I h_e1 (by decide +kernel) (by decide +kernel) (by decide +kernel)
  refine mv_aload_n d_Reader_endText_0 rfl rfl ?_
  obtain ⟨_, b24, -⟩ := I0.1 _ _ h_o0
  refine mv_callV (kc' := 5) (ks' := 807) (As := []) (st9 := [.ref o0]) d_Reader_endText_1 lV_Reader_82 b24 rfl (tc_Reader_advance_x (d := (d + 19)) (x9 := x9) (o0 := o0) h_o0 (hK I0) (qS.a (show qS M0 o0 pb pn ps from ⟨_, _, _, _, _, _, _, q8, q9, q10, q11, q12, q13, q14, h15, Im.o h16, Im.o h17⟩)) (by show ps.2.2 + 1 ≤ 401; omega) I0.start) rfl (Nat.le_of_ble_eq_true rfl) (Nat.le_of_ble_eq_true rfl) (Nat.le_of_ble_eq_true rfl) (hst := rfl) (fun b18r M19 n20 b18 => ?_)
  obtain ⟨T21, J22, rfl, f25⟩ := b18
  have I23 := I0.call J22 (tm_sub (by decide)) (Or.inl rfl)
  have t26 := J22.up h_o0
  have t27 := J22.up h_o1
  have q28 := J22.keep h_o0 (by decide) hO
  have q29 := J22.keep h_o0 (by decide) q8
  have q30 := J22.keep h_o0 (by decide) q9
  obtain ⟨s31, e32⟩ : ∃ s9 : p_S, p_nx ps = s9 := ⟨_, rfl⟩
  rw [e32] at f25
  have : s31.1 = 0 := by rw [← e32]; show ps.1 = 0; omega
  obtain ⟨v33, v34, v35, v36, v37, v38, v39, q40, q41, q42, q43, q44, q45, q46, h47, h48, h49⟩ := f25
  replace h48 := Im.i h48
  replace h49 := Im.i h49
  have hz1 : ps.2.2 + 1 = s31.2.2 := by rw [← e32]; rfl
  have := (Im.o h49) (by omega)
  have := yC.1.2.1
  have := p_tp_le (b := pb) (n := pn) (s31.2.2 + 1)
  have : p_sp pb pn s31.2.2 = p_tp pb pn (s31.2.2 + 1) := rfl
  have := p_st_le (b := pb) (n := pn) (k := s31.2.2)
  refine mv_aload_n d_Reader_endText_4 rfl rfl ?_
  refine tr_getK (k := 12) q45 d_Reader_endText_5 f_Reader_172_9 ?_
  refine mv_aload_n d_Reader_endText_8 rfl rfl ?_
  refine tr_getK (k := 11) q44 d_Reader_endText_9 f_Reader_175_9 ?_
  refine mv_isub d_Reader_endText_12 ?_
  refine mv_istore_n (lv' := [(2, .int (v38 - v37)), (0, .ref o0), (1, .ref o1)]) d_Reader_endText_13 rfl (by decide) rfl ?_
  refine mv_aload_n d_Reader_endText_14 rfl rfl ?_
  refine tr_getK (k := 10) q43 d_Reader_endText_15 f_Reader_41_9 ?_
  refine mv_iconst (v := 1) d_Reader_endText_18 (by decide) ?_
  have := mz_hi v36
  refine mv_icmp_neZ (tgt := 28) (a := v36.toInt) (b := 1) d_Reader_endText_19 (by decide) rfl (by decide) (fun b50 => ?_) (fun b50 => ?_)
  · refine mv_aload_n d_Reader_endText_28 rfl rfl ?_
    refine mv_iconst (v := 1) d_Reader_endText_29 (by decide) ?_
    obtain ⟨_, b51, -⟩ := I23.1 _ _ t26
    refine mv_callV (kc1 := 0) (ks1 := 0) (kc' := 0) (ks' := 0) (As := [.int 1]) (st9 := [.int 1, .ref o0]) d_Reader_endText_30 lV_Reader_56 b51 rfl (mj_enter (by decide) (Nat.le_of_ble_eq_true rfl) ?_) rfl (Nat.le_of_ble_eq_true rfl) (Nat.le_of_ble_eq_true rfl) (Nat.le_of_ble_eq_true rfl) (hst := rfl) (fun _ _ _ h => h)
    refine mv_aload_n d_Reader_refuse_0 rfl rfl ?_
    refine mv_iload_n d_Reader_refuse_1 rfl rfl ?_
    refine tr_putK tm_okF I23 t26 (k := 1) rfl ⟨_, rfl⟩ (Or.inl (by decide)) d_Reader_refuse_2 p_Reader_70_9 rfl rfl (fun M52 I53 q54 K55 => ?_)
    refine mv_aload_n d_Reader_refuse_5 rfl rfl ?_
    refine mv_aload_n d_Reader_refuse_6 rfl rfl ?_
    refine tr_getK (k := 11) (K55 _ 9 11 _ rfl q44) d_Reader_refuse_7 f_Reader_175_9 ?_
    refine tr_putK tm_okF I53 t26 (k := 2) rfl ⟨_, rfl⟩ (Or.inl (by decide)) d_Reader_refuse_10 p_Reader_11_9 rfl rfl (fun M56 I57 q58 K59 => ?_)
    refine mv_iconst (v := 0) d_Reader_refuse_13 (by decide) ?_
    obtain ⟨s60, e61⟩ : ∃ s9 : p_S, p_fl pb pn 1 s31 = s9 := ⟨_, rfl⟩
    have h62 := q_fl e61 (by omega) (by decide)
    have h63 : (1 : Int32).toInt = s60.1 := (by have e9 : (1 : Int32).toInt = 1 := (by decide); omega)
    have h64 : Im (s60.1 ≠ 0 → v37.toInt = (s60.2.1 : Int)) := Im.i (fun _ => by have := (Im.o h49) (by omega); omega)
    have h65 : Im (s60.1 = 0 → v35.toInt = (s60.2.2 : Int) ∧ v36.toInt = p_ki pb pn s60.2.2 ∧ v37.toInt = (p_st pb pn s60.2.2 : Int) ∧ v38.toInt = (p_sp pb pn s60.2.2 : Int) ∧ v39.toInt = p_va pb pn s60.2.2 ∧ v37.toInt = -1) := Im.i (fun z9 => absurd z9 h62.2.2)
    refine mv_iret d_Reader_refuse_14 rfl (by decide) ?_
    refine mv_pop d_Reader_endText_33 rfl ?_
    refine mv_null d_Reader_endText_34 ?_
    exact mv_aret (r := none) d_Reader_endText_35 rfl (by first | exact Or.inl ⟨_, rfl⟩ | exact Or.inr ⟨_, rfl⟩) ⟨_, I57, Or.inl ⟨rfl, (by have := (Im.o h49) (by omega); have := yC.d s31.2.2; have := yC.kn s31.2.2; have hb : s60.1 ≠ 0 := (by omega); have z1 : ∀ c, p_sg pb pn c s60 = s60 := (fun c => p_sg_Z s60 hb); have z2 : ∀ c, p_wd pb pn c s60 = s60 := (fun c => p_wd_Z s60 hb); have z3 : ∀ op, p_sum pb pn pa op s60 = s60 := (fun op => p_sum_Z s60 hb); have z4 : ∀ r oc, p_con pb pn pa r oc s60 = s60 := (fun r oc => p_con_Z s60 hb); have z5 : p_prt pb pn s60 = s60 := p_prt_Z s60 hb; have eT : p_en1 pb pn pa pN9 (p_nx ps) = s60 := (by unfold p_en1; unfold p_prt; (try simp only [e32, e61, z1, z2, z3, z4, z5]); ((repeat' (first | (with_reducible rfl) | split)) <;> (first | ((try simp only [e32, e61, z1, z2, z3, z4, z5]); done) | (exfalso; omega)))); rw [eT]; exact ⟨⟨_, _, _, _, _, _, _, (K59 _ 9 1 _ rfl q54), q58, (K59 _ 9 9 _ rfl (K55 _ 9 9 _ rfl q42)), (K59 _ 9 10 _ rfl (K55 _ 9 10 _ rfl q43)), (K59 _ 9 11 _ rfl (K55 _ 9 11 _ rfl q44)), (K59 _ 9 12 _ rfl (K55 _ 9 12 _ rfl q45)), (K59 _ 9 13 _ rfl (K55 _ 9 13 _ rfl q46)), h63, Im.o h64, Im.o h65⟩, by omega⟩)⟩⟩
  · refine mv_iload_n d_Reader_endText_22 rfl rfl ?_
    refine mv_bipush (v := 8) d_Reader_endText_23 (by decide) ?_
    have : ((v38 - v37) : Int32).toInt = v38.toInt - v37.toInt := mz_sub2 rfl rfl (by omega) (by omega)
    have := mz_hi (v38 - v37)
    refine mv_icmp_leZ (tgt := 36) (a := (v38 - v37).toInt) (b := 8) d_Reader_endText_25 (by decide) rfl (by decide) (fun b66 => ?_) (fun b66 => ?_)
    · refine mv_aload_n d_Reader_endText_36 rfl rfl ?_
      obtain ⟨_, b73, -⟩ := I23.1 _ _ t26
      refine mv_callV (kc' := 5) (ks' := 807) (As := []) (st9 := [.ref o0]) d_Reader_endText_37 lV_Reader_178 b73 rfl (tc_Reader_wordAsNumber_x (d := (d + 19)) (x9 := x9) (o0 := o0) t26 (ps := s31) (hK I23) ⟨_, _, _, _, _, _, _, q40, q41, q42, q43, q44, q45, q46, h47, Im.o h48, Im.o h49⟩ (by omega) (by have := (Im.o h49) (by omega); have := yC.d s31.2.2; have := yC.kn s31.2.2; omega) (by have := (Im.o h49) (by omega); have := yC.d s31.2.2; have := yC.kn s31.2.2; omega) I23.start) rfl (Nat.le_of_ble_eq_true rfl) (Nat.le_of_ble_eq_true rfl) (Nat.le_of_ble_eq_true rfl) (hst := rfl) (fun b67r M68 n69 b67 => ?_)
      obtain ⟨T70, J71, v74, rfl, f75⟩ := b67
      have I72 := I23.call J71 (tm_sub (by decide)) (Or.inl rfl)
      have t76 := J71.up t26
      have t77 := J71.up t27
      have q78 := J71.keep t26 (by decide) q28
      have q79 := J71.keep (I23.up h_o0) (by decide) q40
      have q80 := J71.keep (I23.up h_o0) (by decide) q41
      have q81 := J71.keep (I23.up h_o0) (by decide) q42
      have q82 := J71.keep (I23.up h_o0) (by decide) q43
      have q83 := J71.keep (I23.up h_o0) (by decide) q44
      have q84 := J71.keep (I23.up h_o0) (by decide) q45
      have q85 := J71.keep (I23.up h_o0) (by decide) q46
      refine mv_lstore_n (lv' := [(3, .long v74), (2, .int (v38 - v37)), (0, .ref o0), (1, .ref o1)]) d_Reader_endText_40 rfl (by decide) rfl ?_
      refine mv_aload_n d_Reader_endText_41 rfl rfl ?_
      refine mv_ifnull d_Reader_endText_42 ?_
      refine mv_aload_n d_Reader_endText_45 rfl rfl ?_
      refine mv_lload_n d_Reader_endText_46 rfl rfl ?_
      obtain ⟨_, b92, -⟩ := I72.1 _ _ t77
      refine mv_callV (kc' := 5) (ks' := 807) (As := [.long v74]) (st9 := [.long v74, .ref o1]) d_Reader_endText_47 lV_Reader_182 b92 rfl (tc_Fund_hasEnd_x (d := (d + 16)) (x9 := x9) (o0 := o1) (x1 := v74) t77 (I72.up h_e1) (I72.keep h_o1 (by decide +kernel) yq1) (hE I72) I72.start) rfl (Nat.le_of_ble_eq_true rfl) (Nat.le_of_ble_eq_true rfl) (Nat.le_of_ble_eq_true rfl) (hst := rfl) (fun b86r M87 n88 b86 => ?_)
      obtain ⟨T89, J90, v93, rfl, b94, b95, f96⟩ := b86
      have I91 := I72.call J90 (tm_sub (by decide)) (Or.inl rfl)
      have t97 := J90.up t76
      have t98 := J90.up t77
      have q99 := J90.keep t76 (by decide) q78
      have q100 := J90.keep t76 (by decide) q79
      have q101 := J90.keep t76 (by decide) q80
      have q102 := J90.keep t76 (by decide) q81
      have q103 := J90.keep t76 (by decide) q82
      have q104 := J90.keep t76 (by decide) q83
      have q105 := J90.keep t76 (by decide) q84
      have q106 := J90.keep t76 (by decide) q85
      have : v93.toInt = p_hs pb pN9 (p_st pb pn s31.2.2) (p_sp pb pn s31.2.2) := f96.trans (by rw [f75]; exact p_hw_hs (p_lt_tok (by have := (Im.o h49) (by omega); have := yC.d s31.2.2; have := yC.kn s31.2.2; omega)) pN9 yE.2.1)
      have := mz_hi v93
      refine mv_if_eqZ (tgt := 61) (a := v93.toInt) d_Reader_endText_50 (by decide) rfl (fun b107 => ?_) (fun b107 => ?_)
      · refine mv_aload_n d_Reader_endText_61 rfl rfl ?_
        obtain ⟨_, b114, -⟩ := I91.1 _ _ t97
        refine mv_callV (kc' := 5) (ks' := 807) (As := []) (st9 := [.ref o0]) d_Reader_endText_62 lV_Reader_82 b114 rfl (tc_Reader_advance_x (d := (d + 19)) (x9 := x9) (o0 := o0) t97 (hK I91) (qS.a (show qS M87 o0 pb pn s31 from ⟨_, _, _, _, _, _, _, q100, q101, q102, q103, q104, q105, q106, h47, Im.o h48, Im.o h49⟩)) (by have := (Im.o h49) (by omega); have := yC.d s31.2.2; have := yC.kn s31.2.2; show s31.2.2 + 1 ≤ 401; omega) I91.start) rfl (Nat.le_of_ble_eq_true rfl) (Nat.le_of_ble_eq_true rfl) (Nat.le_of_ble_eq_true rfl) (hst := rfl) (fun b108r M109 n110 b108 => ?_)
        obtain ⟨T111, J112, rfl, f115⟩ := b108
        have I113 := I91.call J112 (tm_sub (by decide)) (Or.inl rfl)
        have t116 := J112.up t97
        have t117 := J112.up t98
        have q118 := J112.keep t97 (by decide) q99
        have q119 := J112.keep t97 (by decide) q100
        have q120 := J112.keep t97 (by decide) q101
        obtain ⟨s121, e122⟩ : ∃ s9 : p_S, p_nx s31 = s9 := ⟨_, rfl⟩
        rw [e122] at f115
        have : s121.1 = 0 := by rw [← e122]; show s31.1 = 0; omega
        obtain ⟨v123, v124, v125, v126, v127, v128, v129, q130, q131, q132, q133, q134, q135, q136, h137, h138, h139⟩ := f115
        replace h138 := Im.i h138
        replace h139 := Im.i h139
        refine mv_aload_n d_Reader_endText_65 rfl rfl ?_
        refine mv_iconst (v := 0) d_Reader_endText_66 (by decide) ?_
        refine tr_putK tm_okF I113 t116 (k := 18) rfl ⟨_, rfl⟩ (Or.inl (by decide)) d_Reader_endText_67 p_Reader_118_9 rfl rfl (fun M140 I141 q142 K143 => ?_)
        refine mv_aload_n d_Reader_endText_70 rfl rfl ?_
        refine mv_bipush (v := 27) d_Reader_endText_71 (by decide) ?_
        obtain ⟨_, b150, -⟩ := I141.1 _ _ t116
        refine mv_callV (kc' := 5) (ks' := 807) (As := [.int 27]) (st9 := [.int 27, .ref o0]) d_Reader_endText_73 lV_Reader_121 b150 rfl (tc_Reader_word_x (d := (d + 18)) (x9 := x9) (o0 := o0) (x1 := 27) t116 (hK I141) ⟨_, _, _, _, _, _, _, (K143 _ 9 1 _ rfl q130), (K143 _ 9 2 _ rfl q131), (K143 _ 9 9 _ rfl q132), (K143 _ 9 10 _ rfl q133), (K143 _ 9 11 _ rfl q134), (K143 _ 9 12 _ rfl q135), (K143 _ 9 13 _ rfl q136), h137, Im.o h138, Im.o h139⟩ (by omega) (by first | omega | decide) I141.start) rfl (Nat.le_of_ble_eq_true rfl) (Nat.le_of_ble_eq_true rfl) (Nat.le_of_ble_eq_true rfl) (hst := rfl) (fun b144r M145 n146 b144 => ?_)
        obtain ⟨T147, J148, v151, rfl, b152, b153, f154, f155⟩ := b144
        have I149 := I141.call J148 (tm_sub (by decide)) (Or.inl rfl)
        have t156 := J148.up t116
        have t157 := J148.up t117
        have q158 := J148.keep t116 (by decide) (K143 _ 9 16 _ rfl q118)
        have q159 := J148.keep t116 (by decide) q142
        rw [show (27 : Int32).toInt = 27 from by decide] at f154 f155
        obtain ⟨s160, e161⟩ : ∃ s9 : p_S, p_wd pb pn 27 s121 = s9 := ⟨_, rfl⟩
        rw [e161] at f154 f155
        obtain ⟨v162, v163, v164, v165, v166, v167, v168, q169, q170, q171, q172, q173, q174, q175, h176, h177, h178⟩ := f154
        replace h177 := Im.i h177
        replace h178 := Im.i h178
        have := mz_hi v151
        refine mv_if_eqZ (tgt := 86) (a := v151.toInt) d_Reader_endText_76 (by decide) rfl (fun b179 => ?_) (fun b179 => ?_)
        · refine mv_null d_Reader_endText_86 ?_
          exact mv_aret (r := none) d_Reader_endText_87 rfl (by first | exact Or.inl ⟨_, rfl⟩ | exact Or.inr ⟨_, rfl⟩) ⟨_, I149, Or.inl ⟨rfl, (by have := (Im.o h49) (by omega); have := yC.d s31.2.2; have := yC.kn s31.2.2; have hb : s160.1 ≠ 0 := (by omega); have z1 : ∀ c, p_sg pb pn c s160 = s160 := (fun c => p_sg_Z s160 hb); have z2 : ∀ c, p_wd pb pn c s160 = s160 := (fun c => p_wd_Z s160 hb); have z3 : ∀ op, p_sum pb pn pa op s160 = s160 := (fun op => p_sum_Z s160 hb); have z4 : ∀ r oc, p_con pb pn pa r oc s160 = s160 := (fun r oc => p_con_Z s160 hb); have z5 : p_prt pb pn s160 = s160 := p_prt_Z s160 hb; have eT : p_en1 pb pn pa pN9 (p_nx ps) = s160 := (by unfold p_en1; unfold p_prt; (try simp only [e32, e122, e161, z1, z2, z3, z4, z5]); ((repeat' (first | (with_reducible rfl) | split)) <;> (first | ((try simp only [e32, e122, e161, z1, z2, z3, z4, z5]); done) | (exfalso; omega)))); rw [eT]; exact ⟨⟨_, _, _, _, _, _, _, q169, q170, q171, q172, q173, q174, q175, h176, Im.o h177, Im.o h178⟩, by omega⟩)⟩⟩
        · refine mv_aload_n d_Reader_endText_79 rfl rfl ?_
          obtain ⟨_, b186, -⟩ := I149.1 _ _ t156
          refine mv_callV (kc' := 5) (ks' := 807) (As := []) (st9 := [.ref o0]) d_Reader_endText_80 lV_Reader_186 b186 rfl (tc_Reader_sum_q4_x (d := (d + 3)) (x9 := x9) (o0 := o0) t156 (p := p) q158 (by omega) (by first | omega | decide) (hK I149) ⟨_, _, _, _, _, _, _, q169, q170, q171, q172, q173, q174, q175, h176, Im.o h177, Im.o h178⟩ (by omega) I149.start) rfl (Nat.le_of_ble_eq_true rfl) (Nat.le_of_ble_eq_true rfl) (Nat.le_of_ble_eq_true rfl) (hst := rfl) (fun b180r M181 n182 b180 => ?_)
          obtain ⟨T183, J184, v187, rfl, b188, b189, o190, f191, f192⟩ := b180
          have I185 := I149.call J184 (tm_sub (by decide)) (Or.inl rfl)
          have t193 := J184.up t156
          have t194 := J184.up t157
          obtain ⟨s195, e196⟩ : ∃ s9 : p_S, p_sum pb pn pa (p_op pb pn pa 4) s160 = s9 := ⟨_, rfl⟩
          rw [e196] at f191 f192
          obtain ⟨v197, v198, v199, v200, v201, v202, v203, q204, q205, q206, q207, q208, q209, q210, h211, h212, h213⟩ := f191
          replace h212 := Im.i h212
          replace h213 := Im.i h213
          have := mz_hi v187
          refine mv_if_neZ (tgt := 88) (a := v187.toInt) d_Reader_endText_83 (by decide) rfl (fun b214 => ?_) (fun b214 => ?_)
          · have q215 := o190 (by omega)
            refine mv_aload_n d_Reader_endText_88 rfl rfl ?_
            obtain ⟨_, b222, -⟩ := I185.1 _ _ t193
            refine mv_callV (kc' := 3) (ks' := 406) (As := []) (st9 := [.ref o0]) d_Reader_endText_89 lV_Reader_128 b222 rfl (tc_Reader_stepsTaken (d := (d + 17)) (x9 := x9) (o0 := o0) t193 I185.start) rfl (Nat.le_of_ble_eq_true rfl) (Nat.le_of_ble_eq_true rfl) (Nat.le_of_ble_eq_true rfl) (hst := rfl) (fun b216r M217 n218 b216 => ?_)
            obtain ⟨T219, J220, a223, rfl, t_a223⟩ := b216
            have I221 := I185.call J220 (tm_sub (by decide)) (Or.inl rfl)
            have t224 := J220.up t193
            have t225 := J220.up t194
            have q226 := J220.keep (I185.up h_o0) (by decide) q204
            have q227 := J220.keep (I185.up h_o0) (by decide) q205
            have q228 := J220.keep (I185.up h_o0) (by decide) q206
            have q229 := J220.keep (I185.up h_o0) (by decide) q207
            have q230 := J220.keep (I185.up h_o0) (by decide) q208
            have q231 := J220.keep (I185.up h_o0) (by decide) q209
            have q232 := J220.keep (I185.up h_o0) (by decide) q210
            have q233 := J220.keep t193 (by decide) q215
            refine mv_astore (lv' := [(5, .ref a223), (3, .long v74), (2, .int (v38 - v37)), (0, .ref o0), (1, .ref o1)]) d_Reader_endText_92 (by decide) rfl ?_
            refine mv_aload_n d_Reader_endText_94 rfl rfl ?_
            refine mv_iconst (v := 0) d_Reader_endText_95 (by decide) ?_
            refine tr_putK tm_okF I221 t224 (k := 18) rfl ⟨_, rfl⟩ (Or.inl (by decide)) d_Reader_endText_96 p_Reader_118_9 rfl rfl (fun M234 I235 q236 K237 => ?_)
            refine mv_aload_n d_Reader_endText_99 rfl rfl ?_
            refine mv_bipush (v := 28) d_Reader_endText_100 (by decide) ?_
            obtain ⟨_, b244, -⟩ := I235.1 _ _ t224
            refine mv_callV (kc' := 3) (ks' := 406) (As := [.int 28]) (st9 := [.int 28, .ref o0]) d_Reader_endText_102 lV_Reader_121 b244 rfl (tc_Reader_word_x (d := (d + 18)) (x9 := x9) (o0 := o0) (x1 := 28) t224 (hK I235) ⟨_, _, _, _, _, _, _, (K237 _ 9 1 _ rfl q226), (K237 _ 9 2 _ rfl q227), (K237 _ 9 9 _ rfl q228), (K237 _ 9 10 _ rfl q229), (K237 _ 9 11 _ rfl q230), (K237 _ 9 12 _ rfl q231), (K237 _ 9 13 _ rfl q232), h211, Im.o h212, Im.o h213⟩ (by omega) (by first | omega | decide) I235.start) rfl (Nat.le_of_ble_eq_true rfl) (Nat.le_of_ble_eq_true rfl) (Nat.le_of_ble_eq_true rfl) (hst := rfl) (fun b238r M239 n240 b238 => ?_)
            obtain ⟨T241, J242, v245, rfl, b246, b247, f248, f249⟩ := b238
            have I243 := I235.call J242 (tm_sub (by decide)) (Or.inl rfl)
            have t250 := J242.up t_a223
            have t251 := J242.up t224
            have t252 := J242.up t225
            have q253 := J242.keep t224 (by decide) (K237 _ 9 16 _ rfl q233)
            have q254 := J242.keep t224 (by decide) q236
            rw [show (28 : Int32).toInt = 28 from by decide] at f248 f249
            obtain ⟨s255, e256⟩ : ∃ s9 : p_S, p_wd pb pn 28 s195 = s9 := ⟨_, rfl⟩
            rw [e256] at f248 f249
            obtain ⟨v257, v258, v259, v260, v261, v262, v263, q264, q265, q266, q267, q268, q269, q270, h271, h272, h273⟩ := f248
            replace h272 := Im.i h272
            replace h273 := Im.i h273
            have := mz_hi v245
            refine mv_if_eqZ (tgt := 115) (a := v245.toInt) d_Reader_endText_105 (by decide) rfl (fun b274 => ?_) (fun b274 => ?_)
            · refine mv_null d_Reader_endText_115 ?_
              exact mv_aret (r := none) d_Reader_endText_116 rfl (by first | exact Or.inl ⟨_, rfl⟩ | exact Or.inr ⟨_, rfl⟩) ⟨_, I243, Or.inl ⟨rfl, (by have := (Im.o h49) (by omega); have := yC.d s31.2.2; have := yC.kn s31.2.2; have hb : s255.1 ≠ 0 := (by omega); have z1 : ∀ c, p_sg pb pn c s255 = s255 := (fun c => p_sg_Z s255 hb); have z2 : ∀ c, p_wd pb pn c s255 = s255 := (fun c => p_wd_Z s255 hb); have z3 : ∀ op, p_sum pb pn pa op s255 = s255 := (fun op => p_sum_Z s255 hb); have z4 : ∀ r oc, p_con pb pn pa r oc s255 = s255 := (fun r oc => p_con_Z s255 hb); have z5 : p_prt pb pn s255 = s255 := p_prt_Z s255 hb; have eT : p_en1 pb pn pa pN9 (p_nx ps) = s255 := (by unfold p_en1; unfold p_prt; (try simp only [e32, e122, e161, e196, e256, z1, z2, z3, z4, z5]); ((repeat' (first | (with_reducible rfl) | split)) <;> (first | ((try simp only [e32, e122, e161, e196, e256, z1, z2, z3, z4, z5]); done) | (exfalso; omega)))); rw [eT]; exact ⟨⟨_, _, _, _, _, _, _, q264, q265, q266, q267, q268, q269, q270, h271, Im.o h272, Im.o h273⟩, by omega⟩)⟩⟩
            · refine mv_aload_n d_Reader_endText_108 rfl rfl ?_
              obtain ⟨_, b281, -⟩ := I243.1 _ _ t251
              refine mv_callV (kc' := 3) (ks' := 406) (As := []) (st9 := [.ref o0]) d_Reader_endText_109 lV_Reader_124 b281 rfl (tc_Reader_condition_q4_x (d := d) (x9 := x9) (o0 := o0) t251 (p := p) q253 (by omega) (by first | omega | decide) (hK I243) ⟨_, _, _, _, _, _, _, q264, q265, q266, q267, q268, q269, q270, h271, Im.o h272, Im.o h273⟩ (by omega) I243.start) rfl (Nat.le_of_ble_eq_true rfl) (Nat.le_of_ble_eq_true rfl) (Nat.le_of_ble_eq_true rfl) (hst := rfl) (fun b275r M276 n277 b275 => ?_)
              obtain ⟨T278, J279, v282, rfl, b283, b284, o285, f286, f287⟩ := b275
              have I280 := I243.call J279 (tm_sub (by decide)) (Or.inl rfl)
              have t288 := J279.up t250
              have t289 := J279.up t251
              have t290 := J279.up t252
              obtain ⟨s291, e292⟩ : ∃ s9 : p_S, p_con pb pn pa 4 (p_oc pb pn pa 4) s255 = s9 := ⟨_, rfl⟩
              rw [e292] at f286 f287
              obtain ⟨v293, v294, v295, v296, v297, v298, v299, q300, q301, q302, q303, q304, q305, q306, h307, h308, h309⟩ := f286
              replace h308 := Im.i h308
              replace h309 := Im.i h309
              have := mz_hi v282
              refine mv_if_neZ (tgt := 117) (a := v282.toInt) d_Reader_endText_112 (by decide) rfl (fun b310 => ?_) (fun b310 => ?_)
              · have q311 := o285 (by omega)
                refine mv_aload_n d_Reader_endText_117 rfl rfl ?_
                refine mv_bipush (v := 29) d_Reader_endText_118 (by decide) ?_
                obtain ⟨_, b312, -⟩ := I280.1 _ _ t289
                refine mv_callV (kc1 := 0) (ks1 := 0) (kc' := 3) (ks' := 406) (As := [.int 29]) (st9 := [.int 29, .ref o0]) d_Reader_endText_120 lV_Reader_52 b312 rfl (mj_enter (by decide) (Nat.le_of_ble_eq_true rfl) ?_) rfl (Nat.le_of_ble_eq_true rfl) (Nat.le_of_ble_eq_true rfl) (Nat.le_of_ble_eq_true rfl) (hst := rfl) (fun _ _ _ h => h)
                refine mv_aload_n d_Reader_isWord_0 rfl rfl ?_
                refine tr_getK (k := 10) q303 d_Reader_isWord_1 f_Reader_41_9 ?_
                refine mv_iconst (v := 1) d_Reader_isWord_4 (by decide) ?_
                have := mz_hi v296
                refine mv_icmp_neZ (tgt := 20) (a := v296.toInt) (b := 1) d_Reader_isWord_5 (by decide) rfl (by decide) (fun b313 => ?_) (fun b313 => ?_)
                · refine mv_iconst (v := 0) d_Reader_isWord_20 (by decide) ?_
                  refine mv_iret d_Reader_isWord_21 rfl (by decide) ?_
                  refine mv_istore (lv' := [(6, .int 0), (5, .ref a223), (3, .long v74), (2, .int (v38 - v37)), (0, .ref o0), (1, .ref o1)]) d_Reader_endText_123 (by decide) rfl ?_
                  refine mv_iload d_Reader_endText_125 rfl ?_
                  refine mv_if_eq_t (tgt := 134) d_Reader_endText_127 (by decide) (by decide) ?_
                  refine tr_new (kc' := 2) (ks' := 401) tm_okF I280 d_Reader_endText_134 n_Reader_189 (Nat.le_of_ble_eq_true rfl) (Nat.le_of_ble_eq_true rfl) (fun T314 M315 I316 t_x317 m318 h319 u320 K321 => ?_)
                  have q322 := tm_at.eq (K321 _ _ (I280.up h_o0)) q300
                  have t323 := u320 _ _ (I280.up h_o0)
                  have q324 := tm_at.eq (K321 _ _ (I280.up h_o0)) q301
                  have q325 := tm_at.eq (K321 _ _ (I280.up h_o0)) q302
                  have q326 := tm_at.eq (K321 _ _ (I280.up h_o0)) q303
                  have q327 := tm_at.eq (K321 _ _ (I280.up h_o0)) q304
                  have q328 := tm_at.eq (K321 _ _ (I280.up h_o0)) q305
                  have q329 := tm_at.eq (K321 _ _ (I280.up h_o0)) q306
                  have q330 := tm_at.eq (K321 _ _ t289) q311
                  have t331 := u320 _ _ t288
                  have t332 := u320 _ _ t290
                  refine mv_dup d_Reader_endText_137 rfl ?_
                  refine mv_lload_n d_Reader_endText_138 rfl rfl ?_
                  refine mv_iload_n d_Reader_endText_139 rfl rfl ?_
                  refine mv_aload d_Reader_endText_140 rfl ?_
                  refine mv_aload_n d_Reader_endText_142 rfl rfl ?_
                  obtain ⟨_, b339, -⟩ := I316.1 _ _ t323
                  refine mv_callV (kc' := 0) (ks' := 0) (As := []) (st9 := [.ref o0, .ref a223, .int (v38 - v37), .long v74, .ref n277, .ref n277]) d_Reader_endText_143 lV_Reader_128 b339 rfl (tc_Reader_stepsTaken (d := (d + 17)) (x9 := (n277 + 1)) (o0 := o0) t323 I316.start) rfl (Nat.le_of_ble_eq_true rfl) (Nat.le_of_ble_eq_true rfl) (Nat.le_of_ble_eq_true rfl) (hst := rfl) (fun b333r M334 n335 b333 => ?_)
                  obtain ⟨T336, J337, a340, rfl, t_a340⟩ := b333
                  have I338 := I316.call J337 (tm_sub (by decide)) (Or.inr I316.2.2.2.1)
                  have m341 := (J337.keepX t_x317 (tm_ne I316 t_x317)).trans m318
                  have t342 := J337.up t_x317
                  have t343 := J337.up t331
                  have t344 := J337.up t323
                  have t345 := J337.up t332
                  have q346 := J337.keep t323 (by decide) q322
                  have q347 := J337.keep t323 (by decide) q324
                  have q348 := J337.keep t323 (by decide) q325
                  have q349 := J337.keep t323 (by decide) q326
                  have q350 := J337.keep t323 (by decide) q327
                  have q351 := J337.keep t323 (by decide) q328
                  have q352 := J337.keep t323 (by decide) q329
                  have q353 := J337.keep t323 (by decide) q330
                  refine mv_iload d_Reader_endText_146 rfl ?_
                  refine mv_callI (kc' := 0) (ks' := 0) (As := [.long v74, .int (v38 - v37), .ref a223, .ref a340, .int 0]) (st9 := [.int 0, .ref a340, .ref a223, .int (v38 - v37), .long v74, .ref n277, .ref n277]) d_Reader_endText_148 lI_Reader_191 (tc_EndText_init (d := (d + 18)) (o0 := n277) (x1 := v74) (x2 := (v38 - v37)) (o3 := a223) (o4 := a340) (x5 := 0) t342 t343 t_a340 (by decide) m341 I338.start) rfl (Nat.le_of_ble_eq_true rfl) (Nat.le_of_ble_eq_true rfl) (Nat.le_of_ble_eq_true rfl) (hst := rfl) (fun b354r M355 n356 b354 => ?_)
                  obtain ⟨T357, J358, rfl, m360⟩ := b354
                  have I359 := I338.call J358 (tm_sub (by decide)) (Or.inr h319)
                  have t361 := J358.up t342
                  have t362 := J358.up t343
                  have t363 := J358.up t344
                  have t364 := J358.up t345
                  have t365 := J358.up t_a340
                  have q366 := J358.keep t344 (by decide) q346
                  have q367 := J358.keep t344 (by decide) q347
                  have q368 := J358.keep t344 (by decide) q348
                  have q369 := J358.keep t344 (by decide) q349
                  have q370 := J358.keep t344 (by decide) q350
                  have q371 := J358.keep t344 (by decide) q351
                  have q372 := J358.keep t344 (by decide) q352
                  have q373 := J358.keep t344 (by decide) q353
                  obtain ⟨T374, I375, t_x376, u377⟩ := I359.sealO tm_okF t361 h319 m360 (fun _ z9 => (tm_fs_cons ⟨_, rfl⟩ (tm_fs_cons ⟨_, rfl⟩ (tm_fs_cons ⟨_, rfl, z9 _ _ t362 (Nat.le_of_ble_eq_true rfl)⟩ (tm_fs_cons ⟨_, rfl, z9 _ _ t365 (Nat.le_of_ble_eq_true rfl)⟩ (tm_fs_cons ⟨_, rfl⟩ tm_fs_nil))))))
                  have t378 := u377 _ _ t363 (tm_dif t363 t361 rfl)
                  have q379 : tm_at M355 n277 4 0 (.long v74) := ⟨_, m360, rfl⟩
                  have q380 : tm_at M355 n277 4 1 (.int (v38 - v37)) := ⟨_, m360, rfl⟩
                  have q381 : tm_at M355 n277 4 2 (.ref a223) := ⟨_, m360, rfl⟩
                  have t382 := u377 _ _ t362 (tm_dif t362 t361 rfl)
                  have q383 : tm_at M355 n277 4 3 (.ref a340) := ⟨_, m360, rfl⟩
                  have t384 := u377 _ _ t365 (tm_dif t365 t361 rfl)
                  have q385 : tm_at M355 n277 4 4 (.int 0) := ⟨_, m360, rfl⟩
                  have t386 := u377 _ _ t364 (tm_dif t364 t361 rfl)
                  exact mv_aret (r := (some n277)) d_Reader_endText_151 rfl (by first | exact Or.inl ⟨_, rfl⟩ | exact Or.inr ⟨_, rfl⟩) ⟨_, I375, Or.inr ⟨_, rfl, t_x376, q373, (by have := (Im.o h49) (by omega); have := yC.d s31.2.2; have := yC.kn s31.2.2; have := (Im.o h309) (by omega); have := yC.d s291.2.2; have := yC.kn s291.2.2; have eT : p_en1 pb pn pa pN9 (p_nx ps) = s291 := (by unfold p_en1; unfold p_prt; (try simp only [e32, e122, e161, e196, e256, e292]); ((repeat' (first | (with_reducible rfl) | split)) <;> (first | ((try simp only [e32, e122, e161, e196, e256, e292]); done) | (exfalso; omega)))); rw [eT]; exact ⟨⟨_, _, _, _, _, _, _, q366, q367, q368, q369, q370, q371, q372, h307, Im.o h308, Im.o h309⟩, by omega, (by rw [hz1]; omega), _, q379, (by rw [hz1]; exact f75)⟩)⟩⟩
                · refine mv_aload_n d_Reader_isWord_8 rfl rfl ?_
                  refine tr_getK (k := 13) q306 d_Reader_isWord_9 f_Reader_241_9 ?_
                  refine mv_iload_n d_Reader_isWord_12 rfl rfl ?_
                  have := mz_hi v299
                  refine mv_icmp_neZ (tgt := 20) (a := v299.toInt) (b := 29) d_Reader_isWord_13 (by decide) rfl (by decide) (fun b387 => ?_) (fun b387 => ?_)
                  · refine mv_iconst (v := 0) d_Reader_isWord_20 (by decide) ?_
                    refine mv_iret d_Reader_isWord_21 rfl (by decide) ?_
                    refine mv_istore (lv' := [(6, .int 0), (5, .ref a223), (3, .long v74), (2, .int (v38 - v37)), (0, .ref o0), (1, .ref o1)]) d_Reader_endText_123 (by decide) rfl ?_
                    refine mv_iload d_Reader_endText_125 rfl ?_
                    refine mv_if_eq_t (tgt := 134) d_Reader_endText_127 (by decide) (by decide) ?_
                    refine tr_new (kc' := 2) (ks' := 401) tm_okF I280 d_Reader_endText_134 n_Reader_189 (Nat.le_of_ble_eq_true rfl) (Nat.le_of_ble_eq_true rfl) (fun T388 M389 I390 t_x391 m392 h393 u394 K395 => ?_)
                    have q396 := tm_at.eq (K395 _ _ (I280.up h_o0)) q300
                    have t397 := u394 _ _ (I280.up h_o0)
                    have q398 := tm_at.eq (K395 _ _ (I280.up h_o0)) q301
                    have q399 := tm_at.eq (K395 _ _ (I280.up h_o0)) q302
                    have q400 := tm_at.eq (K395 _ _ (I280.up h_o0)) q303
                    have q401 := tm_at.eq (K395 _ _ (I280.up h_o0)) q304
                    have q402 := tm_at.eq (K395 _ _ (I280.up h_o0)) q305
                    have q403 := tm_at.eq (K395 _ _ (I280.up h_o0)) q306
                    have q404 := tm_at.eq (K395 _ _ t289) q311
                    have t405 := u394 _ _ t288
                    have t406 := u394 _ _ t290
                    refine mv_dup d_Reader_endText_137 rfl ?_
                    refine mv_lload_n d_Reader_endText_138 rfl rfl ?_
                    refine mv_iload_n d_Reader_endText_139 rfl rfl ?_
                    refine mv_aload d_Reader_endText_140 rfl ?_
                    refine mv_aload_n d_Reader_endText_142 rfl rfl ?_
                    obtain ⟨_, b413, -⟩ := I390.1 _ _ t397
                    refine mv_callV (kc' := 0) (ks' := 0) (As := []) (st9 := [.ref o0, .ref a223, .int (v38 - v37), .long v74, .ref n277, .ref n277]) d_Reader_endText_143 lV_Reader_128 b413 rfl (tc_Reader_stepsTaken (d := (d + 17)) (x9 := (n277 + 1)) (o0 := o0) t397 I390.start) rfl (Nat.le_of_ble_eq_true rfl) (Nat.le_of_ble_eq_true rfl) (Nat.le_of_ble_eq_true rfl) (hst := rfl) (fun b407r M408 n409 b407 => ?_)
                    obtain ⟨T410, J411, a414, rfl, t_a414⟩ := b407
                    have I412 := I390.call J411 (tm_sub (by decide)) (Or.inr I390.2.2.2.1)
                    have m415 := (J411.keepX t_x391 (tm_ne I390 t_x391)).trans m392
                    have t416 := J411.up t_x391
                    have t417 := J411.up t405
                    have t418 := J411.up t397
                    have t419 := J411.up t406
                    have q420 := J411.keep t397 (by decide) q396
                    have q421 := J411.keep t397 (by decide) q398
                    have q422 := J411.keep t397 (by decide) q399
                    have q423 := J411.keep t397 (by decide) q400
                    have q424 := J411.keep t397 (by decide) q401
                    have q425 := J411.keep t397 (by decide) q402
                    have q426 := J411.keep t397 (by decide) q403
                    have q427 := J411.keep t397 (by decide) q404
                    refine mv_iload d_Reader_endText_146 rfl ?_
                    refine mv_callI (kc' := 0) (ks' := 0) (As := [.long v74, .int (v38 - v37), .ref a223, .ref a414, .int 0]) (st9 := [.int 0, .ref a414, .ref a223, .int (v38 - v37), .long v74, .ref n277, .ref n277]) d_Reader_endText_148 lI_Reader_191 (tc_EndText_init (d := (d + 18)) (o0 := n277) (x1 := v74) (x2 := (v38 - v37)) (o3 := a223) (o4 := a414) (x5 := 0) t416 t417 t_a414 (by decide) m415 I412.start) rfl (Nat.le_of_ble_eq_true rfl) (Nat.le_of_ble_eq_true rfl) (Nat.le_of_ble_eq_true rfl) (hst := rfl) (fun b428r M429 n430 b428 => ?_)
                    obtain ⟨T431, J432, rfl, m434⟩ := b428
                    have I433 := I412.call J432 (tm_sub (by decide)) (Or.inr h393)
                    have t435 := J432.up t416
                    have t436 := J432.up t417
                    have t437 := J432.up t418
                    have t438 := J432.up t419
                    have t439 := J432.up t_a414
                    have q440 := J432.keep t418 (by decide) q420
                    have q441 := J432.keep t418 (by decide) q421
                    have q442 := J432.keep t418 (by decide) q422
                    have q443 := J432.keep t418 (by decide) q423
                    have q444 := J432.keep t418 (by decide) q424
                    have q445 := J432.keep t418 (by decide) q425
                    have q446 := J432.keep t418 (by decide) q426
                    have q447 := J432.keep t418 (by decide) q427
                    obtain ⟨T448, I449, t_x450, u451⟩ := I433.sealO tm_okF t435 h393 m434 (fun _ z9 => (tm_fs_cons ⟨_, rfl⟩ (tm_fs_cons ⟨_, rfl⟩ (tm_fs_cons ⟨_, rfl, z9 _ _ t436 (Nat.le_of_ble_eq_true rfl)⟩ (tm_fs_cons ⟨_, rfl, z9 _ _ t439 (Nat.le_of_ble_eq_true rfl)⟩ (tm_fs_cons ⟨_, rfl⟩ tm_fs_nil))))))
                    have t452 := u451 _ _ t437 (tm_dif t437 t435 rfl)
                    have q453 : tm_at M429 n277 4 0 (.long v74) := ⟨_, m434, rfl⟩
                    have q454 : tm_at M429 n277 4 1 (.int (v38 - v37)) := ⟨_, m434, rfl⟩
                    have q455 : tm_at M429 n277 4 2 (.ref a223) := ⟨_, m434, rfl⟩
                    have t456 := u451 _ _ t436 (tm_dif t436 t435 rfl)
                    have q457 : tm_at M429 n277 4 3 (.ref a414) := ⟨_, m434, rfl⟩
                    have t458 := u451 _ _ t439 (tm_dif t439 t435 rfl)
                    have q459 : tm_at M429 n277 4 4 (.int 0) := ⟨_, m434, rfl⟩
                    have t460 := u451 _ _ t438 (tm_dif t438 t435 rfl)
                    exact mv_aret (r := (some n277)) d_Reader_endText_151 rfl (by first | exact Or.inl ⟨_, rfl⟩ | exact Or.inr ⟨_, rfl⟩) ⟨_, I449, Or.inr ⟨_, rfl, t_x450, q447, (by have := (Im.o h49) (by omega); have := yC.d s31.2.2; have := yC.kn s31.2.2; have := (Im.o h309) (by omega); have := yC.d s291.2.2; have := yC.kn s291.2.2; have eT : p_en1 pb pn pa pN9 (p_nx ps) = s291 := (by unfold p_en1; unfold p_prt; (try simp only [e32, e122, e161, e196, e256, e292]); ((repeat' (first | (with_reducible rfl) | split)) <;> (first | ((try simp only [e32, e122, e161, e196, e256, e292]); done) | (exfalso; omega)))); rw [eT]; exact ⟨⟨_, _, _, _, _, _, _, q440, q441, q442, q443, q444, q445, q446, h307, Im.o h308, Im.o h309⟩, by omega, (by rw [hz1]; omega), _, q453, (by rw [hz1]; exact f75)⟩)⟩⟩
                  · refine mv_iconst (v := 1) d_Reader_isWord_16 (by decide) ?_
                    refine mv_goto (tgt := 21) d_Reader_isWord_17 (by decide) ?_
                    refine mv_iret d_Reader_isWord_21 rfl (by decide) ?_
                    refine mv_istore (lv' := [(6, .int 1), (5, .ref a223), (3, .long v74), (2, .int (v38 - v37)), (0, .ref o0), (1, .ref o1)]) d_Reader_endText_123 (by decide) rfl ?_
                    refine mv_iload d_Reader_endText_125 rfl ?_
                    refine mv_if_eq_f (tgt := 134) d_Reader_endText_127 (by decide) (by decide) ?_
                    refine mv_aload_n d_Reader_endText_130 rfl rfl ?_
                    obtain ⟨_, b467, -⟩ := I280.1 _ _ t289
                    refine mv_callV (kc' := 3) (ks' := 406) (As := []) (st9 := [.ref o0]) d_Reader_endText_131 lV_Reader_82 b467 rfl (tc_Reader_advance_x (d := (d + 19)) (x9 := x9) (o0 := o0) t289 (hK I280) (qS.a (show qS M276 o0 pb pn s291 from ⟨_, _, _, _, _, _, _, q300, q301, q302, q303, q304, q305, q306, h307, Im.o h308, Im.o h309⟩)) (by have := (Im.o h49) (by omega); have := yC.d s31.2.2; have := yC.kn s31.2.2; have := (Im.o h309) (by omega); have := yC.d s291.2.2; have := yC.kn s291.2.2; show s291.2.2 + 1 ≤ 401; omega) I280.start) rfl (Nat.le_of_ble_eq_true rfl) (Nat.le_of_ble_eq_true rfl) (Nat.le_of_ble_eq_true rfl) (hst := rfl) (fun b461r M462 n463 b461 => ?_)
                    obtain ⟨T464, J465, rfl, f468⟩ := b461
                    have I466 := I280.call J465 (tm_sub (by decide)) (Or.inl rfl)
                    have t469 := J465.up t288
                    have t470 := J465.up t289
                    have t471 := J465.up t290
                    have q472 := J465.keep (I280.up h_o0) (by decide) q300
                    have q473 := J465.keep (I280.up h_o0) (by decide) q301
                    have q474 := J465.keep t289 (by decide) q311
                    obtain ⟨s475, e476⟩ : ∃ s9 : p_S, p_nx s291 = s9 := ⟨_, rfl⟩
                    rw [e476] at f468
                    have : s475.1 = 0 := by rw [← e476]; show s291.1 = 0; omega
                    obtain ⟨v477, v478, v479, v480, v481, v482, v483, q484, q485, q486, q487, q488, q489, q490, h491, h492, h493⟩ := f468
                    replace h492 := Im.i h492
                    replace h493 := Im.i h493
                    refine tr_new (kc' := 2) (ks' := 401) tm_okF I466 d_Reader_endText_134 n_Reader_189 (Nat.le_of_ble_eq_true rfl) (Nat.le_of_ble_eq_true rfl) (fun T494 M495 I496 t_x497 m498 h499 u500 K501 => ?_)
                    have q502 := tm_at.eq (K501 _ _ (I466.up h_o0)) q484
                    have t503 := u500 _ _ (I466.up h_o0)
                    have q504 := tm_at.eq (K501 _ _ (I466.up h_o0)) q485
                    have q505 := tm_at.eq (K501 _ _ t470) q474
                    have q506 := tm_at.eq (K501 _ _ (I466.up h_o0)) q486
                    have q507 := tm_at.eq (K501 _ _ (I466.up h_o0)) q487
                    have q508 := tm_at.eq (K501 _ _ (I466.up h_o0)) q488
                    have q509 := tm_at.eq (K501 _ _ (I466.up h_o0)) q489
                    have q510 := tm_at.eq (K501 _ _ (I466.up h_o0)) q490
                    have t511 := u500 _ _ t469
                    have t512 := u500 _ _ t471
                    refine mv_dup d_Reader_endText_137 rfl ?_
                    refine mv_lload_n d_Reader_endText_138 rfl rfl ?_
                    refine mv_iload_n d_Reader_endText_139 rfl rfl ?_
                    refine mv_aload d_Reader_endText_140 rfl ?_
                    refine mv_aload_n d_Reader_endText_142 rfl rfl ?_
                    obtain ⟨_, b519, -⟩ := I496.1 _ _ t503
                    refine mv_callV (kc' := 0) (ks' := 0) (As := []) (st9 := [.ref o0, .ref a223, .int (v38 - v37), .long v74, .ref n463, .ref n463]) d_Reader_endText_143 lV_Reader_128 b519 rfl (tc_Reader_stepsTaken (d := (d + 17)) (x9 := (n463 + 1)) (o0 := o0) t503 I496.start) rfl (Nat.le_of_ble_eq_true rfl) (Nat.le_of_ble_eq_true rfl) (Nat.le_of_ble_eq_true rfl) (hst := rfl) (fun b513r M514 n515 b513 => ?_)
                    obtain ⟨T516, J517, a520, rfl, t_a520⟩ := b513
                    have I518 := I496.call J517 (tm_sub (by decide)) (Or.inr I496.2.2.2.1)
                    have m521 := (J517.keepX t_x497 (tm_ne I496 t_x497)).trans m498
                    have t522 := J517.up t_x497
                    have t523 := J517.up t511
                    have t524 := J517.up t503
                    have t525 := J517.up t512
                    have q526 := J517.keep t503 (by decide) q502
                    have q527 := J517.keep t503 (by decide) q504
                    have q528 := J517.keep t503 (by decide) q505
                    have q529 := J517.keep t503 (by decide) q506
                    have q530 := J517.keep t503 (by decide) q507
                    have q531 := J517.keep t503 (by decide) q508
                    have q532 := J517.keep t503 (by decide) q509
                    have q533 := J517.keep t503 (by decide) q510
                    refine mv_iload d_Reader_endText_146 rfl ?_
                    refine mv_callI (kc' := 0) (ks' := 0) (As := [.long v74, .int (v38 - v37), .ref a223, .ref a520, .int 1]) (st9 := [.int 1, .ref a520, .ref a223, .int (v38 - v37), .long v74, .ref n463, .ref n463]) d_Reader_endText_148 lI_Reader_191 (tc_EndText_init (d := (d + 18)) (o0 := n463) (x1 := v74) (x2 := (v38 - v37)) (o3 := a223) (o4 := a520) (x5 := 1) t522 t523 t_a520 (by decide) m521 I518.start) rfl (Nat.le_of_ble_eq_true rfl) (Nat.le_of_ble_eq_true rfl) (Nat.le_of_ble_eq_true rfl) (hst := rfl) (fun b534r M535 n536 b534 => ?_)
                    obtain ⟨T537, J538, rfl, m540⟩ := b534
                    have I539 := I518.call J538 (tm_sub (by decide)) (Or.inr h499)
                    have t541 := J538.up t522
                    have t542 := J538.up t523
                    have t543 := J538.up t524
                    have t544 := J538.up t525
                    have t545 := J538.up t_a520
                    have q546 := J538.keep t524 (by decide) q526
                    have q547 := J538.keep t524 (by decide) q527
                    have q548 := J538.keep t524 (by decide) q528
                    have q549 := J538.keep t524 (by decide) q529
                    have q550 := J538.keep t524 (by decide) q530
                    have q551 := J538.keep t524 (by decide) q531
                    have q552 := J538.keep t524 (by decide) q532
                    have q553 := J538.keep t524 (by decide) q533
                    obtain ⟨T554, I555, t_x556, u557⟩ := I539.sealO tm_okF t541 h499 m540 (fun _ z9 => (tm_fs_cons ⟨_, rfl⟩ (tm_fs_cons ⟨_, rfl⟩ (tm_fs_cons ⟨_, rfl, z9 _ _ t542 (Nat.le_of_ble_eq_true rfl)⟩ (tm_fs_cons ⟨_, rfl, z9 _ _ t545 (Nat.le_of_ble_eq_true rfl)⟩ (tm_fs_cons ⟨_, rfl⟩ tm_fs_nil))))))
                    have t558 := u557 _ _ t543 (tm_dif t543 t541 rfl)
                    have q559 : tm_at M535 n463 4 0 (.long v74) := ⟨_, m540, rfl⟩
                    have q560 : tm_at M535 n463 4 1 (.int (v38 - v37)) := ⟨_, m540, rfl⟩
                    have q561 : tm_at M535 n463 4 2 (.ref a223) := ⟨_, m540, rfl⟩
                    have t562 := u557 _ _ t542 (tm_dif t542 t541 rfl)
                    have q563 : tm_at M535 n463 4 3 (.ref a520) := ⟨_, m540, rfl⟩
                    have t564 := u557 _ _ t545 (tm_dif t545 t541 rfl)
                    have q565 : tm_at M535 n463 4 4 (.int 1) := ⟨_, m540, rfl⟩
                    have t566 := u557 _ _ t544 (tm_dif t544 t541 rfl)
                    exact mv_aret (r := (some n463)) d_Reader_endText_151 rfl (by first | exact Or.inl ⟨_, rfl⟩ | exact Or.inr ⟨_, rfl⟩) ⟨_, I555, Or.inr ⟨_, rfl, t_x556, q548, (by have := (Im.o h49) (by omega); have := yC.d s31.2.2; have := yC.kn s31.2.2; have := (Im.o h309) (by omega); have := yC.d s291.2.2; have := yC.kn s291.2.2; have eT : p_en1 pb pn pa pN9 (p_nx ps) = s475 := (by unfold p_en1; unfold p_prt; (try simp only [e32, e122, e161, e196, e256, e292, e476]); ((repeat' (first | (with_reducible rfl) | split)) <;> (first | ((try simp only [e32, e122, e161, e196, e256, e292, e476]); done) | (exfalso; omega)))); rw [eT]; exact ⟨⟨_, _, _, _, _, _, _, q546, q547, q549, q550, q551, q552, q553, h491, Im.o h492, Im.o h493⟩, by omega, (by rw [hz1]; omega), _, q559, (by rw [hz1]; exact f75)⟩)⟩⟩
              · refine mv_null d_Reader_endText_115 ?_
                exact mv_aret (r := none) d_Reader_endText_116 rfl (by first | exact Or.inl ⟨_, rfl⟩ | exact Or.inr ⟨_, rfl⟩) ⟨_, I280, Or.inl ⟨rfl, (by have := (Im.o h49) (by omega); have := yC.d s31.2.2; have := yC.kn s31.2.2; have hb : s291.1 ≠ 0 := (by omega); have z1 : ∀ c, p_sg pb pn c s291 = s291 := (fun c => p_sg_Z s291 hb); have z2 : ∀ c, p_wd pb pn c s291 = s291 := (fun c => p_wd_Z s291 hb); have z3 : ∀ op, p_sum pb pn pa op s291 = s291 := (fun op => p_sum_Z s291 hb); have z4 : ∀ r oc, p_con pb pn pa r oc s291 = s291 := (fun r oc => p_con_Z s291 hb); have z5 : p_prt pb pn s291 = s291 := p_prt_Z s291 hb; have eT : p_en1 pb pn pa pN9 (p_nx ps) = s291 := (by unfold p_en1; unfold p_prt; (try simp only [e32, e122, e161, e196, e256, e292, z1, z2, z3, z4, z5]); ((repeat' (first | (with_reducible rfl) | split)) <;> (first | ((try simp only [e32, e122, e161, e196, e256, e292, z1, z2, z3, z4, z5]); done) | (exfalso; omega)))); rw [eT]; exact ⟨⟨_, _, _, _, _, _, _, q300, q301, q302, q303, q304, q305, q306, h307, Im.o h308, Im.o h309⟩, by omega⟩)⟩⟩
          · refine mv_null d_Reader_endText_86 ?_
            exact mv_aret (r := none) d_Reader_endText_87 rfl (by first | exact Or.inl ⟨_, rfl⟩ | exact Or.inr ⟨_, rfl⟩) ⟨_, I185, Or.inl ⟨rfl, (by have := (Im.o h49) (by omega); have := yC.d s31.2.2; have := yC.kn s31.2.2; have hb : s195.1 ≠ 0 := (by omega); have z1 : ∀ c, p_sg pb pn c s195 = s195 := (fun c => p_sg_Z s195 hb); have z2 : ∀ c, p_wd pb pn c s195 = s195 := (fun c => p_wd_Z s195 hb); have z3 : ∀ op, p_sum pb pn pa op s195 = s195 := (fun op => p_sum_Z s195 hb); have z4 : ∀ r oc, p_con pb pn pa r oc s195 = s195 := (fun r oc => p_con_Z s195 hb); have z5 : p_prt pb pn s195 = s195 := p_prt_Z s195 hb; have eT : p_en1 pb pn pa pN9 (p_nx ps) = s195 := (by unfold p_en1; unfold p_prt; (try simp only [e32, e122, e161, e196, z1, z2, z3, z4, z5]); ((repeat' (first | (with_reducible rfl) | split)) <;> (first | ((try simp only [e32, e122, e161, e196, z1, z2, z3, z4, z5]); done) | (exfalso; omega)))); rw [eT]; exact ⟨⟨_, _, _, _, _, _, _, q204, q205, q206, q207, q208, q209, q210, h211, Im.o h212, Im.o h213⟩, by omega⟩)⟩⟩
      · refine mv_aload_n d_Reader_endText_53 rfl rfl ?_
        refine mv_iconst (v := 3) d_Reader_endText_54 (by decide) ?_
        obtain ⟨_, b567, -⟩ := I91.1 _ _ t97
        refine mv_callV (kc1 := 0) (ks1 := 0) (kc' := 0) (ks' := 0) (As := [.int 3]) (st9 := [.int 3, .ref o0]) d_Reader_endText_55 lV_Reader_56 b567 rfl (mj_enter (by decide) (Nat.le_of_ble_eq_true rfl) ?_) rfl (Nat.le_of_ble_eq_true rfl) (Nat.le_of_ble_eq_true rfl) (Nat.le_of_ble_eq_true rfl) (hst := rfl) (fun _ _ _ h => h)
        refine mv_aload_n d_Reader_refuse_0 rfl rfl ?_
        refine mv_iload_n d_Reader_refuse_1 rfl rfl ?_
        refine tr_putK tm_okF I91 t97 (k := 1) rfl ⟨_, rfl⟩ (Or.inl (by decide)) d_Reader_refuse_2 p_Reader_70_9 rfl rfl (fun M568 I569 q570 K571 => ?_)
        refine mv_aload_n d_Reader_refuse_5 rfl rfl ?_
        refine mv_aload_n d_Reader_refuse_6 rfl rfl ?_
        refine tr_getK (k := 11) (K571 _ 9 11 _ rfl q104) d_Reader_refuse_7 f_Reader_175_9 ?_
        refine tr_putK tm_okF I569 t97 (k := 2) rfl ⟨_, rfl⟩ (Or.inl (by decide)) d_Reader_refuse_10 p_Reader_11_9 rfl rfl (fun M572 I573 q574 K575 => ?_)
        refine mv_iconst (v := 0) d_Reader_refuse_13 (by decide) ?_
        obtain ⟨s576, e577⟩ : ∃ s9 : p_S, p_fl pb pn 3 s31 = s9 := ⟨_, rfl⟩
        have h578 := q_fl e577 (by omega) (by decide)
        have h579 : (3 : Int32).toInt = s576.1 := (by have e9 : (3 : Int32).toInt = 3 := (by decide); omega)
        have h580 : Im (s576.1 ≠ 0 → v37.toInt = (s576.2.1 : Int)) := Im.i (fun _ => by have := (Im.o h49) (by omega); omega)
        have h581 : Im (s576.1 = 0 → v35.toInt = (s576.2.2 : Int) ∧ v36.toInt = p_ki pb pn s576.2.2 ∧ v37.toInt = (p_st pb pn s576.2.2 : Int) ∧ v38.toInt = (p_sp pb pn s576.2.2 : Int) ∧ v39.toInt = p_va pb pn s576.2.2 ∧ v37.toInt = -1) := Im.i (fun z9 => absurd z9 h578.2.2)
        refine mv_iret d_Reader_refuse_14 rfl (by decide) ?_
        refine mv_pop d_Reader_endText_58 rfl ?_
        refine mv_null d_Reader_endText_59 ?_
        exact mv_aret (r := none) d_Reader_endText_60 rfl (by first | exact Or.inl ⟨_, rfl⟩ | exact Or.inr ⟨_, rfl⟩) ⟨_, I573, Or.inl ⟨rfl, (by have := (Im.o h49) (by omega); have := yC.d s31.2.2; have := yC.kn s31.2.2; have hb : s576.1 ≠ 0 := (by omega); have z1 : ∀ c, p_sg pb pn c s576 = s576 := (fun c => p_sg_Z s576 hb); have z2 : ∀ c, p_wd pb pn c s576 = s576 := (fun c => p_wd_Z s576 hb); have z3 : ∀ op, p_sum pb pn pa op s576 = s576 := (fun op => p_sum_Z s576 hb); have z4 : ∀ r oc, p_con pb pn pa r oc s576 = s576 := (fun r oc => p_con_Z s576 hb); have z5 : p_prt pb pn s576 = s576 := p_prt_Z s576 hb; have eT : p_en1 pb pn pa pN9 (p_nx ps) = s576 := (by unfold p_en1; unfold p_prt; (try simp only [e32, e577, z1, z2, z3, z4, z5]); ((repeat' (first | (with_reducible rfl) | split)) <;> (first | ((try simp only [e32, e577, z1, z2, z3, z4, z5]); done) | (exfalso; omega)))); rw [eT]; exact ⟨⟨_, _, _, _, _, _, _, (K575 _ 9 1 _ rfl q570), q574, (K575 _ 9 9 _ rfl (K571 _ 9 9 _ rfl q102)), (K575 _ 9 10 _ rfl (K571 _ 9 10 _ rfl q103)), (K575 _ 9 11 _ rfl (K571 _ 9 11 _ rfl q104)), (K575 _ 9 12 _ rfl (K571 _ 9 12 _ rfl q105)), (K575 _ 9 13 _ rfl (K571 _ 9 13 _ rfl q106)), h579, Im.o h580, Im.o h581⟩, by omega⟩)⟩⟩
    · refine mv_aload_n d_Reader_endText_28 rfl rfl ?_
      refine mv_iconst (v := 1) d_Reader_endText_29 (by decide) ?_
      obtain ⟨_, b582, -⟩ := I23.1 _ _ t26
      refine mv_callV (kc1 := 0) (ks1 := 0) (kc' := 0) (ks' := 0) (As := [.int 1]) (st9 := [.int 1, .ref o0]) d_Reader_endText_30 lV_Reader_56 b582 rfl (mj_enter (by decide) (Nat.le_of_ble_eq_true rfl) ?_) rfl (Nat.le_of_ble_eq_true rfl) (Nat.le_of_ble_eq_true rfl) (Nat.le_of_ble_eq_true rfl) (hst := rfl) (fun _ _ _ h => h)
      refine mv_aload_n d_Reader_refuse_0 rfl rfl ?_
      refine mv_iload_n d_Reader_refuse_1 rfl rfl ?_
      refine tr_putK tm_okF I23 t26 (k := 1) rfl ⟨_, rfl⟩ (Or.inl (by decide)) d_Reader_refuse_2 p_Reader_70_9 rfl rfl (fun M583 I584 q585 K586 => ?_)
      refine mv_aload_n d_Reader_refuse_5 rfl rfl ?_
      refine mv_aload_n d_Reader_refuse_6 rfl rfl ?_
      refine tr_getK (k := 11) (K586 _ 9 11 _ rfl q44) d_Reader_refuse_7 f_Reader_175_9 ?_
      refine tr_putK tm_okF I584 t26 (k := 2) rfl ⟨_, rfl⟩ (Or.inl (by decide)) d_Reader_refuse_10 p_Reader_11_9 rfl rfl (fun M587 I588 q589 K590 => ?_)
      refine mv_iconst (v := 0) d_Reader_refuse_13 (by decide) ?_
      obtain ⟨s591, e592⟩ : ∃ s9 : p_S, p_fl pb pn 1 s31 = s9 := ⟨_, rfl⟩
      have h593 := q_fl e592 (by omega) (by decide)
      have h594 : (1 : Int32).toInt = s591.1 := (by have e9 : (1 : Int32).toInt = 1 := (by decide); omega)
      have h595 : Im (s591.1 ≠ 0 → v37.toInt = (s591.2.1 : Int)) := Im.i (fun _ => by have := (Im.o h49) (by omega); omega)
      have h596 : Im (s591.1 = 0 → v35.toInt = (s591.2.2 : Int) ∧ v36.toInt = p_ki pb pn s591.2.2 ∧ v37.toInt = (p_st pb pn s591.2.2 : Int) ∧ v38.toInt = (p_sp pb pn s591.2.2 : Int) ∧ v39.toInt = p_va pb pn s591.2.2 ∧ v37.toInt = -1) := Im.i (fun z9 => absurd z9 h593.2.2)
      refine mv_iret d_Reader_refuse_14 rfl (by decide) ?_
      refine mv_pop d_Reader_endText_33 rfl ?_
      refine mv_null d_Reader_endText_34 ?_
      exact mv_aret (r := none) d_Reader_endText_35 rfl (by first | exact Or.inl ⟨_, rfl⟩ | exact Or.inr ⟨_, rfl⟩) ⟨_, I588, Or.inl ⟨rfl, (by have := (Im.o h49) (by omega); have := yC.d s31.2.2; have := yC.kn s31.2.2; have hb : s591.1 ≠ 0 := (by omega); have z1 : ∀ c, p_sg pb pn c s591 = s591 := (fun c => p_sg_Z s591 hb); have z2 : ∀ c, p_wd pb pn c s591 = s591 := (fun c => p_wd_Z s591 hb); have z3 : ∀ op, p_sum pb pn pa op s591 = s591 := (fun op => p_sum_Z s591 hb); have z4 : ∀ r oc, p_con pb pn pa r oc s591 = s591 := (fun r oc => p_con_Z s591 hb); have z5 : p_prt pb pn s591 = s591 := p_prt_Z s591 hb; have eT : p_en1 pb pn pa pN9 (p_nx ps) = s591 := (by unfold p_en1; unfold p_prt; (try simp only [e32, e592, z1, z2, z3, z4, z5]); ((repeat' (first | (with_reducible rfl) | split)) <;> (first | ((try simp only [e32, e592, z1, z2, z3, z4, z5]); done) | (exfalso; omega)))); rw [eT]; exact ⟨⟨_, _, _, _, _, _, _, (K590 _ 9 1 _ rfl q585), q589, (K590 _ 9 9 _ rfl (K586 _ 9 9 _ rfl q42)), (K590 _ 9 10 _ rfl (K586 _ 9 10 _ rfl q43)), (K590 _ 9 11 _ rfl (K586 _ 9 11 _ rfl q44)), (K590 _ 9 12 _ rfl (K586 _ 9 12 _ rfl q45)), (K590 _ 9 13 _ rfl (K586 _ 9 13 _ rfl q46)), h594, Im.o h595, Im.o h596⟩, by omega⟩)⟩⟩
