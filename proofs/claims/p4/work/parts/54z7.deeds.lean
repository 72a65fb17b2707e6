def w_Fund_hasEnd_x : List Nat := []
set_option maxHeartbeats 100000000 in theorem tc_Fund_hasEnd_x {g : mj_G} {l : Launch} {d : Nat} {T0 : tm_H} {M0 : mj_M} {n0 x9 : Nat} {o0 : Nat} {x1 : Int64} (h_o0 : T0 o0 = some (0, 6, 0)) {e1 : Nat} {pb : Nat → Int} {pN9 : List (Nat × Nat)} (h_e1 : T0 e1 = some (3, 3, o0)) (yq1 : tm_at M0 o0 6 11 (.ref e1)) (yE : qE M0 e1 pb pN9) (I0 : tm_I tm_FT (tm_in w_Fund_hasEnd_x) x9 T0 M0 n0 T0 M0 n0) : mj_Met g l kY_Fund_hasEnd (d + 3) [.ref o0, .long x1] M0 n0 0 0 (tm_Q tm_FT (tm_in w_Fund_hasEnd_x) x9 T0 M0 n0 (fun r _ M => ∃ v : Int32, r = some (.int v) ∧ 0 ≤ v.toInt ∧ v.toInt ≤ 1 ∧ (v.toInt = p_hw pb pN9 x1.toInt))) := by
  refine mj_enter (by decide) (Nat.le_of_ble_eq_true rfl) ?_
  have hE : ∀ {T : tm_H} {M : mj_M} {n : Nat}, tm_I tm_FT (tm_in w_Fund_hasEnd_x) x9 T0 M0 n0 T M n → qE M e1 pb pN9 := fun I => yE.keep I0.1 I h_e1 (by decide +kernel) (by decide +kernel) (by decide +kernel)
  obtain ⟨s1, yz1, ys1⟩ := yE.1
  refine mv_iconst (v := 0) d_Fund_hasEnd_0 (by decide) ?_
  refine mv_istore_n (lv' := [(3, .int 0), (0, .ref o0), (1, .long x1)]) d_Fund_hasEnd_1 rfl (by decide) rfl ?_
  have L2_1 : ∀ (k : Nat) (i3_1 : Int32) (T_1 : tm_H) (M_1 : mj_M) (n_1 : Nat), tm_I tm_FT (tm_in w_Fund_hasEnd_x) x9 T0 M0 n0 T_1 M_1 n_1 → T_1 o0 = some (0, 6, 0) → T_1 e1 = some (3, 3, o0) → 0 ≤ i3_1.toInt → p_hw pb (List.drop (i3_1.toInt).toNat pN9) x1.toInt = p_hw pb pN9 x1.toInt → tm_at M_1 o0 6 11 (.ref e1) → tm_at M_1 e1 0 2 (.int s1) → 2147483647 - i3_1.toInt < (k : Int) → mj_V g l kY_Fund_hasEnd (d + 3) 2 [(3, .int i3_1), (0, .ref o0), (1, .long x1)] [] M_1 n_1 0 0 (tm_Q tm_FT (tm_in w_Fund_hasEnd_x) x9 T0 M0 n0 (fun r _ M => ∃ v : Int32, r = some (.int v) ∧ 0 ≤ v.toInt ∧ v.toInt ≤ 1 ∧ (v.toInt = p_hw pb pN9 x1.toInt))) := by
    intro k1
    induction k1 with
    | zero =>
      intro i3_1 T_1 M_1 n_1 I_1 h_q0_1 h_e0_1 iv0_1 iv1_1 kp0_1 kp1_1 hk1
      have := mz_hi i3_1
      omega
    | succ k1 ih1 =>
      intro i3_1 T_1 M_1 n_1 I_1 h_q0_1 h_e0_1 iv0_1 iv1_1 kp0_1 kp1_1 hk1
      refine mv_iload_n d_Fund_hasEnd_2 rfl rfl ?_
      refine mv_aload_n d_Fund_hasEnd_3 rfl rfl ?_
      refine tr_getK (k := 11) kp0_1 d_Fund_hasEnd_4 f_Fund_24_6 ?_
      obtain ⟨m3, e4, N5, f6, h2⟩ := tm_lsn I_1 h_e0_1 kp1_1
      refine mv_callV_s (kc' := 0) (ks' := 0) [] [.ref e1, .int i3_1] d_Fund_hasEnd_7 lV_Fund_61 h2.1 rfl (tc_L_size (d := (d + 2)) h2.1) rfl (Nat.le_of_ble_eq_true rfl) (Nat.le_of_ble_eq_true rfl) (Nat.le_of_ble_eq_true rfl) rfl ?_
      have := mz_hi i3_1
      have := mz_hi s1
      refine mv_icmp_geZ (tgt := 43) (a := i3_1.toInt) (b := s1.toInt) d_Fund_hasEnd_10 (by decide) rfl rfl (fun b7 => ?_) (fun b7 => ?_)
      · refine mv_iconst (v := 0) d_Fund_hasEnd_43 (by decide) ?_
        exact mv_iret d_Fund_hasEnd_44 rfl (by decide) ⟨_, I_1, _, rfl, by decide, by decide, (by have e9 := iv1_1; rw [List.drop_eq_nil_of_le (by omega)] at e9; exact (show (0 : Int32).toInt = 0 from by decide).trans e9)⟩
      · refine mv_aload_n d_Fund_hasEnd_13 rfl rfl ?_
        refine tr_getK (k := 11) kp0_1 d_Fund_hasEnd_14 f_Fund_24_6 ?_
        refine mv_iload_n d_Fund_hasEnd_17 rfl rfl ?_
        obtain ⟨m9, e10, N11, f12, h8⟩ := tm_lsn I_1 h_e0_1 kp1_1
        obtain ⟨u13e, u13i, a14, u13f, u13t⟩ := tm_el (i := i3_1) h8 (by omega) (by omega)
        have t_a14 : T_1 a14 = some (0, 3, 0) := u13t
        refine mv_callV_s (kc' := 0) (ks' := 0) [.int i3_1] [.int i3_1, .ref e1] d_Fund_hasEnd_18 lV_Fund_65 h8.1 rfl (tc_L_get (d := d) h8.1 u13e (by omega) (by omega) u13i u13f) rfl (Nat.le_of_ble_eq_true rfl) (Nat.le_of_ble_eq_true rfl) (Nat.le_of_ble_eq_true rfl) rfl ?_
        have h15 : i3_1.toNatClampNeg = (i3_1.toInt).toNat := by have := mz_nat9 (i := i3_1) (by omega); omega
        have f16 := u13f
        rw [h15] at f16
        have := (hE I_1).k kp1_1
        obtain ⟨a17, v18, z19, h20, q21, t_a17, q22, h23⟩ := (hE I_1).el I_1.1 h8 (by omega) f16
        obtain ⟨_, b24, -⟩ := I_1.1 _ _ t_a14
        refine mv_castS (T9 := kF_End) (N := 4) d_Fund_hasEnd_21 (mj_in1 (List.mem_of_getElem? (i := 751) (by decide +kernel)) rfl) b24 rfl ?_
        refine tr_getK (k := 0) q21 d_Fund_hasEnd_24 f_Fund_71_3 ?_
        refine tr_getK (k := 0) q22 d_Fund_hasEnd_27 f_Fund_75_4 ?_
        refine mv_lload_n d_Fund_hasEnd_30 rfl rfl ?_
        refine mv_lneZ (tgt := 37) (a := v18.toInt) (b := x1.toInt) d_Fund_hasEnd_31 d_Fund_hasEnd_32 (by decide) rfl rfl (fun b25 => ?_) (fun b25 => ?_)
        · refine mv_iinc (v := (i3_1 + 1)) (lv' := [(3, .int (i3_1 + 1)), (0, .ref o0), (1, .long x1)]) d_Fund_hasEnd_37 rfl rfl (by decide) rfl ?_
          refine mv_goto (tgt := 2) d_Fund_hasEnd_40 (by decide) ?_
          have b26 : (i3_1 + 1).toInt = i3_1.toInt + 1 := mz_addn 1 1 (by decide) (by have := mz_lo i3_1; omega) (by have := mz_hi i3_1; omega)
          exact (ih1 (i3_1 + 1) T_1 M_1 n_1 I_1 h_q0_1 h_e0_1 (by first | omega | decide) (by have e9 := iv1_1; rw [p_hw_dr h20, if_neg (by omega), show (i3_1.toInt).toNat + 1 = ((i3_1 + 1).toInt).toNat from by omega] at e9; exact e9) kp0_1 kp1_1 (by omega))
        · refine mv_iconst (v := 1) d_Fund_hasEnd_35 (by decide) ?_
          exact mv_iret d_Fund_hasEnd_36 rfl (by decide) ⟨_, I_1, _, rfl, by decide, by decide, (by have e9 := iv1_1; rw [p_hw_dr h20, if_pos (by omega)] at e9; exact (show (1 : Int32).toInt = 1 from by decide).trans e9)⟩
  exact mv_less (Nat.zero_le _) (Nat.zero_le _) (L2_1 4294967296 0 T0 M0 n0 I0 h_o0 h_e1 (by first | omega | decide) (by rw [show (0 : Int32).toInt = 0 from by decide]; rfl) yq1 yz1 (by show (2147483647 - (0 : Int) : Int) < _; decide))
def w_Reader_wordAsNumber_x : List Nat := []
set_option maxHeartbeats 100000000 in theorem tc_Reader_wordAsNumber_x {g : mj_G} {l : Launch} {d : Nat} {T0 : tm_H} {M0 : mj_M} {n0 x9 : Nat} {o0 : Nat} (h_o0 : T0 o0 = some (0, 9, 0))  {pb : Nat → Int} {pn : Nat} {pa : Int} {ps : p_S} (yC : qC M0 o0 pb pn pa) (yD : qS M0 o0 pb pn ps) (yw : ps.1 = 0) (yk1 : p_ki pb pn ps.2.2 = 1) (yk8 : p_sp pb pn ps.2.2 ≤ p_st pb pn ps.2.2 + 8) (I0 : tm_I tm_FT (tm_in w_Reader_wordAsNumber_x) x9 T0 M0 n0 T0 M0 n0) : mj_Met g l kY_Reader_wordAsNumber d [.ref o0] M0 n0 0 0 (tm_Q tm_FT (tm_in w_Reader_wordAsNumber_x) x9 T0 M0 n0 (fun r _ M => ∃ v : Int64, r = some (.long v) ∧ (v.toInt = p_wn pb (p_sp pb pn ps.2.2 - p_st pb pn ps.2.2) (p_st pb pn ps.2.2) 0))) := by
  refine mj_enter (by decide) (Nat.le_of_ble_eq_true rfl) ?_
  have hK : ∀ {T : tm_H} {M : mj_M} {n : Nat}, tm_I tm_FT (tm_in w_Reader_wordAsNumber_x) x9 T0 M0 n0 T M n → qC M o0 pb pn pa := fun I => yC.keep I0.1 I h_o0 (qW_of (by decide +kernel))
  obtain ⟨v1, v2, v3, v4, v5, v6, v7, q8, q9, q10, q11, q12, q13, q14, h15, h16, h17⟩ := yD
  replace h16 := Im.i h16
  replace h17 := Im.i h17
  have := (Im.o h17) yw
  have := yC.1.2.1
  have := p_tp_le (b := pb) (n := pn) (ps.2.2 + 1)
  have : p_sp pb pn ps.2.2 = p_tp pb pn (ps.2.2 + 1) := rfl
  have yW := p_lt_tok yk1
  have yW1 : p_st pb pn ps.2.2 ≤ p_sp pb pn ps.2.2 := yW.1
  have yW2 : ∀ i, p_st pb pn ps.2.2 ≤ i → i < p_sp pb pn ps.2.2 → 97 ≤ pb i ∧ pb i ≤ 122 := yW.2
  refine mv_lconst (v := 0) d_Reader_wordAsNumber_0 (by decide) ?_
  refine mv_lstore_n (lv' := [(1, .long 0), (0, .ref o0)]) d_Reader_wordAsNumber_1 rfl (by decide) rfl ?_
  refine mv_aload_n d_Reader_wordAsNumber_2 rfl rfl ?_
  refine tr_getK (k := 11) q12 d_Reader_wordAsNumber_3 f_Reader_175_9 ?_
  refine mv_istore_n (lv' := [(3, .int v5), (1, .long 0), (0, .ref o0)]) d_Reader_wordAsNumber_6 rfl (by decide) rfl ?_
  have L7_18 : ∀ (k : Nat) (i3_18 : Int32) (l1_18 : Int64) (T_18 : tm_H) (M_18 : mj_M) (n_18 : Nat), tm_I tm_FT (tm_in w_Reader_wordAsNumber_x) x9 T0 M0 n0 T_18 M_18 n_18 → T_18 o0 = some (0, 9, 0) → (p_st pb pn ps.2.2 : Int) ≤ i3_18.toInt → i3_18.toInt ≤ (p_sp pb pn ps.2.2 : Int) → l1_18.toInt = p_wn pb ((i3_18.toInt).toNat - p_st pb pn ps.2.2) (p_st pb pn ps.2.2) 0 → tm_at M_18 o0 9 12 (.int v6) → 2147483647 - i3_18.toInt < (k : Int) → mj_V g l kY_Reader_wordAsNumber d 7 [(3, .int i3_18), (1, .long l1_18), (0, .ref o0)] [] M_18 n_18 0 0 (tm_Q tm_FT (tm_in w_Reader_wordAsNumber_x) x9 T0 M0 n0 (fun r _ M => ∃ v : Int64, r = some (.long v) ∧ (v.toInt = p_wn pb (p_sp pb pn ps.2.2 - p_st pb pn ps.2.2) (p_st pb pn ps.2.2) 0))) := by
    intro k18
    induction k18 with
    | zero =>
      intro i3_18 l1_18 T_18 M_18 n_18 I_18 h_q0_18 iv0_18 iv1_18 iv2_18 kp0_18 hk18
      have := mz_hi i3_18
      omega
    | succ k18 ih18 =>
      intro i3_18 l1_18 T_18 M_18 n_18 I_18 h_q0_18 iv0_18 iv1_18 iv2_18 kp0_18 hk18
      refine mv_iload_n d_Reader_wordAsNumber_7 rfl rfl ?_
      have := mz_hi i3_18
      refine mv_if_ltZ (tgt := 52) (a := i3_18.toInt) d_Reader_wordAsNumber_8 (by decide) rfl (fun b19 => ?_) (fun b19 => ?_)
      · refine mv_lload_n d_Reader_wordAsNumber_52 rfl rfl ?_
        exact mv_lret d_Reader_wordAsNumber_53 rfl ⟨_, I_18, _, rfl, (by first | (have e9 := iv2_18; rw [show (i3_18.toInt).toNat - p_st pb pn ps.2.2 = p_sp pb pn ps.2.2 - p_st pb pn ps.2.2 from by omega] at e9; exact e9) | (exfalso; omega))⟩
      · refine mv_iload_n d_Reader_wordAsNumber_11 rfl rfl ?_
        refine mv_aload_n d_Reader_wordAsNumber_12 rfl rfl ?_
        refine tr_getK (k := 12) kp0_18 d_Reader_wordAsNumber_13 f_Reader_172_9 ?_
        have := mz_hi i3_18
        have := mz_hi v6
        refine mv_icmp_geZ (tgt := 52) (a := i3_18.toInt) (b := v6.toInt) d_Reader_wordAsNumber_16 (by decide) rfl rfl (fun b20 => ?_) (fun b20 => ?_)
        · refine mv_lload_n d_Reader_wordAsNumber_52 rfl rfl ?_
          exact mv_lret d_Reader_wordAsNumber_53 rfl ⟨_, I_18, _, rfl, (by first | (have e9 := iv2_18; rw [show (i3_18.toInt).toNat - p_st pb pn ps.2.2 = p_sp pb pn ps.2.2 - p_st pb pn ps.2.2 from by omega] at e9; exact e9) | (exfalso; omega))⟩
        · refine mv_iload_n d_Reader_wordAsNumber_19 rfl rfl ?_
          refine mv_sipush (v := 400) d_Reader_wordAsNumber_20 (by decide) ?_
          have := mz_hi i3_18
          refine mv_icmp_geZ (tgt := 52) (a := i3_18.toInt) (b := 400) d_Reader_wordAsNumber_23 (by decide) rfl (by decide) (fun b21 => ?_) (fun b21 => ?_)
          · refine mv_lload_n d_Reader_wordAsNumber_52 rfl rfl ?_
            exact mv_lret d_Reader_wordAsNumber_53 rfl ⟨_, I_18, _, rfl, (by first | (have e9 := iv2_18; rw [show (i3_18.toInt).toNat - p_st pb pn ps.2.2 = p_sp pb pn ps.2.2 - p_st pb pn ps.2.2 from by omega] at e9; exact e9) | (exfalso; omega))⟩
          · refine mv_lload_n d_Reader_wordAsNumber_26 rfl rfl ?_
            refine mv_ldc2 d_Reader_wordAsNumber_27 k_Reader_194 ?_
            refine mv_lmul d_Reader_wordAsNumber_30 ?_
            refine mv_aload_n d_Reader_wordAsNumber_31 rfl rfl ?_
            obtain ⟨a23, q22, t_a23⟩ := tm_atR I_18 h_q0_18 (k := 3) rfl
            refine tr_getK q22 d_Reader_wordAsNumber_32 f_Reader_15_9 ?_
            refine mv_iload_n d_Reader_wordAsNumber_35 rfl rfl ?_
            refine tr_iald9 (o := o0) (k := 3) I_18 q22 t_a23 (by decide) d_Reader_wordAsNumber_36 (vp_in_iff.mpr (by omega)) (fun v24 e25 => ?_)
            have : v24.toInt = pb (i3_18.toInt).toNat := by rw [e25, show i3_18.toNatClampNeg = (i3_18.toInt).toNat from by have := mz_nat9 (i := i3_18) (by omega); omega]; exact (hK I_18).1.2.2.2 _ (by omega)
            have := yW2 (i3_18.toInt).toNat (by omega) (by omega)
            refine mv_i2l (v := v24.toInt64) d_Reader_wordAsNumber_37 rfl ?_
            refine mv_ladd d_Reader_wordAsNumber_38 ?_
            refine mv_ldc2 d_Reader_wordAsNumber_39 k_Reader_196 ?_
            refine mv_lsub d_Reader_wordAsNumber_42 ?_
            refine mv_lconst (v := 1) d_Reader_wordAsNumber_43 (by decide) ?_
            refine mv_ladd d_Reader_wordAsNumber_44 ?_
            refine mv_lstore_n (lv' := [(1, .long ((((l1_18 * 32) + v24.toInt64) - 97) + 1)), (3, .int i3_18), (0, .ref o0)]) d_Reader_wordAsNumber_45 rfl (by decide) rfl ?_
            refine mv_iinc (v := (i3_18 + 1)) (lv' := [(3, .int (i3_18 + 1)), (1, .long ((((l1_18 * 32) + v24.toInt64) - 97) + 1)), (0, .ref o0)]) d_Reader_wordAsNumber_46 rfl rfl (by decide) rfl ?_
            refine mv_goto (tgt := 7) d_Reader_wordAsNumber_49 (by decide) ?_
            have hw8 := p_wn_8 (b := pb) (m := (i3_18.toInt).toNat - p_st pb pn ps.2.2) (s := p_st pb pn ps.2.2) (fun j hj => yW2 _ (by omega) (by omega)) (by omega)
            have : (((((l1_18 * 32) + v24.toInt64) - 97) + 1) : Int64).toInt = l1_18.toInt * 32 + v24.toInt - 97 + 1 := mz_addL (mz_subL (mz_addL (mz_mulL rfl (by decide) (by omega) (by omega)) (mz_wide _) (by omega) (by omega)) (by decide) (by omega) (by omega)) (by decide) (by omega) (by omega)
            have b26 : (i3_18 + 1).toInt = i3_18.toInt + 1 := mz_addn 1 1 (by decide) (by have := mz_lo i3_18; omega) (by have := mz_hi i3_18; omega)
            exact (ih18 (i3_18 + 1) ((((l1_18 * 32) + v24.toInt64) - 97) + 1) T_18 M_18 n_18 I_18 h_q0_18 (by first | omega | decide) (by first | omega | decide) (by have e9 := iv2_18; rw [show ((i3_18 + 1).toInt).toNat - p_st pb pn ps.2.2 = ((i3_18.toInt).toNat - p_st pb pn ps.2.2) + 1 from by omega, p_wn_out, ← e9, show p_st pb pn ps.2.2 + ((i3_18.toInt).toNat - p_st pb pn ps.2.2) = (i3_18.toInt).toNat from by omega]; omega) kp0_18 (by omega))
  exact mv_less (Nat.zero_le _) (Nat.zero_le _) (L7_18 4294967296 v5 0 T0 M0 n0 I0 h_o0 (by first | omega | decide) (by first | omega | decide) (by rw [show (0 : Int64).toInt = 0 from by decide, show (v5.toInt).toNat - p_st pb pn ps.2.2 = 0 from by omega]; rfl) q13 (by have := mz_lo v5; omega))
def w_Reader_endText_q4_x : List Nat := [901, 902, 909, 910, 911, 912, 913, 914, 916, 918, 967]
set_option maxHeartbeats 100000000 in theorem tc_Reader_endText_q4_x {g : mj_G} {l : Launch} {d : Nat} {T0 : tm_H} {M0 : mj_M} {n0 x9 : Nat} {o0 : Nat} {o1 : Nat} (h_o0 : T0 o0 = some (0, 9, 0)) (h_o1 : T0 o1 = some (0, 6, 0)) {p : Int32} (hO : tm_at M0 o0 9 16 (.int p)) (hp : 0 ≤ p.toInt) (hp2 : p.toInt ≤ 0) {pb : Nat → Int} {pn : Nat} {pa : Int} {ps : p_S} (yC : qC M0 o0 pb pn pa) (yD : qS M0 o0 pb pn ps) (yw : ps.1 = 0) (yz : p_ki pb pn ps.2.2 ≠ 0) {e1 : Nat} {pN9 : List (Nat × Nat)} (h_e1 : T0 e1 = some (3, 3, o1)) (yq1 : tm_at M0 o1 6 11 (.ref e1)) (yE : qE M0 e1 pb pN9) (I0 : tm_I tm_FT (tm_in w_Reader_endText_q4_x) x9 T0 M0 n0 T0 M0 n0) : mj_Met g l kY_Reader_endText (d + 20) [.ref o0, .ref o1] M0 n0 5 807 (tm_Q tm_FT (tm_in w_Reader_endText_q4_x) x9 T0 M0 n0 (fun r T M => (r = some .null ∧ qS M o0 pb pn (p_en1 pb pn pa pN9 (p_nx ps)) ∧ (p_en1 pb pn pa pN9 (p_nx ps)).1 ≠ 0) ∨ ∃ b, r = some (.ref b) ∧ T b = some (0, 4, 0) ∧ tm_at M o0 9 16 (.int p) ∧ qS M o0 pb pn (p_en1 pb pn pa pN9 (p_nx ps)) ∧ (p_en1 pb pn pa pN9 (p_nx ps)).1 = 0 ∧ p_ki pb pn (ps.2.2 + 1) = 1 ∧ ∃ nv : Int64, tm_at M b 4 0 (.long nv) ∧ nv.toInt = p_wn pb (p_sp pb pn (ps.2.2 + 1) - p_st pb pn (ps.2.2 + 1)) (p_st pb pn (ps.2.2 + 1)) 0)) := by
  refine mj_enter (by decide) (Nat.le_of_ble_eq_true rfl) ?_
  have hK : ∀ {T : tm_H} {M : mj_M} {n : Nat}, tm_I tm_FT (tm_in w_Reader_endText_q4_x) x9 T0 M0 n0 T M n → qC M o0 pb pn pa := fun I => yC.keep I0.1 I h_o0 (qW_of (by decide +kernel))
  obtain ⟨v1, v2, v3, v4, v5, v6, v7, q8, q9, q10, q11, q12, q13, q14, h15, h16, h17⟩ := yD
  replace h16 := Im.i h16
  replace h17 := Im.i h17
  have := yC.kn ps.2.2
  have hE : ∀ {T : tm_H} {M : mj_M} {n : Nat}, tm_I tm_FT (tm_in w_Reader_endText_q4_x) x9 T0 M0 n0 T M n → qE M e1 pb pN9 := fun I => yE.keep I0.1 I h_e1 (by decide +kernel) (by decide +kernel) (by decide +kernel)
  refine mv_aload_n d_Reader_endText_0 rfl rfl ?_
  obtain ⟨_, b24, -⟩ := I0.1 _ _ h_o0
  refine mv_callV (kc' := 5) (ks' := 807) (As := []) (st9 := [.ref o0]) d_Reader_endText_1 lV_Reader_82 b24 rfl (tc_Reader_advance_x (d := (d + 19)) (x9 := x9) (o0 := o0) h_o0 (hK I0) (qS.a (show qS M0 o0 pb pn ps from ⟨_, _, _, _, _, _, _, q8, q9, q10, q11, q12, q13, q14, h15, Im.o h16, Im.o h17⟩)) (by show ps.2.2 + 1 ≤ 401; omega) I0.start) rfl (Nat.le_of_ble_eq_true rfl) (Nat.le_of_ble_eq_true rfl) (Nat.le_of_ble_eq_true rfl) (hst := rfl) (fun b18r M19 n20 b18 => ?_)
  obtain ⟨T21, J22, rfl, f25⟩ := b18
  have I23 := I0.call J22 (tm_sub (by decide)) (Or.inl rfl)
  have t26 := J22.up h_o0
  have t27 := J22.up h_o1
  have q28 := J22.keep h_o0 (by decide) hO
  have q29 := J22.keep h_o0 (by decide) q8
  have q30 := J22.keep h_o0 (by decide) q9
  obtain ⟨s31, e32⟩ : ∃ s9 : p_S, p_nx ps = s9 := ⟨_, rfl⟩
  rw [e32] at f25
  have : s31.1 = 0 := by rw [← e32]; show ps.1 = 0; omega
  obtain ⟨v33, v34, v35, v36, v37, v38, v39, q40, q41, q42, q43, q44, q45, q46, h47, h48, h49⟩ := f25
  replace h48 := Im.i h48
  replace h49 := Im.i h49
  have hz1 : ps.2.2 + 1 = s31.2.2 := by rw [← e32]; rfl
  have := (Im.o h49) (by omega)
  have := yC.1.2.1
  have := p_tp_le (b := pb) (n := pn) (s31.2.2 + 1)
  have : p_sp pb pn s31.2.2 = p_tp pb pn (s31.2.2 + 1) := rfl
  have := p_st_le (b := pb) (n := pn) (k := s31.2.2)
  refine mv_aload_n d_Reader_endText_4 rfl rfl ?_
  refine tr_getK (k := 12) q45 d_Reader_endText_5 f_Reader_172_9 ?_
  refine mv_aload_n d_Reader_endText_8 rfl rfl ?_
  refine tr_getK (k := 11) q44 d_Reader_endText_9 f_Reader_175_9 ?_
  refine mv_isub d_Reader_endText_12 ?_
  refine mv_istore_n (lv' := [(2, .int (v38 - v37)), (0, .ref o0), (1, .ref o1)]) d_Reader_endText_13 rfl (by decide) rfl ?_
  refine mv_aload_n d_Reader_endText_14 rfl rfl ?_
  refine tr_getK (k := 10) q43 d_Reader_endText_15 f_Reader_41_9 ?_
  refine mv_iconst (v := 1) d_Reader_endText_18 (by decide) ?_
  have := mz_hi v36
  refine mv_icmp_neZ (tgt := 28) (a := v36.toInt) (b := 1) d_Reader_endText_19 (by decide) rfl (by decide) (fun b50 => ?_) (fun b50 => ?_)
  · refine mv_aload_n d_Reader_endText_28 rfl rfl ?_
    refine mv_iconst (v := 1) d_Reader_endText_29 (by decide) ?_
    obtain ⟨_, b51, -⟩ := I23.1 _ _ t26
    refine mv_callV (kc1 := 0) (ks1 := 0) (kc' := 0) (ks' := 0) (As := [.int 1]) (st9 := [.int 1, .ref o0]) d_Reader_endText_30 lV_Reader_56 b51 rfl (mj_enter (by decide) (Nat.le_of_ble_eq_true rfl) ?_) rfl (Nat.le_of_ble_eq_true rfl) (Nat.le_of_ble_eq_true rfl) (Nat.le_of_ble_eq_true rfl) (hst := rfl) (fun _ _ _ h => h)
    refine mv_aload_n d_Reader_refuse_0 rfl rfl ?_
    refine mv_iload_n d_Reader_refuse_1 rfl rfl ?_
    refine tr_putK tm_okF I23 t26 (k := 1) rfl ⟨_, rfl⟩ (Or.inl (by decide)) d_Reader_refuse_2 p_Reader_70_9 rfl rfl (fun M52 I53 q54 K55 => ?_)
    refine mv_aload_n d_Reader_refuse_5 rfl rfl ?_
    refine mv_aload_n d_Reader_refuse_6 rfl rfl ?_
    refine tr_getK (k := 11) (K55 _ 9 11 _ rfl q44) d_Reader_refuse_7 f_Reader_175_9 ?_
    refine tr_putK tm_okF I53 t26 (k := 2) rfl ⟨_, rfl⟩ (Or.inl (by decide)) d_Reader_refuse_10 p_Reader_11_9 rfl rfl (fun M56 I57 q58 K59 => ?_)
    refine mv_iconst (v := 0) d_Reader_refuse_13 (by decide) ?_
    obtain ⟨s60, e61⟩ : ∃ s9 : p_S, p_fl pb pn 1 s31 = s9 := ⟨_, rfl⟩
    have h62 := q_fl e61 (by omega) (by decide)
    have h63 : (1 : Int32).toInt = s60.1 := (by have e9 : (1 : Int32).toInt = 1 := (by decide); omega)
    have h64 : Im (s60.1 ≠ 0 → v37.toInt = (s60.2.1 : Int)) := Im.i (fun _ => by have := (Im.o h49) (by omega); omega)
    have h65 : Im (s60.1 = 0 → v35.toInt = (s60.2.2 : Int) ∧ v36.toInt = p_ki pb pn s60.2.2 ∧ v37.toInt = (p_st pb pn s60.2.2 : Int) ∧ v38.toInt = (p_sp pb pn s60.2.2 : Int) ∧ v39.toInt = p_va pb pn s60.2.2 ∧ v37.toInt = -1) := Im.i (fun z9 => absurd z9 h62.2.2)
    refine mv_iret d_Reader_refuse_14 rfl (by decide) ?_
    refine mv_pop d_Reader_endText_33 rfl ?_
    refine mv_null d_Reader_endText_34 ?_
    exact mv_aret (r := none) d_Reader_endText_35 rfl (by first | exact Or.inl ⟨_, rfl⟩ | exact Or.inr ⟨_, rfl⟩) ⟨_, I57, Or.inl ⟨rfl, (by have := (Im.o h49) (by omega); have := yC.d s31.2.2; have := yC.kn s31.2.2; have hb : s60.1 ≠ 0 := (by omega); have z1 : ∀ c, p_sg pb pn c s60 = s60 := (fun c => p_sg_Z s60 hb); have z2 : ∀ c, p_wd pb pn c s60 = s60 := (fun c => p_wd_Z s60 hb); have z3 : ∀ op, p_sum pb pn pa op s60 = s60 := (fun op => p_sum_Z s60 hb); have z4 : ∀ r oc, p_con pb pn pa r oc s60 = s60 := (fun r oc => p_con_Z s60 hb); have z5 : p_prt pb pn s60 = s60 := p_prt_Z s60 hb; have eT : p_en1 pb pn pa pN9 (p_nx ps) = s60 := (by unfold p_en1; unfold p_prt; (try simp only [e32, e61, z1, z2, z3, z4, z5]); ((repeat' (first | (with_reducible rfl) | split)) <;> (first | ((try simp only [e32, e61, z1, z2, z3, z4, z5]); done) | (exfalso; omega)))); rw [eT]; exact ⟨⟨_, _, _, _, _, _, _, (K59 _ 9 1 _ rfl q54), q58, (K59 _ 9 9 _ rfl (K55 _ 9 9 _ rfl q42)), (K59 _ 9 10 _ rfl (K55 _ 9 10 _ rfl q43)), (K59 _ 9 11 _ rfl (K55 _ 9 11 _ rfl q44)), (K59 _ 9 12 _ rfl (K55 _ 9 12 _ rfl q45)), (K59 _ 9 13 _ rfl (K55 _ 9 13 _ rfl q46)), h63, Im.o h64, Im.o h65⟩, by omega⟩)⟩⟩
  · refine mv_iload_n d_Reader_endText_22 rfl rfl ?_
    refine mv_bipush (v := 8) d_Reader_endText_23 (by decide) ?_
    have : ((v38 - v37) : Int32).toInt = v38.toInt - v37.toInt := mz_sub2 rfl rfl (by omega) (by omega)
    have := mz_hi (v38 - v37)
    refine mv_icmp_leZ (tgt := 36) (a := (v38 - v37).toInt) (b := 8) d_Reader_endText_25 (by decide) rfl (by decide) (fun b66 => ?_) (fun b66 => ?_)
    · refine mv_aload_n d_Reader_endText_36 rfl rfl ?_
      obtain ⟨_, b73, -⟩ := I23.1 _ _ t26
      refine mv_callV (kc' := 5) (ks' := 807) (As := []) (st9 := [.ref o0]) d_Reader_endText_37 lV_Reader_178 b73 rfl (tc_Reader_wordAsNumber_x (d := (d + 19)) (x9 := x9) (o0 := o0) t26 (ps := s31) (hK I23) ⟨_, _, _, _, _, _, _, q40, q41, q42, q43, q44, q45, q46, h47, Im.o h48, Im.o h49⟩ (by omega) (by have := (Im.o h49) (by omega); have := yC.d s31.2.2; have := yC.kn s31.2.2; omega) (by have := (Im.o h49) (by omega); have := yC.d s31.2.2; have := yC.kn s31.2.2; omega) I23.start) rfl (Nat.le_of_ble_eq_true rfl) (Nat.le_of_ble_eq_true rfl) (Nat.le_of_ble_eq_true rfl) (hst := rfl) (fun b67r M68 n69 b67 => ?_)
      obtain ⟨T70, J71, v74, rfl, f75⟩ := b67
      have I72 := I23.call J71 (tm_sub (by decide)) (Or.inl rfl)
      have t76 := J71.up t26
      have t77 := J71.up t27
      have q78 := J71.keep t26 (by decide) q28
      have q79 := J71.keep (I23.up h_o0) (by decide) q40
      have q80 := J71.keep (I23.up h_o0) (by decide) q41
      have q81 := J71.keep (I23.up h_o0) (by decide) q42
      have q82 := J71.keep (I23.up h_o0) (by decide) q43
      have q83 := J71.keep (I23.up h_o0) (by decide) q44
      have q84 := J71.keep (I23.up h_o0) (by decide) q45
      have q85 := J71.keep (I23.up h_o0) (by decide) q46
      refine mv_lstore_n (lv' := [(3, .long v74), (2, .int (v38 - v37)), (0, .ref o0), (1, .ref o1)]) d_Reader_endText_40 rfl (by decide) rfl ?_
      refine mv_aload_n d_Reader_endText_41 rfl rfl ?_
      refine mv_ifnull d_Reader_endText_42 ?_
      refine mv_aload_n d_Reader_endText_45 rfl rfl ?_
      refine mv_lload_n d_Reader_endText_46 rfl rfl ?_
      obtain ⟨_, b92, -⟩ := I72.1 _ _ t77
      refine mv_callV (kc' := 5) (ks' := 807) (As := [.long v74]) (st9 := [.long v74, .ref o1]) d_Reader_endText_47 lV_Reader_182 b92 rfl (tc_Fund_hasEnd_x (d := (d + 16)) (x9 := x9) (o0 := o1) (x1 := v74) t77 (I72.up h_e1) (I72.keep h_o1 (by decide +kernel) yq1) (hE I72) I72.start) rfl (Nat.le_of_ble_eq_true rfl) (Nat.le_of_ble_eq_true rfl) (Nat.le_of_ble_eq_true rfl) (hst := rfl) (fun b86r M87 n88 b86 => ?_)
      obtain ⟨T89, J90, v93, rfl, b94, b95, f96⟩ := b86
      have I91 := I72.call J90 (tm_sub (by decide)) (Or.inl rfl)
      have t97 := J90.up t76
      have t98 := J90.up t77
      have q99 := J90.keep t76 (by decide) q78
      have q100 := J90.keep t76 (by decide) q79
      have q101 := J90.keep t76 (by decide) q80
      have q102 := J90.keep t76 (by decide) q81
      have q103 := J90.keep t76 (by decide) q82
      have q104 := J90.keep t76 (by decide) q83
      have q105 := J90.keep t76 (by decide) q84
      have q106 := J90.keep t76 (by decide) q85
      have : v93.toInt = p_hs pb pN9 (p_st pb pn s31.2.2) (p_sp pb pn s31.2.2) := f96.trans (by rw [f75]; exact p_hw_hs (p_lt_tok (by have := (Im.o h49) (by omega); have := yC.d s31.2.2; have := yC.kn s31.2.2; omega)) pN9 yE.2.1)
      have := mz_hi v93
      refine mv_if_eqZ (tgt := 61) (a := v93.toInt) d_Reader_endText_50 (by decide) rfl (fun b107 => ?_) (fun b107 => ?_)
      · refine mv_aload_n d_Reader_endText_61 rfl rfl ?_
        obtain ⟨_, b114, -⟩ := I91.1 _ _ t97
        refine mv_callV (kc' := 5) (ks' := 807) (As := []) (st9 := [.ref o0]) d_Reader_endText_62 lV_Reader_82 b114 rfl (tc_Reader_advance_x (d := (d + 19)) (x9 := x9) (o0 := o0) t97 (hK I91) (qS.a (show qS M87 o0 pb pn s31 from ⟨_, _, _, _, _, _, _, q100, q101, q102, q103, q104, q105, q106, h47, Im.o h48, Im.o h49⟩)) (by have := (Im.o h49) (by omega); have := yC.d s31.2.2; have := yC.kn s31.2.2; show s31.2.2 + 1 ≤ 401; omega) I91.start) rfl (Nat.le_of_ble_eq_true rfl) (Nat.le_of_ble_eq_true rfl) (Nat.le_of_ble_eq_true rfl) (hst := rfl) (fun b108r M109 n110 b108 => ?_)
        obtain ⟨T111, J112, rfl, f115⟩ := b108
        have I113 := I91.call J112 (tm_sub (by decide)) (Or.inl rfl)
        have t116 := J112.up t97
        have t117 := J112.up t98
        have q118 := J112.keep t97 (by decide) q99
        have q119 := J112.keep t97 (by decide) q100
        have q120 := J112.keep t97 (by decide) q101
        obtain ⟨s121, e122⟩ : ∃ s9 : p_S, p_nx s31 = s9 := ⟨_, rfl⟩
        rw [e122] at f115
        have : s121.1 = 0 := by rw [← e122]; show s31.1 = 0; omega
        obtain ⟨v123, v124, v125, v126, v127, v128, v129, q130, q131, q132, q133, q134, q135, q136, h137, h138, h139⟩ := f115
        replace h138 := Im.i h138
        replace h139 := Im.i h139
        refine mv_aload_n d_Reader_endText_65 rfl rfl ?_
        refine mv_iconst (v := 0) d_Reader_endText_66 (by decide) ?_
        refine tr_putK tm_okF I113 t116 (k := 18) rfl ⟨_, rfl⟩ (Or.inl (by decide)) d_Reader_endText_67 p_Reader_118_9 rfl rfl (fun M140 I141 q142 K143 => ?_)
        refine mv_aload_n d_Reader_endText_70 rfl rfl ?_
        refine mv_bipush (v := 27) d_Reader_endText_71 (by decide) ?_
        obtain ⟨_, b150, -⟩ := I141.1 _ _ t116
        refine mv_callV (kc' := 5) (ks' := 807) (As := [.int 27]) (st9 := [.int 27, .ref o0]) d_Reader_endText_73 lV_Reader_121 b150 rfl (tc_Reader_word_x (d := (d + 18)) (x9 := x9) (o0 := o0) (x1 := 27) t116 (hK I141) ⟨_, _, _, _, _, _, _, (K143 _ 9 1 _ rfl q130), (K143 _ 9 2 _ rfl q131), (K143 _ 9 9 _ rfl q132), (K143 _ 9 10 _ rfl q133), (K143 _ 9 11 _ rfl q134), (K143 _ 9 12 _ rfl q135), (K143 _ 9 13 _ rfl q136), h137, Im.o h138, Im.o h139⟩ (by omega) (by first | omega | decide) I141.start) rfl (Nat.le_of_ble_eq_true rfl) (Nat.le_of_ble_eq_true rfl) (Nat.le_of_ble_eq_true rfl) (hst := rfl) (fun b144r M145 n146 b144 => ?_)
        obtain ⟨T147, J148, v151, rfl, b152, b153, f154, f155⟩ := b144
        have I149 := I141.call J148 (tm_sub (by decide)) (Or.inl rfl)
        have t156 := J148.up t116
        have t157 := J148.up t117
        have q158 := J148.keep t116 (by decide) (K143 _ 9 16 _ rfl q118)
        have q159 := J148.keep t116 (by decide) q142
        rw [show (27 : Int32).toInt = 27 from by decide] at f154 f155
        obtain ⟨s160, e161⟩ : ∃ s9 : p_S, p_wd pb pn 27 s121 = s9 := ⟨_, rfl⟩
        rw [e161] at f154 f155
        obtain ⟨v162, v163, v164, v165, v166, v167, v168, q169, q170, q171, q172, q173, q174, q175, h176, h177, h178⟩ := f154
        replace h177 := Im.i h177
        replace h178 := Im.i h178
        have := mz_hi v151
        refine mv_if_eqZ (tgt := 86) (a := v151.toInt) d_Reader_endText_76 (by decide) rfl (fun b179 => ?_) (fun b179 => ?_)
        · refine mv_null d_Reader_endText_86 ?_
          exact mv_aret (r := none) d_Reader_endText_87 rfl (by first | exact Or.inl ⟨_, rfl⟩ | exact Or.inr ⟨_, rfl⟩) ⟨_, I149, Or.inl ⟨rfl, (by have := (Im.o h49) (by omega); have := yC.d s31.2.2; have := yC.kn s31.2.2; have hb : s160.1 ≠ 0 := (by omega); have z1 : ∀ c, p_sg pb pn c s160 = s160 := (fun c => p_sg_Z s160 hb); have z2 : ∀ c, p_wd pb pn c s160 = s160 := (fun c => p_wd_Z s160 hb); have z3 : ∀ op, p_sum pb pn pa op s160 = s160 := (fun op => p_sum_Z s160 hb); have z4 : ∀ r oc, p_con pb pn pa r oc s160 = s160 := (fun r oc => p_con_Z s160 hb); have z5 : p_prt pb pn s160 = s160 := p_prt_Z s160 hb; have eT : p_en1 pb pn pa pN9 (p_nx ps) = s160 := (by unfold p_en1; unfold p_prt; (try simp only [e32, e122, e161, z1, z2, z3, z4, z5]); ((repeat' (first | (with_reducible rfl) | split)) <;> (first | ((try simp only [e32, e122, e161, z1, z2, z3, z4, z5]); done) | (exfalso; omega)))); rw [eT]; exact ⟨⟨_, _, _, _, _, _, _, q169, q170, q171, q172, q173, q174, q175, h176, Im.o h177, Im.o h178⟩, by omega⟩)⟩⟩
        · refine mv_aload_n d_Reader_endText_79 rfl rfl ?_
          obtain ⟨_, b186, -⟩ := I149.1 _ _ t156
          refine mv_callV (kc' := 5) (ks' := 807) (As := []) (st9 := [.ref o0]) d_Reader_endText_80 lV_Reader_186 b186 rfl (tc_Reader_sum_q4_x (d := (d + 3)) (x9 := x9) (o0 := o0) t156 (p := p) q158 (by omega) (by first | omega | decide) (hK I149) ⟨_, _, _, _, _, _, _, q169, q170, q171, q172, q173, q174, q175, h176, Im.o h177, Im.o h178⟩ (by omega) I149.start) rfl (Nat.le_of_ble_eq_true rfl) (Nat.le_of_ble_eq_true rfl) (Nat.le_of_ble_eq_true rfl) (hst := rfl) (fun b180r M181 n182 b180 => ?_)
          obtain ⟨T183, J184, v187, rfl, b188, b189, o190, f191, f192⟩ := b180
          have I185 := I149.call J184 (tm_sub (by decide)) (Or.inl rfl)
          have t193 := J184.up t156
          have t194 := J184.up t157
          obtain ⟨s195, e196⟩ : ∃ s9 : p_S, p_sum pb pn pa (p_op pb pn pa 4) s160 = s9 := ⟨_, rfl⟩
          rw [e196] at f191 f192
          obtain ⟨v197, v198, v199, v200, v201, v202, v203, q204, q205, q206, q207, q208, q209, q210, h211, h212, h213⟩ := f191
          replace h212 := Im.i h212
          replace h213 := Im.i h213
          have := mz_hi v187
          refine mv_if_neZ (tgt := 88) (a := v187.toInt) d_Reader_endText_83 (by decide) rfl (fun b214 => ?_) (fun b214 => ?_)
          · have q215 := o190 (by omega)
            refine mv_aload_n d_Reader_endText_88 rfl rfl ?_
            obtain ⟨_, b222, -⟩ := I185.1 _ _ t193
            refine mv_callV (kc' := 3) (ks' := 406) (As := []) (st9 := [.ref o0]) d_Reader_endText_89 lV_Reader_128 b222 rfl (tc_Reader_stepsTaken (d := (d + 17)) (x9 := x9) (o0 := o0) t193 I185.start) rfl (Nat.le_of_ble_eq_true rfl) (Nat.le_of_ble_eq_true rfl) (Nat.le_of_ble_eq_true rfl) (hst := rfl) (fun b216r M217 n218 b216 => ?_)
            obtain ⟨T219, J220, a223, rfl, t_a223⟩ := b216
            have I221 := I185.call J220 (tm_sub (by decide)) (Or.inl rfl)
            have t224 := J220.up t193
            have t225 := J220.up t194
            have q226 := J220.keep (I185.up h_o0) (by decide) q204
            have q227 := J220.keep (I185.up h_o0) (by decide) q205
            have q228 := J220.keep (I185.up h_o0) (by decide) q206
            have q229 := J220.keep (I185.up h_o0) (by decide) q207
            have q230 := J220.keep (I185.up h_o0) (by decide) q208
            have q231 := J220.keep (I185.up h_o0) (by decide) q209
            have q232 := J220.keep (I185.up h_o0) (by decide) q210
            have q233 := J220.keep t193 (by decide) q215
            refine mv_astore (lv' := [(5, .ref a223), (3, .long v74), (2, .int (v38 - v37)), (0, .ref o0), (1, .ref o1)]) d_Reader_endText_92 (by decide) rfl ?_
            refine mv_aload_n d_Reader_endText_94 rfl rfl ?_
            refine mv_iconst (v := 0) d_Reader_endText_95 (by decide) ?_
            refine tr_putK tm_okF I221 t224 (k := 18) rfl ⟨_, rfl⟩ (Or.inl (by decide)) d_Reader_endText_96 p_Reader_118_9 rfl rfl (fun M234 I235 q236 K237 => ?_)
            refine mv_aload_n d_Reader_endText_99 rfl rfl ?_
            refine mv_bipush (v := 28) d_Reader_endText_100 (by decide) ?_
            obtain ⟨_, b244, -⟩ := I235.1 _ _ t224
            refine mv_callV (kc' := 3) (ks' := 406) (As := [.int 28]) (st9 := [.int 28, .ref o0]) d_Reader_endText_102 lV_Reader_121 b244 rfl (tc_Reader_word_x (d := (d + 18)) (x9 := x9) (o0 := o0) (x1 := 28) t224 (hK I235) ⟨_, _, _, _, _, _, _, (K237 _ 9 1 _ rfl q226), (K237 _ 9 2 _ rfl q227), (K237 _ 9 9 _ rfl q228), (K237 _ 9 10 _ rfl q229), (K237 _ 9 11 _ rfl q230), (K237 _ 9 12 _ rfl q231), (K237 _ 9 13 _ rfl q232), h211, Im.o h212, Im.o h213⟩ (by omega) (by first | omega | decide) I235.start) rfl (Nat.le_of_ble_eq_true rfl) (Nat.le_of_ble_eq_true rfl) (Nat.le_of_ble_eq_true rfl) (hst := rfl) (fun b238r M239 n240 b238 => ?_)
            obtain ⟨T241, J242, v245, rfl, b246, b247, f248, f249⟩ := b238
            have I243 := I235.call J242 (tm_sub (by decide)) (Or.inl rfl)
            have t250 := J242.up t_a223
            have t251 := J242.up t224
            have t252 := J242.up t225
            have q253 := J242.keep t224 (by decide) (K237 _ 9 16 _ rfl q233)
            have q254 := J242.keep t224 (by decide) q236
            rw [show (28 : Int32).toInt = 28 from by decide] at f248 f249
            obtain ⟨s255, e256⟩ : ∃ s9 : p_S, p_wd pb pn 28 s195 = s9 := ⟨_, rfl⟩
            rw [e256] at f248 f249
            obtain ⟨v257, v258, v259, v260, v261, v262, v263, q264, q265, q266, q267, q268, q269, q270, h271, h272, h273⟩ := f248
            replace h272 := Im.i h272
            replace h273 := Im.i h273
            have := mz_hi v245
            refine mv_if_eqZ (tgt := 115) (a := v245.toInt) d_Reader_endText_105 (by decide) rfl (fun b274 => ?_) (fun b274 => ?_)
            · refine mv_null d_Reader_endText_115 ?_
              exact mv_aret (r := none) d_Reader_endText_116 rfl (by first | exact Or.inl ⟨_, rfl⟩ | exact Or.inr ⟨_, rfl⟩) ⟨_, I243, Or.inl ⟨rfl, (by have := (Im.o h49) (by omega); have := yC.d s31.2.2; have := yC.kn s31.2.2; have hb : s255.1 ≠ 0 := (by omega); have z1 : ∀ c, p_sg pb pn c s255 = s255 := (fun c => p_sg_Z s255 hb); have z2 : ∀ c, p_wd pb pn c s255 = s255 := (fun c => p_wd_Z s255 hb); have z3 : ∀ op, p_sum pb pn pa op s255 = s255 := (fun op => p_sum_Z s255 hb); have z4 : ∀ r oc, p_con pb pn pa r oc s255 = s255 := (fun r oc => p_con_Z s255 hb); have z5 : p_prt pb pn s255 = s255 := p_prt_Z s255 hb; have eT : p_en1 pb pn pa pN9 (p_nx ps) = s255 := (by unfold p_en1; unfold p_prt; (try simp only [e32, e122, e161, e196, e256, z1, z2, z3, z4, z5]); ((repeat' (first | (with_reducible rfl) | split)) <;> (first | ((try simp only [e32, e122, e161, e196, e256, z1, z2, z3, z4, z5]); done) | (exfalso; omega)))); rw [eT]; exact ⟨⟨_, _, _, _, _, _, _, q264, q265, q266, q267, q268, q269, q270, h271, Im.o h272, Im.o h273⟩, by omega⟩)⟩⟩
            · refine mv_aload_n d_Reader_endText_108 rfl rfl ?_
              obtain ⟨_, b281, -⟩ := I243.1 _ _ t251
              refine mv_callV (kc' := 3) (ks' := 406) (As := []) (st9 := [.ref o0]) d_Reader_endText_109 lV_Reader_124 b281 rfl (tc_Reader_condition_q4_x (d := d) (x9 := x9) (o0 := o0) t251 (p := p) q253 (by omega) (by first | omega | decide) (hK I243) ⟨_, _, _, _, _, _, _, q264, q265, q266, q267, q268, q269, q270, h271, Im.o h272, Im.o h273⟩ (by omega) I243.start) rfl (Nat.le_of_ble_eq_true rfl) (Nat.le_of_ble_eq_true rfl) (Nat.le_of_ble_eq_true rfl) (hst := rfl) (fun b275r M276 n277 b275 => ?_)
              obtain ⟨T278, J279, v282, rfl, b283, b284, o285, f286, f287⟩ := b275
              have I280 := I243.call J279 (tm_sub (by decide)) (Or.inl rfl)
              have t288 := J279.up t250
              have t289 := J279.up t251
              have t290 := J279.up t252
              obtain ⟨s291, e292⟩ : ∃ s9 : p_S, p_con pb pn pa 4 (p_oc pb pn pa 4) s255 = s9 := ⟨_, rfl⟩
              rw [e292] at f286 f287
              obtain ⟨v293, v294, v295, v296, v297, v298, v299, q300, q301, q302, q303, q304, q305, q306, h307, h308, h309⟩ := f286
              replace h308 := Im.i h308
              replace h309 := Im.i h309
              have := mz_hi v282
              refine mv_if_neZ (tgt := 117) (a := v282.toInt) d_Reader_endText_112 (by decide) rfl (fun b310 => ?_) (fun b310 => ?_)
              · have q311 := o285 (by omega)
                refine mv_aload_n d_Reader_endText_117 rfl rfl ?_
                refine mv_bipush (v := 29) d_Reader_endText_118 (by decide) ?_
                obtain ⟨_, b312, -⟩ := I280.1 _ _ t289
                refine mv_callV (kc1 := 0) (ks1 := 0) (kc' := 3) (ks' := 406) (As := [.int 29]) (st9 := [.int 29, .ref o0]) d_Reader_endText_120 lV_Reader_52 b312 rfl (mj_enter (by decide) (Nat.le_of_ble_eq_true rfl) ?_) rfl (Nat.le_of_ble_eq_true rfl) (Nat.le_of_ble_eq_true rfl) (Nat.le_of_ble_eq_true rfl) (hst := rfl) (fun _ _ _ h => h)
                refine mv_aload_n d_Reader_isWord_0 rfl rfl ?_
                refine tr_getK (k := 10) q303 d_Reader_isWord_1 f_Reader_41_9 ?_
                refine mv_iconst (v := 1) d_Reader_isWord_4 (by decide) ?_
                have := mz_hi v296
                refine mv_icmp_neZ (tgt := 20) (a := v296.toInt) (b := 1) d_Reader_isWord_5 (by decide) rfl (by decide) (fun b313 => ?_) (fun b313 => ?_)
                · refine mv_iconst (v := 0) d_Reader_isWord_20 (by decide) ?_
                  refine mv_iret d_Reader_isWord_21 rfl (by decide) ?_
                  refine mv_istore (lv' := [(6, .int 0), (5, .ref a223), (3, .long v74), (2, .int (v38 - v37)), (0, .ref o0), (1, .ref o1)]) d_Reader_endText_123 (by decide) rfl ?_
                  refine mv_iload d_Reader_endText_125 rfl ?_
                  refine mv_if_eq_t (tgt := 134) d_Reader_endText_127 (by decide) (by decide) ?_
                  refine tr_new (kc' := 2) (ks' := 401) tm_okF I280 d_Reader_endText_134 n_Reader_189 (Nat.le_of_ble_eq_true rfl) (Nat.le_of_ble_eq_true rfl) (fun T314 M315 I316 t_x317 m318 h319 u320 K321 => ?_)
                  have q322 := tm_at.eq (K321 _ _ (I280.up h_o0)) q300
                  have t323 := u320 _ _ (I280.up h_o0)
                  have q324 := tm_at.eq (K321 _ _ (I280.up h_o0)) q301
                  have q325 := tm_at.eq (K321 _ _ (I280.up h_o0)) q302
                  have q326 := tm_at.eq (K321 _ _ (I280.up h_o0)) q303
                  have q327 := tm_at.eq (K321 _ _ (I280.up h_o0)) q304
                  have q328 := tm_at.eq (K321 _ _ (I280.up h_o0)) q305
                  have q329 := tm_at.eq (K321 _ _ (I280.up h_o0)) q306
                  have q330 := tm_at.eq (K321 _ _ t289) q311
                  have t331 := u320 _ _ t288
                  have t332 := u320 _ _ t290
                  refine mv_dup d_Reader_endText_137 rfl ?_
                  refine mv_lload_n d_Reader_endText_138 rfl rfl ?_
                  refine mv_iload_n d_Reader_endText_139 rfl rfl ?_
                  refine mv_aload d_Reader_endText_140 rfl ?_
                  refine mv_aload_n d_Reader_endText_142 rfl rfl ?_
                  obtain ⟨_, b339, -⟩ := I316.1 _ _ t323
                  refine mv_callV (kc' := 0) (ks' := 0) (As := []) (st9 := [.ref o0, .ref a223, .int (v38 - v37), .long v74, .ref n277, .ref n277]) d_Reader_endText_143 lV_Reader_128 b339 rfl (tc_Reader_stepsTaken (d := (d + 17)) (x9 := (n277 + 1)) (o0 := o0) t323 I316.start) rfl (Nat.le_of_ble_eq_true rfl) (Nat.le_of_ble_eq_true rfl) (Nat.le_of_ble_eq_true rfl) (hst := rfl) (fun b333r M334 n335 b333 => ?_)
                  obtain ⟨T336, J337, a340, rfl, t_a340⟩ := b333
                  have I338 := I316.call J337 (tm_sub (by decide)) (Or.inr I316.2.2.2.1)
                  have m341 := (J337.keepX t_x317 (tm_ne I316 t_x317)).trans m318
                  have t342 := J337.up t_x317
                  have t343 := J337.up t331
                  have t344 := J337.up t323
                  have t345 := J337.up t332
                  have q346 := J337.keep t323 (by decide) q322
                  have q347 := J337.keep t323 (by decide) q324
                  have q348 := J337.keep t323 (by decide) q325
                  have q349 := J337.keep t323 (by decide) q326
                  have q350 := J337.keep t323 (by decide) q327
                  have q351 := J337.keep t323 (by decide) q328
                  have q352 := J337.keep t323 (by decide) q329
                  have q353 := J337.keep t323 (by decide) q330
                  refine mv_iload d_Reader_endText_146 rfl ?_
                  refine mv_callI (kc' := 0) (ks' := 0) (As := [.long v74, .int (v38 - v37), .ref a223, .ref a340, .int 0]) (st9 := [.int 0, .ref a340, .ref a223, .int (v38 - v37), .long v74, .ref n277, .ref n277]) d_Reader_endText_148 lI_Reader_191 (tc_EndText_init (d := (d + 18)) (o0 := n277) (x1 := v74) (x2 := (v38 - v37)) (o3 := a223) (o4 := a340) (x5 := 0) t342 t343 t_a340 (by decide) m341 I338.start) rfl (Nat.le_of_ble_eq_true rfl) (Nat.le_of_ble_eq_true rfl) (Nat.le_of_ble_eq_true rfl) (hst := rfl) (fun b354r M355 n356 b354 => ?_)
                  obtain ⟨T357, J358, rfl, m360⟩ := b354
                  have I359 := I338.call J358 (tm_sub (by decide)) (Or.inr h319)
                  have t361 := J358.up t342
                  have t362 := J358.up t343
                  have t363 := J358.up t344
                  have t364 := J358.up t345
                  have t365 := J358.up t_a340
                  have q366 := J358.keep t344 (by decide) q346
                  have q367 := J358.keep t344 (by decide) q347
                  have q368 := J358.keep t344 (by decide) q348
                  have q369 := J358.keep t344 (by decide) q349
                  have q370 := J358.keep t344 (by decide) q350
                  have q371 := J358.keep t344 (by decide) q351
                  have q372 := J358.keep t344 (by decide) q352
                  have q373 := J358.keep t344 (by decide) q353
                  obtain ⟨T374, I375, t_x376, u377⟩ := I359.sealO tm_okF t361 h319 m360 (fun _ z9 => (tm_fs_cons ⟨_, rfl⟩ (tm_fs_cons ⟨_, rfl⟩ (tm_fs_cons ⟨_, rfl, z9 _ _ t362 (Nat.le_of_ble_eq_true rfl)⟩ (tm_fs_cons ⟨_, rfl, z9 _ _ t365 (Nat.le_of_ble_eq_true rfl)⟩ (tm_fs_cons ⟨_, rfl⟩ tm_fs_nil))))))
                  have t378 := u377 _ _ t363 (tm_dif t363 t361 rfl)
                  have q379 : tm_at M355 n277 4 0 (.long v74) := ⟨_, m360, rfl⟩
                  have q380 : tm_at M355 n277 4 1 (.int (v38 - v37)) := ⟨_, m360, rfl⟩
                  have q381 : tm_at M355 n277 4 2 (.ref a223) := ⟨_, m360, rfl⟩
                  have t382 := u377 _ _ t362 (tm_dif t362 t361 rfl)
                  have q383 : tm_at M355 n277 4 3 (.ref a340) := ⟨_, m360, rfl⟩
                  have t384 := u377 _ _ t365 (tm_dif t365 t361 rfl)
                  have q385 : tm_at M355 n277 4 4 (.int 0) := ⟨_, m360, rfl⟩
                  have t386 := u377 _ _ t364 (tm_dif t364 t361 rfl)
                  exact mv_aret (r := (some n277)) d_Reader_endText_151 rfl (by first | exact Or.inl ⟨_, rfl⟩ | exact Or.inr ⟨_, rfl⟩) ⟨_, I375, Or.inr ⟨_, rfl, t_x376, q373, (by have := (Im.o h49) (by omega); have := yC.d s31.2.2; have := yC.kn s31.2.2; have := (Im.o h309) (by omega); have := yC.d s291.2.2; have := yC.kn s291.2.2; have eT : p_en1 pb pn pa pN9 (p_nx ps) = s291 := (by unfold p_en1; unfold p_prt; (try simp only [e32, e122, e161, e196, e256, e292]); ((repeat' (first | (with_reducible rfl) | split)) <;> (first | ((try simp only [e32, e122, e161, e196, e256, e292]); done) | (exfalso; omega)))); rw [eT]; exact ⟨⟨_, _, _, _, _, _, _, q366, q367, q368, q369, q370, q371, q372, h307, Im.o h308, Im.o h309⟩, by omega, (by rw [hz1]; omega), _, q379, (by rw [hz1]; exact f75)⟩)⟩⟩
                · refine mv_aload_n d_Reader_isWord_8 rfl rfl ?_
                  refine tr_getK (k := 13) q306 d_Reader_isWord_9 f_Reader_241_9 ?_
                  refine mv_iload_n d_Reader_isWord_12 rfl rfl ?_
                  have := mz_hi v299
                  refine mv_icmp_neZ (tgt := 20) (a := v299.toInt) (b := 29) d_Reader_isWord_13 (by decide) rfl (by decide) (fun b387 => ?_) (fun b387 => ?_)
                  · refine mv_iconst (v := 0) d_Reader_isWord_20 (by decide) ?_
                    refine mv_iret d_Reader_isWord_21 rfl (by decide) ?_
                    refine mv_istore (lv' := [(6, .int 0), (5, .ref a223), (3, .long v74), (2, .int (v38 - v37)), (0, .ref o0), (1, .ref o1)]) d_Reader_endText_123 (by decide) rfl ?_
                    refine mv_iload d_Reader_endText_125 rfl ?_
                    refine mv_if_eq_t (tgt := 134) d_Reader_endText_127 (by decide) (by decide) ?_
                    refine tr_new (kc' := 2) (ks' := 401) tm_okF I280 d_Reader_endText_134 n_Reader_189 (Nat.le_of_ble_eq_true rfl) (Nat.le_of_ble_eq_true rfl) (fun T388 M389 I390 t_x391 m392 h393 u394 K395 => ?_)
                    have q396 := tm_at.eq (K395 _ _ (I280.up h_o0)) q300
                    have t397 := u394 _ _ (I280.up h_o0)
                    have q398 := tm_at.eq (K395 _ _ (I280.up h_o0)) q301
                    have q399 := tm_at.eq (K395 _ _ (I280.up h_o0)) q302
                    have q400 := tm_at.eq (K395 _ _ (I280.up h_o0)) q303
                    have q401 := tm_at.eq (K395 _ _ (I280.up h_o0)) q304
                    have q402 := tm_at.eq (K395 _ _ (I280.up h_o0)) q305
                    have q403 := tm_at.eq (K395 _ _ (I280.up h_o0)) q306
                    have q404 := tm_at.eq (K395 _ _ t289) q311
                    have t405 := u394 _ _ t288
                    have t406 := u394 _ _ t290
                    refine mv_dup d_Reader_endText_137 rfl ?_
                    refine mv_lload_n d_Reader_endText_138 rfl rfl ?_
                    refine mv_iload_n d_Reader_endText_139 rfl rfl ?_
                    refine mv_aload d_Reader_endText_140 rfl ?_
                    refine mv_aload_n d_Reader_endText_142 rfl rfl ?_
                    obtain ⟨_, b413, -⟩ := I390.1 _ _ t397
                    refine mv_callV (kc' := 0) (ks' := 0) (As := []) (st9 := [.ref o0, .ref a223, .int (v38 - v37), .long v74, .ref n277, .ref n277]) d_Reader_endText_143 lV_Reader_128 b413 rfl (tc_Reader_stepsTaken (d := (d + 17)) (x9 := (n277 + 1)) (o0 := o0) t397 I390.start) rfl (Nat.le_of_ble_eq_true rfl) (Nat.le_of_ble_eq_true rfl) (Nat.le_of_ble_eq_true rfl) (hst := rfl) (fun b407r M408 n409 b407 => ?_)
                    obtain ⟨T410, J411, a414, rfl, t_a414⟩ := b407
                    have I412 := I390.call J411 (tm_sub (by decide)) (Or.inr I390.2.2.2.1)
                    have m415 := (J411.keepX t_x391 (tm_ne I390 t_x391)).trans m392
                    have t416 := J411.up t_x391
                    have t417 := J411.up t405
                    have t418 := J411.up t397
                    have t419 := J411.up t406
                    have q420 := J411.keep t397 (by decide) q396
                    have q421 := J411.keep t397 (by decide) q398
                    have q422 := J411.keep t397 (by decide) q399
                    have q423 := J411.keep t397 (by decide) q400
                    have q424 := J411.keep t397 (by decide) q401
                    have q425 := J411.keep t397 (by decide) q402
                    have q426 := J411.keep t397 (by decide) q403
                    have q427 := J411.keep t397 (by decide) q404
                    refine mv_iload d_Reader_endText_146 rfl ?_
                    refine mv_callI (kc' := 0) (ks' := 0) (As := [.long v74, .int (v38 - v37), .ref a223, .ref a414, .int 0]) (st9 := [.int 0, .ref a414, .ref a223, .int (v38 - v37), .long v74, .ref n277, .ref n277]) d_Reader_endText_148 lI_Reader_191 (tc_EndText_init (d := (d + 18)) (o0 := n277) (x1 := v74) (x2 := (v38 - v37)) (o3 := a223) (o4 := a414) (x5 := 0) t416 t417 t_a414 (by decide) m415 I412.start) rfl (Nat.le_of_ble_eq_true rfl) (Nat.le_of_ble_eq_true rfl) (Nat.le_of_ble_eq_true rfl) (hst := rfl) (fun b428r M429 n430 b428 => ?_)
                    obtain ⟨T431, J432, rfl, m434⟩ := b428
                    have I433 := I412.call J432 (tm_sub (by decide)) (Or.inr h393)
                    have t435 := J432.up t416
                    have t436 := J432.up t417
                    have t437 := J432.up t418
                    have t438 := J432.up t419
                    have t439 := J432.up t_a414
                    have q440 := J432.keep t418 (by decide) q420
                    have q441 := J432.keep t418 (by decide) q421
                    have q442 := J432.keep t418 (by decide) q422
                    have q443 := J432.keep t418 (by decide) q423
                    have q444 := J432.keep t418 (by decide) q424
                    have q445 := J432.keep t418 (by decide) q425
                    have q446 := J432.keep t418 (by decide) q426
                    have q447 := J432.keep t418 (by decide) q427
                    obtain ⟨T448, I449, t_x450, u451⟩ := I433.sealO tm_okF t435 h393 m434 (fun _ z9 => (tm_fs_cons ⟨_, rfl⟩ (tm_fs_cons ⟨_, rfl⟩ (tm_fs_cons ⟨_, rfl, z9 _ _ t436 (Nat.le_of_ble_eq_true rfl)⟩ (tm_fs_cons ⟨_, rfl, z9 _ _ t439 (Nat.le_of_ble_eq_true rfl)⟩ (tm_fs_cons ⟨_, rfl⟩ tm_fs_nil))))))
                    have t452 := u451 _ _ t437 (tm_dif t437 t435 rfl)
                    have q453 : tm_at M429 n277 4 0 (.long v74) := ⟨_, m434, rfl⟩
                    have q454 : tm_at M429 n277 4 1 (.int (v38 - v37)) := ⟨_, m434, rfl⟩
                    have q455 : tm_at M429 n277 4 2 (.ref a223) := ⟨_, m434, rfl⟩
                    have t456 := u451 _ _ t436 (tm_dif t436 t435 rfl)
                    have q457 : tm_at M429 n277 4 3 (.ref a414) := ⟨_, m434, rfl⟩
                    have t458 := u451 _ _ t439 (tm_dif t439 t435 rfl)
                    have q459 : tm_at M429 n277 4 4 (.int 0) := ⟨_, m434, rfl⟩
                    have t460 := u451 _ _ t438 (tm_dif t438 t435 rfl)
                    exact mv_aret (r := (some n277)) d_Reader_endText_151 rfl (by first | exact Or.inl ⟨_, rfl⟩ | exact Or.inr ⟨_, rfl⟩) ⟨_, I449, Or.inr ⟨_, rfl, t_x450, q447, (by have := (Im.o h49) (by omega); have := yC.d s31.2.2; have := yC.kn s31.2.2; have := (Im.o h309) (by omega); have := yC.d s291.2.2; have := yC.kn s291.2.2; have eT : p_en1 pb pn pa pN9 (p_nx ps) = s291 := (by unfold p_en1; unfold p_prt; (try simp only [e32, e122, e161, e196, e256, e292]); ((repeat' (first | (with_reducible rfl) | split)) <;> (first | ((try simp only [e32, e122, e161, e196, e256, e292]); done) | (exfalso; omega)))); rw [eT]; exact ⟨⟨_, _, _, _, _, _, _, q440, q441, q442, q443, q444, q445, q446, h307, Im.o h308, Im.o h309⟩, by omega, (by rw [hz1]; omega), _, q453, (by rw [hz1]; exact f75)⟩)⟩⟩
                  · refine mv_iconst (v := 1) d_Reader_isWord_16 (by decide) ?_
                    refine mv_goto (tgt := 21) d_Reader_isWord_17 (by decide) ?_
                    refine mv_iret d_Reader_isWord_21 rfl (by decide) ?_
                    refine mv_istore (lv' := [(6, .int 1), (5, .ref a223), (3, .long v74), (2, .int (v38 - v37)), (0, .ref o0), (1, .ref o1)]) d_Reader_endText_123 (by decide) rfl ?_
                    refine mv_iload d_Reader_endText_125 rfl ?_
                    refine mv_if_eq_f (tgt := 134) d_Reader_endText_127 (by decide) (by decide) ?_
                    refine mv_aload_n d_Reader_endText_130 rfl rfl ?_
                    obtain ⟨_, b467, -⟩ := I280.1 _ _ t289
                    refine mv_callV (kc' := 3) (ks' := 406) (As := []) (st9 := [.ref o0]) d_Reader_endText_131 lV_Reader_82 b467 rfl (tc_Reader_advance_x (d := (d + 19)) (x9 := x9) (o0 := o0) t289 (hK I280) (qS.a (show qS M276 o0 pb pn s291 from ⟨_, _, _, _, _, _, _, q300, q301, q302, q303, q304, q305, q306, h307, Im.o h308, Im.o h309⟩)) (by have := (Im.o h49) (by omega); have := yC.d s31.2.2; have := yC.kn s31.2.2; have := (Im.o h309) (by omega); have := yC.d s291.2.2; have := yC.kn s291.2.2; show s291.2.2 + 1 ≤ 401; omega) I280.start) rfl (Nat.le_of_ble_eq_true rfl) (Nat.le_of_ble_eq_true rfl) (Nat.le_of_ble_eq_true rfl) (hst := rfl) (fun b461r M462 n463 b461 => ?_)
                    obtain ⟨T464, J465, rfl, f468⟩ := b461
                    have I466 := I280.call J465 (tm_sub (by decide)) (Or.inl rfl)
                    have t469 := J465.up t288
                    have t470 := J465.up t289
                    have t471 := J465.up t290
                    have q472 := J465.keep (I280.up h_o0) (by decide) q300
                    have q473 := J465.keep (I280.up h_o0) (by decide) q301
                    have q474 := J465.keep t289 (by decide) q311
                    obtain ⟨s475, e476⟩ : ∃ s9 : p_S, p_nx s291 = s9 := ⟨_, rfl⟩
                    rw [e476] at f468
                    have : s475.1 = 0 := by rw [← e476]; show s291.1 = 0; omega
                    obtain ⟨v477, v478, v479, v480, v481, v482, v483, q484, q485, q486, q487, q488, q489, q490, h491, h492, h493⟩ := f468
                    replace h492 := Im.i h492
                    replace h493 := Im.i h493
                    refine tr_new (kc' := 2) (ks' := 401) tm_okF I466 d_Reader_endText_134 n_Reader_189 (Nat.le_of_ble_eq_true rfl) (Nat.le_of_ble_eq_true rfl) (fun T494 M495 I496 t_x497 m498 h499 u500 K501 => ?_)
                    have q502 := tm_at.eq (K501 _ _ (I466.up h_o0)) q484
                    have t503 := u500 _ _ (I466.up h_o0)
                    have q504 := tm_at.eq (K501 _ _ (I466.up h_o0)) q485
                    have q505 := tm_at.eq (K501 _ _ t470) q474
                    have q506 := tm_at.eq (K501 _ _ (I466.up h_o0)) q486
                    have q507 := tm_at.eq (K501 _ _ (I466.up h_o0)) q487
                    have q508 := tm_at.eq (K501 _ _ (I466.up h_o0)) q488
                    have q509 := tm_at.eq (K501 _ _ (I466.up h_o0)) q489
                    have q510 := tm_at.eq (K501 _ _ (I466.up h_o0)) q490
                    have t511 := u500 _ _ t469
                    have t512 := u500 _ _ t471
                    refine mv_dup d_Reader_endText_137 rfl ?_
                    refine mv_lload_n d_Reader_endText_138 rfl rfl ?_
                    refine mv_iload_n d_Reader_endText_139 rfl rfl ?_
                    refine mv_aload d_Reader_endText_140 rfl ?_
                    refine mv_aload_n d_Reader_endText_142 rfl rfl ?_
                    obtain ⟨_, b519, -⟩ := I496.1 _ _ t503
                    refine mv_callV (kc' := 0) (ks' := 0) (As := []) (st9 := [.ref o0, .ref a223, .int (v38 - v37), .long v74, .ref n463, .ref n463]) d_Reader_endText_143 lV_Reader_128 b519 rfl (tc_Reader_stepsTaken (d := (d + 17)) (x9 := (n463 + 1)) (o0 := o0) t503 I496.start) rfl (Nat.le_of_ble_eq_true rfl) (Nat.le_of_ble_eq_true rfl) (Nat.le_of_ble_eq_true rfl) (hst := rfl) (fun b513r M514 n515 b513 => ?_)
                    obtain ⟨T516, J517, a520, rfl, t_a520⟩ := b513
                    have I518 := I496.call J517 (tm_sub (by decide)) (Or.inr I496.2.2.2.1)
                    have m521 := (J517.keepX t_x497 (tm_ne I496 t_x497)).trans m498
                    have t522 := J517.up t_x497
                    have t523 := J517.up t511
                    have t524 := J517.up t503
                    have t525 := J517.up t512
                    have q526 := J517.keep t503 (by decide) q502
                    have q527 := J517.keep t503 (by decide) q504
                    have q528 := J517.keep t503 (by decide) q505
                    have q529 := J517.keep t503 (by decide) q506
                    have q530 := J517.keep t503 (by decide) q507
                    have q531 := J517.keep t503 (by decide) q508
                    have q532 := J517.keep t503 (by decide) q509
                    have q533 := J517.keep t503 (by decide) q510
                    refine mv_iload d_Reader_endText_146 rfl ?_
                    refine mv_callI (kc' := 0) (ks' := 0) (As := [.long v74, .int (v38 - v37), .ref a223, .ref a520, .int 1]) (st9 := [.int 1, .ref a520, .ref a223, .int (v38 - v37), .long v74, .ref n463, .ref n463]) d_Reader_endText_148 lI_Reader_191 (tc_EndText_init (d := (d + 18)) (o0 := n463) (x1 := v74) (x2 := (v38 - v37)) (o3 := a223) (o4 := a520) (x5 := 1) t522 t523 t_a520 (by decide) m521 I518.start) rfl (Nat.le_of_ble_eq_true rfl) (Nat.le_of_ble_eq_true rfl) (Nat.le_of_ble_eq_true rfl) (hst := rfl) (fun b534r M535 n536 b534 => ?_)
                    obtain ⟨T537, J538, rfl, m540⟩ := b534
                    have I539 := I518.call J538 (tm_sub (by decide)) (Or.inr h499)
                    have t541 := J538.up t522
                    have t542 := J538.up t523
                    have t543 := J538.up t524
                    have t544 := J538.up t525
                    have t545 := J538.up t_a520
                    have q546 := J538.keep t524 (by decide) q526
                    have q547 := J538.keep t524 (by decide) q527
                    have q548 := J538.keep t524 (by decide) q528
                    have q549 := J538.keep t524 (by decide) q529
                    have q550 := J538.keep t524 (by decide) q530
                    have q551 := J538.keep t524 (by decide) q531
                    have q552 := J538.keep t524 (by decide) q532
                    have q553 := J538.keep t524 (by decide) q533
                    obtain ⟨T554, I555, t_x556, u557⟩ := I539.sealO tm_okF t541 h499 m540 (fun _ z9 => (tm_fs_cons ⟨_, rfl⟩ (tm_fs_cons ⟨_, rfl⟩ (tm_fs_cons ⟨_, rfl, z9 _ _ t542 (Nat.le_of_ble_eq_true rfl)⟩ (tm_fs_cons ⟨_, rfl, z9 _ _ t545 (Nat.le_of_ble_eq_true rfl)⟩ (tm_fs_cons ⟨_, rfl⟩ tm_fs_nil))))))
                    have t558 := u557 _ _ t543 (tm_dif t543 t541 rfl)
                    have q559 : tm_at M535 n463 4 0 (.long v74) := ⟨_, m540, rfl⟩
                    have q560 : tm_at M535 n463 4 1 (.int (v38 - v37)) := ⟨_, m540, rfl⟩
                    have q561 : tm_at M535 n463 4 2 (.ref a223) := ⟨_, m540, rfl⟩
                    have t562 := u557 _ _ t542 (tm_dif t542 t541 rfl)
                    have q563 : tm_at M535 n463 4 3 (.ref a520) := ⟨_, m540, rfl⟩
                    have t564 := u557 _ _ t545 (tm_dif t545 t541 rfl)
                    have q565 : tm_at M535 n463 4 4 (.int 1) := ⟨_, m540, rfl⟩
                    have t566 := u557 _ _ t544 (tm_dif t544 t541 rfl)
                    exact mv_aret (r := (some n463)) d_Reader_endText_151 rfl (by first | exact Or.inl ⟨_, rfl⟩ | exact Or.inr ⟨_, rfl⟩) ⟨_, I555, Or.inr ⟨_, rfl, t_x556, q548, (by have := (Im.o h49) (by omega); have := yC.d s31.2.2; have := yC.kn s31.2.2; have := (Im.o h309) (by omega); have := yC.d s291.2.2; have := yC.kn s291.2.2; have eT : p_en1 pb pn pa pN9 (p_nx ps) = s475 := (by unfold p_en1; unfold p_prt; (try simp only [e32, e122, e161, e196, e256, e292, e476]); ((repeat' (first | (with_reducible rfl) | split)) <;> (first | ((try simp only [e32, e122, e161, e196, e256, e292, e476]); done) | (exfalso; omega)))); rw [eT]; exact ⟨⟨_, _, _, _, _, _, _, q546, q547, q549, q550, q551, q552, q553, h491, Im.o h492, Im.o h493⟩, by omega, (by rw [hz1]; omega), _, q559, (by rw [hz1]; exact f75)⟩)⟩⟩
              · refine mv_null d_Reader_endText_115 ?_
                exact mv_aret (r := none) d_Reader_endText_116 rfl (by first | exact Or.inl ⟨_, rfl⟩ | exact Or.inr ⟨_, rfl⟩) ⟨_, I280, Or.inl ⟨rfl, (by have := (Im.o h49) (by omega); have := yC.d s31.2.2; have := yC.kn s31.2.2; have hb : s291.1 ≠ 0 := (by omega); have z1 : ∀ c, p_sg pb pn c s291 = s291 := (fun c => p_sg_Z s291 hb); have z2 : ∀ c, p_wd pb pn c s291 = s291 := (fun c => p_wd_Z s291 hb); have z3 : ∀ op, p_sum pb pn pa op s291 = s291 := (fun op => p_sum_Z s291 hb); have z4 : ∀ r oc, p_con pb pn pa r oc s291 = s291 := (fun r oc => p_con_Z s291 hb); have z5 : p_prt pb pn s291 = s291 := p_prt_Z s291 hb; have eT : p_en1 pb pn pa pN9 (p_nx ps) = s291 := (by unfold p_en1; unfold p_prt; (try simp only [e32, e122, e161, e196, e256, e292, z1, z2, z3, z4, z5]); ((repeat' (first | (with_reducible rfl) | split)) <;> (first | ((try simp only [e32, e122, e161, e196, e256, e292, z1, z2, z3, z4, z5]); done) | (exfalso; omega)))); rw [eT]; exact ⟨⟨_, _, _, _, _, _, _, q300, q301, q302, q303, q304, q305, q306, h307, Im.o h308, Im.o h309⟩, by omega⟩)⟩⟩
          · refine mv_null d_Reader_endText_86 ?_
            exact mv_aret (r := none) d_Reader_endText_87 rfl (by first | exact Or.inl ⟨_, rfl⟩ | exact Or.inr ⟨_, rfl⟩) ⟨_, I185, Or.inl ⟨rfl, (by have := (Im.o h49) (by omega); have := yC.d s31.2.2; have := yC.kn s31.2.2; have hb : s195.1 ≠ 0 := (by omega); have z1 : ∀ c, p_sg pb pn c s195 = s195 := (fun c => p_sg_Z s195 hb); have z2 : ∀ c, p_wd pb pn c s195 = s195 := (fun c => p_wd_Z s195 hb); have z3 : ∀ op, p_sum pb pn pa op s195 = s195 := (fun op => p_sum_Z s195 hb); have z4 : ∀ r oc, p_con pb pn pa r oc s195 = s195 := (fun r oc => p_con_Z s195 hb); have z5 : p_prt pb pn s195 = s195 := p_prt_Z s195 hb; have eT : p_en1 pb pn pa pN9 (p_nx ps) = s195 := (by unfold p_en1; unfold p_prt; (try simp only [e32, e122, e161, e196, z1, z2, z3, z4, z5]); ((repeat' (first | (with_reducible rfl) | split)) <;> (first | ((try simp only [e32, e122, e161, e196, z1, z2, z3, z4, z5]); done) | (exfalso; omega)))); rw [eT]; exact ⟨⟨_, _, _, _, _, _, _, q204, q205, q206, q207, q208, q209, q210, h211, Im.o h212, Im.o h213⟩, by omega⟩)⟩⟩
      · refine mv_aload_n d_Reader_endText_53 rfl rfl ?_
        refine mv_iconst (v := 3) d_Reader_endText_54 (by decide) ?_
        obtain ⟨_, b567, -⟩ := I91.1 _ _ t97
        refine mv_callV (kc1 := 0) (ks1 := 0) (kc' := 0) (ks' := 0) (As := [.int 3]) (st9 := [.int 3, .ref o0]) d_Reader_endText_55 lV_Reader_56 b567 rfl (mj_enter (by decide) (Nat.le_of_ble_eq_true rfl) ?_) rfl (Nat.le_of_ble_eq_true rfl) (Nat.le_of_ble_eq_true rfl) (Nat.le_of_ble_eq_true rfl) (hst := rfl) (fun _ _ _ h => h)
        refine mv_aload_n d_Reader_refuse_0 rfl rfl ?_
        refine mv_iload_n d_Reader_refuse_1 rfl rfl ?_
        refine tr_putK tm_okF I91 t97 (k := 1) rfl ⟨_, rfl⟩ (Or.inl (by decide)) d_Reader_refuse_2 p_Reader_70_9 rfl rfl (fun M568 I569 q570 K571 => ?_)
        refine mv_aload_n d_Reader_refuse_5 rfl rfl ?_
        refine mv_aload_n d_Reader_refuse_6 rfl rfl ?_
        refine tr_getK (k := 11) (K571 _ 9 11 _ rfl q104) d_Reader_refuse_7 f_Reader_175_9 ?_
        refine tr_putK tm_okF I569 t97 (k := 2) rfl ⟨_, rfl⟩ (Or.inl (by decide)) d_Reader_refuse_10 p_Reader_11_9 rfl rfl (fun M572 I573 q574 K575 => ?_)
        refine mv_iconst (v := 0) d_Reader_refuse_13 (by decide) ?_
        obtain ⟨s576, e577⟩ : ∃ s9 : p_S, p_fl pb pn 3 s31 = s9 := ⟨_, rfl⟩
        have h578 := q_fl e577 (by omega) (by decide)
        have h579 : (3 : Int32).toInt = s576.1 := (by have e9 : (3 : Int32).toInt = 3 := (by decide); omega)
        have h580 : Im (s576.1 ≠ 0 → v37.toInt = (s576.2.1 : Int)) := Im.i (fun _ => by have := (Im.o h49) (by omega); omega)
        have h581 : Im (s576.1 = 0 → v35.toInt = (s576.2.2 : Int) ∧ v36.toInt = p_ki pb pn s576.2.2 ∧ v37.toInt = (p_st pb pn s576.2.2 : Int) ∧ v38.toInt = (p_sp pb pn s576.2.2 : Int) ∧ v39.toInt = p_va pb pn s576.2.2 ∧ v37.toInt = -1) := Im.i (fun z9 => absurd z9 h578.2.2)
        refine mv_iret d_Reader_refuse_14 rfl (by decide) ?_
        refine mv_pop d_Reader_endText_58 rfl ?_
        refine mv_null d_Reader_endText_59 ?_
        exact mv_aret (r := none) d_Reader_endText_60 rfl (by first | exact Or.inl ⟨_, rfl⟩ | exact Or.inr ⟨_, rfl⟩) ⟨_, I573, Or.inl ⟨rfl, (by have := (Im.o h49) (by omega); have := yC.d s31.2.2; have := yC.kn s31.2.2; have hb : s576.1 ≠ 0 := (by omega); have z1 : ∀ c, p_sg pb pn c s576 = s576 := (fun c => p_sg_Z s576 hb); have z2 : ∀ c, p_wd pb pn c s576 = s576 := (fun c => p_wd_Z s576 hb); have z3 : ∀ op, p_sum pb pn pa op s576 = s576 := (fun op => p_sum_Z s576 hb); have z4 : ∀ r oc, p_con pb pn pa r oc s576 = s576 := (fun r oc => p_con_Z s576 hb); have z5 : p_prt pb pn s576 = s576 := p_prt_Z s576 hb; have eT : p_en1 pb pn pa pN9 (p_nx ps) = s576 := (by unfold p_en1; unfold p_prt; (try simp only [e32, e577, z1, z2, z3, z4, z5]); ((repeat' (first | (with_reducible rfl) | split)) <;> (first | ((try simp only [e32, e577, z1, z2, z3, z4, z5]); done) | (exfalso; omega)))); rw [eT]; exact ⟨⟨_, _, _, _, _, _, _, (K575 _ 9 1 _ rfl q570), q574, (K575 _ 9 9 _ rfl (K571 _ 9 9 _ rfl q102)), (K575 _ 9 10 _ rfl (K571 _ 9 10 _ rfl q103)), (K575 _ 9 11 _ rfl (K571 _ 9 11 _ rfl q104)), (K575 _ 9 12 _ rfl (K571 _ 9 12 _ rfl q105)), (K575 _ 9 13 _ rfl (K571 _ 9 13 _ rfl q106)), h579, Im.o h580, Im.o h581⟩, by omega⟩)⟩⟩
    · refine mv_aload_n d_Reader_endText_28 rfl rfl ?_
      refine mv_iconst (v := 1) d_Reader_endText_29 (by decide) ?_
      obtain ⟨_, b582, -⟩ := I23.1 _ _ t26
      refine mv_callV (kc1 := 0) (ks1 := 0) (kc' := 0) (ks' := 0) (As := [.int 1]) (st9 := [.int 1, .ref o0]) d_Reader_endText_30 lV_Reader_56 b582 rfl (mj_enter (by decide) (Nat.le_of_ble_eq_true rfl) ?_) rfl (Nat.le_of_ble_eq_true rfl) (Nat.le_of_ble_eq_true rfl) (Nat.le_of_ble_eq_true rfl) (hst := rfl) (fun _ _ _ h => h)
      refine mv_aload_n d_Reader_refuse_0 rfl rfl ?_
      refine mv_iload_n d_Reader_refuse_1 rfl rfl ?_
      refine tr_putK tm_okF I23 t26 (k := 1) rfl ⟨_, rfl⟩ (Or.inl (by decide)) d_Reader_refuse_2 p_Reader_70_9 rfl rfl (fun M583 I584 q585 K586 => ?_)
      refine mv_aload_n d_Reader_refuse_5 rfl rfl ?_
      refine mv_aload_n d_Reader_refuse_6 rfl rfl ?_
      refine tr_getK (k := 11) (K586 _ 9 11 _ rfl q44) d_Reader_refuse_7 f_Reader_175_9 ?_
      refine tr_putK tm_okF I584 t26 (k := 2) rfl ⟨_, rfl⟩ (Or.inl (by decide)) d_Reader_refuse_10 p_Reader_11_9 rfl rfl (fun M587 I588 q589 K590 => ?_)
      refine mv_iconst (v := 0) d_Reader_refuse_13 (by decide) ?_
      obtain ⟨s591, e592⟩ : ∃ s9 : p_S, p_fl pb pn 1 s31 = s9 := ⟨_, rfl⟩
      have h593 := q_fl e592 (by omega) (by decide)
      have h594 : (1 : Int32).toInt = s591.1 := (by have e9 : (1 : Int32).toInt = 1 := (by decide); omega)
      have h595 : Im (s591.1 ≠ 0 → v37.toInt = (s591.2.1 : Int)) := Im.i (fun _ => by have := (Im.o h49) (by omega); omega)
      have h596 : Im (s591.1 = 0 → v35.toInt = (s591.2.2 : Int) ∧ v36.toInt = p_ki pb pn s591.2.2 ∧ v37.toInt = (p_st pb pn s591.2.2 : Int) ∧ v38.toInt = (p_sp pb pn s591.2.2 : Int) ∧ v39.toInt = p_va pb pn s591.2.2 ∧ v37.toInt = -1) := Im.i (fun z9 => absurd z9 h593.2.2)
      refine mv_iret d_Reader_refuse_14 rfl (by decide) ?_
      refine mv_pop d_Reader_endText_33 rfl ?_
      refine mv_null d_Reader_endText_34 ?_
      exact mv_aret (r := none) d_Reader_endText_35 rfl (by first | exact Or.inl ⟨_, rfl⟩ | exact Or.inr ⟨_, rfl⟩) ⟨_, I588, Or.inl ⟨rfl, (by have := (Im.o h49) (by omega); have := yC.d s31.2.2; have := yC.kn s31.2.2; have hb : s591.1 ≠ 0 := (by omega); have z1 : ∀ c, p_sg pb pn c s591 = s591 := (fun c => p_sg_Z s591 hb); have z2 : ∀ c, p_wd pb pn c s591 = s591 := (fun c => p_wd_Z s591 hb); have z3 : ∀ op, p_sum pb pn pa op s591 = s591 := (fun op => p_sum_Z s591 hb); have z4 : ∀ r oc, p_con pb pn pa r oc s591 = s591 := (fun r oc => p_con_Z s591 hb); have z5 : p_prt pb pn s591 = s591 := p_prt_Z s591 hb; have eT : p_en1 pb pn pa pN9 (p_nx ps) = s591 := (by unfold p_en1; unfold p_prt; (try simp only [e32, e592, z1, z2, z3, z4, z5]); ((repeat' (first | (with_reducible rfl) | split)) <;> (first | ((try simp only [e32, e592, z1, z2, z3, z4, z5]); done) | (exfalso; omega)))); rw [eT]; exact ⟨⟨_, _, _, _, _, _, _, (K590 _ 9 1 _ rfl q585), q589, (K590 _ 9 9 _ rfl (K586 _ 9 9 _ rfl q42)), (K590 _ 9 10 _ rfl (K586 _ 9 10 _ rfl q43)), (K590 _ 9 11 _ rfl (K586 _ 9 11 _ rfl q44)), (K590 _ 9 12 _ rfl (K586 _ 9 12 _ rfl q45)), (K590 _ 9 13 _ rfl (K586 _ 9 13 _ rfl q46)), h594, Im.o h595, Im.o h596⟩, by omega⟩)⟩⟩
def w_Reader_markClause_x : List Nat := [604, 901, 902, 909, 910, 911, 912, 913, 914]
set_option maxHeartbeats 100000000 in theorem tc_Reader_markClause_x {g : mj_G} {l : Launch} {d : Nat} {T0 : tm_H} {M0 : mj_M} {n0 x9 : Nat} {o0 : Nat} {o1 : Nat} (h_o0 : T0 o0 = some (0, 9, 0)) (h_o1 : T0 o1 = some (0, 6, 0))  {pb : Nat → Int} {pn : Nat} {pa : Int} {ps : p_S} (yC : qC M0 o0 pb pn pa) (yD : qS M0 o0 pb pn ps) (yw : ps.1 = 0) (yz : p_ki pb pn ps.2.2 ≠ 0) (I0 : tm_I tm_FT (tm_in w_Reader_markClause_x) x9 T0 M0 n0 T0 M0 n0) : mj_Met g l kY_Reader_markClause (d + 2) [.ref o0, .ref o1] M0 n0 0 0 (tm_Q tm_FT (tm_in w_Reader_markClause_x) x9 T0 M0 n0 (fun r _ M => ∃ v : Int32, r = some (.int v) ∧ 0 ≤ v.toInt ∧ v.toInt ≤ 1 ∧ (∃ s1 : p_S, qS M o0 pb pn s1 ∧ (v.toInt = 1 ∧ s1.1 = 0 ∨ v.toInt = 0 ∧ s1.1 ≠ 0) ∧ (s1.1 = 0 → p_sg pb pn 59 (p_mar pb pn (p_nx ps)) = p_sg pb pn 59 s1) ∧ (s1.1 ≠ 0 → p_sg pb pn 59 (p_mar pb pn (p_nx ps)) = s1)))) := by
  refine mj_enter (by decide) (Nat.le_of_ble_eq_true rfl) ?_
  have hK : ∀ {T : tm_H} {M : mj_M} {n : Nat}, tm_I tm_FT (tm_in w_Reader_markClause_x) x9 T0 M0 n0 T M n → qC M o0 pb pn pa := fun I => yC.keep I0.1 I h_o0 (qW_of (by decide +kernel))
  obtain ⟨v1, v2, v3, v4, v5, v6, v7, q8, q9, q10, q11, q12, q13, q14, h15, h16, h17⟩ := yD
  replace h16 := Im.i h16
  replace h17 := Im.i h17
  have := yC.kn ps.2.2
  refine mv_aload_n d_Reader_markClause_0 rfl rfl ?_
  obtain ⟨_, b24, -⟩ := I0.1 _ _ h_o0
  refine mv_callV (kc' := 0) (ks' := 0) (As := []) (st9 := [.ref o0]) d_Reader_markClause_1 lV_Reader_82 b24 rfl (tc_Reader_advance_x (d := (d + 1)) (x9 := x9) (o0 := o0) h_o0 (hK I0) (qS.a (show qS M0 o0 pb pn ps from ⟨_, _, _, _, _, _, _, q8, q9, q10, q11, q12, q13, q14, h15, Im.o h16, Im.o h17⟩)) (by show ps.2.2 + 1 ≤ 401; omega) I0.start) rfl (Nat.le_of_ble_eq_true rfl) (Nat.le_of_ble_eq_true rfl) (Nat.le_of_ble_eq_true rfl) (hst := rfl) (fun b18r M19 n20 b18 => ?_)
  obtain ⟨T21, J22, rfl, f25⟩ := b18
  have I23 := I0.call J22 (tm_sub (by decide)) (Or.inl rfl)
  have t26 := J22.up h_o0
  have t27 := J22.up h_o1
  have q28 := J22.keep h_o0 (by decide) q8
  have q29 := J22.keep h_o0 (by decide) q9
  obtain ⟨s30, e31⟩ : ∃ s9 : p_S, p_nx ps = s9 := ⟨_, rfl⟩
  rw [e31] at f25
  have : s30.1 = 0 := by rw [← e31]; show ps.1 = 0; omega
  obtain ⟨v32, v33, v34, v35, v36, v37, v38, q39, q40, q41, q42, q43, q44, q45, h46, h47, h48⟩ := f25
  replace h47 := Im.i h47
  replace h48 := Im.i h48
  refine mv_aload_n d_Reader_markClause_4 rfl rfl ?_
  refine mv_iconst (v := 0) d_Reader_markClause_5 (by decide) ?_
  refine mv_bipush (v := 7) d_Reader_markClause_6 (by decide) ?_
  obtain ⟨_, b55, -⟩ := I23.1 _ _ t26
  refine mv_callV (kc' := 0) (ks' := 0) (As := [.int 0, .int 7]) (st9 := [.int 7, .int 0, .ref o0]) d_Reader_markClause_8 lV_Reader_107 b55 rfl (tc_Reader_numeral_x (d := d) (x9 := x9) (o0 := o0) (x1 := 0) (x2 := 7) t26 (hK I23) ⟨_, _, _, _, _, _, _, q39, q40, q41, q42, q43, q44, q45, h46, Im.o h47, Im.o h48⟩ (by omega) I23.start) rfl (Nat.le_of_ble_eq_true rfl) (Nat.le_of_ble_eq_true rfl) (Nat.le_of_ble_eq_true rfl) (hst := rfl) (fun b49r M50 n51 b49 => ?_)
  obtain ⟨T52, J53, v56, rfl, b57, b58, f59, f60, f61⟩ := b49
  have I54 := I23.call J53 (tm_sub (by decide)) (Or.inl rfl)
  have t62 := J53.up t26
  have t63 := J53.up t27
  rw [show (0 : Int32).toInt = 0 from by decide] at f59 f60
  rw [show (7 : Int32).toInt = 7 from by decide] at f59 f60
  obtain ⟨s64, e65⟩ : ∃ s9 : p_S, p_num pb pn 0 7 s30 = s9 := ⟨_, rfl⟩
  rw [e65] at f59 f60
  obtain ⟨v66, v67, v68, v69, v70, v71, v72, q73, q74, q75, q76, q77, q78, q79, h80, h81, h82⟩ := f59
  replace h81 := Im.i h81
  replace h82 := Im.i h82
  obtain ⟨v83, q84, h85⟩ := f61
  have := mz_hi v56
  refine mv_if_neZ (tgt := 16) (a := v56.toInt) d_Reader_markClause_11 (by decide) rfl (fun b86 => ?_) (fun b86 => ?_)
  · refine mv_aload_n d_Reader_markClause_16 rfl rfl ?_
    refine mv_dup d_Reader_markClause_17 rfl ?_
    obtain ⟨v88, q87⟩ := tm_atI I54 t63 (k := 4) rfl
    refine tr_getK q87 d_Reader_markClause_18 f_Reader_163_6 ?_
    refine mv_iconst (v := 1) d_Reader_markClause_21 (by decide) ?_
    refine mv_aload_n d_Reader_markClause_22 rfl rfl ?_
    refine tr_getK (k := 14) q84 d_Reader_markClause_23 f_Reader_111_9 ?_
    refine mv_ishl d_Reader_markClause_26 ?_
    refine mv_ior d_Reader_markClause_27 ?_
    refine tr_putK tm_okF I54 t63 (k := 4) rfl ⟨_, rfl⟩ (Or.inl (by decide)) d_Reader_markClause_28 p_Reader_163_6 rfl rfl (fun M89 I90 q91 K92 => ?_)
    refine mv_iconst (v := 0) d_Reader_markClause_31 (by decide) ?_
    refine mv_istore_n (lv' := [(2, .int 0), (0, .ref o0), (1, .ref o1)]) d_Reader_markClause_32 rfl (by decide) rfl ?_
    have L33_93 : ∀ (k : Nat) (i2_93 : Int32) (T_93 : tm_H) (M_93 : mj_M) (n_93 : Nat), tm_I tm_FT (tm_in w_Reader_markClause_x) x9 T0 M0 n0 T_93 M_93 n_93 → T_93 o0 = some (0, 9, 0) → T_93 o1 = some (0, 6, 0) → 0 ≤ i2_93.toInt → (∃ s1 : p_S, qS M_93 o0 pb pn s1 ∧ s1.1 = 0 ∧ i2_93.toInt ≤ (s1.2.2 : Int) ∧ p_lp pn (p_ma1 pb pn) s1 = p_mar pb pn (p_nx ps)) → 2147483647 - i2_93.toInt < (k : Int) → mj_V g l kY_Reader_markClause (d + 2) 33 [(2, .int i2_93), (0, .ref o0), (1, .ref o1)] [] M_93 n_93 0 0 (tm_Q tm_FT (tm_in w_Reader_markClause_x) x9 T0 M0 n0 (fun r _ M => ∃ v : Int32, r = some (.int v) ∧ 0 ≤ v.toInt ∧ v.toInt ≤ 1 ∧ (∃ s1 : p_S, qS M o0 pb pn s1 ∧ (v.toInt = 1 ∧ s1.1 = 0 ∨ v.toInt = 0 ∧ s1.1 ≠ 0) ∧ (s1.1 = 0 → p_sg pb pn 59 (p_mar pb pn (p_nx ps)) = p_sg pb pn 59 s1) ∧ (s1.1 ≠ 0 → p_sg pb pn 59 (p_mar pb pn (p_nx ps)) = s1)))) := by
      intro k93
      induction k93 with
      | zero =>
        intro i2_93 T_93 M_93 n_93 I_93 h_q0_93 h_q1_93 iv0_93 kKT9_93 hk93
        have := mz_hi i2_93
        omega
      | succ k93 ih93 =>
        intro i2_93 T_93 M_93 n_93 I_93 h_q0_93 h_q1_93 iv0_93 kKT9_93 hk93
        obtain ⟨s94, f95, h96, h97, e98⟩ := kKT9_93
        obtain ⟨v99, v100, v101, v102, v103, v104, v105, q106, q107, q108, q109, q110, q111, q112, h113, h114, h115⟩ := f95
        replace h114 := Im.i h114
        replace h115 := Im.i h115
        refine mv_iload_n d_Reader_markClause_33 rfl rfl ?_
        refine mv_sipush (v := 400) d_Reader_markClause_34 (by decide) ?_
        have := mz_hi i2_93
        refine mv_icmp_geZ (tgt := 81) (a := i2_93.toInt) (b := 400) d_Reader_markClause_37 (by decide) rfl (by decide) (fun b116 => ?_) (fun b116 => ?_)
        · refine mv_iconst (v := 1) d_Reader_markClause_81 (by decide) ?_
          exact mv_iret d_Reader_markClause_82 rfl (by decide) ⟨_, I_93, _, rfl, by decide, by decide, ⟨_, ⟨_, _, _, _, _, _, _, q106, q107, q108, q109, q110, q111, q112, h113, Im.o h114, Im.o h115⟩, (Or.inl ⟨by decide, by omega⟩), (fun _ => by have := (Im.o h115) (by omega); have := yC.d s94.2.2; have := yC.kn s94.2.2; rw [← e98, p_lp_stop (show p_ma1 pb pn s94 = s94 from if_neg (fun h8 => by have := h8.2; omega))]), (fun h9 => absurd (by omega) h9)⟩⟩
        · refine mv_aload_n d_Reader_markClause_40 rfl rfl ?_
          refine tr_getK (k := 10) q109 d_Reader_markClause_41 f_Reader_41_9 ?_
          refine mv_iconst (v := 2) d_Reader_markClause_44 (by decide) ?_
          have := mz_hi v102
          refine mv_icmp_neZ (tgt := 81) (a := v102.toInt) (b := 2) d_Reader_markClause_45 (by decide) rfl (by decide) (fun b117 => ?_) (fun b117 => ?_)
          · refine mv_iconst (v := 1) d_Reader_markClause_81 (by decide) ?_
            exact mv_iret d_Reader_markClause_82 rfl (by decide) ⟨_, I_93, _, rfl, by decide, by decide, ⟨_, ⟨_, _, _, _, _, _, _, q106, q107, q108, q109, q110, q111, q112, h113, Im.o h114, Im.o h115⟩, (Or.inl ⟨by decide, by omega⟩), (fun _ => by have := (Im.o h115) (by omega); have := yC.d s94.2.2; have := yC.kn s94.2.2; rw [← e98, p_lp_stop (show p_ma1 pb pn s94 = s94 from if_neg (fun h8 => by have := h8.2; omega))]), (fun h9 => absurd (by omega) h9)⟩⟩
          · refine mv_aload_n d_Reader_markClause_48 rfl rfl ?_
            refine mv_iconst (v := 0) d_Reader_markClause_49 (by decide) ?_
            refine mv_bipush (v := 7) d_Reader_markClause_50 (by decide) ?_
            obtain ⟨_, b124, -⟩ := I_93.1 _ _ h_q0_93
            refine mv_callV (kc' := 0) (ks' := 0) (As := [.int 0, .int 7]) (st9 := [.int 7, .int 0, .ref o0]) d_Reader_markClause_52 lV_Reader_107 b124 rfl (tc_Reader_numeral_x (d := d) (x9 := x9) (o0 := o0) (x1 := 0) (x2 := 7) h_q0_93 (hK I_93) ⟨_, _, _, _, _, _, _, q106, q107, q108, q109, q110, q111, q112, h113, Im.o h114, Im.o h115⟩ (by omega) I_93.start) rfl (Nat.le_of_ble_eq_true rfl) (Nat.le_of_ble_eq_true rfl) (Nat.le_of_ble_eq_true rfl) (hst := rfl) (fun b118r M119 n120 b118 => ?_)
            obtain ⟨T121, J122, v125, rfl, b126, b127, f128, f129, f130⟩ := b118
            have I123 := I_93.call J122 (tm_sub (by decide)) (Or.inl rfl)
            have t131 := J122.up h_q0_93
            have t132 := J122.up h_q1_93
            rw [show (0 : Int32).toInt = 0 from by decide] at f128 f129
            rw [show (7 : Int32).toInt = 7 from by decide] at f128 f129
            obtain ⟨s133, e134⟩ : ∃ s9 : p_S, p_num pb pn 0 7 s94 = s9 := ⟨_, rfl⟩
            rw [e134] at f128 f129
            obtain ⟨v135, v136, v137, v138, v139, v140, v141, q142, q143, q144, q145, q146, q147, q148, h149, h150, h151⟩ := f128
            replace h150 := Im.i h150
            replace h151 := Im.i h151
            obtain ⟨v152, q153, h154⟩ := f130
            have := mz_hi v125
            refine mv_if_neZ (tgt := 60) (a := v125.toInt) d_Reader_markClause_55 (by decide) rfl (fun b155 => ?_) (fun b155 => ?_)
            · refine mv_aload_n d_Reader_markClause_60 rfl rfl ?_
              refine mv_dup d_Reader_markClause_61 rfl ?_
              obtain ⟨v157, q156⟩ := tm_atI I123 t132 (k := 4) rfl
              refine tr_getK q156 d_Reader_markClause_62 f_Reader_163_6 ?_
              refine mv_iconst (v := 1) d_Reader_markClause_65 (by decide) ?_
              refine mv_aload_n d_Reader_markClause_66 rfl rfl ?_
              refine tr_getK (k := 14) q153 d_Reader_markClause_67 f_Reader_111_9 ?_
              refine mv_ishl d_Reader_markClause_70 ?_
              refine mv_ior d_Reader_markClause_71 ?_
              refine tr_putK tm_okF I123 t132 (k := 4) rfl ⟨_, rfl⟩ (Or.inl (by decide)) d_Reader_markClause_72 p_Reader_163_6 rfl rfl (fun M158 I159 q160 K161 => ?_)
              refine mv_iinc (v := (i2_93 + 1)) (lv' := [(2, .int (i2_93 + 1)), (0, .ref o0), (1, .ref o1)]) d_Reader_markClause_75 rfl rfl (by decide) rfl ?_
              refine mv_goto (tgt := 33) d_Reader_markClause_78 (by decide) ?_
              have : (i2_93 + 1 : Int32).toInt = i2_93.toInt + 1 := mz_addn 1 1 (by decide) (by omega) (by omega)
              have T162 : ∃ s1 : p_S, qS M158 o0 pb pn s1 ∧ s1.1 = 0 ∧ (i2_93 + 1).toInt ≤ (s1.2.2 : Int) ∧ p_lp pn (p_ma1 pb pn) s1 = p_mar pb pn (p_nx ps) := ⟨s133, ⟨_, _, _, _, _, _, _, (K161 _ 9 1 _ rfl q142), (K161 _ 9 2 _ rfl q143), (K161 _ 9 9 _ rfl q144), (K161 _ 9 10 _ rfl q145), (K161 _ 9 11 _ rfl q146), (K161 _ 9 12 _ rfl q147), (K161 _ 9 13 _ rfl q148), h149, Im.o h150, Im.o h151⟩, by omega, (by have h9 : s94.2.2 + 1 ≤ s133.2.2 := (by rw [← e134]; exact p_num_on (by rw [e134]; omega) (by omega)); omega), (by have := (Im.o h115) (by omega); have := yC.d s94.2.2; have := yC.kn s94.2.2; have st : (p_ma1 pb pn) s94 = s133 := (by rw [show (p_ma1 pb pn) s94 = p_num pb pn 0 7 s94 from if_pos ⟨by omega, by omega⟩]; simp only [e134]); rw [← st, p_P.go p_ma1_P s94]; exact e98)⟩
              have b163 : (i2_93 + 1).toInt = i2_93.toInt + 1 := mz_addn 1 1 (by decide) (by have := mz_lo i2_93; omega) (by have := mz_hi i2_93; omega)
              exact (ih93 (i2_93 + 1) T121 M158 n120 I159 t131 t132 (by first | omega | decide) T162 (by omega))
            · refine mv_iconst (v := 0) d_Reader_markClause_58 (by decide) ?_
              exact mv_iret d_Reader_markClause_59 rfl (by decide) ⟨_, I123, _, rfl, by decide, by decide, ⟨_, ⟨_, _, _, _, _, _, _, q142, q143, q144, q145, q146, q147, q148, h149, Im.o h150, Im.o h151⟩, (Or.inr ⟨by decide, by omega⟩), (fun h9 => absurd h9 (by omega)), (fun hb => by have := (Im.o h115) (by omega); have := yC.d s94.2.2; have := yC.kn s94.2.2; rw [← e98]; by_cases h9 : 0 ≤ p_nm pb pn s94.2.2; · (rw [← p_P.go p_ma1_P s94, show p_ma1 pb pn s94 = s133 from (by rw [show p_ma1 pb pn s94 = p_num pb pn 0 7 s94 from if_pos ⟨by omega, h9⟩]; exact e134), p_lp_Z p_ma1_Z _ hb]; exact p_sg_Z _ hb); · (rw [p_lp_stop (show p_ma1 pb pn s94 = s94 from if_neg (fun h8 => h9 h8.2)), ← e134]; unfold p_num p_sg; (repeat' split) <;> first | rfl | (exfalso; omega)))⟩⟩
    have T164 : ∃ s1 : p_S, qS M89 o0 pb pn s1 ∧ s1.1 = 0 ∧ 0 ≤ (s1.2.2 : Int) ∧ p_lp pn (p_ma1 pb pn) s1 = p_mar pb pn (p_nx ps) := ⟨s64, ⟨_, _, _, _, _, _, _, (K92 _ 9 1 _ rfl q73), (K92 _ 9 2 _ rfl q74), (K92 _ 9 9 _ rfl q75), (K92 _ 9 10 _ rfl q76), (K92 _ 9 11 _ rfl q77), (K92 _ 9 12 _ rfl q78), (K92 _ 9 13 _ rfl q79), h80, Im.o h81, Im.o h82⟩, by omega, (by show (0 : Int) ≤ _; omega), (by rw [← e65]; rw [← e31]; rfl)⟩
    exact mv_less (Nat.zero_le _) (Nat.zero_le _) (L33_93 4294967296 0 T52 M89 n51 I90 t62 t63 (by first | omega | decide) T164 (by show (2147483647 - (0 : Int) : Int) < _; decide))
  · refine mv_iconst (v := 0) d_Reader_markClause_14 (by decide) ?_
    exact mv_iret d_Reader_markClause_15 rfl (by decide) ⟨_, I54, _, rfl, by decide, by decide, ⟨_, ⟨_, _, _, _, _, _, _, q73, q74, q75, q76, q77, q78, q79, h80, Im.o h81, Im.o h82⟩, (Or.inr ⟨by decide, by omega⟩), (fun h9 => absurd h9 (by omega)), (fun hb => by unfold p_mar; simp only [e31, e65]; rw [p_lp_Z p_ma1_Z _ hb]; exact p_sg_Z _ hb)⟩⟩
def w_Reader_trustClause_x : List Nat := [605, 606, 901, 902, 909, 910, 911, 912, 913, 914]
set_option maxHeartbeats 100000000 in theorem tc_Reader_trustClause_x {g : mj_G} {l : Launch} {d : Nat} {T0 : tm_H} {M0 : mj_M} {n0 x9 : Nat} {o0 : Nat} {o1 : Nat} (h_o0 : T0 o0 = some (0, 9, 0)) (h_o1 : T0 o1 = some (0, 6, 0))  {pb : Nat → Int} {pn : Nat} {pa : Int} {ps : p_S} (yC : qC M0 o0 pb pn pa) (yD : qS M0 o0 pb pn ps) (yw : ps.1 = 0) (yz : p_ki pb pn ps.2.2 ≠ 0) (I0 : tm_I tm_FT (tm_in w_Reader_trustClause_x) x9 T0 M0 n0 T0 M0 n0) : mj_Met g l kY_Reader_trustClause (d + 2) [.ref o0, .ref o1] M0 n0 0 0 (tm_Q tm_FT (tm_in w_Reader_trustClause_x) x9 T0 M0 n0 (fun r _ M => ∃ v : Int32, r = some (.int v) ∧ 0 ≤ v.toInt ∧ v.toInt ≤ 1 ∧ (qS M o0 pb pn (p_tru pb pn (p_nx ps))) ∧ (v.toInt = 1 ∧ (p_tru pb pn (p_nx ps)).1 = 0 ∨ v.toInt = 0 ∧ (p_tru pb pn (p_nx ps)).1 ≠ 0))) := by
  refine mj_enter (by decide) (Nat.le_of_ble_eq_true rfl) ?_
  have hK : ∀ {T : tm_H} {M : mj_M} {n : Nat}, tm_I tm_FT (tm_in w_Reader_trustClause_x) x9 T0 M0 n0 T M n → qC M o0 pb pn pa := fun I => yC.keep I0.1 I h_o0 (qW_of (by decide +kernel))
  obtain ⟨v1, v2, v3, v4, v5, v6, v7, q8, q9, q10, q11, q12, q13, q14, h15, h16, h17⟩ := yD
  replace h16 := Im.i h16
  replace h17 := Im.i h17
  have := yC.kn ps.2.2
  refine mv_aload_n d_Reader_trustClause_0 rfl rfl ?_
  obtain ⟨_, b24, -⟩ := I0.1 _ _ h_o0
  refine mv_callV (kc' := 0) (ks' := 0) (As := []) (st9 := [.ref o0]) d_Reader_trustClause_1 lV_Reader_82 b24 rfl (tc_Reader_advance_x (d := (d + 1)) (x9 := x9) (o0 := o0) h_o0 (hK I0) (qS.a (show qS M0 o0 pb pn ps from ⟨_, _, _, _, _, _, _, q8, q9, q10, q11, q12, q13, q14, h15, Im.o h16, Im.o h17⟩)) (by show ps.2.2 + 1 ≤ 401; omega) I0.start) rfl (Nat.le_of_ble_eq_true rfl) (Nat.le_of_ble_eq_true rfl) (Nat.le_of_ble_eq_true rfl) (hst := rfl) (fun b18r M19 n20 b18 => ?_)
  obtain ⟨T21, J22, rfl, f25⟩ := b18
  have I23 := I0.call J22 (tm_sub (by decide)) (Or.inl rfl)
  have t26 := J22.up h_o0
  have t27 := J22.up h_o1
  have q28 := J22.keep h_o0 (by decide) q8
  have q29 := J22.keep h_o0 (by decide) q9
  obtain ⟨s30, e31⟩ : ∃ s9 : p_S, p_nx ps = s9 := ⟨_, rfl⟩
  rw [e31] at f25
  have : s30.1 = 0 := by rw [← e31]; show ps.1 = 0; omega
  obtain ⟨v32, v33, v34, v35, v36, v37, v38, q39, q40, q41, q42, q43, q44, q45, h46, h47, h48⟩ := f25
  replace h47 := Im.i h47
  replace h48 := Im.i h48
  refine mv_aload_n d_Reader_trustClause_4 rfl rfl ?_
  refine mv_iconst (v := 1) d_Reader_trustClause_5 (by decide) ?_
  refine mv_bipush (v := 7) d_Reader_trustClause_6 (by decide) ?_
  obtain ⟨_, b55, -⟩ := I23.1 _ _ t26
  refine mv_callV (kc' := 0) (ks' := 0) (As := [.int 1, .int 7]) (st9 := [.int 7, .int 1, .ref o0]) d_Reader_trustClause_8 lV_Reader_107 b55 rfl (tc_Reader_numeral_x (d := d) (x9 := x9) (o0 := o0) (x1 := 1) (x2 := 7) t26 (hK I23) ⟨_, _, _, _, _, _, _, q39, q40, q41, q42, q43, q44, q45, h46, Im.o h47, Im.o h48⟩ (by omega) I23.start) rfl (Nat.le_of_ble_eq_true rfl) (Nat.le_of_ble_eq_true rfl) (Nat.le_of_ble_eq_true rfl) (hst := rfl) (fun b49r M50 n51 b49 => ?_)
  obtain ⟨T52, J53, v56, rfl, b57, b58, f59, f60, f61⟩ := b49
  have I54 := I23.call J53 (tm_sub (by decide)) (Or.inl rfl)
  have t62 := J53.up t26
  have t63 := J53.up t27
  rw [show (1 : Int32).toInt = 1 from by decide] at f59 f60
  rw [show (7 : Int32).toInt = 7 from by decide] at f59 f60
  obtain ⟨s64, e65⟩ : ∃ s9 : p_S, p_num pb pn 1 7 s30 = s9 := ⟨_, rfl⟩
  rw [e65] at f59 f60
  obtain ⟨v66, v67, v68, v69, v70, v71, v72, q73, q74, q75, q76, q77, q78, q79, h80, h81, h82⟩ := f59
  replace h81 := Im.i h81
  replace h82 := Im.i h82
  obtain ⟨v83, q84, h85⟩ := f61
  have := mz_hi v56
  refine mv_if_neZ (tgt := 16) (a := v56.toInt) d_Reader_trustClause_11 (by decide) rfl (fun b86 => ?_) (fun b86 => ?_)
  · refine mv_aload_n d_Reader_trustClause_16 rfl rfl ?_
    refine tr_getK (k := 14) q84 d_Reader_trustClause_17 f_Reader_111_9 ?_
    refine mv_istore_n (lv' := [(2, .int v83), (0, .ref o0), (1, .ref o1)]) d_Reader_trustClause_20 rfl (by decide) rfl ?_
    refine mv_aload_n d_Reader_trustClause_21 rfl rfl ?_
    refine mv_iconst (v := 1) d_Reader_trustClause_22 (by decide) ?_
    refine mv_iload_n d_Reader_trustClause_23 rfl rfl ?_
    obtain ⟨_, b93, -⟩ := I54.1 _ _ t62
    refine mv_callV (kc' := 0) (ks' := 0) (As := [.int 1, .int v83]) (st9 := [.int v83, .int 1, .ref o0]) d_Reader_trustClause_24 lV_Reader_107 b93 rfl (tc_Reader_numeral_x (d := d) (x9 := x9) (o0 := o0) (x1 := 1) (x2 := v83) t62 (hK I54) ⟨_, _, _, _, _, _, _, q73, q74, q75, q76, q77, q78, q79, h80, Im.o h81, Im.o h82⟩ (by omega) I54.start) rfl (Nat.le_of_ble_eq_true rfl) (Nat.le_of_ble_eq_true rfl) (Nat.le_of_ble_eq_true rfl) (hst := rfl) (fun b87r M88 n89 b87 => ?_)
    obtain ⟨T90, J91, v94, rfl, b95, b96, f97, f98, f99⟩ := b87
    have I92 := I54.call J91 (tm_sub (by decide)) (Or.inl rfl)
    have t100 := J91.up t62
    have t101 := J91.up t63
    rw [show (1 : Int32).toInt = 1 from by decide] at f97 f98
    rw [show v83.toInt = p_nm pb pn s30.2.2 from by omega] at f97 f98
    obtain ⟨s102, e103⟩ : ∃ s9 : p_S, p_num pb pn 1 (p_nm pb pn s30.2.2) s64 = s9 := ⟨_, rfl⟩
    rw [e103] at f97 f98
    obtain ⟨v104, v105, v106, v107, v108, v109, v110, q111, q112, q113, q114, q115, q116, q117, h118, h119, h120⟩ := f97
    replace h119 := Im.i h119
    replace h120 := Im.i h120
    obtain ⟨v121, q122, h123⟩ := f99
    have := mz_hi v94
    refine mv_if_neZ (tgt := 32) (a := v94.toInt) d_Reader_trustClause_27 (by decide) rfl (fun b124 => ?_) (fun b124 => ?_)
    · refine mv_aload_n d_Reader_trustClause_32 rfl rfl ?_
      refine mv_iload_n d_Reader_trustClause_33 rfl rfl ?_
      refine tr_putK tm_okF I92 t101 (k := 5) rfl ⟨_, rfl⟩ (Or.inl (by decide)) d_Reader_trustClause_34 p_Reader_166_6 rfl rfl (fun M125 I126 q127 K128 => ?_)
      refine mv_aload_n d_Reader_trustClause_37 rfl rfl ?_
      refine mv_aload_n d_Reader_trustClause_38 rfl rfl ?_
      refine tr_getK (k := 14) (K128 _ 9 14 _ rfl q122) d_Reader_trustClause_39 f_Reader_111_9 ?_
      refine tr_putK tm_okF I126 t101 (k := 6) rfl ⟨_, rfl⟩ (Or.inl (by decide)) d_Reader_trustClause_42 p_Reader_169_6 rfl rfl (fun M129 I130 q131 K132 => ?_)
      refine mv_iconst (v := 1) d_Reader_trustClause_45 (by decide) ?_
      exact mv_iret d_Reader_trustClause_46 rfl (by decide) ⟨_, I130, _, rfl, by decide, by decide, (by have eT : p_tru pb pn (p_nx ps) = s102 := (by unfold p_tru; (try simp only [e31, e65, e103]); ((repeat' (first | (with_reducible rfl) | split)) <;> (first | ((try simp only [e31, e65, e103]); done) | (exfalso; omega)))); rw [eT]; exact ⟨⟨_, _, _, _, _, _, _, (K132 _ 9 1 _ rfl (K128 _ 9 1 _ rfl q111)), (K132 _ 9 2 _ rfl (K128 _ 9 2 _ rfl q112)), (K132 _ 9 9 _ rfl (K128 _ 9 9 _ rfl q113)), (K132 _ 9 10 _ rfl (K128 _ 9 10 _ rfl q114)), (K132 _ 9 11 _ rfl (K128 _ 9 11 _ rfl q115)), (K132 _ 9 12 _ rfl (K128 _ 9 12 _ rfl q116)), (K132 _ 9 13 _ rfl (K128 _ 9 13 _ rfl q117)), h118, Im.o h119, Im.o h120⟩, (Or.inl ⟨by first | decide | omega, by omega⟩)⟩)⟩
    · refine mv_iconst (v := 0) d_Reader_trustClause_30 (by decide) ?_
      exact mv_iret d_Reader_trustClause_31 rfl (by decide) ⟨_, I92, _, rfl, by decide, by decide, (by have hb : s102.1 ≠ 0 := (by omega); have z1 : ∀ c, p_sg pb pn c s102 = s102 := (fun c => p_sg_Z s102 hb); have z2 : ∀ c, p_wd pb pn c s102 = s102 := (fun c => p_wd_Z s102 hb); have z3 : ∀ op, p_sum pb pn pa op s102 = s102 := (fun op => p_sum_Z s102 hb); have z4 : ∀ r oc, p_con pb pn pa r oc s102 = s102 := (fun r oc => p_con_Z s102 hb); have z5 : p_prt pb pn s102 = s102 := p_prt_Z s102 hb; have eT : p_tru pb pn (p_nx ps) = s102 := (by unfold p_tru; (try simp only [e31, e65, e103, z1, z2, z3, z4, z5]); ((repeat' (first | (with_reducible rfl) | split)) <;> (first | ((try simp only [e31, e65, e103, z1, z2, z3, z4, z5]); done) | (exfalso; omega)))); rw [eT]; exact ⟨⟨_, _, _, _, _, _, _, q111, q112, q113, q114, q115, q116, q117, h118, Im.o h119, Im.o h120⟩, (Or.inr ⟨by first | decide | omega, by omega⟩)⟩)⟩
  · refine mv_iconst (v := 0) d_Reader_trustClause_14 (by decide) ?_
    exact mv_iret d_Reader_trustClause_15 rfl (by decide) ⟨_, I54, _, rfl, by decide, by decide, (by have hb : s64.1 ≠ 0 := (by omega); have z1 : ∀ c, p_sg pb pn c s64 = s64 := (fun c => p_sg_Z s64 hb); have z2 : ∀ c, p_wd pb pn c s64 = s64 := (fun c => p_wd_Z s64 hb); have z3 : ∀ op, p_sum pb pn pa op s64 = s64 := (fun op => p_sum_Z s64 hb); have z4 : ∀ r oc, p_con pb pn pa r oc s64 = s64 := (fun r oc => p_con_Z s64 hb); have z5 : p_prt pb pn s64 = s64 := p_prt_Z s64 hb; have eT : p_tru pb pn (p_nx ps) = s64 := (by unfold p_tru; (try simp only [e31, e65, z1, z2, z3, z4, z5]); ((repeat' (first | (with_reducible rfl) | split)) <;> (first | ((try simp only [e31, e65, z1, z2, z3, z4, z5]); done) | (exfalso; omega)))); rw [eT]; exact ⟨⟨_, _, _, _, _, _, _, q73, q74, q75, q76, q77, q78, q79, h80, Im.o h81, Im.o h82⟩, (Or.inr ⟨by first | decide | omega, by omega⟩)⟩)⟩
def w_Reader_clause_q4_r : List Nat := [604, 605, 606, 901, 902, 909, 910, 911, 912, 913, 914, 916, 918, 967, 5003]
set_option maxHeartbeats 100000000 in theorem tc_Reader_clause_q4_r {g : mj_G} {l : Launch} {d : Nat} {T0 : tm_H} {M0 : mj_M} {n0 x9 : Nat} {o0 : Nat} {o1 : Nat} {x2 : Int32} (h_o0 : T0 o0 = some (0, 9, 0)) (h_o1 : T0 o1 = some (0, 6, 0)) {p : Int32} (hO : tm_at M0 o0 9 16 (.int p)) (hp : 0 ≤ p.toInt) (hp2 : p.toInt ≤ 0) {pb : Nat → Int} {pn : Nat} {pa : Int} {ps : p_S} (yC : qC M0 o0 pb pn pa) (yD : qS M0 o0 pb pn ps) (yw : ps.1 = 0) {pc9 : Nat} {pN9 : List (Nat × Nat)} {e1 : Nat} {s1 : Int32} (h_e1 : T0 e1 = some (3, 3, o1)) (yq1 : tm_at M0 o1 6 11 (.ref e1)) (yz1 : tm_at M0 e1 0 2 (.int s1)) (ys1 : s1.toInt ≤ 6) (yE : qE M0 e1 pb pN9) (yb9 : x2.toInt = (pc9 : Int)) (I0 : tm_I tm_FT (tm_in w_Reader_clause_q4_r) x9 T0 M0 n0 T0 M0 n0) : mj_Met g l kY_Reader_clause (d + 21) [.ref o0, .ref o1, .int x2] M0 n0 7 965 (tm_Q tm_FT (tm_in w_Reader_clause_q4_r) x9 T0 M0 n0 (fun r _ M => ∃ v : Int32, r = some (.int v) ∧ 0 ≤ v.toInt ∧ v.toInt ≤ 1 ∧ (v.toInt = 1 → tm_at M o0 9 16 (.int p)) ∧ (∃ s : Int32, tm_at M e1 0 2 (.int s) ∧ s.toInt ≤ 6) ∧ (∀ (a o : Nat) (w : Value), T0 a = some (3, 3, o) → o ≠ o1 → tm_at M0 a 0 2 w → tm_at M a 0 2 w) ∧ (qS M o0 pb pn ((p_cl pb pn pa (pc9, pN9, ps)).2)) ∧ (v.toInt = 1 ∧ ((p_cl pb pn pa (pc9, pN9, ps)).2).1 = 0 ∨ v.toInt = 0 ∧ ((p_cl pb pn pa (pc9, pN9, ps)).2).1 ≠ 0) ∧ (v.toInt = 1 → qE M e1 pb (p_cl pb pn pa (pc9, pN9, ps)).1))) := by
  refine mj_enter (by decide) (Nat.le_of_ble_eq_true rfl) ?_
  have hK : ∀ {T : tm_H} {M : mj_M} {n : Nat}, tm_I tm_FT (tm_in w_Reader_clause_q4_r) x9 T0 M0 n0 T M n → qC M o0 pb pn pa := fun I => yC.keep I0.1 I h_o0 (qW_of (by decide +kernel))
  obtain ⟨v1, v2, v3, v4, v5, v6, v7, q8, q9, q10, q11, q12, q13, q14, h15, h16, h17⟩ := yD
  replace h16 := Im.i h16
  replace h17 := Im.i h17
  obtain ⟨_, _, _, _, zz1⟩ := tm_lsn I0 h_e1 yz1
  have yp1 := zz1.2.1
  have yl1 := yE.k yz1
  have K0L : ∀ (a o : Nat) (w : Value), T0 a = some (3, 3, o) → o ≠ o1 → tm_at M0 a 0 2 w → tm_at M0 a 0 2 w := fun a o w h hx q => q
  refine mv_aload_n d_Reader_clause_0 rfl rfl ?_
  refine mv_bipush (v := 26) d_Reader_clause_1 (by decide) ?_
  obtain ⟨_, b18, -⟩ := I0.1 _ _ h_o0
  refine mv_callV (kc1 := 0) (ks1 := 0) (kc' := 7) (ks' := 965) (As := [.int 26]) (st9 := [.int 26, .ref o0]) d_Reader_clause_3 lV_Reader_52 b18 rfl (mj_enter (by decide) (Nat.le_of_ble_eq_true rfl) ?_) rfl (Nat.le_of_ble_eq_true rfl) (Nat.le_of_ble_eq_true rfl) (Nat.le_of_ble_eq_true rfl) (hst := rfl) (fun _ _ _ h => h)
  refine mv_aload_n d_Reader_isWord_0 rfl rfl ?_
  refine tr_getK (k := 10) q11 d_Reader_isWord_1 f_Reader_41_9 ?_
  refine mv_iconst (v := 1) d_Reader_isWord_4 (by decide) ?_
  have := mz_hi v4
  refine mv_icmp_neZ (tgt := 20) (a := v4.toInt) (b := 1) d_Reader_isWord_5 (by decide) rfl (by decide) (fun b19 => ?_) (fun b19 => ?_)
  · refine mv_iconst (v := 0) d_Reader_isWord_20 (by decide) ?_
    refine mv_iret d_Reader_isWord_21 rfl (by decide) ?_
    refine mv_istore_n (lv' := [(3, .int 0), (0, .ref o0), (1, .ref o1), (2, .int x2)]) d_Reader_clause_6 rfl (by decide) rfl ?_
    refine mv_aload_n d_Reader_clause_7 rfl rfl ?_
    refine mv_bipush (v := 24) d_Reader_clause_8 (by decide) ?_
    obtain ⟨_, b20, -⟩ := I0.1 _ _ h_o0
    refine mv_callV (kc1 := 0) (ks1 := 0) (kc' := 0) (ks' := 0) (As := [.int 24]) (st9 := [.int 24, .ref o0]) d_Reader_clause_10 lV_Reader_52 b20 rfl (mj_enter (by decide) (Nat.le_of_ble_eq_true rfl) ?_) rfl (Nat.le_of_ble_eq_true rfl) (Nat.le_of_ble_eq_true rfl) (Nat.le_of_ble_eq_true rfl) (hst := rfl) (fun _ _ _ h => h)
    refine mv_aload_n d_Reader_isWord_0 rfl rfl ?_
    refine tr_getK (k := 10) q11 d_Reader_isWord_1 f_Reader_41_9 ?_
    refine mv_iconst (v := 1) d_Reader_isWord_4 (by decide) ?_
    have := mz_hi v4
    refine mv_icmp_neZ (tgt := 20) (a := v4.toInt) (b := 1) d_Reader_isWord_5 (by decide) rfl (by decide) (fun b21 => ?_) (fun b21 => absurd b21 (by omega))
    refine mv_iconst (v := 0) d_Reader_isWord_20 (by decide) ?_
    refine mv_iret d_Reader_isWord_21 rfl (by decide) ?_
    refine mv_istore (lv' := [(4, .int 0), (3, .int 0), (0, .ref o0), (1, .ref o1), (2, .int x2)]) d_Reader_clause_13 (by decide) rfl ?_
    refine mv_iload_n d_Reader_clause_15 rfl rfl ?_
    refine mv_if_ne_f (tgt := 39) d_Reader_clause_16 (by decide) (by decide) ?_
    refine mv_iload d_Reader_clause_19 rfl ?_
    refine mv_if_ne_f (tgt := 39) d_Reader_clause_21 (by decide) (by decide) ?_
    refine mv_aload_n d_Reader_clause_24 rfl rfl ?_
    refine mv_bipush (v := 25) d_Reader_clause_25 (by decide) ?_
    obtain ⟨_, b22, -⟩ := I0.1 _ _ h_o0
    refine mv_callV (kc1 := 0) (ks1 := 0) (kc' := 0) (ks' := 0) (As := [.int 25]) (st9 := [.int 25, .ref o0]) d_Reader_clause_27 lV_Reader_52 b22 rfl (mj_enter (by decide) (Nat.le_of_ble_eq_true rfl) ?_) rfl (Nat.le_of_ble_eq_true rfl) (Nat.le_of_ble_eq_true rfl) (Nat.le_of_ble_eq_true rfl) (hst := rfl) (fun _ _ _ h => h)
    refine mv_aload_n d_Reader_isWord_0 rfl rfl ?_
    refine tr_getK (k := 10) q11 d_Reader_isWord_1 f_Reader_41_9 ?_
    refine mv_iconst (v := 1) d_Reader_isWord_4 (by decide) ?_
    have := mz_hi v4
    refine mv_icmp_neZ (tgt := 20) (a := v4.toInt) (b := 1) d_Reader_isWord_5 (by decide) rfl (by decide) (fun b23 => ?_) (fun b23 => absurd b23 (by omega))
    refine mv_iconst (v := 0) d_Reader_isWord_20 (by decide) ?_
    refine mv_iret d_Reader_isWord_21 rfl (by decide) ?_
    refine mv_if_ne_f (tgt := 39) d_Reader_clause_30 (by decide) (by decide) ?_
    refine mv_aload_n d_Reader_clause_33 rfl rfl ?_
    refine mv_iconst (v := 1) d_Reader_clause_34 (by decide) ?_
    obtain ⟨_, b24, -⟩ := I0.1 _ _ h_o0
    refine mv_callV (kc1 := 0) (ks1 := 0) (kc' := 0) (ks' := 0) (As := [.int 1]) (st9 := [.int 1, .ref o0]) d_Reader_clause_35 lV_Reader_56 b24 rfl (mj_enter (by decide) (Nat.le_of_ble_eq_true rfl) ?_) rfl (Nat.le_of_ble_eq_true rfl) (Nat.le_of_ble_eq_true rfl) (Nat.le_of_ble_eq_true rfl) (hst := rfl) (fun _ _ _ h => h)
    refine mv_aload_n d_Reader_refuse_0 rfl rfl ?_
    refine mv_iload_n d_Reader_refuse_1 rfl rfl ?_
    refine tr_putKM tm_okF I0 h_o0 (k := 1) rfl ⟨_, rfl⟩ (Or.inl (by decide)) d_Reader_refuse_2 p_Reader_70_9 rfl rfl (fun M25 I26 q27 K28 K28M => ?_)
    have K29 : ∀ (a o : Nat) (w : Value), T0 a = some (3, 3, o) → o ≠ o1 → tm_at M0 a 0 2 w → tm_at M25 a 0 2 w := fun a o w h hx q => K28 _ 0 2 _ rfl (K0L a o w h hx q)
    have Q30 : qE M25 e1 pb pN9 := yE.put I0.1 (I0.up h_e1) h_o0 K28 K28M rfl rfl rfl
    refine mv_aload_n d_Reader_refuse_5 rfl rfl ?_
    refine mv_aload_n d_Reader_refuse_6 rfl rfl ?_
    refine tr_getK (k := 11) (K28 _ 9 11 _ rfl q12) d_Reader_refuse_7 f_Reader_175_9 ?_
    refine tr_putKM tm_okF I26 h_o0 (k := 2) rfl ⟨_, rfl⟩ (Or.inl (by decide)) d_Reader_refuse_10 p_Reader_11_9 rfl rfl (fun M31 I32 q33 K34 K34M => ?_)
    have K35 : ∀ (a o : Nat) (w : Value), T0 a = some (3, 3, o) → o ≠ o1 → tm_at M0 a 0 2 w → tm_at M31 a 0 2 w := fun a o w h hx q => K34 _ 0 2 _ rfl (K29 a o w h hx q)
    have Q36 : qE M31 e1 pb pN9 := Q30.put I26.1 (I26.up h_e1) h_o0 K34 K34M rfl rfl rfl
    refine mv_iconst (v := 0) d_Reader_refuse_13 (by decide) ?_
    obtain ⟨s37, e38⟩ : ∃ s9 : p_S, p_fl pb pn 1 ps = s9 := ⟨_, rfl⟩
    have h39 := q_fl e38 (by omega) (by decide)
    have h40 : (1 : Int32).toInt = s37.1 := (by have e9 : (1 : Int32).toInt = 1 := (by decide); omega)
    have h41 : Im (s37.1 ≠ 0 → v5.toInt = (s37.2.1 : Int)) := Im.i (fun _ => by have := (Im.o h17) (by omega); omega)
    have h42 : Im (s37.1 = 0 → v3.toInt = (s37.2.2 : Int) ∧ v4.toInt = p_ki pb pn s37.2.2 ∧ v5.toInt = (p_st pb pn s37.2.2 : Int) ∧ v6.toInt = (p_sp pb pn s37.2.2 : Int) ∧ v7.toInt = p_va pb pn s37.2.2 ∧ v5.toInt = -1) := Im.i (fun z9 => absurd z9 h39.2.2)
    refine mv_iret d_Reader_refuse_14 rfl (by decide) ?_
    exact mv_iret d_Reader_clause_38 rfl (by decide) ⟨_, I32, _, rfl, by decide, by decide, fun h => absurd h (by decide), ⟨_, (K34 _ 0 2 _ rfl (K28 _ 0 2 _ rfl yz1)), by omega⟩, K35, (by have := (Im.o h17) (by omega); have := yC.d ps.2.2; have := yC.kn ps.2.2; have hb : s37.1 ≠ 0 := (by omega); have z1 : ∀ c, p_sg pb pn c s37 = s37 := (fun c => p_sg_Z s37 hb); have z2 : ∀ c, p_wd pb pn c s37 = s37 := (fun c => p_wd_Z s37 hb); have z3 : ∀ op, p_sum pb pn pa op s37 = s37 := (fun op => p_sum_Z s37 hb); have z4 : ∀ r oc, p_con pb pn pa r oc s37 = s37 := (fun r oc => p_con_Z s37 hb); have z5 : p_prt pb pn s37 = s37 := p_prt_Z s37 hb; have eT : (p_cl pb pn pa (pc9, pN9, ps)).2 = s37 := (by unfold p_cl; (try simp only [e38, z1, z2, z3, z4, z5]); ((repeat' (first | (with_reducible rfl) | split)) <;> (first | ((try simp only [e38, z1, z2, z3, z4, z5]); done) | (exfalso; omega)))); rw [eT]; exact ⟨⟨_, _, _, _, _, _, _, (K34 _ 9 1 _ rfl q27), q33, (K34 _ 9 9 _ rfl (K28 _ 9 9 _ rfl q10)), (K34 _ 9 10 _ rfl (K28 _ 9 10 _ rfl q11)), (K34 _ 9 11 _ rfl (K28 _ 9 11 _ rfl q12)), (K34 _ 9 12 _ rfl (K28 _ 9 12 _ rfl q13)), (K34 _ 9 13 _ rfl (K28 _ 9 13 _ rfl q14)), h40, Im.o h41, Im.o h42⟩, (Or.inr ⟨by first | decide | omega, by omega⟩), (fun h => absurd h (by decide))⟩)⟩
  · refine mv_aload_n d_Reader_isWord_8 rfl rfl ?_
    refine tr_getK (k := 13) q14 d_Reader_isWord_9 f_Reader_241_9 ?_
    refine mv_iload_n d_Reader_isWord_12 rfl rfl ?_
    have := mz_hi v7
    refine mv_icmp_neZ (tgt := 20) (a := v7.toInt) (b := 26) d_Reader_isWord_13 (by decide) rfl (by decide) (fun b43 => ?_) (fun b43 => ?_)
    · refine mv_iconst (v := 0) d_Reader_isWord_20 (by decide) ?_
      refine mv_iret d_Reader_isWord_21 rfl (by decide) ?_
      refine mv_istore_n (lv' := [(3, .int 0), (0, .ref o0), (1, .ref o1), (2, .int x2)]) d_Reader_clause_6 rfl (by decide) rfl ?_
      refine mv_aload_n d_Reader_clause_7 rfl rfl ?_
      refine mv_bipush (v := 24) d_Reader_clause_8 (by decide) ?_
      obtain ⟨_, b44, -⟩ := I0.1 _ _ h_o0
      refine mv_callV (kc1 := 0) (ks1 := 0) (kc' := 0) (ks' := 0) (As := [.int 24]) (st9 := [.int 24, .ref o0]) d_Reader_clause_10 lV_Reader_52 b44 rfl (mj_enter (by decide) (Nat.le_of_ble_eq_true rfl) ?_) rfl (Nat.le_of_ble_eq_true rfl) (Nat.le_of_ble_eq_true rfl) (Nat.le_of_ble_eq_true rfl) (hst := rfl) (fun _ _ _ h => h)
      refine mv_aload_n d_Reader_isWord_0 rfl rfl ?_
      refine tr_getK (k := 10) q11 d_Reader_isWord_1 f_Reader_41_9 ?_
      refine mv_iconst (v := 1) d_Reader_isWord_4 (by decide) ?_
      have := mz_hi v4
      refine mv_icmp_neZ (tgt := 20) (a := v4.toInt) (b := 1) d_Reader_isWord_5 (by decide) rfl (by decide) (fun b45 => absurd b45 (by omega)) (fun b45 => ?_)
      refine mv_aload_n d_Reader_isWord_8 rfl rfl ?_
      refine tr_getK (k := 13) q14 d_Reader_isWord_9 f_Reader_241_9 ?_
      refine mv_iload_n d_Reader_isWord_12 rfl rfl ?_
      have := mz_hi v7
      refine mv_icmp_neZ (tgt := 20) (a := v7.toInt) (b := 24) d_Reader_isWord_13 (by decide) rfl (by decide) (fun b46 => ?_) (fun b46 => ?_)
      · refine mv_iconst (v := 0) d_Reader_isWord_20 (by decide) ?_
        refine mv_iret d_Reader_isWord_21 rfl (by decide) ?_
        refine mv_istore (lv' := [(4, .int 0), (3, .int 0), (0, .ref o0), (1, .ref o1), (2, .int x2)]) d_Reader_clause_13 (by decide) rfl ?_
        refine mv_iload_n d_Reader_clause_15 rfl rfl ?_
        refine mv_if_ne_f (tgt := 39) d_Reader_clause_16 (by decide) (by decide) ?_
        refine mv_iload d_Reader_clause_19 rfl ?_
        refine mv_if_ne_f (tgt := 39) d_Reader_clause_21 (by decide) (by decide) ?_
        refine mv_aload_n d_Reader_clause_24 rfl rfl ?_
        refine mv_bipush (v := 25) d_Reader_clause_25 (by decide) ?_
        obtain ⟨_, b47, -⟩ := I0.1 _ _ h_o0
        refine mv_callV (kc1 := 0) (ks1 := 0) (kc' := 0) (ks' := 0) (As := [.int 25]) (st9 := [.int 25, .ref o0]) d_Reader_clause_27 lV_Reader_52 b47 rfl (mj_enter (by decide) (Nat.le_of_ble_eq_true rfl) ?_) rfl (Nat.le_of_ble_eq_true rfl) (Nat.le_of_ble_eq_true rfl) (Nat.le_of_ble_eq_true rfl) (hst := rfl) (fun _ _ _ h => h)
        refine mv_aload_n d_Reader_isWord_0 rfl rfl ?_
        refine tr_getK (k := 10) q11 d_Reader_isWord_1 f_Reader_41_9 ?_
        refine mv_iconst (v := 1) d_Reader_isWord_4 (by decide) ?_
        have := mz_hi v4
        refine mv_icmp_neZ (tgt := 20) (a := v4.toInt) (b := 1) d_Reader_isWord_5 (by decide) rfl (by decide) (fun b48 => absurd b48 (by omega)) (fun b48 => ?_)
        refine mv_aload_n d_Reader_isWord_8 rfl rfl ?_
        refine tr_getK (k := 13) q14 d_Reader_isWord_9 f_Reader_241_9 ?_
        refine mv_iload_n d_Reader_isWord_12 rfl rfl ?_
        have := mz_hi v7
        refine mv_icmp_neZ (tgt := 20) (a := v7.toInt) (b := 25) d_Reader_isWord_13 (by decide) rfl (by decide) (fun b49 => ?_) (fun b49 => ?_)
        · refine mv_iconst (v := 0) d_Reader_isWord_20 (by decide) ?_
          refine mv_iret d_Reader_isWord_21 rfl (by decide) ?_
          refine mv_if_ne_f (tgt := 39) d_Reader_clause_30 (by decide) (by decide) ?_
          refine mv_aload_n d_Reader_clause_33 rfl rfl ?_
          refine mv_iconst (v := 1) d_Reader_clause_34 (by decide) ?_
          obtain ⟨_, b50, -⟩ := I0.1 _ _ h_o0
          refine mv_callV (kc1 := 0) (ks1 := 0) (kc' := 0) (ks' := 0) (As := [.int 1]) (st9 := [.int 1, .ref o0]) d_Reader_clause_35 lV_Reader_56 b50 rfl (mj_enter (by decide) (Nat.le_of_ble_eq_true rfl) ?_) rfl (Nat.le_of_ble_eq_true rfl) (Nat.le_of_ble_eq_true rfl) (Nat.le_of_ble_eq_true rfl) (hst := rfl) (fun _ _ _ h => h)
          refine mv_aload_n d_Reader_refuse_0 rfl rfl ?_
          refine mv_iload_n d_Reader_refuse_1 rfl rfl ?_
          refine tr_putKM tm_okF I0 h_o0 (k := 1) rfl ⟨_, rfl⟩ (Or.inl (by decide)) d_Reader_refuse_2 p_Reader_70_9 rfl rfl (fun M51 I52 q53 K54 K54M => ?_)
          have K55 : ∀ (a o : Nat) (w : Value), T0 a = some (3, 3, o) → o ≠ o1 → tm_at M0 a 0 2 w → tm_at M51 a 0 2 w := fun a o w h hx q => K54 _ 0 2 _ rfl (K0L a o w h hx q)
          have Q56 : qE M51 e1 pb pN9 := yE.put I0.1 (I0.up h_e1) h_o0 K54 K54M rfl rfl rfl
          refine mv_aload_n d_Reader_refuse_5 rfl rfl ?_
          refine mv_aload_n d_Reader_refuse_6 rfl rfl ?_
          refine tr_getK (k := 11) (K54 _ 9 11 _ rfl q12) d_Reader_refuse_7 f_Reader_175_9 ?_
          refine tr_putKM tm_okF I52 h_o0 (k := 2) rfl ⟨_, rfl⟩ (Or.inl (by decide)) d_Reader_refuse_10 p_Reader_11_9 rfl rfl (fun M57 I58 q59 K60 K60M => ?_)
          have K61 : ∀ (a o : Nat) (w : Value), T0 a = some (3, 3, o) → o ≠ o1 → tm_at M0 a 0 2 w → tm_at M57 a 0 2 w := fun a o w h hx q => K60 _ 0 2 _ rfl (K55 a o w h hx q)
          have Q62 : qE M57 e1 pb pN9 := Q56.put I52.1 (I52.up h_e1) h_o0 K60 K60M rfl rfl rfl
          refine mv_iconst (v := 0) d_Reader_refuse_13 (by decide) ?_
          obtain ⟨s63, e64⟩ : ∃ s9 : p_S, p_fl pb pn 1 ps = s9 := ⟨_, rfl⟩
          have h65 := q_fl e64 (by omega) (by decide)
          have h66 : (1 : Int32).toInt = s63.1 := (by have e9 : (1 : Int32).toInt = 1 := (by decide); omega)
          have h67 : Im (s63.1 ≠ 0 → v5.toInt = (s63.2.1 : Int)) := Im.i (fun _ => by have := (Im.o h17) (by omega); omega)
          have h68 : Im (s63.1 = 0 → v3.toInt = (s63.2.2 : Int) ∧ v4.toInt = p_ki pb pn s63.2.2 ∧ v5.toInt = (p_st pb pn s63.2.2 : Int) ∧ v6.toInt = (p_sp pb pn s63.2.2 : Int) ∧ v7.toInt = p_va pb pn s63.2.2 ∧ v5.toInt = -1) := Im.i (fun z9 => absurd z9 h65.2.2)
          refine mv_iret d_Reader_refuse_14 rfl (by decide) ?_
          exact mv_iret d_Reader_clause_38 rfl (by decide) ⟨_, I58, _, rfl, by decide, by decide, fun h => absurd h (by decide), ⟨_, (K60 _ 0 2 _ rfl (K54 _ 0 2 _ rfl yz1)), by omega⟩, K61, (by have := (Im.o h17) (by omega); have := yC.d ps.2.2; have := yC.kn ps.2.2; have hb : s63.1 ≠ 0 := (by omega); have z1 : ∀ c, p_sg pb pn c s63 = s63 := (fun c => p_sg_Z s63 hb); have z2 : ∀ c, p_wd pb pn c s63 = s63 := (fun c => p_wd_Z s63 hb); have z3 : ∀ op, p_sum pb pn pa op s63 = s63 := (fun op => p_sum_Z s63 hb); have z4 : ∀ r oc, p_con pb pn pa r oc s63 = s63 := (fun r oc => p_con_Z s63 hb); have z5 : p_prt pb pn s63 = s63 := p_prt_Z s63 hb; have eT : (p_cl pb pn pa (pc9, pN9, ps)).2 = s63 := (by unfold p_cl; (try simp only [e64, z1, z2, z3, z4, z5]); ((repeat' (first | (with_reducible rfl) | split)) <;> (first | ((try simp only [e64, z1, z2, z3, z4, z5]); done) | (exfalso; omega)))); rw [eT]; exact ⟨⟨_, _, _, _, _, _, _, (K60 _ 9 1 _ rfl q53), q59, (K60 _ 9 9 _ rfl (K54 _ 9 9 _ rfl q10)), (K60 _ 9 10 _ rfl (K54 _ 9 10 _ rfl q11)), (K60 _ 9 11 _ rfl (K54 _ 9 11 _ rfl q12)), (K60 _ 9 12 _ rfl (K54 _ 9 12 _ rfl q13)), (K60 _ 9 13 _ rfl (K54 _ 9 13 _ rfl q14)), h66, Im.o h67, Im.o h68⟩, (Or.inr ⟨by first | decide | omega, by omega⟩), (fun h => absurd h (by decide))⟩)⟩
        · refine mv_iconst (v := 1) d_Reader_isWord_16 (by decide) ?_
          refine mv_goto (tgt := 21) d_Reader_isWord_17 (by decide) ?_
          refine mv_iret d_Reader_isWord_21 rfl (by decide) ?_
          refine mv_if_ne_t (tgt := 39) d_Reader_clause_30 (by decide) (by decide) ?_
          refine mv_iload_n d_Reader_clause_39 rfl rfl ?_
          refine mv_bipush (v := 12) d_Reader_clause_40 (by decide) ?_
          have := mz_hi x2
          refine mv_icmp_geZ (tgt := 61) (a := x2.toInt) (b := 12) d_Reader_clause_42 (by decide) rfl (by decide) (fun b69 => ?_) (fun b69 => ?_)
          · refine mv_aload_n d_Reader_clause_61 rfl rfl ?_
            refine mv_iconst (v := 4) d_Reader_clause_62 (by decide) ?_
            obtain ⟨_, b70, -⟩ := I0.1 _ _ h_o0
            refine mv_callV (kc1 := 0) (ks1 := 0) (kc' := 0) (ks' := 0) (As := [.int 4]) (st9 := [.int 4, .ref o0]) d_Reader_clause_63 lV_Reader_56 b70 rfl (mj_enter (by decide) (Nat.le_of_ble_eq_true rfl) ?_) rfl (Nat.le_of_ble_eq_true rfl) (Nat.le_of_ble_eq_true rfl) (Nat.le_of_ble_eq_true rfl) (hst := rfl) (fun _ _ _ h => h)
            refine mv_aload_n d_Reader_refuse_0 rfl rfl ?_
            refine mv_iload_n d_Reader_refuse_1 rfl rfl ?_
            refine tr_putKM tm_okF I0 h_o0 (k := 1) rfl ⟨_, rfl⟩ (Or.inl (by decide)) d_Reader_refuse_2 p_Reader_70_9 rfl rfl (fun M71 I72 q73 K74 K74M => ?_)
            have K75 : ∀ (a o : Nat) (w : Value), T0 a = some (3, 3, o) → o ≠ o1 → tm_at M0 a 0 2 w → tm_at M71 a 0 2 w := fun a o w h hx q => K74 _ 0 2 _ rfl (K0L a o w h hx q)
            have Q76 : qE M71 e1 pb pN9 := yE.put I0.1 (I0.up h_e1) h_o0 K74 K74M rfl rfl rfl
            refine mv_aload_n d_Reader_refuse_5 rfl rfl ?_
            refine mv_aload_n d_Reader_refuse_6 rfl rfl ?_
            refine tr_getK (k := 11) (K74 _ 9 11 _ rfl q12) d_Reader_refuse_7 f_Reader_175_9 ?_
            refine tr_putKM tm_okF I72 h_o0 (k := 2) rfl ⟨_, rfl⟩ (Or.inl (by decide)) d_Reader_refuse_10 p_Reader_11_9 rfl rfl (fun M77 I78 q79 K80 K80M => ?_)
            have K81 : ∀ (a o : Nat) (w : Value), T0 a = some (3, 3, o) → o ≠ o1 → tm_at M0 a 0 2 w → tm_at M77 a 0 2 w := fun a o w h hx q => K80 _ 0 2 _ rfl (K75 a o w h hx q)
            have Q82 : qE M77 e1 pb pN9 := Q76.put I72.1 (I72.up h_e1) h_o0 K80 K80M rfl rfl rfl
            refine mv_iconst (v := 0) d_Reader_refuse_13 (by decide) ?_
            obtain ⟨s83, e84⟩ : ∃ s9 : p_S, p_fl pb pn 4 ps = s9 := ⟨_, rfl⟩
            have h85 := q_fl e84 (by omega) (by decide)
            have h86 : (4 : Int32).toInt = s83.1 := (by have e9 : (4 : Int32).toInt = 4 := (by decide); omega)
            have h87 : Im (s83.1 ≠ 0 → v5.toInt = (s83.2.1 : Int)) := Im.i (fun _ => by have := (Im.o h17) (by omega); omega)
            have h88 : Im (s83.1 = 0 → v3.toInt = (s83.2.2 : Int) ∧ v4.toInt = p_ki pb pn s83.2.2 ∧ v5.toInt = (p_st pb pn s83.2.2 : Int) ∧ v6.toInt = (p_sp pb pn s83.2.2 : Int) ∧ v7.toInt = p_va pb pn s83.2.2 ∧ v5.toInt = -1) := Im.i (fun z9 => absurd z9 h85.2.2)
            refine mv_iret d_Reader_refuse_14 rfl (by decide) ?_
            exact mv_iret d_Reader_clause_66 rfl (by decide) ⟨_, I78, _, rfl, by decide, by decide, fun h => absurd h (by decide), ⟨_, (K80 _ 0 2 _ rfl (K74 _ 0 2 _ rfl yz1)), by omega⟩, K81, (by have := (Im.o h17) (by omega); have := yC.d ps.2.2; have := yC.kn ps.2.2; have hb : s83.1 ≠ 0 := (by omega); have z1 : ∀ c, p_sg pb pn c s83 = s83 := (fun c => p_sg_Z s83 hb); have z2 : ∀ c, p_wd pb pn c s83 = s83 := (fun c => p_wd_Z s83 hb); have z3 : ∀ op, p_sum pb pn pa op s83 = s83 := (fun op => p_sum_Z s83 hb); have z4 : ∀ r oc, p_con pb pn pa r oc s83 = s83 := (fun r oc => p_con_Z s83 hb); have z5 : p_prt pb pn s83 = s83 := p_prt_Z s83 hb; have eT : (p_cl pb pn pa (pc9, pN9, ps)).2 = s83 := (by unfold p_cl; (try simp only [e84, z1, z2, z3, z4, z5]); ((repeat' (first | (with_reducible rfl) | split)) <;> (first | ((try simp only [e84, z1, z2, z3, z4, z5]); done) | (exfalso; omega)))); rw [eT]; exact ⟨⟨_, _, _, _, _, _, _, (K80 _ 9 1 _ rfl q73), q79, (K80 _ 9 9 _ rfl (K74 _ 9 9 _ rfl q10)), (K80 _ 9 10 _ rfl (K74 _ 9 10 _ rfl q11)), (K80 _ 9 11 _ rfl (K74 _ 9 11 _ rfl q12)), (K80 _ 9 12 _ rfl (K74 _ 9 12 _ rfl q13)), (K80 _ 9 13 _ rfl (K74 _ 9 13 _ rfl q14)), h86, Im.o h87, Im.o h88⟩, (Or.inr ⟨by first | decide | omega, by omega⟩), (fun h => absurd h (by decide))⟩)⟩
          · refine mv_iload_n d_Reader_clause_45 rfl rfl ?_
            refine mv_if_eq_t (tgt := 67) d_Reader_clause_46 (by decide) (by decide) ?_
            refine mv_iload_n d_Reader_clause_67 rfl rfl ?_
            refine mv_if_eq_t (tgt := 105) d_Reader_clause_68 (by decide) (by decide) ?_
            refine mv_iload d_Reader_clause_105 rfl ?_
            refine mv_if_eq_t (tgt := 121) d_Reader_clause_107 (by decide) (by decide) ?_
            refine mv_aload_n d_Reader_clause_121 rfl rfl ?_
            refine mv_aload_n d_Reader_clause_122 rfl rfl ?_
            obtain ⟨_, b95, -⟩ := I0.1 _ _ h_o0
            refine mv_callV (kc' := 0) (ks' := 0) (As := [.ref o1]) (st9 := [.ref o1, .ref o0]) d_Reader_clause_123 lV_Reader_160 b95 rfl (tc_Reader_trustClause_x (d := (d + 18)) (x9 := x9) (o0 := o0) (o1 := o1) h_o0 h_o1 (hK I0) ⟨_, _, _, _, _, _, _, q8, q9, q10, q11, q12, q13, q14, h15, Im.o h16, Im.o h17⟩ (by omega) (by have := (Im.o h17) (by omega); have := yC.d ps.2.2; have := yC.kn ps.2.2; show p_ki pb pn ps.2.2 ≠ 0; omega) I0.start) rfl (Nat.le_of_ble_eq_true rfl) (Nat.le_of_ble_eq_true rfl) (Nat.le_of_ble_eq_true rfl) (hst := rfl) (fun b89r M90 n91 b89 => ?_)
            obtain ⟨T92, J93, v96, rfl, b97, b98, f99, f100⟩ := b89
            have I94 := I0.call J93 (tm_sub (by decide)) (Or.inl rfl)
            have t101 := J93.up h_o0
            have t102 := J93.up h_o1
            have K103 : ∀ (a o : Nat) (w : Value), T0 a = some (3, 3, o) → o ≠ o1 → tm_at M0 a 0 2 w → tm_at M90 a 0 2 w := fun a o w h hx q => J93.keepL (I0.up h) (by decide) (K0L a o w h hx q)
            have Q104 : qE M90 e1 pb pN9 := yE.keep I0.1 J93 (I0.up h_e1) (by decide) (by decide) (by decide)
            have q105 := J93.keep h_o0 (by decide) hO
            have q106 := J93.keep h_o1 (by decide) yq1
            have t107 := J93.up h_e1
            have q108 := J93.keepL h_e1 (by decide) yz1
            obtain ⟨s109, e110⟩ : ∃ s9 : p_S, p_tru pb pn (p_nx ps) = s9 := ⟨_, rfl⟩
            rw [e110] at f99 f100
            obtain ⟨v111, v112, v113, v114, v115, v116, v117, q118, q119, q120, q121, q122, q123, q124, h125, h126, h127⟩ := f99
            replace h126 := Im.i h126
            replace h127 := Im.i h127
            have := mz_hi v96
            refine mv_if_neZ (tgt := 131) (a := v96.toInt) d_Reader_clause_126 (by decide) rfl (fun b128 => ?_) (fun b128 => ?_)
            · refine mv_aload_n d_Reader_clause_131 rfl rfl ?_
              refine mv_bipush (v := 59) d_Reader_clause_132 (by decide) ?_
              obtain ⟨_, b135, -⟩ := I94.1 _ _ t101
              refine mv_callV (kc' := 0) (ks' := 0) (As := [.int 59]) (st9 := [.int 59, .ref o0]) d_Reader_clause_134 lV_Reader_63 b135 rfl (tc_Reader_sign_x (d := (d + 19)) (x9 := x9) (o0 := o0) (x1 := 59) t101 (hK I94) ⟨_, _, _, _, _, _, _, q118, q119, q120, q121, q122, q123, q124, h125, Im.o h126, Im.o h127⟩ (by omega) (by first | omega | decide) I94.start) rfl (Nat.le_of_ble_eq_true rfl) (Nat.le_of_ble_eq_true rfl) (Nat.le_of_ble_eq_true rfl) (hst := rfl) (fun b129r M130 n131 b129 => ?_)
              obtain ⟨T132, J133, v136, rfl, b137, b138, f139, f140⟩ := b129
              have I134 := I94.call J133 (tm_sub (by decide)) (Or.inl rfl)
              have t141 := J133.up t101
              have t142 := J133.up t102
              have K143 : ∀ (a o : Nat) (w : Value), T0 a = some (3, 3, o) → o ≠ o1 → tm_at M0 a 0 2 w → tm_at M130 a 0 2 w := fun a o w h hx q => J133.keepL (I94.up h) (by decide) (K103 a o w h hx q)
              have Q144 : qE M130 e1 pb pN9 := Q104.keep I94.1 J133 (I94.up h_e1) (by decide) (by decide) (by decide)
              have q145 := J133.keep t101 (by decide) q105
              have q146 := J133.keep t102 (by decide) q106
              have t147 := J133.up t107
              have q148 := J133.keepL t107 (by decide) q108
              rw [show (59 : Int32).toInt = 59 from by decide] at f139 f140
              obtain ⟨s149, e150⟩ : ∃ s9 : p_S, p_sg pb pn 59 s109 = s9 := ⟨_, rfl⟩
              rw [e150] at f139 f140
              obtain ⟨v151, v152, v153, v154, v155, v156, v157, q158, q159, q160, q161, q162, q163, q164, h165, h166, h167⟩ := f139
              replace h166 := Im.i h166
              replace h167 := Im.i h167
              exact mv_iret d_Reader_clause_137 rfl (mz_nb (by omega) (by omega)) ⟨_, I134, _, rfl, by omega, by omega, fun _ => q145, ⟨_, q148, by omega⟩, K143, (by have := (Im.o h17) (by omega); have := yC.d ps.2.2; have := yC.kn ps.2.2; have eT : (p_cl pb pn pa (pc9, pN9, ps)).2 = s149 := (by unfold p_cl; (try simp only [e110, e150]); ((repeat' (first | (with_reducible rfl) | split)) <;> (first | ((try simp only [e110, e150]); done) | (exfalso; omega)))); rw [eT]; exact ⟨⟨_, _, _, _, _, _, _, q158, q159, q160, q161, q162, q163, q164, h165, Im.o h166, Im.o h167⟩, (by omega), (fun _ => by have eN : (p_cl pb pn pa (pc9, pN9, ps)).1 = pN9 := (by unfold p_cl; (repeat' split) <;> first | rfl | (exfalso; omega)); rw [eN]; exact Q144)⟩)⟩
            · refine mv_iconst (v := 0) d_Reader_clause_129 (by decide) ?_
              exact mv_iret d_Reader_clause_130 rfl (by decide) ⟨_, I94, _, rfl, by decide, by decide, fun h => absurd h (by decide), ⟨_, q108, by omega⟩, K103, (by have := (Im.o h17) (by omega); have := yC.d ps.2.2; have := yC.kn ps.2.2; have hb : s109.1 ≠ 0 := (by omega); have z1 : ∀ c, p_sg pb pn c s109 = s109 := (fun c => p_sg_Z s109 hb); have z2 : ∀ c, p_wd pb pn c s109 = s109 := (fun c => p_wd_Z s109 hb); have z3 : ∀ op, p_sum pb pn pa op s109 = s109 := (fun op => p_sum_Z s109 hb); have z4 : ∀ r oc, p_con pb pn pa r oc s109 = s109 := (fun r oc => p_con_Z s109 hb); have z5 : p_prt pb pn s109 = s109 := p_prt_Z s109 hb; have eT : (p_cl pb pn pa (pc9, pN9, ps)).2 = s109 := (by unfold p_cl; (try simp only [e110, z1, z2, z3, z4, z5]); ((repeat' (first | (with_reducible rfl) | split)) <;> (first | ((try simp only [e110, z1, z2, z3, z4, z5]); done) | (exfalso; omega)))); rw [eT]; exact ⟨⟨_, _, _, _, _, _, _, q118, q119, q120, q121, q122, q123, q124, h125, Im.o h126, Im.o h127⟩, (Or.inr ⟨by first | decide | omega, by omega⟩), (fun h => absurd h (by decide))⟩)⟩
      · refine mv_iconst (v := 1) d_Reader_isWord_16 (by decide) ?_
        refine mv_goto (tgt := 21) d_Reader_isWord_17 (by decide) ?_
        refine mv_iret d_Reader_isWord_21 rfl (by decide) ?_
        refine mv_istore (lv' := [(4, .int 1), (3, .int 0), (0, .ref o0), (1, .ref o1), (2, .int x2)]) d_Reader_clause_13 (by decide) rfl ?_
        refine mv_iload_n d_Reader_clause_15 rfl rfl ?_
        refine mv_if_ne_f (tgt := 39) d_Reader_clause_16 (by decide) (by decide) ?_
        refine mv_iload d_Reader_clause_19 rfl ?_
        refine mv_if_ne_t (tgt := 39) d_Reader_clause_21 (by decide) (by decide) ?_
        refine mv_iload_n d_Reader_clause_39 rfl rfl ?_
        refine mv_bipush (v := 12) d_Reader_clause_40 (by decide) ?_
        have := mz_hi x2
        refine mv_icmp_geZ (tgt := 61) (a := x2.toInt) (b := 12) d_Reader_clause_42 (by decide) rfl (by decide) (fun b168 => ?_) (fun b168 => ?_)
        · refine mv_aload_n d_Reader_clause_61 rfl rfl ?_
          refine mv_iconst (v := 4) d_Reader_clause_62 (by decide) ?_
          obtain ⟨_, b169, -⟩ := I0.1 _ _ h_o0
          refine mv_callV (kc1 := 0) (ks1 := 0) (kc' := 0) (ks' := 0) (As := [.int 4]) (st9 := [.int 4, .ref o0]) d_Reader_clause_63 lV_Reader_56 b169 rfl (mj_enter (by decide) (Nat.le_of_ble_eq_true rfl) ?_) rfl (Nat.le_of_ble_eq_true rfl) (Nat.le_of_ble_eq_true rfl) (Nat.le_of_ble_eq_true rfl) (hst := rfl) (fun _ _ _ h => h)
          refine mv_aload_n d_Reader_refuse_0 rfl rfl ?_
          refine mv_iload_n d_Reader_refuse_1 rfl rfl ?_
          refine tr_putKM tm_okF I0 h_o0 (k := 1) rfl ⟨_, rfl⟩ (Or.inl (by decide)) d_Reader_refuse_2 p_Reader_70_9 rfl rfl (fun M170 I171 q172 K173 K173M => ?_)
          have K174 : ∀ (a o : Nat) (w : Value), T0 a = some (3, 3, o) → o ≠ o1 → tm_at M0 a 0 2 w → tm_at M170 a 0 2 w := fun a o w h hx q => K173 _ 0 2 _ rfl (K0L a o w h hx q)
          have Q175 : qE M170 e1 pb pN9 := yE.put I0.1 (I0.up h_e1) h_o0 K173 K173M rfl rfl rfl
          refine mv_aload_n d_Reader_refuse_5 rfl rfl ?_
          refine mv_aload_n d_Reader_refuse_6 rfl rfl ?_
          refine tr_getK (k := 11) (K173 _ 9 11 _ rfl q12) d_Reader_refuse_7 f_Reader_175_9 ?_
          refine tr_putKM tm_okF I171 h_o0 (k := 2) rfl ⟨_, rfl⟩ (Or.inl (by decide)) d_Reader_refuse_10 p_Reader_11_9 rfl rfl (fun M176 I177 q178 K179 K179M => ?_)
          have K180 : ∀ (a o : Nat) (w : Value), T0 a = some (3, 3, o) → o ≠ o1 → tm_at M0 a 0 2 w → tm_at M176 a 0 2 w := fun a o w h hx q => K179 _ 0 2 _ rfl (K174 a o w h hx q)
          have Q181 : qE M176 e1 pb pN9 := Q175.put I171.1 (I171.up h_e1) h_o0 K179 K179M rfl rfl rfl
          refine mv_iconst (v := 0) d_Reader_refuse_13 (by decide) ?_
          obtain ⟨s182, e183⟩ : ∃ s9 : p_S, p_fl pb pn 4 ps = s9 := ⟨_, rfl⟩
          have h184 := q_fl e183 (by omega) (by decide)
          have h185 : (4 : Int32).toInt = s182.1 := (by have e9 : (4 : Int32).toInt = 4 := (by decide); omega)
          have h186 : Im (s182.1 ≠ 0 → v5.toInt = (s182.2.1 : Int)) := Im.i (fun _ => by have := (Im.o h17) (by omega); omega)
          have h187 : Im (s182.1 = 0 → v3.toInt = (s182.2.2 : Int) ∧ v4.toInt = p_ki pb pn s182.2.2 ∧ v5.toInt = (p_st pb pn s182.2.2 : Int) ∧ v6.toInt = (p_sp pb pn s182.2.2 : Int) ∧ v7.toInt = p_va pb pn s182.2.2 ∧ v5.toInt = -1) := Im.i (fun z9 => absurd z9 h184.2.2)
          refine mv_iret d_Reader_refuse_14 rfl (by decide) ?_
          exact mv_iret d_Reader_clause_66 rfl (by decide) ⟨_, I177, _, rfl, by decide, by decide, fun h => absurd h (by decide), ⟨_, (K179 _ 0 2 _ rfl (K173 _ 0 2 _ rfl yz1)), by omega⟩, K180, (by have := (Im.o h17) (by omega); have := yC.d ps.2.2; have := yC.kn ps.2.2; have hb : s182.1 ≠ 0 := (by omega); have z1 : ∀ c, p_sg pb pn c s182 = s182 := (fun c => p_sg_Z s182 hb); have z2 : ∀ c, p_wd pb pn c s182 = s182 := (fun c => p_wd_Z s182 hb); have z3 : ∀ op, p_sum pb pn pa op s182 = s182 := (fun op => p_sum_Z s182 hb); have z4 : ∀ r oc, p_con pb pn pa r oc s182 = s182 := (fun r oc => p_con_Z s182 hb); have z5 : p_prt pb pn s182 = s182 := p_prt_Z s182 hb; have eT : (p_cl pb pn pa (pc9, pN9, ps)).2 = s182 := (by unfold p_cl; (try simp only [e183, z1, z2, z3, z4, z5]); ((repeat' (first | (with_reducible rfl) | split)) <;> (first | ((try simp only [e183, z1, z2, z3, z4, z5]); done) | (exfalso; omega)))); rw [eT]; exact ⟨⟨_, _, _, _, _, _, _, (K179 _ 9 1 _ rfl q172), q178, (K179 _ 9 9 _ rfl (K173 _ 9 9 _ rfl q10)), (K179 _ 9 10 _ rfl (K173 _ 9 10 _ rfl q11)), (K179 _ 9 11 _ rfl (K173 _ 9 11 _ rfl q12)), (K179 _ 9 12 _ rfl (K173 _ 9 12 _ rfl q13)), (K179 _ 9 13 _ rfl (K173 _ 9 13 _ rfl q14)), h185, Im.o h186, Im.o h187⟩, (Or.inr ⟨by first | decide | omega, by omega⟩), (fun h => absurd h (by decide))⟩)⟩
        · refine mv_iload_n d_Reader_clause_45 rfl rfl ?_
          refine mv_if_eq_t (tgt := 67) d_Reader_clause_46 (by decide) (by decide) ?_
          refine mv_iload_n d_Reader_clause_67 rfl rfl ?_
          refine mv_if_eq_t (tgt := 105) d_Reader_clause_68 (by decide) (by decide) ?_
          refine mv_iload d_Reader_clause_105 rfl ?_
          refine mv_if_eq_f (tgt := 121) d_Reader_clause_107 (by decide) (by decide) ?_
          refine mv_aload_n d_Reader_clause_110 rfl rfl ?_
          refine mv_aload_n d_Reader_clause_111 rfl rfl ?_
          obtain ⟨_, b194, -⟩ := I0.1 _ _ h_o0
          refine mv_callV (kc' := 0) (ks' := 0) (As := [.ref o1]) (st9 := [.ref o1, .ref o0]) d_Reader_clause_112 lV_Reader_156 b194 rfl (tc_Reader_markClause_x (d := (d + 18)) (x9 := x9) (o0 := o0) (o1 := o1) h_o0 h_o1 (ps := ps) (hK I0) ⟨_, _, _, _, _, _, _, q8, q9, q10, q11, q12, q13, q14, h15, Im.o h16, Im.o h17⟩ (by omega) (by have := (Im.o h17) (by omega); have := yC.d ps.2.2; have := yC.kn ps.2.2; show p_ki pb pn ps.2.2 ≠ 0; omega) I0.start) rfl (Nat.le_of_ble_eq_true rfl) (Nat.le_of_ble_eq_true rfl) (Nat.le_of_ble_eq_true rfl) (hst := rfl) (fun b188r M189 n190 b188 => ?_)
          obtain ⟨T191, J192, v195, rfl, b196, b197, f198⟩ := b188
          have I193 := I0.call J192 (tm_sub (by decide)) (Or.inl rfl)
          have t199 := J192.up h_o0
          have t200 := J192.up h_o1
          have K201 : ∀ (a o : Nat) (w : Value), T0 a = some (3, 3, o) → o ≠ o1 → tm_at M0 a 0 2 w → tm_at M189 a 0 2 w := fun a o w h hx q => J192.keepL (I0.up h) (by decide) (K0L a o w h hx q)
          have Q202 : qE M189 e1 pb pN9 := yE.keep I0.1 J192 (I0.up h_e1) (by decide) (by decide) (by decide)
          have q203 := J192.keep h_o0 (by decide) hO
          have q204 := J192.keep h_o1 (by decide) yq1
          have t205 := J192.up h_e1
          have q206 := J192.keepL h_e1 (by decide) yz1
          obtain ⟨s207, f208, f209, f210, f211⟩ := f198
          replace f210 := Im.i f210
          replace f211 := Im.i f211
          obtain ⟨v212, v213, v214, v215, v216, v217, v218, q219, q220, q221, q222, q223, q224, q225, h226, h227, h228⟩ := f208
          replace h227 := Im.i h227
          replace h228 := Im.i h228
          have := mz_hi v195
          refine mv_if_eqZ (tgt := 129) (a := v195.toInt) d_Reader_clause_115 (by decide) rfl (fun b229 => ?_) (fun b229 => ?_)
          · refine mv_iconst (v := 0) d_Reader_clause_129 (by decide) ?_
            exact mv_iret d_Reader_clause_130 rfl (by decide) ⟨_, I193, _, rfl, by decide, by decide, fun h => absurd h (by decide), ⟨_, q206, by omega⟩, K201, (by have := (Im.o h17) (by omega); have := yC.d ps.2.2; have := yC.kn ps.2.2; have eK := (Im.o f211) (by omega); have hb : s207.1 ≠ 0 := (by omega); have z1 : ∀ c, p_sg pb pn c s207 = s207 := (fun c => p_sg_Z s207 hb); have z2 : ∀ c, p_wd pb pn c s207 = s207 := (fun c => p_wd_Z s207 hb); have z3 : ∀ op, p_sum pb pn pa op s207 = s207 := (fun op => p_sum_Z s207 hb); have z4 : ∀ r oc, p_con pb pn pa r oc s207 = s207 := (fun r oc => p_con_Z s207 hb); have z5 : p_prt pb pn s207 = s207 := p_prt_Z s207 hb; have eT : (p_cl pb pn pa (pc9, pN9, ps)).2 = s207 := (by unfold p_cl; (try simp only [eK, z1, z2, z3, z4, z5]); ((repeat' (first | (with_reducible rfl) | split)) <;> (first | ((try simp only [eK, z1, z2, z3, z4, z5]); done) | (exfalso; omega)))); rw [eT]; exact ⟨⟨_, _, _, _, _, _, _, q219, q220, q221, q222, q223, q224, q225, h226, Im.o h227, Im.o h228⟩, (Or.inr ⟨by first | decide | omega, by omega⟩), (fun h => absurd h (by decide))⟩)⟩
          · refine mv_goto (tgt := 131) d_Reader_clause_118 (by decide) ?_
            refine mv_aload_n d_Reader_clause_131 rfl rfl ?_
            refine mv_bipush (v := 59) d_Reader_clause_132 (by decide) ?_
            obtain ⟨_, b236, -⟩ := I193.1 _ _ t199
            refine mv_callV (kc' := 0) (ks' := 0) (As := [.int 59]) (st9 := [.int 59, .ref o0]) d_Reader_clause_134 lV_Reader_63 b236 rfl (tc_Reader_sign_x (d := (d + 19)) (x9 := x9) (o0 := o0) (x1 := 59) t199 (hK I193) ⟨_, _, _, _, _, _, _, q219, q220, q221, q222, q223, q224, q225, h226, Im.o h227, Im.o h228⟩ (by omega) (by first | omega | decide) I193.start) rfl (Nat.le_of_ble_eq_true rfl) (Nat.le_of_ble_eq_true rfl) (Nat.le_of_ble_eq_true rfl) (hst := rfl) (fun b230r M231 n232 b230 => ?_)
            obtain ⟨T233, J234, v237, rfl, b238, b239, f240, f241⟩ := b230
            have I235 := I193.call J234 (tm_sub (by decide)) (Or.inl rfl)
            have t242 := J234.up t199
            have t243 := J234.up t200
            have K244 : ∀ (a o : Nat) (w : Value), T0 a = some (3, 3, o) → o ≠ o1 → tm_at M0 a 0 2 w → tm_at M231 a 0 2 w := fun a o w h hx q => J234.keepL (I193.up h) (by decide) (K201 a o w h hx q)
            have Q245 : qE M231 e1 pb pN9 := Q202.keep I193.1 J234 (I193.up h_e1) (by decide) (by decide) (by decide)
            have q246 := J234.keep t199 (by decide) q203
            have q247 := J234.keep t200 (by decide) q204
            have t248 := J234.up t205
            have q249 := J234.keepL t205 (by decide) q206
            rw [show (59 : Int32).toInt = 59 from by decide] at f240 f241
            obtain ⟨s250, e251⟩ : ∃ s9 : p_S, p_sg pb pn 59 s207 = s9 := ⟨_, rfl⟩
            rw [e251] at f240 f241
            obtain ⟨v252, v253, v254, v255, v256, v257, v258, q259, q260, q261, q262, q263, q264, q265, h266, h267, h268⟩ := f240
            replace h267 := Im.i h267
            replace h268 := Im.i h268
            exact mv_iret d_Reader_clause_137 rfl (mz_nb (by omega) (by omega)) ⟨_, I235, _, rfl, by omega, by omega, fun _ => q246, ⟨_, q249, by omega⟩, K244, (by have := (Im.o h17) (by omega); have := yC.d ps.2.2; have := yC.kn ps.2.2; have eK := (Im.o f210) (by omega); have eT : (p_cl pb pn pa (pc9, pN9, ps)).2 = s250 := (by unfold p_cl; (try simp only [eK, e251]); ((repeat' (first | (with_reducible rfl) | split)) <;> (first | ((try simp only [eK, e251]); done) | (exfalso; omega)))); rw [eT]; exact ⟨⟨_, _, _, _, _, _, _, q259, q260, q261, q262, q263, q264, q265, h266, Im.o h267, Im.o h268⟩, (by omega), (fun _ => by have eN : (p_cl pb pn pa (pc9, pN9, ps)).1 = pN9 := (by unfold p_cl; (repeat' split) <;> first | rfl | (exfalso; omega)); rw [eN]; exact Q245)⟩)⟩
    · refine mv_iconst (v := 1) d_Reader_isWord_16 (by decide) ?_
      refine mv_goto (tgt := 21) d_Reader_isWord_17 (by decide) ?_
      refine mv_iret d_Reader_isWord_21 rfl (by decide) ?_
      refine mv_istore_n (lv' := [(3, .int 1), (0, .ref o0), (1, .ref o1), (2, .int x2)]) d_Reader_clause_6 rfl (by decide) rfl ?_
      refine mv_aload_n d_Reader_clause_7 rfl rfl ?_
      refine mv_bipush (v := 24) d_Reader_clause_8 (by decide) ?_
      obtain ⟨_, b269, -⟩ := I0.1 _ _ h_o0
      refine mv_callV (kc1 := 0) (ks1 := 0) (kc' := 7) (ks' := 965) (As := [.int 24]) (st9 := [.int 24, .ref o0]) d_Reader_clause_10 lV_Reader_52 b269 rfl (mj_enter (by decide) (Nat.le_of_ble_eq_true rfl) ?_) rfl (Nat.le_of_ble_eq_true rfl) (Nat.le_of_ble_eq_true rfl) (Nat.le_of_ble_eq_true rfl) (hst := rfl) (fun _ _ _ h => h)
      refine mv_aload_n d_Reader_isWord_0 rfl rfl ?_
      refine tr_getK (k := 10) q11 d_Reader_isWord_1 f_Reader_41_9 ?_
      refine mv_iconst (v := 1) d_Reader_isWord_4 (by decide) ?_
      have := mz_hi v4
      refine mv_icmp_neZ (tgt := 20) (a := v4.toInt) (b := 1) d_Reader_isWord_5 (by decide) rfl (by decide) (fun b270 => absurd b270 (by omega)) (fun b270 => ?_)
      refine mv_aload_n d_Reader_isWord_8 rfl rfl ?_
      refine tr_getK (k := 13) q14 d_Reader_isWord_9 f_Reader_241_9 ?_
      refine mv_iload_n d_Reader_isWord_12 rfl rfl ?_
      have := mz_hi v7
      refine mv_icmp_neZ (tgt := 20) (a := v7.toInt) (b := 24) d_Reader_isWord_13 (by decide) rfl (by decide) (fun b271 => ?_) (fun b271 => absurd b271 (by omega))
      refine mv_iconst (v := 0) d_Reader_isWord_20 (by decide) ?_
      refine mv_iret d_Reader_isWord_21 rfl (by decide) ?_
      refine mv_istore (lv' := [(4, .int 0), (3, .int 1), (0, .ref o0), (1, .ref o1), (2, .int x2)]) d_Reader_clause_13 (by decide) rfl ?_
      refine mv_iload_n d_Reader_clause_15 rfl rfl ?_
      refine mv_if_ne_t (tgt := 39) d_Reader_clause_16 (by decide) (by decide) ?_
      refine mv_iload_n d_Reader_clause_39 rfl rfl ?_
      refine mv_bipush (v := 12) d_Reader_clause_40 (by decide) ?_
      have := mz_hi x2
      refine mv_icmp_geZ (tgt := 61) (a := x2.toInt) (b := 12) d_Reader_clause_42 (by decide) rfl (by decide) (fun b272 => ?_) (fun b272 => ?_)
      · refine mv_aload_n d_Reader_clause_61 rfl rfl ?_
        refine mv_iconst (v := 4) d_Reader_clause_62 (by decide) ?_
        obtain ⟨_, b273, -⟩ := I0.1 _ _ h_o0
        refine mv_callV (kc1 := 0) (ks1 := 0) (kc' := 0) (ks' := 0) (As := [.int 4]) (st9 := [.int 4, .ref o0]) d_Reader_clause_63 lV_Reader_56 b273 rfl (mj_enter (by decide) (Nat.le_of_ble_eq_true rfl) ?_) rfl (Nat.le_of_ble_eq_true rfl) (Nat.le_of_ble_eq_true rfl) (Nat.le_of_ble_eq_true rfl) (hst := rfl) (fun _ _ _ h => h)
        refine mv_aload_n d_Reader_refuse_0 rfl rfl ?_
        refine mv_iload_n d_Reader_refuse_1 rfl rfl ?_
        refine tr_putKM tm_okF I0 h_o0 (k := 1) rfl ⟨_, rfl⟩ (Or.inl (by decide)) d_Reader_refuse_2 p_Reader_70_9 rfl rfl (fun M274 I275 q276 K277 K277M => ?_)
        have K278 : ∀ (a o : Nat) (w : Value), T0 a = some (3, 3, o) → o ≠ o1 → tm_at M0 a 0 2 w → tm_at M274 a 0 2 w := fun a o w h hx q => K277 _ 0 2 _ rfl (K0L a o w h hx q)
        have Q279 : qE M274 e1 pb pN9 := yE.put I0.1 (I0.up h_e1) h_o0 K277 K277M rfl rfl rfl
        refine mv_aload_n d_Reader_refuse_5 rfl rfl ?_
        refine mv_aload_n d_Reader_refuse_6 rfl rfl ?_
        refine tr_getK (k := 11) (K277 _ 9 11 _ rfl q12) d_Reader_refuse_7 f_Reader_175_9 ?_
        refine tr_putKM tm_okF I275 h_o0 (k := 2) rfl ⟨_, rfl⟩ (Or.inl (by decide)) d_Reader_refuse_10 p_Reader_11_9 rfl rfl (fun M280 I281 q282 K283 K283M => ?_)
        have K284 : ∀ (a o : Nat) (w : Value), T0 a = some (3, 3, o) → o ≠ o1 → tm_at M0 a 0 2 w → tm_at M280 a 0 2 w := fun a o w h hx q => K283 _ 0 2 _ rfl (K278 a o w h hx q)
        have Q285 : qE M280 e1 pb pN9 := Q279.put I275.1 (I275.up h_e1) h_o0 K283 K283M rfl rfl rfl
        refine mv_iconst (v := 0) d_Reader_refuse_13 (by decide) ?_
        obtain ⟨s286, e287⟩ : ∃ s9 : p_S, p_fl pb pn 4 ps = s9 := ⟨_, rfl⟩
        have h288 := q_fl e287 (by omega) (by decide)
        have h289 : (4 : Int32).toInt = s286.1 := (by have e9 : (4 : Int32).toInt = 4 := (by decide); omega)
        have h290 : Im (s286.1 ≠ 0 → v5.toInt = (s286.2.1 : Int)) := Im.i (fun _ => by have := (Im.o h17) (by omega); omega)
        have h291 : Im (s286.1 = 0 → v3.toInt = (s286.2.2 : Int) ∧ v4.toInt = p_ki pb pn s286.2.2 ∧ v5.toInt = (p_st pb pn s286.2.2 : Int) ∧ v6.toInt = (p_sp pb pn s286.2.2 : Int) ∧ v7.toInt = p_va pb pn s286.2.2 ∧ v5.toInt = -1) := Im.i (fun z9 => absurd z9 h288.2.2)
        refine mv_iret d_Reader_refuse_14 rfl (by decide) ?_
        exact mv_iret d_Reader_clause_66 rfl (by decide) ⟨_, I281, _, rfl, by decide, by decide, fun h => absurd h (by decide), ⟨_, (K283 _ 0 2 _ rfl (K277 _ 0 2 _ rfl yz1)), by omega⟩, K284, (by have := (Im.o h17) (by omega); have := yC.d ps.2.2; have := yC.kn ps.2.2; have hb : s286.1 ≠ 0 := (by omega); have z1 : ∀ c, p_sg pb pn c s286 = s286 := (fun c => p_sg_Z s286 hb); have z2 : ∀ c, p_wd pb pn c s286 = s286 := (fun c => p_wd_Z s286 hb); have z3 : ∀ op, p_sum pb pn pa op s286 = s286 := (fun op => p_sum_Z s286 hb); have z4 : ∀ r oc, p_con pb pn pa r oc s286 = s286 := (fun r oc => p_con_Z s286 hb); have z5 : p_prt pb pn s286 = s286 := p_prt_Z s286 hb; have eT : (p_cl pb pn pa (pc9, pN9, ps)).2 = s286 := (by unfold p_cl; (try simp only [e287, z1, z2, z3, z4, z5]); ((repeat' (first | (with_reducible rfl) | split)) <;> (first | ((try simp only [e287, z1, z2, z3, z4, z5]); done) | (exfalso; omega)))); rw [eT]; exact ⟨⟨_, _, _, _, _, _, _, (K283 _ 9 1 _ rfl q276), q282, (K283 _ 9 9 _ rfl (K277 _ 9 9 _ rfl q10)), (K283 _ 9 10 _ rfl (K277 _ 9 10 _ rfl q11)), (K283 _ 9 11 _ rfl (K277 _ 9 11 _ rfl q12)), (K283 _ 9 12 _ rfl (K277 _ 9 12 _ rfl q13)), (K283 _ 9 13 _ rfl (K277 _ 9 13 _ rfl q14)), h289, Im.o h290, Im.o h291⟩, (Or.inr ⟨by first | decide | omega, by omega⟩), (fun h => absurd h (by decide))⟩)⟩
      · refine mv_iload_n d_Reader_clause_45 rfl rfl ?_
        refine mv_if_eq_f (tgt := 67) d_Reader_clause_46 (by decide) (by decide) ?_
        refine mv_aload_n d_Reader_clause_49 rfl rfl ?_
        refine tr_getK (k := 11) yq1 d_Reader_clause_50 f_Reader_136_6 ?_
        obtain ⟨m293, e294, N295, f296, h292⟩ := tm_lsn I0 h_e1 yz1
        refine mv_callV_s (kc' := 7) (ks' := 965) [] [.ref e1] d_Reader_clause_53 lV_Reader_142 h292.1 rfl (tc_L_size (d := (d + 20)) h292.1) rfl (Nat.le_of_ble_eq_true rfl) (Nat.le_of_ble_eq_true rfl) (Nat.le_of_ble_eq_true rfl) rfl ?_
        refine mv_bipush (v := 6) d_Reader_clause_56 (by decide) ?_
        have := mz_hi s1
        refine mv_icmp_ltZ (tgt := 67) (a := s1.toInt) (b := 6) d_Reader_clause_58 (by decide) rfl (by decide) (fun b297 => ?_) (fun b297 => ?_)
        · refine mv_iload_n d_Reader_clause_67 rfl rfl ?_
          refine mv_if_eq_f (tgt := 105) d_Reader_clause_68 (by decide) (by decide) ?_
          refine mv_aload_n d_Reader_clause_71 rfl rfl ?_
          refine mv_aload_n d_Reader_clause_72 rfl rfl ?_
          obtain ⟨_, b304, -⟩ := I0.1 _ _ h_o0
          refine mv_callV (kc' := 2) (ks' := 158) (As := [.ref o1]) (st9 := [.ref o1, .ref o0]) d_Reader_clause_73 lV_Reader_59 b304 rfl (tc_Reader_endText_q4_x (d := d) (x9 := x9) (o0 := o0) (o1 := o1) h_o0 h_o1 (p := p) hO (by omega) (ps := ps) (by first | omega | decide) (hK I0) ⟨_, _, _, _, _, _, _, q8, q9, q10, q11, q12, q13, q14, h15, Im.o h16, Im.o h17⟩ (by omega) (by have := (Im.o h17) (by omega); have := yC.d ps.2.2; have := yC.kn ps.2.2; show p_ki pb pn ps.2.2 ≠ 0; omega) h_e1 yq1 yE I0.start) rfl (Nat.le_of_ble_eq_true rfl) (Nat.le_of_ble_eq_true rfl) (Nat.le_of_ble_eq_true rfl) (hst := rfl) (fun b298r M299 n300 b298 => ?_)
          obtain ⟨T301, J302, b306⟩ := b298
          have I303 := I0.call J302 (tm_sub (by decide)) (Or.inl rfl)
          have t307 := J302.up h_o0
          have t308 := J302.up h_o1
          have K309 : ∀ (a o : Nat) (w : Value), T0 a = some (3, 3, o) → o ≠ o1 → tm_at M0 a 0 2 w → tm_at M299 a 0 2 w := fun a o w h hx q => J302.keepL (I0.up h) (by decide) (K0L a o w h hx q)
          have Q310 : qE M299 e1 pb pN9 := yE.keep I0.1 J302 (I0.up h_e1) (by decide) (by decide) (by decide)
          have q311 := J302.keep h_o1 (by decide) yq1
          have t312 := J302.up h_e1
          have q313 := J302.keepL h_e1 (by decide) yz1
          rcases b306 with ⟨rfl, f315, f316⟩ | ⟨a305, rfl, t_a305, o314, g317, g318, g319, v320, g321, g322⟩
          · obtain ⟨s323, e324⟩ : ∃ s9 : p_S, p_en1 pb pn pa pN9 (p_nx ps) = s9 := ⟨_, rfl⟩
            rw [e324] at f315 f316
            obtain ⟨v325, v326, v327, v328, v329, v330, v331, q332, q333, q334, q335, q336, q337, q338, h339, h340, h341⟩ := f315
            replace h340 := Im.i h340
            replace h341 := Im.i h341
            refine mv_astoreN (lv' := [(5, .null), (4, .int 0), (3, .int 1), (0, .ref o0), (1, .ref o1), (2, .int x2)]) d_Reader_clause_76 (by decide) rfl ?_
            refine mv_aloadN d_Reader_clause_78 rfl ?_
            refine mv_ifnonnullN d_Reader_clause_80 ?_
            refine mv_iconst (v := 0) d_Reader_clause_83 (by decide) ?_
            exact mv_iret d_Reader_clause_84 rfl (by decide) ⟨_, I303, _, rfl, by decide, by decide, fun h => absurd h (by decide), ⟨_, q313, by omega⟩, K309, (by have := (Im.o h17) (by omega); have := yC.d ps.2.2; have := yC.kn ps.2.2; have hb : s323.1 ≠ 0 := (by omega); have z1 : ∀ c, p_sg pb pn c s323 = s323 := (fun c => p_sg_Z s323 hb); have z2 : ∀ c, p_wd pb pn c s323 = s323 := (fun c => p_wd_Z s323 hb); have z3 : ∀ op, p_sum pb pn pa op s323 = s323 := (fun op => p_sum_Z s323 hb); have z4 : ∀ r oc, p_con pb pn pa r oc s323 = s323 := (fun r oc => p_con_Z s323 hb); have z5 : p_prt pb pn s323 = s323 := p_prt_Z s323 hb; have eT : (p_cl pb pn pa (pc9, pN9, ps)).2 = s323 := (by unfold p_cl; (try simp only [e324, z1, z2, z3, z4, z5]); ((repeat' (first | (with_reducible rfl) | split)) <;> (first | ((try simp only [e324, z1, z2, z3, z4, z5]); done) | (exfalso; omega)))); rw [eT]; exact ⟨⟨_, _, _, _, _, _, _, q332, q333, q334, q335, q336, q337, q338, h339, Im.o h340, Im.o h341⟩, (Or.inr ⟨by first | decide | omega, by omega⟩), (fun h => absurd h (by decide))⟩)⟩
          · obtain ⟨s342, e343⟩ : ∃ s9 : p_S, p_en1 pb pn pa pN9 (p_nx ps) = s9 := ⟨_, rfl⟩
            rw [e343] at g317 g318
            obtain ⟨v344, v345, v346, v347, v348, v349, v350, q351, q352, q353, q354, q355, q356, q357, h358, h359, h360⟩ := g317
            replace h359 := Im.i h359
            replace h360 := Im.i h360
            refine mv_astore (lv' := [(5, .ref a305), (4, .int 0), (3, .int 1), (0, .ref o0), (1, .ref o1), (2, .int x2)]) d_Reader_clause_76 (by decide) rfl ?_
            refine mv_aload d_Reader_clause_78 rfl ?_
            refine mv_ifnonnull (tgt := 85) d_Reader_clause_80 (by decide) ?_
            refine mv_aload_n d_Reader_clause_85 rfl rfl ?_
            refine tr_getK (k := 11) q311 d_Reader_clause_86 f_Reader_136_6 ?_
            refine tr_new (kc' := 1) (ks' := 154) tm_okF I303 d_Reader_clause_89 n_Reader_147 (Nat.le_of_ble_eq_true rfl) (Nat.le_of_ble_eq_true rfl) (fun T361 M362 I363 t_x364 m365 h366 u367 K368 => ?_)
            have K369 : ∀ (a o : Nat) (w : Value), T0 a = some (3, 3, o) → o ≠ o1 → tm_at M0 a 0 2 w → tm_at M362 a 0 2 w := fun a o w h hx q => tm_at.eq (K368 _ _ (I303.up h)) (K309 a o w h hx q)
            have Q370 : qE M362 e1 pb pN9 := Q310.made I303.1 (I303.up h_e1) K368
            have q371 := tm_at.eq (K368 _ _ t308) q311
            have t372 := u367 _ _ t312
            have t373 := u367 _ _ t308
            have q374 := tm_at.eq (K368 _ _ t312) q313
            have q375 := tm_at.eq (K368 _ _ t307) o314
            have t376 := u367 _ _ t307
            have q377 := tm_at.eq (K368 _ _ (I303.up h_o0)) q351
            have q378 := tm_at.eq (K368 _ _ (I303.up h_o0)) q352
            have q379 := tm_at.eq (K368 _ _ (I303.up h_o0)) q353
            have q380 := tm_at.eq (K368 _ _ (I303.up h_o0)) q354
            have q381 := tm_at.eq (K368 _ _ (I303.up h_o0)) q355
            have q382 := tm_at.eq (K368 _ _ (I303.up h_o0)) q356
            have q383 := tm_at.eq (K368 _ _ (I303.up h_o0)) q357
            have q384 := tm_at.eq (K368 _ _ t_a305) g321
            have t385 := u367 _ _ t_a305
            refine mv_dup d_Reader_clause_92 rfl ?_
            refine mv_aload d_Reader_clause_93 rfl ?_
            refine mv_callI (kc' := 1) (ks' := 154) (As := [.ref a305]) (st9 := [.ref a305, .ref n300, .ref n300, .ref e1]) d_Reader_clause_95 lI_Reader_149 (tc_End_init (d := (d + 19)) (o0 := n300) (o1 := a305) t_x364 t385 m365 I363.start) rfl (Nat.le_of_ble_eq_true rfl) (Nat.le_of_ble_eq_true rfl) (Nat.le_of_ble_eq_true rfl) (hst := rfl) (fun b386r M387 n388 b386 => ?_)
            obtain ⟨T389, J390, rfl, m392⟩ := b386
            have I391 := I363.call J390 (tm_sub (by decide)) (Or.inr h366)
            have t393 := J390.up t_x364
            have t394 := J390.up t385
            have t395 := J390.up t376
            have t396 := J390.up t373
            have t397 := J390.up t372
            have K398 : ∀ (a o : Nat) (w : Value), T0 a = some (3, 3, o) → o ≠ o1 → tm_at M0 a 0 2 w → tm_at M387 a 0 2 w := fun a o w h hx q => J390.keepL (I363.up h) (by decide) (K369 a o w h hx q)
            have Q399 : qE M387 e1 pb pN9 := Q370.keep I363.1 J390 (I363.up h_e1) (by decide) (by decide) (by decide)
            have q400 := J390.keep t373 (by decide) q371
            have q401 := J390.keepL t372 (by decide) q374
            have q402 := J390.keep t376 (by decide) q375
            have q403 := J390.keep t376 (by decide) q377
            have q404 := J390.keep t376 (by decide) q378
            have q405 := J390.keep t376 (by decide) q379
            have q406 := J390.keep t376 (by decide) q380
            have q407 := J390.keep t376 (by decide) q381
            have q408 := J390.keep t376 (by decide) q382
            have q409 := J390.keep t376 (by decide) q383
            have q410 := J390.keep t385 (by decide) q384
            obtain ⟨T411, I412, t_x413, u414⟩ := I391.sealO tm_okF t393 h366 m392 (fun _ z9 => (tm_fs_cons ⟨_, rfl, z9 _ _ t394 (Nat.le_of_ble_eq_true rfl)⟩ (tm_fs_cons ⟨_, rfl⟩ (tm_fs_cons ⟨_, rfl⟩ (tm_fs_cons ⟨_, rfl⟩ tm_fs_nil)))))
            have t415 := u414 _ _ t397 (tm_dif t397 t393 rfl)
            have t416 := u414 _ _ t396 (tm_dif t396 t393 rfl)
            have t417 := u414 _ _ t395 (tm_dif t395 t393 rfl)
            have t418 := u414 _ _ t394 (tm_dif t394 t393 rfl)
            have q419 : tm_at M387 n300 3 0 (.ref a305) := ⟨_, m392, rfl⟩
            have q420 : tm_at M387 n300 3 1 (.int 0) := ⟨_, m392, rfl⟩
            have q421 : tm_at M387 n300 3 2 (.int 0) := ⟨_, m392, rfl⟩
            have q422 : tm_at M387 n300 3 3 (.int (-1)) := ⟨_, m392, rfl⟩
            have : tm_mx 3 = 72 := rfl
            obtain ⟨m424, e425, N426, f427, h423⟩ := tm_lsn I412 t415 q401
            refine mv_callV (kc' := 0) (ks' := 0) (As := [.ref n300]) (st9 := [.ref n300, .ref e1]) d_Reader_clause_98 lV_Reader_152 h423.1 rfl (tc_AL_addK (FT := tm_FT) (W := tm_in [5003]) (x := x9) (d := (d + 14)) tm_okF t415 t_x413 q401 (show _ < (72 : Int) by omega) rfl (C := "TrustDesk$End") (T9 := kF_End) (N9 := 4) rfl (mj_in1 (List.mem_of_getElem? (i := 2106) (by decide +kernel)) rfl) (by decide) (by decide) I412.start) rfl (Nat.le_of_ble_eq_true rfl) (Nat.le_of_ble_eq_true rfl) (Nat.le_of_ble_eq_true rfl) (hst := rfl) (fun b428r M429 n430 b428 => ?_)
            obtain ⟨T431, J432, rfl, q434, K435, K436, g437⟩ := b428
            have I433 := I412.call J432 (tm_sub (by decide)) (Or.inl rfl)
            have t438 := J432.up t415
            have t439 := J432.up t418
            have t440 := J432.up t417
            have t441 := J432.up t416
            have q442 := J432.keep t416 (by decide) q400
            have q443 := J432.keep t417 (by decide) q402
            have q444 := J432.keep t417 (by decide) q403
            have q445 := J432.keep t417 (by decide) q404
            have q446 := J432.keep t417 (by decide) q405
            have q447 := J432.keep t417 (by decide) q406
            have q448 := J432.keep t417 (by decide) q407
            have q449 := J432.keep t417 (by decide) q408
            have q450 := J432.keep t417 (by decide) q409
            have q451 := J432.keep t418 (by decide) q410
            have K452 : ∀ (a o : Nat) (w : Value), T0 a = some (3, 3, o) → o ≠ o1 → tm_at M0 a 0 2 w → tm_at M429 a 0 2 w := fun a o w h hx q => tm_at.eq (K435 _ _ _ (tm_lne (I412.up h) t415 hx) (I412.up h)) (K398 a o w h hx q)
            have Q453 : qE M429 e1 pb (pN9 ++ [(p_st pb pn (ps.2.2 + 1), p_sp pb pn (ps.2.2 + 1))]) := Q399.add (q := (p_st pb pn (ps.2.2 + 1), p_sp pb pn (ps.2.2 + 1))) I412.1 J432 (I412.up h_e1) (by decide) (by decide) q401 q434 (by omega) K436 g437 t_x413 q419 q410 g322 (p_lt_tok g319)
            have b454 : (s1 + 1).toInt = s1.toInt + 1 := mz_addn 1 1 (by decide) (by have := mz_lo s1; omega) (by omega)
            refine mv_pop d_Reader_clause_101 rfl ?_
            refine mv_goto (tgt := 131) d_Reader_clause_102 (by decide) ?_
            refine mv_aload_n d_Reader_clause_131 rfl rfl ?_
            refine mv_bipush (v := 59) d_Reader_clause_132 (by decide) ?_
            obtain ⟨_, b461, -⟩ := I433.1 _ _ t440
            refine mv_callV (kc' := 0) (ks' := 0) (As := [.int 59]) (st9 := [.int 59, .ref o0]) d_Reader_clause_134 lV_Reader_63 b461 rfl (tc_Reader_sign_x (d := (d + 19)) (x9 := x9) (o0 := o0) (x1 := 59) t440 (hK I433) ⟨_, _, _, _, _, _, _, q444, q445, q446, q447, q448, q449, q450, h358, Im.o h359, Im.o h360⟩ (by omega) (by first | omega | decide) I433.start) rfl (Nat.le_of_ble_eq_true rfl) (Nat.le_of_ble_eq_true rfl) (Nat.le_of_ble_eq_true rfl) (hst := rfl) (fun b455r M456 n457 b455 => ?_)
            obtain ⟨T458, J459, v462, rfl, b463, b464, f465, f466⟩ := b455
            have I460 := I433.call J459 (tm_sub (by decide)) (Or.inl rfl)
            have t467 := J459.up t439
            have t468 := J459.up t440
            have t469 := J459.up t441
            have K470 : ∀ (a o : Nat) (w : Value), T0 a = some (3, 3, o) → o ≠ o1 → tm_at M0 a 0 2 w → tm_at M456 a 0 2 w := fun a o w h hx q => J459.keepL (I433.up h) (by decide) (K452 a o w h hx q)
            have Q471 : qE M456 e1 pb (pN9 ++ [(p_st pb pn (ps.2.2 + 1), p_sp pb pn (ps.2.2 + 1))]) := Q453.keep I433.1 J459 (I433.up h_e1) (by decide) (by decide) (by decide)
            have q472 := J459.keep t441 (by decide) q442
            have t473 := J459.up t438
            have q474 := J459.keep t440 (by decide) q443
            have q475 := J459.keep t439 (by decide) q451
            have q476 := J459.keepL t438 (by decide) q434
            rw [show (59 : Int32).toInt = 59 from by decide] at f465 f466
            obtain ⟨s477, e478⟩ : ∃ s9 : p_S, p_sg pb pn 59 s342 = s9 := ⟨_, rfl⟩
            rw [e478] at f465 f466
            obtain ⟨v479, v480, v481, v482, v483, v484, v485, q486, q487, q488, q489, q490, q491, q492, h493, h494, h495⟩ := f465
            replace h494 := Im.i h494
            replace h495 := Im.i h495
            exact mv_iret d_Reader_clause_137 rfl (mz_nb (by omega) (by omega)) ⟨_, I460, _, rfl, by omega, by omega, fun _ => q474, ⟨_, q476, by omega⟩, K470, (by have := (Im.o h17) (by omega); have := yC.d ps.2.2; have := yC.kn ps.2.2; have eT : (p_cl pb pn pa (pc9, pN9, ps)).2 = s477 := (by unfold p_cl; (try simp only [e343, e478]); ((repeat' (first | (with_reducible rfl) | split)) <;> (first | ((try simp only [e343, e478]); done) | (exfalso; omega)))); rw [eT]; exact ⟨⟨_, _, _, _, _, _, _, q486, q487, q488, q489, q490, q491, q492, h493, Im.o h494, Im.o h495⟩, (by omega), (fun _ => by have eN : (p_cl pb pn pa (pc9, pN9, ps)).1 = pN9 ++ [(p_st pb pn (ps.2.2 + 1), p_sp pb pn (ps.2.2 + 1))] := (by unfold p_cl; (repeat' split) <;> first | rfl | (exfalso; omega)); rw [eN]; exact Q471)⟩)⟩
        · refine mv_aload_n d_Reader_clause_61 rfl rfl ?_
          refine mv_iconst (v := 4) d_Reader_clause_62 (by decide) ?_
          obtain ⟨_, b496, -⟩ := I0.1 _ _ h_o0
          refine mv_callV (kc1 := 0) (ks1 := 0) (kc' := 0) (ks' := 0) (As := [.int 4]) (st9 := [.int 4, .ref o0]) d_Reader_clause_63 lV_Reader_56 b496 rfl (mj_enter (by decide) (Nat.le_of_ble_eq_true rfl) ?_) rfl (Nat.le_of_ble_eq_true rfl) (Nat.le_of_ble_eq_true rfl) (Nat.le_of_ble_eq_true rfl) (hst := rfl) (fun _ _ _ h => h)
          refine mv_aload_n d_Reader_refuse_0 rfl rfl ?_
          refine mv_iload_n d_Reader_refuse_1 rfl rfl ?_
          refine tr_putKM tm_okF I0 h_o0 (k := 1) rfl ⟨_, rfl⟩ (Or.inl (by decide)) d_Reader_refuse_2 p_Reader_70_9 rfl rfl (fun M497 I498 q499 K500 K500M => ?_)
          have K501 : ∀ (a o : Nat) (w : Value), T0 a = some (3, 3, o) → o ≠ o1 → tm_at M0 a 0 2 w → tm_at M497 a 0 2 w := fun a o w h hx q => K500 _ 0 2 _ rfl (K0L a o w h hx q)
          have Q502 : qE M497 e1 pb pN9 := yE.put I0.1 (I0.up h_e1) h_o0 K500 K500M rfl rfl rfl
          refine mv_aload_n d_Reader_refuse_5 rfl rfl ?_
          refine mv_aload_n d_Reader_refuse_6 rfl rfl ?_
          refine tr_getK (k := 11) (K500 _ 9 11 _ rfl q12) d_Reader_refuse_7 f_Reader_175_9 ?_
          refine tr_putKM tm_okF I498 h_o0 (k := 2) rfl ⟨_, rfl⟩ (Or.inl (by decide)) d_Reader_refuse_10 p_Reader_11_9 rfl rfl (fun M503 I504 q505 K506 K506M => ?_)
          have K507 : ∀ (a o : Nat) (w : Value), T0 a = some (3, 3, o) → o ≠ o1 → tm_at M0 a 0 2 w → tm_at M503 a 0 2 w := fun a o w h hx q => K506 _ 0 2 _ rfl (K501 a o w h hx q)
          have Q508 : qE M503 e1 pb pN9 := Q502.put I498.1 (I498.up h_e1) h_o0 K506 K506M rfl rfl rfl
          refine mv_iconst (v := 0) d_Reader_refuse_13 (by decide) ?_
          obtain ⟨s509, e510⟩ : ∃ s9 : p_S, p_fl pb pn 4 ps = s9 := ⟨_, rfl⟩
          have h511 := q_fl e510 (by omega) (by decide)
          have h512 : (4 : Int32).toInt = s509.1 := (by have e9 : (4 : Int32).toInt = 4 := (by decide); omega)
          have h513 : Im (s509.1 ≠ 0 → v5.toInt = (s509.2.1 : Int)) := Im.i (fun _ => by have := (Im.o h17) (by omega); omega)
          have h514 : Im (s509.1 = 0 → v3.toInt = (s509.2.2 : Int) ∧ v4.toInt = p_ki pb pn s509.2.2 ∧ v5.toInt = (p_st pb pn s509.2.2 : Int) ∧ v6.toInt = (p_sp pb pn s509.2.2 : Int) ∧ v7.toInt = p_va pb pn s509.2.2 ∧ v5.toInt = -1) := Im.i (fun z9 => absurd z9 h511.2.2)
          refine mv_iret d_Reader_refuse_14 rfl (by decide) ?_
          exact mv_iret d_Reader_clause_66 rfl (by decide) ⟨_, I504, _, rfl, by decide, by decide, fun h => absurd h (by decide), ⟨_, (K506 _ 0 2 _ rfl (K500 _ 0 2 _ rfl yz1)), by omega⟩, K507, (by have := (Im.o h17) (by omega); have := yC.d ps.2.2; have := yC.kn ps.2.2; have hb : s509.1 ≠ 0 := (by omega); have z1 : ∀ c, p_sg pb pn c s509 = s509 := (fun c => p_sg_Z s509 hb); have z2 : ∀ c, p_wd pb pn c s509 = s509 := (fun c => p_wd_Z s509 hb); have z3 : ∀ op, p_sum pb pn pa op s509 = s509 := (fun op => p_sum_Z s509 hb); have z4 : ∀ r oc, p_con pb pn pa r oc s509 = s509 := (fun r oc => p_con_Z s509 hb); have z5 : p_prt pb pn s509 = s509 := p_prt_Z s509 hb; have eT : (p_cl pb pn pa (pc9, pN9, ps)).2 = s509 := (by unfold p_cl; (try simp only [e510, z1, z2, z3, z4, z5]); ((repeat' (first | (with_reducible rfl) | split)) <;> (first | ((try simp only [e510, z1, z2, z3, z4, z5]); done) | (exfalso; omega)))); rw [eT]; exact ⟨⟨_, _, _, _, _, _, _, (K506 _ 9 1 _ rfl q499), q505, (K506 _ 9 9 _ rfl (K500 _ 9 9 _ rfl q10)), (K506 _ 9 10 _ rfl (K500 _ 9 10 _ rfl q11)), (K506 _ 9 11 _ rfl (K500 _ 9 11 _ rfl q12)), (K506 _ 9 12 _ rfl (K500 _ 9 12 _ rfl q13)), (K506 _ 9 13 _ rfl (K500 _ 9 13 _ rfl q14)), h512, Im.o h513, Im.o h514⟩, (Or.inr ⟨by first | decide | omega, by omega⟩), (fun h => absurd h (by decide))⟩)⟩
def w_Reader_readDeed_r : List Nat := [604, 605, 606, 901, 902, 908, 909, 910, 911, 912, 913, 914, 915, 916, 918, 954, 955, 956, 957, 967, 5003]
set_option maxHeartbeats 100000000 in theorem tc_Reader_readDeed_r {g : mj_G} {l : Launch} {d : Nat} {T0 : tm_H} {M0 : mj_M} {n0 x9 : Nat} {o0 : Nat} {o1 : Nat} (h_o0 : T0 o0 = some (0, 9, 0)) (h_o1 : T0 o1 = some (0, 6, 0)) {pb : Nat → Int} {pn : Nat} (yB : qB M0 o0 pb pn) {e1 : Nat} {s1 : Int32} (h_e1 : T0 e1 = some (3, 3, o1)) (yq1 : tm_at M0 o1 6 11 (.ref e1)) (yz1 : tm_at M0 e1 0 2 (.int s1)) (ys1 : s1.toInt ≤ 6) (yE : qE M0 e1 pb []) (I0 : tm_I tm_FT (tm_in w_Reader_readDeed_r) x9 T0 M0 n0 T0 M0 n0) : mj_Met g l kY_Reader_readDeed (d + 22) [.ref o0, .ref o1] M0 n0 98 13580 (tm_Q tm_FT (tm_in w_Reader_readDeed_r) x9 T0 M0 n0 (fun r _ M => ∃ v : Int32, r = some (.int v) ∧ 0 ≤ v.toInt ∧ v.toInt ≤ 1 ∧ (∃ s : Int32, tm_at M e1 0 2 (.int s) ∧ s.toInt ≤ 6) ∧ (∀ (a o : Nat) (w : Value), T0 a = some (3, 3, o) → o ≠ o1 → tm_at M0 a 0 2 w → tm_at M a 0 2 w) ∧ (∃ vf vp : Int32, tm_at M o0 9 1 (.int vf) ∧ tm_at M o0 9 2 (.int vp) ∧ vf.toInt = (p_dee pb pn).2.2.1 ∧ ((p_dee pb pn).2.2.1 = 0 ∧ v.toInt = 1 ∧ vp.toInt = -1 ∨ (p_dee pb pn).2.2.1 ≠ 0 ∧ v.toInt = 0 ∧ vp.toInt = ((p_dee pb pn).2.2.2.1 : Int))))) := by
  refine mj_enter (by decide) (Nat.le_of_ble_eq_true rfl) ?_
  have hB : ∀ {T : tm_H} {M : mj_M} {n : Nat}, tm_I tm_FT (tm_in w_Reader_readDeed_r) x9 T0 M0 n0 T M n → qB M o0 pb pn := fun I => yB.keep I0.1 I h_o0 (by decide +kernel) (by decide +kernel) (by decide +kernel)
  have := yB.1
  have := yB.2.1
  obtain ⟨_, _, _, _, zz1⟩ := tm_lsn I0 h_e1 yz1
  have yp1 := zz1.2.1
  have K0L : ∀ (a o : Nat) (w : Value), T0 a = some (3, 3, o) → o ≠ o1 → tm_at M0 a 0 2 w → tm_at M0 a 0 2 w := fun a o w h hx q => q
  refine mv_aload_n d_Reader_readDeed_0 rfl rfl ?_
  refine mv_bipush (v := 10) d_Reader_readDeed_1 (by decide) ?_
  obtain ⟨_, b7, -⟩ := I0.1 _ _ h_o0
  refine mv_callV (kc' := 98) (ks' := 13580) (As := [.int 10]) (st9 := [.int 10, .ref o0]) d_Reader_readDeed_3 lV_Reader_37 b7 rfl (tc_Reader_begin_x (d := (d + 12)) (x9 := x9) (o0 := o0) (x1 := 10) h_o0 (hB I0) (by decide) I0.start) rfl (Nat.le_of_ble_eq_true rfl) (Nat.le_of_ble_eq_true rfl) (Nat.le_of_ble_eq_true rfl) (hst := rfl) (fun b1r M2 n3 b1 => ?_)
  obtain ⟨T4, J5, rfl, f8, f9, f10⟩ := b1
  have I6 := I0.call J5 (tm_sub (by decide)) (Or.inl rfl)
  have t11 := J5.up h_o0
  have t12 := J5.up h_o1
  have K13 : ∀ (a o : Nat) (w : Value), T0 a = some (3, 3, o) → o ≠ o1 → tm_at M0 a 0 2 w → tm_at M2 a 0 2 w := fun a o w h hx q => J5.keepL (I0.up h) (by decide) (K0L a o w h hx q)
  have Q14 : qE M2 e1 pb ([]) := yE.keep I0.1 J5 (I0.up h_e1) (by decide) (by decide) (by decide)
  have q15 := J5.keep h_o1 (by decide) yq1
  have t16 := J5.up h_e1
  have q17 := J5.keepL h_e1 (by decide) yz1
  rw [show (10 : Int32).toInt = 10 from by decide] at f9
  obtain ⟨s18, e19⟩ : ∃ s9 : p_S, (0, 0, 0) = s9 := ⟨_, rfl⟩
  rw [e19] at f10
  have : s18.1 = 0 := by rw [← e19]
  have : s18.2.2 = 0 := by rw [← e19]
  obtain ⟨v20, v21, v22, v23, v24, v25, v26, q27, q28, q29, q30, q31, q32, q33, h34, h35, h36⟩ := f10
  replace h35 := Im.i h35
  replace h36 := Im.i h36
  have yC := f9
  refine mv_iconst (v := 0) d_Reader_readDeed_6 (by decide) ?_
  refine mv_istore_n (lv' := [(2, .int 0), (0, .ref o0), (1, .ref o1)]) d_Reader_readDeed_7 rfl (by decide) rfl ?_
  have L8_37 : ∀ (k : Nat) (i2_37 : Int32) (g0_37 : Int32) (T_37 : tm_H) (M_37 : mj_M) (n_37 : Nat), tm_I tm_FT (tm_in w_Reader_readDeed_r) x9 T0 M0 n0 T_37 M_37 n_37 → T_37 o0 = some (0, 9, 0) → T_37 o1 = some (0, 6, 0) → T_37 e1 = some (3, 3, o1) → i2_37.toInt ≤ 13 → 0 ≤ i2_37.toInt → g0_37.toInt ≤ 6 → tm_at M_37 o0 9 16 (.int 0) → tm_at M_37 o1 6 11 (.ref e1) → tm_at M_37 e1 0 2 (.int g0_37) → (∀ (a o : Nat) (w : Value), T0 a = some (3, 3, o) → o ≠ o1 → tm_at M0 a 0 2 w → tm_at M_37 a 0 2 w) → (∃ (c1 : Nat) (N1 : List (Nat × Nat)) (s1 : p_S), qS M_37 o0 pb pn s1 ∧ qC M_37 o0 pb pn 10 ∧ s1.1 = 0 ∧ qE M_37 e1 pb N1 ∧ i2_37.toInt = (c1 : Int) ∧ c1 ≤ 12 ∧ p_lp pn (p_de1 pb pn 10) (c1, N1, s1) = p_dee pb pn) → 13 - i2_37.toInt < (k : Int) → mj_V g l kY_Reader_readDeed (d + 22) 8 [(2, .int i2_37), (0, .ref o0), (1, .ref o1)] [] M_37 n_37 (k * 7) (k * 970) (tm_Q tm_FT (tm_in w_Reader_readDeed_r) x9 T0 M0 n0 (fun r _ M => ∃ v : Int32, r = some (.int v) ∧ 0 ≤ v.toInt ∧ v.toInt ≤ 1 ∧ (∃ s : Int32, tm_at M e1 0 2 (.int s) ∧ s.toInt ≤ 6) ∧ (∀ (a o : Nat) (w : Value), T0 a = some (3, 3, o) → o ≠ o1 → tm_at M0 a 0 2 w → tm_at M a 0 2 w) ∧ (∃ vf vp : Int32, tm_at M o0 9 1 (.int vf) ∧ tm_at M o0 9 2 (.int vp) ∧ vf.toInt = (p_dee pb pn).2.2.1 ∧ ((p_dee pb pn).2.2.1 = 0 ∧ v.toInt = 1 ∧ vp.toInt = -1 ∨ (p_dee pb pn).2.2.1 ≠ 0 ∧ v.toInt = 0 ∧ vp.toInt = ((p_dee pb pn).2.2.2.1 : Int))))) := by
    intro k37
    induction k37 with
    | zero =>
      intro i2_37 g0_37 T_37 M_37 n_37 I_37 h_q0_37 h_q1_37 h_e0_37 iv0_37 iv1_37 iv2_37 kp0_37 kp1_37 kg0_37 kKL_37 kKT9_37 hk37
      have := mz_hi i2_37
      exfalso; omega
    | succ k37 ih37 =>
      intro i2_37 g0_37 T_37 M_37 n_37 I_37 h_q0_37 h_q1_37 h_e0_37 iv0_37 iv1_37 iv2_37 kp0_37 kp1_37 kg0_37 kKL_37 kKT9_37 hk37
      obtain ⟨c38, N39, s40, f41, h42, h43, Q44, h45, h46, e47⟩ := kKT9_37
      obtain ⟨v48, v49, v50, v51, v52, v53, v54, q55, q56, q57, q58, q59, q60, q61, h62, h63, h64⟩ := f41
      replace h63 := Im.i h63
      replace h64 := Im.i h64
      have yC := h42
      refine mv_iload_n d_Reader_readDeed_8 rfl rfl ?_
      refine mv_bipush (v := 12) d_Reader_readDeed_9 (by decide) ?_
      have := mz_hi i2_37
      refine mv_icmp_gtZ (tgt := 38) (a := i2_37.toInt) (b := 12) d_Reader_readDeed_11 (by decide) rfl (by decide) (fun b65 => ?_) (fun b65 => ?_)
      · refine mv_iconst (v := 1) d_Reader_readDeed_38 (by decide) ?_
        exact mv_iret d_Reader_readDeed_39 rfl (by decide) ⟨_, I_37, _, rfl, by decide, by decide, ⟨_, kg0_37, by omega⟩, kKL_37, (by first | (have hE : p_dee pb pn = (c38, N39, s40) := (by exact e47.symm.trans (p_lp_stop (show p_de1 pb pn 10 (c38, N39, s40) = (c38, N39, s40) from if_neg (fun h9 => by have h8 : s40.1 = 0 := h9.1; have h7 : p_ki pb pn s40.2.2 ≠ 0 := h9.2; omega)))); have z1 : (p_dee pb pn).2.2.1 = s40.1 := (by rw [hE]); have z3 : (p_dee pb pn).2.2.2.1 = s40.2.1 := (by rw [hE]); have := (Im.o h64) (by omega); exact ⟨_, _, q55, q56, by omega, by omega⟩) | (exfalso; omega))⟩
      · refine mv_aload_n d_Reader_readDeed_14 rfl rfl ?_
        refine tr_getK (k := 10) q58 d_Reader_readDeed_15 f_Reader_41_9 ?_
        have := mz_hi v51
        refine mv_if_eqZ (tgt := 38) (a := v51.toInt) d_Reader_readDeed_18 (by decide) rfl (fun b66 => ?_) (fun b66 => ?_)
        · refine mv_iconst (v := 1) d_Reader_readDeed_38 (by decide) ?_
          exact mv_iret d_Reader_readDeed_39 rfl (by decide) ⟨_, I_37, _, rfl, by decide, by decide, ⟨_, kg0_37, by omega⟩, kKL_37, (by first | (have hE : p_dee pb pn = (c38, N39, s40) := (by have := (Im.o h64) (by omega); have := yC.d s40.2.2; have := yC.kn s40.2.2; exact e47.symm.trans (p_lp_stop (show p_de1 pb pn 10 (c38, N39, s40) = (c38, N39, s40) from if_neg (fun h9 => by have h8 : s40.1 = 0 := h9.1; have h7 : p_ki pb pn s40.2.2 ≠ 0 := h9.2; omega)))); have z1 : (p_dee pb pn).2.2.1 = s40.1 := (by rw [hE]); have z3 : (p_dee pb pn).2.2.2.1 = s40.2.1 := (by rw [hE]); have := (Im.o h64) (by omega); exact ⟨_, _, q55, q56, by omega, by omega⟩) | (exfalso; have := (Im.o h64) (by omega); have := yC.d s40.2.2; have := yC.kn s40.2.2; omega))⟩
        · refine mv_aload_n d_Reader_readDeed_21 rfl rfl ?_
          refine mv_aload_n d_Reader_readDeed_22 rfl rfl ?_
          refine mv_iload_n d_Reader_readDeed_23 rfl rfl ?_
          obtain ⟨_, b73, -⟩ := I_37.1 _ _ h_q0_37
          refine mv_callV (kc' := (k37 * 7 + 0)) (ks' := (k37 * 970 + 5)) (As := [.ref o1, .int i2_37]) (st9 := [.int i2_37, .ref o1, .ref o0]) d_Reader_readDeed_24 lV_Reader_48 b73 rfl (tc_Reader_clause_q4_r (d := d) (x9 := x9) (o0 := o0) (o1 := o1) (x2 := i2_37) h_q0_37 h_q1_37 (p := 0) kp0_37 (by decide) (ps := s40) (by first | omega | decide) h42 ⟨_, _, _, _, _, _, _, q55, q56, q57, q58, q59, q60, q61, h62, Im.o h63, Im.o h64⟩ (by omega) (pc9 := c38) h_e0_37 kp1_37 kg0_37 (by first | omega | decide) Q44 (by omega) I_37.start) rfl (by first | exact Nat.le_of_ble_eq_true rfl | omega) (by first | exact Nat.le_of_ble_eq_true rfl | omega) (by first | exact Nat.le_of_ble_eq_true rfl | omega) (hst := rfl) (fun b67r M68 n69 b67 => ?_)
          obtain ⟨T70, J71, v74, rfl, b75, b76, o77, ⟨s78, z79, h80⟩, K81, f82, f83, f84⟩ := b67
          have I72 := I_37.call J71 (tm_sub (by decide)) (Or.inl rfl)
          have t85 := J71.up h_q0_37
          have t86 := J71.up h_q1_37
          have K87 : ∀ (a o : Nat) (w : Value), T0 a = some (3, 3, o) → o ≠ o1 → tm_at M0 a 0 2 w → tm_at M68 a 0 2 w := fun a o w h hx q => K81 a o w (I_37.up h) hx (kKL_37 a o w h hx q)
          have q88 := J71.keep h_q1_37 (by decide) kp1_37
          have t89 := J71.up h_e0_37
          have h90 := h42.keep I_37.1 J71 (I_37.up h_o0) (qW_of (by decide +kernel))
          obtain ⟨s91, e92⟩ : ∃ s9 : p_S, (p_cl pb pn 10 (c38, N39, s40)).2 = s9 := ⟨_, rfl⟩
          rw [e92] at f82 f83
          obtain ⟨v93, v94, v95, v96, v97, v98, v99, q100, q101, q102, q103, q104, q105, q106, h107, h108, h109⟩ := f82
          replace h108 := Im.i h108
          replace h109 := Im.i h109
          have := mz_hi v74
          refine mv_if_neZ (tgt := 32) (a := v74.toInt) d_Reader_readDeed_27 (by decide) rfl (fun b110 => ?_) (fun b110 => ?_)
          · have q111 := o77 (by omega)
            refine mv_iinc (v := (i2_37 + 1)) (lv' := [(2, .int (i2_37 + 1)), (0, .ref o0), (1, .ref o1)]) d_Reader_readDeed_32 rfl rfl (by decide) rfl ?_
            refine mv_goto (tgt := 8) d_Reader_readDeed_35 (by decide) ?_
            have : (i2_37 + 1 : Int32).toInt = i2_37.toInt + 1 := mz_addn 1 1 (by decide) (by omega) (by omega)
            have hc9 := (p_cl_c (b := pb) (n := pn) (na := 10) (q := (c38, N39, s40)) (by rw [e92]; omega)).2.1
            have hc8 : c38 < 12 := hc9
            have T112 : ∃ (c1 : Nat) (N1 : List (Nat × Nat)) (s1 : p_S), qS M68 o0 pb pn s1 ∧ qC M68 o0 pb pn 10 ∧ s1.1 = 0 ∧ qE M68 e1 pb N1 ∧ (i2_37 + 1).toInt = (c1 : Int) ∧ c1 ≤ 12 ∧ p_lp pn (p_de1 pb pn 10) (c1, N1, s1) = p_dee pb pn := ⟨c38 + 1, (p_cl pb pn 10 (c38, N39, s40)).1, s91, ⟨_, _, _, _, _, _, _, q100, q101, q102, q103, q104, q105, q106, h107, Im.o h108, Im.o h109⟩, h90, by omega, f84 (by omega), by omega, by omega, (by have := (Im.o h64) (by omega); have := yC.d s40.2.2; have := yC.kn s40.2.2; have st : p_de1 pb pn 10 (c38, N39, s40) = (c38 + 1, (p_cl pb pn 10 (c38, N39, s40)).1, s91) := (by rw [show p_de1 pb pn 10 (c38, N39, s40) = (c38 + 1, p_cl pb pn 10 (c38, N39, s40)) from if_pos ⟨(by show s40.1 = 0; omega), (by show p_ki pb pn s40.2.2 ≠ 0; omega)⟩]; exact Prod.ext rfl (Prod.ext rfl e92)); rw [← st, p_P.go p_de1_P (c38, N39, s40)]; exact e47)⟩
            have b113 : (i2_37 + 1).toInt = i2_37.toInt + 1 := mz_addn 1 1 (by decide) (by have := mz_lo i2_37; omega) (by have := mz_hi i2_37; omega)
            exact mv_less (by omega) (by omega) (ih37 (i2_37 + 1) s78 T70 M68 n69 I72 t85 t86 t89 (by first | omega | decide) (by first | omega | decide) (by first | omega | decide) q111 q88 z79 K87 T112 (by omega))
          · refine mv_iconst (v := 0) d_Reader_readDeed_30 (by decide) ?_
            exact mv_iret d_Reader_readDeed_31 rfl (by decide) ⟨_, I72, _, rfl, by decide, by decide, ⟨_, z79, by omega⟩, K87, (by first | (have hE : p_dee pb pn = (c38 + 1, (p_cl pb pn 10 (c38, N39, s40)).1, s91) := (by have := (Im.o h64) (by omega); have := yC.d s40.2.2; have := yC.kn s40.2.2; have hb : s91.1 ≠ 0 := (by omega); have st : p_de1 pb pn 10 (c38, N39, s40) = (c38 + 1, (p_cl pb pn 10 (c38, N39, s40)).1, s91) := (by rw [show p_de1 pb pn 10 (c38, N39, s40) = (c38 + 1, p_cl pb pn 10 (c38, N39, s40)) from if_pos ⟨(by show s40.1 = 0; omega), (by show p_ki pb pn s40.2.2 ≠ 0; omega)⟩]; exact Prod.ext rfl (Prod.ext rfl e92)); rw [← e47, ← p_P.go p_de1_P (c38, N39, s40), st]; exact p_lp_stop (if_neg (fun h9 => hb h9.1))); have z1 : (p_dee pb pn).2.2.1 = s91.1 := (by rw [hE]); have z3 : (p_dee pb pn).2.2.2.1 = s91.2.1 := (by rw [hE]); have := (Im.o h108) (by omega); exact ⟨_, _, q100, q101, by omega, by omega⟩) | (exfalso; have := (Im.o h64) (by omega); have := yC.d s40.2.2; have := yC.kn s40.2.2; omega))⟩
  have e0 : (0 : Int32).toInt = 0 := by decide
  have T114 : ∃ (c1 : Nat) (N1 : List (Nat × Nat)) (s1 : p_S), qS M2 o0 pb pn s1 ∧ qC M2 o0 pb pn 10 ∧ s1.1 = 0 ∧ qE M2 e1 pb N1 ∧ 0 = (c1 : Int) ∧ c1 ≤ 12 ∧ p_lp pn (p_de1 pb pn 10) (c1, N1, s1) = p_dee pb pn := ⟨0, [], s18, ⟨_, _, _, _, _, _, _, q27, q28, q29, q30, q31, q32, q33, h34, Im.o h35, Im.o h36⟩, f9, by omega, Q14, by omega, by omega, by rw [← e19]; rfl⟩
  have : (0 : Int32).toInt = 0 := by decide
  exact mv_less (Nat.le_of_ble_eq_true rfl) (Nat.le_of_ble_eq_true rfl) (L8_37 14 0 s1 T4 M2 n3 I6 t11 t12 t16 (by first | omega | decide) (by first | omega | decide) (by first | omega | decide) f8 q15 q17 K13 T114 (by show (13 - (0 : Int) : Int) < _; decide))
def w_Reader_endText_n1_q4_x : List Nat := [901, 902, 909, 910, 911, 912, 913, 914, 916, 918, 967]
set_option maxHeartbeats 100000000 in theorem tc_Reader_endText_n1_q4_x {g : mj_G} {l : Launch} {d : Nat} {T0 : tm_H} {M0 : mj_M} {n0 x9 : Nat} {o0 : Nat} (h_o0 : T0 o0 = some (0, 9, 0)) {p : Int32} (hO : tm_at M0 o0 9 16 (.int p)) (hp : 0 ≤ p.toInt) (hp2 : p.toInt ≤ 0) {pb : Nat → Int} {pn : Nat} {pa : Int} {ps : p_S} (yC : qC M0 o0 pb pn pa) (yD : qS M0 o0 pb pn ps) (yw : ps.1 = 0) (yz : p_ki pb pn ps.2.2 ≠ 0) (I0 : tm_I tm_FT (tm_in w_Reader_endText_n1_q4_x) x9 T0 M0 n0 T0 M0 n0) : mj_Met g l kY_Reader_endText (d + 20) [.ref o0, .null] M0 n0 5 807 (tm_Q tm_FT (tm_in w_Reader_endText_n1_q4_x) x9 T0 M0 n0 (fun r T M => (r = some .null ∧ qS M o0 pb pn (p_en1 pb pn pa [] (p_nx ps)) ∧ (p_en1 pb pn pa [] (p_nx ps)).1 ≠ 0) ∨ ∃ b, r = some (.ref b) ∧ T b = some (0, 4, 0) ∧ tm_at M o0 9 16 (.int p) ∧ qS M o0 pb pn (p_en1 pb pn pa [] (p_nx ps)) ∧ (p_en1 pb pn pa [] (p_nx ps)).1 = 0 ∧ p_ki pb pn (ps.2.2 + 1) = 1 ∧ ∃ nv : Int64, tm_at M b 4 0 (.long nv) ∧ nv.toInt = p_wn pb (p_sp pb pn (ps.2.2 + 1) - p_st pb pn (ps.2.2 + 1)) (p_st pb pn (ps.2.2 + 1)) 0)) := by
  refine mj_enter (by decide) (Nat.le_of_ble_eq_true rfl) ?_
  have hK : ∀ {T : tm_H} {M : mj_M} {n : Nat}, tm_I tm_FT (tm_in w_Reader_endText_n1_q4_x) x9 T0 M0 n0 T M n → qC M o0 pb pn pa := fun I => yC.keep I0.1 I h_o0 (qW_of (by decide +kernel))
  obtain ⟨v1, v2, v3, v4, v5, v6, v7, q8, q9, q10, q11, q12, q13, q14, h15, h16, h17⟩ := yD
  replace h16 := Im.i h16
  replace h17 := Im.i h17
  have := yC.kn ps.2.2
  refine mv_aload_n d_Reader_endText_0 rfl rfl ?_
  obtain ⟨_, b24, -⟩ := I0.1 _ _ h_o0
  refine mv_callV (kc' := 5) (ks' := 807) (As := []) (st9 := [.ref o0]) d_Reader_endText_1 lV_Reader_82 b24 rfl (tc_Reader_advance_x (d := (d + 19)) (x9 := x9) (o0 := o0) h_o0 (hK I0) (qS.a (show qS M0 o0 pb pn ps from ⟨_, _, _, _, _, _, _, q8, q9, q10, q11, q12, q13, q14, h15, Im.o h16, Im.o h17⟩)) (by show ps.2.2 + 1 ≤ 401; omega) I0.start) rfl (Nat.le_of_ble_eq_true rfl) (Nat.le_of_ble_eq_true rfl) (Nat.le_of_ble_eq_true rfl) (hst := rfl) (fun b18r M19 n20 b18 => ?_)
  obtain ⟨T21, J22, rfl, f25⟩ := b18
  have I23 := I0.call J22 (tm_sub (by decide)) (Or.inl rfl)
  have t26 := J22.up h_o0
  have q27 := J22.keep h_o0 (by decide) hO
  have q28 := J22.keep h_o0 (by decide) q8
  have q29 := J22.keep h_o0 (by decide) q9
  obtain ⟨s30, e31⟩ : ∃ s9 : p_S, p_nx ps = s9 := ⟨_, rfl⟩
  rw [e31] at f25
  have : s30.1 = 0 := by rw [← e31]; show ps.1 = 0; omega
  obtain ⟨v32, v33, v34, v35, v36, v37, v38, q39, q40, q41, q42, q43, q44, q45, h46, h47, h48⟩ := f25
  replace h47 := Im.i h47
  replace h48 := Im.i h48
  have hz1 : ps.2.2 + 1 = s30.2.2 := by rw [← e31]; rfl
  have := (Im.o h48) (by omega)
  have := yC.1.2.1
  have := p_tp_le (b := pb) (n := pn) (s30.2.2 + 1)
  have : p_sp pb pn s30.2.2 = p_tp pb pn (s30.2.2 + 1) := rfl
  have := p_st_le (b := pb) (n := pn) (k := s30.2.2)
  refine mv_aload_n d_Reader_endText_4 rfl rfl ?_
  refine tr_getK (k := 12) q44 d_Reader_endText_5 f_Reader_172_9 ?_
  refine mv_aload_n d_Reader_endText_8 rfl rfl ?_
  refine tr_getK (k := 11) q43 d_Reader_endText_9 f_Reader_175_9 ?_
  refine mv_isub d_Reader_endText_12 ?_
  refine mv_istore_n (lv' := [(2, .int (v37 - v36)), (0, .ref o0), (1, .null)]) d_Reader_endText_13 rfl (by decide) rfl ?_
  refine mv_aload_n d_Reader_endText_14 rfl rfl ?_
  refine tr_getK (k := 10) q42 d_Reader_endText_15 f_Reader_41_9 ?_
  refine mv_iconst (v := 1) d_Reader_endText_18 (by decide) ?_
  have := mz_hi v35
  refine mv_icmp_neZ (tgt := 28) (a := v35.toInt) (b := 1) d_Reader_endText_19 (by decide) rfl (by decide) (fun b49 => ?_) (fun b49 => ?_)
  · refine mv_aload_n d_Reader_endText_28 rfl rfl ?_
    refine mv_iconst (v := 1) d_Reader_endText_29 (by decide) ?_
    obtain ⟨_, b50, -⟩ := I23.1 _ _ t26
    refine mv_callV (kc1 := 0) (ks1 := 0) (kc' := 0) (ks' := 0) (As := [.int 1]) (st9 := [.int 1, .ref o0]) d_Reader_endText_30 lV_Reader_56 b50 rfl (mj_enter (by decide) (Nat.le_of_ble_eq_true rfl) ?_) rfl (Nat.le_of_ble_eq_true rfl) (Nat.le_of_ble_eq_true rfl) (Nat.le_of_ble_eq_true rfl) (hst := rfl) (fun _ _ _ h => h)
    refine mv_aload_n d_Reader_refuse_0 rfl rfl ?_
    refine mv_iload_n d_Reader_refuse_1 rfl rfl ?_
    refine tr_putK tm_okF I23 t26 (k := 1) rfl ⟨_, rfl⟩ (Or.inl (by decide)) d_Reader_refuse_2 p_Reader_70_9 rfl rfl (fun M51 I52 q53 K54 => ?_)
    refine mv_aload_n d_Reader_refuse_5 rfl rfl ?_
    refine mv_aload_n d_Reader_refuse_6 rfl rfl ?_
    refine tr_getK (k := 11) (K54 _ 9 11 _ rfl q43) d_Reader_refuse_7 f_Reader_175_9 ?_
    refine tr_putK tm_okF I52 t26 (k := 2) rfl ⟨_, rfl⟩ (Or.inl (by decide)) d_Reader_refuse_10 p_Reader_11_9 rfl rfl (fun M55 I56 q57 K58 => ?_)
    refine mv_iconst (v := 0) d_Reader_refuse_13 (by decide) ?_
    obtain ⟨s59, e60⟩ : ∃ s9 : p_S, p_fl pb pn 1 s30 = s9 := ⟨_, rfl⟩
    have h61 := q_fl e60 (by omega) (by decide)
    have h62 : (1 : Int32).toInt = s59.1 := (by have e9 : (1 : Int32).toInt = 1 := (by decide); omega)
    have h63 : Im (s59.1 ≠ 0 → v36.toInt = (s59.2.1 : Int)) := Im.i (fun _ => by have := (Im.o h48) (by omega); omega)
    have h64 : Im (s59.1 = 0 → v34.toInt = (s59.2.2 : Int) ∧ v35.toInt = p_ki pb pn s59.2.2 ∧ v36.toInt = (p_st pb pn s59.2.2 : Int) ∧ v37.toInt = (p_sp pb pn s59.2.2 : Int) ∧ v38.toInt = p_va pb pn s59.2.2 ∧ v36.toInt = -1) := Im.i (fun z9 => absurd z9 h61.2.2)
    refine mv_iret d_Reader_refuse_14 rfl (by decide) ?_
    refine mv_pop d_Reader_endText_33 rfl ?_
    refine mv_null d_Reader_endText_34 ?_
    exact mv_aret (r := none) d_Reader_endText_35 rfl (by first | exact Or.inl ⟨_, rfl⟩ | exact Or.inr ⟨_, rfl⟩) ⟨_, I56, Or.inl ⟨rfl, (by have := (Im.o h48) (by omega); have := yC.d s30.2.2; have := yC.kn s30.2.2; have hb : s59.1 ≠ 0 := (by omega); have z1 : ∀ c, p_sg pb pn c s59 = s59 := (fun c => p_sg_Z s59 hb); have z2 : ∀ c, p_wd pb pn c s59 = s59 := (fun c => p_wd_Z s59 hb); have z3 : ∀ op, p_sum pb pn pa op s59 = s59 := (fun op => p_sum_Z s59 hb); have z4 : ∀ r oc, p_con pb pn pa r oc s59 = s59 := (fun r oc => p_con_Z s59 hb); have z5 : p_prt pb pn s59 = s59 := p_prt_Z s59 hb; have eT : p_en1 pb pn pa [] (p_nx ps) = s59 := (by unfold p_en1; unfold p_prt; (try simp only [e31, e60, z1, z2, z3, z4, z5]); ((repeat' (first | (with_reducible rfl) | split)) <;> (first | ((try simp only [e31, e60, z1, z2, z3, z4, z5]); done) | (exfalso; omega)))); rw [eT]; exact ⟨⟨_, _, _, _, _, _, _, (K58 _ 9 1 _ rfl q53), q57, (K58 _ 9 9 _ rfl (K54 _ 9 9 _ rfl q41)), (K58 _ 9 10 _ rfl (K54 _ 9 10 _ rfl q42)), (K58 _ 9 11 _ rfl (K54 _ 9 11 _ rfl q43)), (K58 _ 9 12 _ rfl (K54 _ 9 12 _ rfl q44)), (K58 _ 9 13 _ rfl (K54 _ 9 13 _ rfl q45)), h62, Im.o h63, Im.o h64⟩, by omega⟩)⟩⟩
  · refine mv_iload_n d_Reader_endText_22 rfl rfl ?_
    refine mv_bipush (v := 8) d_Reader_endText_23 (by decide) ?_
    have : ((v37 - v36) : Int32).toInt = v37.toInt - v36.toInt := mz_sub2 rfl rfl (by omega) (by omega)
    have := mz_hi (v37 - v36)
    refine mv_icmp_leZ (tgt := 36) (a := (v37 - v36).toInt) (b := 8) d_Reader_endText_25 (by decide) rfl (by decide) (fun b65 => ?_) (fun b65 => ?_)
    · refine mv_aload_n d_Reader_endText_36 rfl rfl ?_
      obtain ⟨_, b72, -⟩ := I23.1 _ _ t26
      refine mv_callV (kc' := 5) (ks' := 807) (As := []) (st9 := [.ref o0]) d_Reader_endText_37 lV_Reader_178 b72 rfl (tc_Reader_wordAsNumber_x (d := (d + 19)) (x9 := x9) (o0 := o0) t26 (ps := s30) (hK I23) ⟨_, _, _, _, _, _, _, q39, q40, q41, q42, q43, q44, q45, h46, Im.o h47, Im.o h48⟩ (by omega) (by have := (Im.o h48) (by omega); have := yC.d s30.2.2; have := yC.kn s30.2.2; omega) (by have := (Im.o h48) (by omega); have := yC.d s30.2.2; have := yC.kn s30.2.2; omega) I23.start) rfl (Nat.le_of_ble_eq_true rfl) (Nat.le_of_ble_eq_true rfl) (Nat.le_of_ble_eq_true rfl) (hst := rfl) (fun b66r M67 n68 b66 => ?_)
      obtain ⟨T69, J70, v73, rfl, f74⟩ := b66
      have I71 := I23.call J70 (tm_sub (by decide)) (Or.inl rfl)
      have t75 := J70.up t26
      have q76 := J70.keep t26 (by decide) q27
      have q77 := J70.keep (I23.up h_o0) (by decide) q39
      have q78 := J70.keep (I23.up h_o0) (by decide) q40
      have q79 := J70.keep (I23.up h_o0) (by decide) q41
      have q80 := J70.keep (I23.up h_o0) (by decide) q42
      have q81 := J70.keep (I23.up h_o0) (by decide) q43
      have q82 := J70.keep (I23.up h_o0) (by decide) q44
      have q83 := J70.keep (I23.up h_o0) (by decide) q45
      refine mv_lstore_n (lv' := [(3, .long v73), (2, .int (v37 - v36)), (0, .ref o0), (1, .null)]) d_Reader_endText_40 rfl (by decide) rfl ?_
      refine mv_aload_nN d_Reader_endText_41 rfl rfl ?_
      refine mv_ifnullN (tgt := 61) d_Reader_endText_42 (by decide) ?_
      refine mv_aload_n d_Reader_endText_61 rfl rfl ?_
      obtain ⟨_, b90, -⟩ := I71.1 _ _ t75
      refine mv_callV (kc' := 5) (ks' := 807) (As := []) (st9 := [.ref o0]) d_Reader_endText_62 lV_Reader_82 b90 rfl (tc_Reader_advance_x (d := (d + 19)) (x9 := x9) (o0 := o0) t75 (hK I71) (qS.a (show qS M67 o0 pb pn s30 from ⟨_, _, _, _, _, _, _, q77, q78, q79, q80, q81, q82, q83, h46, Im.o h47, Im.o h48⟩)) (by have := (Im.o h48) (by omega); have := yC.d s30.2.2; have := yC.kn s30.2.2; show s30.2.2 + 1 ≤ 401; omega) I71.start) rfl (Nat.le_of_ble_eq_true rfl) (Nat.le_of_ble_eq_true rfl) (Nat.le_of_ble_eq_true rfl) (hst := rfl) (fun b84r M85 n86 b84 => ?_)
      obtain ⟨T87, J88, rfl, f91⟩ := b84
      have I89 := I71.call J88 (tm_sub (by decide)) (Or.inl rfl)
      have t92 := J88.up t75
      have q93 := J88.keep t75 (by decide) q76
      have q94 := J88.keep t75 (by decide) q77
      have q95 := J88.keep t75 (by decide) q78
      obtain ⟨s96, e97⟩ : ∃ s9 : p_S, p_nx s30 = s9 := ⟨_, rfl⟩
      rw [e97] at f91
      have : s96.1 = 0 := by rw [← e97]; show s30.1 = 0; omega
      obtain ⟨v98, v99, v100, v101, v102, v103, v104, q105, q106, q107, q108, q109, q110, q111, h112, h113, h114⟩ := f91
      replace h113 := Im.i h113
      replace h114 := Im.i h114
      refine mv_aload_n d_Reader_endText_65 rfl rfl ?_
      refine mv_iconst (v := 0) d_Reader_endText_66 (by decide) ?_
      refine tr_putK tm_okF I89 t92 (k := 18) rfl ⟨_, rfl⟩ (Or.inl (by decide)) d_Reader_endText_67 p_Reader_118_9 rfl rfl (fun M115 I116 q117 K118 => ?_)
      refine mv_aload_n d_Reader_endText_70 rfl rfl ?_
      refine mv_bipush (v := 27) d_Reader_endText_71 (by decide) ?_
      obtain ⟨_, b125, -⟩ := I116.1 _ _ t92
      refine mv_callV (kc' := 5) (ks' := 807) (As := [.int 27]) (st9 := [.int 27, .ref o0]) d_Reader_endText_73 lV_Reader_121 b125 rfl (tc_Reader_word_x (d := (d + 18)) (x9 := x9) (o0 := o0) (x1 := 27) t92 (hK I116) ⟨_, _, _, _, _, _, _, (K118 _ 9 1 _ rfl q105), (K118 _ 9 2 _ rfl q106), (K118 _ 9 9 _ rfl q107), (K118 _ 9 10 _ rfl q108), (K118 _ 9 11 _ rfl q109), (K118 _ 9 12 _ rfl q110), (K118 _ 9 13 _ rfl q111), h112, Im.o h113, Im.o h114⟩ (by omega) (by first | omega | decide) I116.start) rfl (Nat.le_of_ble_eq_true rfl) (Nat.le_of_ble_eq_true rfl) (Nat.le_of_ble_eq_true rfl) (hst := rfl) (fun b119r M120 n121 b119 => ?_)
      obtain ⟨T122, J123, v126, rfl, b127, b128, f129, f130⟩ := b119
      have I124 := I116.call J123 (tm_sub (by decide)) (Or.inl rfl)
      have t131 := J123.up t92
      have q132 := J123.keep t92 (by decide) (K118 _ 9 16 _ rfl q93)
      have q133 := J123.keep t92 (by decide) q117
      rw [show (27 : Int32).toInt = 27 from by decide] at f129 f130
      obtain ⟨s134, e135⟩ : ∃ s9 : p_S, p_wd pb pn 27 s96 = s9 := ⟨_, rfl⟩
      rw [e135] at f129 f130
      obtain ⟨v136, v137, v138, v139, v140, v141, v142, q143, q144, q145, q146, q147, q148, q149, h150, h151, h152⟩ := f129
      replace h151 := Im.i h151
      replace h152 := Im.i h152
      have := mz_hi v126
      refine mv_if_eqZ (tgt := 86) (a := v126.toInt) d_Reader_endText_76 (by decide) rfl (fun b153 => ?_) (fun b153 => ?_)
      · refine mv_null d_Reader_endText_86 ?_
        exact mv_aret (r := none) d_Reader_endText_87 rfl (by first | exact Or.inl ⟨_, rfl⟩ | exact Or.inr ⟨_, rfl⟩) ⟨_, I124, Or.inl ⟨rfl, (by have := (Im.o h48) (by omega); have := yC.d s30.2.2; have := yC.kn s30.2.2; have hb : s134.1 ≠ 0 := (by omega); have z1 : ∀ c, p_sg pb pn c s134 = s134 := (fun c => p_sg_Z s134 hb); have z2 : ∀ c, p_wd pb pn c s134 = s134 := (fun c => p_wd_Z s134 hb); have z3 : ∀ op, p_sum pb pn pa op s134 = s134 := (fun op => p_sum_Z s134 hb); have z4 : ∀ r oc, p_con pb pn pa r oc s134 = s134 := (fun r oc => p_con_Z s134 hb); have z5 : p_prt pb pn s134 = s134 := p_prt_Z s134 hb; have eT : p_en1 pb pn pa [] (p_nx ps) = s134 := (by unfold p_en1; unfold p_prt; (try simp only [e31, e97, e135, z1, z2, z3, z4, z5]); ((repeat' (first | (with_reducible rfl) | split)) <;> (first | ((try simp only [e31, e97, e135, z1, z2, z3, z4, z5]); done) | (exfalso; omega)))); rw [eT]; exact ⟨⟨_, _, _, _, _, _, _, q143, q144, q145, q146, q147, q148, q149, h150, Im.o h151, Im.o h152⟩, by omega⟩)⟩⟩
      · refine mv_aload_n d_Reader_endText_79 rfl rfl ?_
        obtain ⟨_, b160, -⟩ := I124.1 _ _ t131
        refine mv_callV (kc' := 5) (ks' := 807) (As := []) (st9 := [.ref o0]) d_Reader_endText_80 lV_Reader_186 b160 rfl (tc_Reader_sum_q4_x (d := (d + 3)) (x9 := x9) (o0 := o0) t131 (p := p) q132 (by omega) (by first | omega | decide) (hK I124) ⟨_, _, _, _, _, _, _, q143, q144, q145, q146, q147, q148, q149, h150, Im.o h151, Im.o h152⟩ (by omega) I124.start) rfl (Nat.le_of_ble_eq_true rfl) (Nat.le_of_ble_eq_true rfl) (Nat.le_of_ble_eq_true rfl) (hst := rfl) (fun b154r M155 n156 b154 => ?_)
        obtain ⟨T157, J158, v161, rfl, b162, b163, o164, f165, f166⟩ := b154
        have I159 := I124.call J158 (tm_sub (by decide)) (Or.inl rfl)
        have t167 := J158.up t131
        obtain ⟨s168, e169⟩ : ∃ s9 : p_S, p_sum pb pn pa (p_op pb pn pa 4) s134 = s9 := ⟨_, rfl⟩
        rw [e169] at f165 f166
        obtain ⟨v170, v171, v172, v173, v174, v175, v176, q177, q178, q179, q180, q181, q182, q183, h184, h185, h186⟩ := f165
        replace h185 := Im.i h185
        replace h186 := Im.i h186
        have := mz_hi v161
        refine mv_if_neZ (tgt := 88) (a := v161.toInt) d_Reader_endText_83 (by decide) rfl (fun b187 => ?_) (fun b187 => ?_)
        · have q188 := o164 (by omega)
          refine mv_aload_n d_Reader_endText_88 rfl rfl ?_
          obtain ⟨_, b195, -⟩ := I159.1 _ _ t167
          refine mv_callV (kc' := 3) (ks' := 406) (As := []) (st9 := [.ref o0]) d_Reader_endText_89 lV_Reader_128 b195 rfl (tc_Reader_stepsTaken (d := (d + 17)) (x9 := x9) (o0 := o0) t167 I159.start) rfl (Nat.le_of_ble_eq_true rfl) (Nat.le_of_ble_eq_true rfl) (Nat.le_of_ble_eq_true rfl) (hst := rfl) (fun b189r M190 n191 b189 => ?_)
          obtain ⟨T192, J193, a196, rfl, t_a196⟩ := b189
          have I194 := I159.call J193 (tm_sub (by decide)) (Or.inl rfl)
          have t197 := J193.up t167
          have q198 := J193.keep (I159.up h_o0) (by decide) q177
          have q199 := J193.keep (I159.up h_o0) (by decide) q178
          have q200 := J193.keep (I159.up h_o0) (by decide) q179
          have q201 := J193.keep (I159.up h_o0) (by decide) q180
          have q202 := J193.keep (I159.up h_o0) (by decide) q181
          have q203 := J193.keep (I159.up h_o0) (by decide) q182
          have q204 := J193.keep (I159.up h_o0) (by decide) q183
          have q205 := J193.keep t167 (by decide) q188
          refine mv_astore (lv' := [(5, .ref a196), (3, .long v73), (2, .int (v37 - v36)), (0, .ref o0), (1, .null)]) d_Reader_endText_92 (by decide) rfl ?_
          refine mv_aload_n d_Reader_endText_94 rfl rfl ?_
          refine mv_iconst (v := 0) d_Reader_endText_95 (by decide) ?_
          refine tr_putK tm_okF I194 t197 (k := 18) rfl ⟨_, rfl⟩ (Or.inl (by decide)) d_Reader_endText_96 p_Reader_118_9 rfl rfl (fun M206 I207 q208 K209 => ?_)
          refine mv_aload_n d_Reader_endText_99 rfl rfl ?_
          refine mv_bipush (v := 28) d_Reader_endText_100 (by decide) ?_
          obtain ⟨_, b216, -⟩ := I207.1 _ _ t197
          refine mv_callV (kc' := 3) (ks' := 406) (As := [.int 28]) (st9 := [.int 28, .ref o0]) d_Reader_endText_102 lV_Reader_121 b216 rfl (tc_Reader_word_x (d := (d + 18)) (x9 := x9) (o0 := o0) (x1 := 28) t197 (hK I207) ⟨_, _, _, _, _, _, _, (K209 _ 9 1 _ rfl q198), (K209 _ 9 2 _ rfl q199), (K209 _ 9 9 _ rfl q200), (K209 _ 9 10 _ rfl q201), (K209 _ 9 11 _ rfl q202), (K209 _ 9 12 _ rfl q203), (K209 _ 9 13 _ rfl q204), h184, Im.o h185, Im.o h186⟩ (by omega) (by first | omega | decide) I207.start) rfl (Nat.le_of_ble_eq_true rfl) (Nat.le_of_ble_eq_true rfl) (Nat.le_of_ble_eq_true rfl) (hst := rfl) (fun b210r M211 n212 b210 => ?_)
          obtain ⟨T213, J214, v217, rfl, b218, b219, f220, f221⟩ := b210
          have I215 := I207.call J214 (tm_sub (by decide)) (Or.inl rfl)
          have t222 := J214.up t_a196
          have t223 := J214.up t197
          have q224 := J214.keep t197 (by decide) (K209 _ 9 16 _ rfl q205)
          have q225 := J214.keep t197 (by decide) q208
          rw [show (28 : Int32).toInt = 28 from by decide] at f220 f221
          obtain ⟨s226, e227⟩ : ∃ s9 : p_S, p_wd pb pn 28 s168 = s9 := ⟨_, rfl⟩
          rw [e227] at f220 f221
          obtain ⟨v228, v229, v230, v231, v232, v233, v234, q235, q236, q237, q238, q239, q240, q241, h242, h243, h244⟩ := f220
          replace h243 := Im.i h243
          replace h244 := Im.i h244
          have := mz_hi v217
          refine mv_if_eqZ (tgt := 115) (a := v217.toInt) d_Reader_endText_105 (by decide) rfl (fun b245 => ?_) (fun b245 => ?_)
          · refine mv_null d_Reader_endText_115 ?_
            exact mv_aret (r := none) d_Reader_endText_116 rfl (by first | exact Or.inl ⟨_, rfl⟩ | exact Or.inr ⟨_, rfl⟩) ⟨_, I215, Or.inl ⟨rfl, (by have := (Im.o h48) (by omega); have := yC.d s30.2.2; have := yC.kn s30.2.2; have hb : s226.1 ≠ 0 := (by omega); have z1 : ∀ c, p_sg pb pn c s226 = s226 := (fun c => p_sg_Z s226 hb); have z2 : ∀ c, p_wd pb pn c s226 = s226 := (fun c => p_wd_Z s226 hb); have z3 : ∀ op, p_sum pb pn pa op s226 = s226 := (fun op => p_sum_Z s226 hb); have z4 : ∀ r oc, p_con pb pn pa r oc s226 = s226 := (fun r oc => p_con_Z s226 hb); have z5 : p_prt pb pn s226 = s226 := p_prt_Z s226 hb; have eT : p_en1 pb pn pa [] (p_nx ps) = s226 := (by unfold p_en1; unfold p_prt; (try simp only [e31, e97, e135, e169, e227, z1, z2, z3, z4, z5]); ((repeat' (first | (with_reducible rfl) | split)) <;> (first | ((try simp only [e31, e97, e135, e169, e227, z1, z2, z3, z4, z5]); done) | (exfalso; omega)))); rw [eT]; exact ⟨⟨_, _, _, _, _, _, _, q235, q236, q237, q238, q239, q240, q241, h242, Im.o h243, Im.o h244⟩, by omega⟩)⟩⟩
          · refine mv_aload_n d_Reader_endText_108 rfl rfl ?_
            obtain ⟨_, b252, -⟩ := I215.1 _ _ t223
            refine mv_callV (kc' := 3) (ks' := 406) (As := []) (st9 := [.ref o0]) d_Reader_endText_109 lV_Reader_124 b252 rfl (tc_Reader_condition_q4_x (d := d) (x9 := x9) (o0 := o0) t223 (p := p) q224 (by omega) (by first | omega | decide) (hK I215) ⟨_, _, _, _, _, _, _, q235, q236, q237, q238, q239, q240, q241, h242, Im.o h243, Im.o h244⟩ (by omega) I215.start) rfl (Nat.le_of_ble_eq_true rfl) (Nat.le_of_ble_eq_true rfl) (Nat.le_of_ble_eq_true rfl) (hst := rfl) (fun b246r M247 n248 b246 => ?_)
            obtain ⟨T249, J250, v253, rfl, b254, b255, o256, f257, f258⟩ := b246
            have I251 := I215.call J250 (tm_sub (by decide)) (Or.inl rfl)
            have t259 := J250.up t222
            have t260 := J250.up t223
            obtain ⟨s261, e262⟩ : ∃ s9 : p_S, p_con pb pn pa 4 (p_oc pb pn pa 4) s226 = s9 := ⟨_, rfl⟩
            rw [e262] at f257 f258
            obtain ⟨v263, v264, v265, v266, v267, v268, v269, q270, q271, q272, q273, q274, q275, q276, h277, h278, h279⟩ := f257
            replace h278 := Im.i h278
            replace h279 := Im.i h279
            have := mz_hi v253
            refine mv_if_neZ (tgt := 117) (a := v253.toInt) d_Reader_endText_112 (by decide) rfl (fun b280 => ?_) (fun b280 => ?_)
            · have q281 := o256 (by omega)
              refine mv_aload_n d_Reader_endText_117 rfl rfl ?_
              refine mv_bipush (v := 29) d_Reader_endText_118 (by decide) ?_
              obtain ⟨_, b282, -⟩ := I251.1 _ _ t260
              refine mv_callV (kc1 := 0) (ks1 := 0) (kc' := 3) (ks' := 406) (As := [.int 29]) (st9 := [.int 29, .ref o0]) d_Reader_endText_120 lV_Reader_52 b282 rfl (mj_enter (by decide) (Nat.le_of_ble_eq_true rfl) ?_) rfl (Nat.le_of_ble_eq_true rfl) (Nat.le_of_ble_eq_true rfl) (Nat.le_of_ble_eq_true rfl) (hst := rfl) (fun _ _ _ h => h)
              refine mv_aload_n d_Reader_isWord_0 rfl rfl ?_
              refine tr_getK (k := 10) q273 d_Reader_isWord_1 f_Reader_41_9 ?_
              refine mv_iconst (v := 1) d_Reader_isWord_4 (by decide) ?_
              have := mz_hi v266
              refine mv_icmp_neZ (tgt := 20) (a := v266.toInt) (b := 1) d_Reader_isWord_5 (by decide) rfl (by decide) (fun b283 => ?_) (fun b283 => ?_)
              · refine mv_iconst (v := 0) d_Reader_isWord_20 (by decide) ?_
                refine mv_iret d_Reader_isWord_21 rfl (by decide) ?_
                refine mv_istore (lv' := [(6, .int 0), (5, .ref a196), (3, .long v73), (2, .int (v37 - v36)), (0, .ref o0), (1, .null)]) d_Reader_endText_123 (by decide) rfl ?_
                refine mv_iload d_Reader_endText_125 rfl ?_
                refine mv_if_eq_t (tgt := 134) d_Reader_endText_127 (by decide) (by decide) ?_
                refine tr_new (kc' := 2) (ks' := 401) tm_okF I251 d_Reader_endText_134 n_Reader_189 (Nat.le_of_ble_eq_true rfl) (Nat.le_of_ble_eq_true rfl) (fun T284 M285 I286 t_x287 m288 h289 u290 K291 => ?_)
                have q292 := tm_at.eq (K291 _ _ (I251.up h_o0)) q270
                have t293 := u290 _ _ (I251.up h_o0)
                have q294 := tm_at.eq (K291 _ _ (I251.up h_o0)) q271
                have q295 := tm_at.eq (K291 _ _ (I251.up h_o0)) q272
                have q296 := tm_at.eq (K291 _ _ (I251.up h_o0)) q273
                have q297 := tm_at.eq (K291 _ _ (I251.up h_o0)) q274
                have q298 := tm_at.eq (K291 _ _ (I251.up h_o0)) q275
                have q299 := tm_at.eq (K291 _ _ (I251.up h_o0)) q276
                have q300 := tm_at.eq (K291 _ _ t260) q281
                have t301 := u290 _ _ t259
                refine mv_dup d_Reader_endText_137 rfl ?_
                refine mv_lload_n d_Reader_endText_138 rfl rfl ?_
                refine mv_iload_n d_Reader_endText_139 rfl rfl ?_
                refine mv_aload d_Reader_endText_140 rfl ?_
                refine mv_aload_n d_Reader_endText_142 rfl rfl ?_
                obtain ⟨_, b308, -⟩ := I286.1 _ _ t293
                refine mv_callV (kc' := 0) (ks' := 0) (As := []) (st9 := [.ref o0, .ref a196, .int (v37 - v36), .long v73, .ref n248, .ref n248]) d_Reader_endText_143 lV_Reader_128 b308 rfl (tc_Reader_stepsTaken (d := (d + 17)) (x9 := (n248 + 1)) (o0 := o0) t293 I286.start) rfl (Nat.le_of_ble_eq_true rfl) (Nat.le_of_ble_eq_true rfl) (Nat.le_of_ble_eq_true rfl) (hst := rfl) (fun b302r M303 n304 b302 => ?_)
                obtain ⟨T305, J306, a309, rfl, t_a309⟩ := b302
                have I307 := I286.call J306 (tm_sub (by decide)) (Or.inr I286.2.2.2.1)
                have m310 := (J306.keepX t_x287 (tm_ne I286 t_x287)).trans m288
                have t311 := J306.up t_x287
                have t312 := J306.up t301
                have t313 := J306.up t293
                have q314 := J306.keep t293 (by decide) q292
                have q315 := J306.keep t293 (by decide) q294
                have q316 := J306.keep t293 (by decide) q295
                have q317 := J306.keep t293 (by decide) q296
                have q318 := J306.keep t293 (by decide) q297
                have q319 := J306.keep t293 (by decide) q298
                have q320 := J306.keep t293 (by decide) q299
                have q321 := J306.keep t293 (by decide) q300
                refine mv_iload d_Reader_endText_146 rfl ?_
                refine mv_callI (kc' := 0) (ks' := 0) (As := [.long v73, .int (v37 - v36), .ref a196, .ref a309, .int 0]) (st9 := [.int 0, .ref a309, .ref a196, .int (v37 - v36), .long v73, .ref n248, .ref n248]) d_Reader_endText_148 lI_Reader_191 (tc_EndText_init (d := (d + 18)) (o0 := n248) (x1 := v73) (x2 := (v37 - v36)) (o3 := a196) (o4 := a309) (x5 := 0) t311 t312 t_a309 (by decide) m310 I307.start) rfl (Nat.le_of_ble_eq_true rfl) (Nat.le_of_ble_eq_true rfl) (Nat.le_of_ble_eq_true rfl) (hst := rfl) (fun b322r M323 n324 b322 => ?_)
                obtain ⟨T325, J326, rfl, m328⟩ := b322
                have I327 := I307.call J326 (tm_sub (by decide)) (Or.inr h289)
                have t329 := J326.up t311
                have t330 := J326.up t312
                have t331 := J326.up t313
                have t332 := J326.up t_a309
                have q333 := J326.keep t313 (by decide) q314
                have q334 := J326.keep t313 (by decide) q315
                have q335 := J326.keep t313 (by decide) q316
                have q336 := J326.keep t313 (by decide) q317
                have q337 := J326.keep t313 (by decide) q318
                have q338 := J326.keep t313 (by decide) q319
                have q339 := J326.keep t313 (by decide) q320
                have q340 := J326.keep t313 (by decide) q321
                obtain ⟨T341, I342, t_x343, u344⟩ := I327.sealO tm_okF t329 h289 m328 (fun _ z9 => (tm_fs_cons ⟨_, rfl⟩ (tm_fs_cons ⟨_, rfl⟩ (tm_fs_cons ⟨_, rfl, z9 _ _ t330 (Nat.le_of_ble_eq_true rfl)⟩ (tm_fs_cons ⟨_, rfl, z9 _ _ t332 (Nat.le_of_ble_eq_true rfl)⟩ (tm_fs_cons ⟨_, rfl⟩ tm_fs_nil))))))
                have t345 := u344 _ _ t331 (tm_dif t331 t329 rfl)
                have q346 : tm_at M323 n248 4 0 (.long v73) := ⟨_, m328, rfl⟩
                have q347 : tm_at M323 n248 4 1 (.int (v37 - v36)) := ⟨_, m328, rfl⟩
                have q348 : tm_at M323 n248 4 2 (.ref a196) := ⟨_, m328, rfl⟩
                have t349 := u344 _ _ t330 (tm_dif t330 t329 rfl)
                have q350 : tm_at M323 n248 4 3 (.ref a309) := ⟨_, m328, rfl⟩
                have t351 := u344 _ _ t332 (tm_dif t332 t329 rfl)
                have q352 : tm_at M323 n248 4 4 (.int 0) := ⟨_, m328, rfl⟩
                exact mv_aret (r := (some n248)) d_Reader_endText_151 rfl (by first | exact Or.inl ⟨_, rfl⟩ | exact Or.inr ⟨_, rfl⟩) ⟨_, I342, Or.inr ⟨_, rfl, t_x343, q340, (by have := (Im.o h48) (by omega); have := yC.d s30.2.2; have := yC.kn s30.2.2; have := (Im.o h279) (by omega); have := yC.d s261.2.2; have := yC.kn s261.2.2; have eT : p_en1 pb pn pa [] (p_nx ps) = s261 := (by unfold p_en1; unfold p_prt; (try simp only [e31, e97, e135, e169, e227, e262]); ((repeat' (first | (with_reducible rfl) | split)) <;> (first | ((try simp only [e31, e97, e135, e169, e227, e262]); done) | (exfalso; omega)))); rw [eT]; exact ⟨⟨_, _, _, _, _, _, _, q333, q334, q335, q336, q337, q338, q339, h277, Im.o h278, Im.o h279⟩, by omega, (by rw [hz1]; omega), _, q346, (by rw [hz1]; exact f74)⟩)⟩⟩
              · refine mv_aload_n d_Reader_isWord_8 rfl rfl ?_
                refine tr_getK (k := 13) q276 d_Reader_isWord_9 f_Reader_241_9 ?_
                refine mv_iload_n d_Reader_isWord_12 rfl rfl ?_
                have := mz_hi v269
                refine mv_icmp_neZ (tgt := 20) (a := v269.toInt) (b := 29) d_Reader_isWord_13 (by decide) rfl (by decide) (fun b353 => ?_) (fun b353 => ?_)
                · refine mv_iconst (v := 0) d_Reader_isWord_20 (by decide) ?_
                  refine mv_iret d_Reader_isWord_21 rfl (by decide) ?_
                  refine mv_istore (lv' := [(6, .int 0), (5, .ref a196), (3, .long v73), (2, .int (v37 - v36)), (0, .ref o0), (1, .null)]) d_Reader_endText_123 (by decide) rfl ?_
                  refine mv_iload d_Reader_endText_125 rfl ?_
                  refine mv_if_eq_t (tgt := 134) d_Reader_endText_127 (by decide) (by decide) ?_
                  refine tr_new (kc' := 2) (ks' := 401) tm_okF I251 d_Reader_endText_134 n_Reader_189 (Nat.le_of_ble_eq_true rfl) (Nat.le_of_ble_eq_true rfl) (fun T354 M355 I356 t_x357 m358 h359 u360 K361 => ?_)
                  have q362 := tm_at.eq (K361 _ _ (I251.up h_o0)) q270
                  have t363 := u360 _ _ (I251.up h_o0)
                  have q364 := tm_at.eq (K361 _ _ (I251.up h_o0)) q271
                  have q365 := tm_at.eq (K361 _ _ (I251.up h_o0)) q272
                  have q366 := tm_at.eq (K361 _ _ (I251.up h_o0)) q273
                  have q367 := tm_at.eq (K361 _ _ (I251.up h_o0)) q274
                  have q368 := tm_at.eq (K361 _ _ (I251.up h_o0)) q275
                  have q369 := tm_at.eq (K361 _ _ (I251.up h_o0)) q276
                  have q370 := tm_at.eq (K361 _ _ t260) q281
                  have t371 := u360 _ _ t259
                  refine mv_dup d_Reader_endText_137 rfl ?_
                  refine mv_lload_n d_Reader_endText_138 rfl rfl ?_
                  refine mv_iload_n d_Reader_endText_139 rfl rfl ?_
                  refine mv_aload d_Reader_endText_140 rfl ?_
                  refine mv_aload_n d_Reader_endText_142 rfl rfl ?_
                  obtain ⟨_, b378, -⟩ := I356.1 _ _ t363
                  refine mv_callV (kc' := 0) (ks' := 0) (As := []) (st9 := [.ref o0, .ref a196, .int (v37 - v36), .long v73, .ref n248, .ref n248]) d_Reader_endText_143 lV_Reader_128 b378 rfl (tc_Reader_stepsTaken (d := (d + 17)) (x9 := (n248 + 1)) (o0 := o0) t363 I356.start) rfl (Nat.le_of_ble_eq_true rfl) (Nat.le_of_ble_eq_true rfl) (Nat.le_of_ble_eq_true rfl) (hst := rfl) (fun b372r M373 n374 b372 => ?_)
                  obtain ⟨T375, J376, a379, rfl, t_a379⟩ := b372
                  have I377 := I356.call J376 (tm_sub (by decide)) (Or.inr I356.2.2.2.1)
                  have m380 := (J376.keepX t_x357 (tm_ne I356 t_x357)).trans m358
                  have t381 := J376.up t_x357
                  have t382 := J376.up t371
                  have t383 := J376.up t363
                  have q384 := J376.keep t363 (by decide) q362
                  have q385 := J376.keep t363 (by decide) q364
                  have q386 := J376.keep t363 (by decide) q365
                  have q387 := J376.keep t363 (by decide) q366
                  have q388 := J376.keep t363 (by decide) q367
                  have q389 := J376.keep t363 (by decide) q368
                  have q390 := J376.keep t363 (by decide) q369
                  have q391 := J376.keep t363 (by decide) q370
                  refine mv_iload d_Reader_endText_146 rfl ?_
                  refine mv_callI (kc' := 0) (ks' := 0) (As := [.long v73, .int (v37 - v36), .ref a196, .ref a379, .int 0]) (st9 := [.int 0, .ref a379, .ref a196, .int (v37 - v36), .long v73, .ref n248, .ref n248]) d_Reader_endText_148 lI_Reader_191 (tc_EndText_init (d := (d + 18)) (o0 := n248) (x1 := v73) (x2 := (v37 - v36)) (o3 := a196) (o4 := a379) (x5 := 0) t381 t382 t_a379 (by decide) m380 I377.start) rfl (Nat.le_of_ble_eq_true rfl) (Nat.le_of_ble_eq_true rfl) (Nat.le_of_ble_eq_true rfl) (hst := rfl) (fun b392r M393 n394 b392 => ?_)
                  obtain ⟨T395, J396, rfl, m398⟩ := b392
                  have I397 := I377.call J396 (tm_sub (by decide)) (Or.inr h359)
                  have t399 := J396.up t381
                  have t400 := J396.up t382
                  have t401 := J396.up t383
                  have t402 := J396.up t_a379
                  have q403 := J396.keep t383 (by decide) q384
                  have q404 := J396.keep t383 (by decide) q385
                  have q405 := J396.keep t383 (by decide) q386
                  have q406 := J396.keep t383 (by decide) q387
                  have q407 := J396.keep t383 (by decide) q388
                  have q408 := J396.keep t383 (by decide) q389
                  have q409 := J396.keep t383 (by decide) q390
                  have q410 := J396.keep t383 (by decide) q391
                  obtain ⟨T411, I412, t_x413, u414⟩ := I397.sealO tm_okF t399 h359 m398 (fun _ z9 => (tm_fs_cons ⟨_, rfl⟩ (tm_fs_cons ⟨_, rfl⟩ (tm_fs_cons ⟨_, rfl, z9 _ _ t400 (Nat.le_of_ble_eq_true rfl)⟩ (tm_fs_cons ⟨_, rfl, z9 _ _ t402 (Nat.le_of_ble_eq_true rfl)⟩ (tm_fs_cons ⟨_, rfl⟩ tm_fs_nil))))))
                  have t415 := u414 _ _ t401 (tm_dif t401 t399 rfl)
                  have q416 : tm_at M393 n248 4 0 (.long v73) := ⟨_, m398, rfl⟩
                  have q417 : tm_at M393 n248 4 1 (.int (v37 - v36)) := ⟨_, m398, rfl⟩
                  have q418 : tm_at M393 n248 4 2 (.ref a196) := ⟨_, m398, rfl⟩
                  have t419 := u414 _ _ t400 (tm_dif t400 t399 rfl)
                  have q420 : tm_at M393 n248 4 3 (.ref a379) := ⟨_, m398, rfl⟩
                  have t421 := u414 _ _ t402 (tm_dif t402 t399 rfl)
                  have q422 : tm_at M393 n248 4 4 (.int 0) := ⟨_, m398, rfl⟩
                  exact mv_aret (r := (some n248)) d_Reader_endText_151 rfl (by first | exact Or.inl ⟨_, rfl⟩ | exact Or.inr ⟨_, rfl⟩) ⟨_, I412, Or.inr ⟨_, rfl, t_x413, q410, (by have := (Im.o h48) (by omega); have := yC.d s30.2.2; have := yC.kn s30.2.2; have := (Im.o h279) (by omega); have := yC.d s261.2.2; have := yC.kn s261.2.2; have eT : p_en1 pb pn pa [] (p_nx ps) = s261 := (by unfold p_en1; unfold p_prt; (try simp only [e31, e97, e135, e169, e227, e262]); ((repeat' (first | (with_reducible rfl) | split)) <;> (first | ((try simp only [e31, e97, e135, e169, e227, e262]); done) | (exfalso; omega)))); rw [eT]; exact ⟨⟨_, _, _, _, _, _, _, q403, q404, q405, q406, q407, q408, q409, h277, Im.o h278, Im.o h279⟩, by omega, (by rw [hz1]; omega), _, q416, (by rw [hz1]; exact f74)⟩)⟩⟩
                · refine mv_iconst (v := 1) d_Reader_isWord_16 (by decide) ?_
                  refine mv_goto (tgt := 21) d_Reader_isWord_17 (by decide) ?_
                  refine mv_iret d_Reader_isWord_21 rfl (by decide) ?_
                  refine mv_istore (lv' := [(6, .int 1), (5, .ref a196), (3, .long v73), (2, .int (v37 - v36)), (0, .ref o0), (1, .null)]) d_Reader_endText_123 (by decide) rfl ?_
                  refine mv_iload d_Reader_endText_125 rfl ?_
                  refine mv_if_eq_f (tgt := 134) d_Reader_endText_127 (by decide) (by decide) ?_
                  refine mv_aload_n d_Reader_endText_130 rfl rfl ?_
                  obtain ⟨_, b429, -⟩ := I251.1 _ _ t260
                  refine mv_callV (kc' := 3) (ks' := 406) (As := []) (st9 := [.ref o0]) d_Reader_endText_131 lV_Reader_82 b429 rfl (tc_Reader_advance_x (d := (d + 19)) (x9 := x9) (o0 := o0) t260 (hK I251) (qS.a (show qS M247 o0 pb pn s261 from ⟨_, _, _, _, _, _, _, q270, q271, q272, q273, q274, q275, q276, h277, Im.o h278, Im.o h279⟩)) (by have := (Im.o h48) (by omega); have := yC.d s30.2.2; have := yC.kn s30.2.2; have := (Im.o h279) (by omega); have := yC.d s261.2.2; have := yC.kn s261.2.2; show s261.2.2 + 1 ≤ 401; omega) I251.start) rfl (Nat.le_of_ble_eq_true rfl) (Nat.le_of_ble_eq_true rfl) (Nat.le_of_ble_eq_true rfl) (hst := rfl) (fun b423r M424 n425 b423 => ?_)
                  obtain ⟨T426, J427, rfl, f430⟩ := b423
                  have I428 := I251.call J427 (tm_sub (by decide)) (Or.inl rfl)
                  have t431 := J427.up t259
                  have t432 := J427.up t260
                  have q433 := J427.keep (I251.up h_o0) (by decide) q270
                  have q434 := J427.keep (I251.up h_o0) (by decide) q271
                  have q435 := J427.keep t260 (by decide) q281
                  obtain ⟨s436, e437⟩ : ∃ s9 : p_S, p_nx s261 = s9 := ⟨_, rfl⟩
                  rw [e437] at f430
                  have : s436.1 = 0 := by rw [← e437]; show s261.1 = 0; omega
                  obtain ⟨v438, v439, v440, v441, v442, v443, v444, q445, q446, q447, q448, q449, q450, q451, h452, h453, h454⟩ := f430
                  replace h453 := Im.i h453
                  replace h454 := Im.i h454
                  refine tr_new (kc' := 2) (ks' := 401) tm_okF I428 d_Reader_endText_134 n_Reader_189 (Nat.le_of_ble_eq_true rfl) (Nat.le_of_ble_eq_true rfl) (fun T455 M456 I457 t_x458 m459 h460 u461 K462 => ?_)
                  have q463 := tm_at.eq (K462 _ _ (I428.up h_o0)) q445
                  have t464 := u461 _ _ (I428.up h_o0)
                  have q465 := tm_at.eq (K462 _ _ (I428.up h_o0)) q446
                  have q466 := tm_at.eq (K462 _ _ t432) q435
                  have q467 := tm_at.eq (K462 _ _ (I428.up h_o0)) q447
                  have q468 := tm_at.eq (K462 _ _ (I428.up h_o0)) q448
                  have q469 := tm_at.eq (K462 _ _ (I428.up h_o0)) q449
                  have q470 := tm_at.eq (K462 _ _ (I428.up h_o0)) q450
                  have q471 := tm_at.eq (K462 _ _ (I428.up h_o0)) q451
                  have t472 := u461 _ _ t431
                  refine mv_dup d_Reader_endText_137 rfl ?_
                  refine mv_lload_n d_Reader_endText_138 rfl rfl ?_
                  refine mv_iload_n d_Reader_endText_139 rfl rfl ?_
                  refine mv_aload d_Reader_endText_140 rfl ?_
                  refine mv_aload_n d_Reader_endText_142 rfl rfl ?_
                  obtain ⟨_, b479, -⟩ := I457.1 _ _ t464
                  refine mv_callV (kc' := 0) (ks' := 0) (As := []) (st9 := [.ref o0, .ref a196, .int (v37 - v36), .long v73, .ref n425, .ref n425]) d_Reader_endText_143 lV_Reader_128 b479 rfl (tc_Reader_stepsTaken (d := (d + 17)) (x9 := (n425 + 1)) (o0 := o0) t464 I457.start) rfl (Nat.le_of_ble_eq_true rfl) (Nat.le_of_ble_eq_true rfl) (Nat.le_of_ble_eq_true rfl) (hst := rfl) (fun b473r M474 n475 b473 => ?_)
                  obtain ⟨T476, J477, a480, rfl, t_a480⟩ := b473
                  have I478 := I457.call J477 (tm_sub (by decide)) (Or.inr I457.2.2.2.1)
                  have m481 := (J477.keepX t_x458 (tm_ne I457 t_x458)).trans m459
                  have t482 := J477.up t_x458
                  have t483 := J477.up t472
                  have t484 := J477.up t464
                  have q485 := J477.keep t464 (by decide) q463
                  have q486 := J477.keep t464 (by decide) q465
                  have q487 := J477.keep t464 (by decide) q466
                  have q488 := J477.keep t464 (by decide) q467
                  have q489 := J477.keep t464 (by decide) q468
                  have q490 := J477.keep t464 (by decide) q469
                  have q491 := J477.keep t464 (by decide) q470
                  have q492 := J477.keep t464 (by decide) q471
                  refine mv_iload d_Reader_endText_146 rfl ?_
                  refine mv_callI (kc' := 0) (ks' := 0) (As := [.long v73, .int (v37 - v36), .ref a196, .ref a480, .int 1]) (st9 := [.int 1, .ref a480, .ref a196, .int (v37 - v36), .long v73, .ref n425, .ref n425]) d_Reader_endText_148 lI_Reader_191 (tc_EndText_init (d := (d + 18)) (o0 := n425) (x1 := v73) (x2 := (v37 - v36)) (o3 := a196) (o4 := a480) (x5 := 1) t482 t483 t_a480 (by decide) m481 I478.start) rfl (Nat.le_of_ble_eq_true rfl) (Nat.le_of_ble_eq_true rfl) (Nat.le_of_ble_eq_true rfl) (hst := rfl) (fun b493r M494 n495 b493 => ?_)
                  obtain ⟨T496, J497, rfl, m499⟩ := b493
                  have I498 := I478.call J497 (tm_sub (by decide)) (Or.inr h460)
                  have t500 := J497.up t482
                  have t501 := J497.up t483
                  have t502 := J497.up t484
                  have t503 := J497.up t_a480
                  have q504 := J497.keep t484 (by decide) q485
                  have q505 := J497.keep t484 (by decide) q486
                  have q506 := J497.keep t484 (by decide) q487
                  have q507 := J497.keep t484 (by decide) q488
                  have q508 := J497.keep t484 (by decide) q489
                  have q509 := J497.keep t484 (by decide) q490
                  have q510 := J497.keep t484 (by decide) q491
                  have q511 := J497.keep t484 (by decide) q492
                  obtain ⟨T512, I513, t_x514, u515⟩ := I498.sealO tm_okF t500 h460 m499 (fun _ z9 => (tm_fs_cons ⟨_, rfl⟩ (tm_fs_cons ⟨_, rfl⟩ (tm_fs_cons ⟨_, rfl, z9 _ _ t501 (Nat.le_of_ble_eq_true rfl)⟩ (tm_fs_cons ⟨_, rfl, z9 _ _ t503 (Nat.le_of_ble_eq_true rfl)⟩ (tm_fs_cons ⟨_, rfl⟩ tm_fs_nil))))))
                  have t516 := u515 _ _ t502 (tm_dif t502 t500 rfl)
                  have q517 : tm_at M494 n425 4 0 (.long v73) := ⟨_, m499, rfl⟩
                  have q518 : tm_at M494 n425 4 1 (.int (v37 - v36)) := ⟨_, m499, rfl⟩
                  have q519 : tm_at M494 n425 4 2 (.ref a196) := ⟨_, m499, rfl⟩
                  have t520 := u515 _ _ t501 (tm_dif t501 t500 rfl)
                  have q521 : tm_at M494 n425 4 3 (.ref a480) := ⟨_, m499, rfl⟩
                  have t522 := u515 _ _ t503 (tm_dif t503 t500 rfl)
                  have q523 : tm_at M494 n425 4 4 (.int 1) := ⟨_, m499, rfl⟩
                  exact mv_aret (r := (some n425)) d_Reader_endText_151 rfl (by first | exact Or.inl ⟨_, rfl⟩ | exact Or.inr ⟨_, rfl⟩) ⟨_, I513, Or.inr ⟨_, rfl, t_x514, q506, (by have := (Im.o h48) (by omega); have := yC.d s30.2.2; have := yC.kn s30.2.2; have := (Im.o h279) (by omega); have := yC.d s261.2.2; have := yC.kn s261.2.2; have eT : p_en1 pb pn pa [] (p_nx ps) = s436 := (by unfold p_en1; unfold p_prt; (try simp only [e31, e97, e135, e169, e227, e262, e437]); ((repeat' (first | (with_reducible rfl) | split)) <;> (first | ((try simp only [e31, e97, e135, e169, e227, e262, e437]); done) | (exfalso; omega)))); rw [eT]; exact ⟨⟨_, _, _, _, _, _, _, q504, q505, q507, q508, q509, q510, q511, h452, Im.o h453, Im.o h454⟩, by omega, (by rw [hz1]; omega), _, q517, (by rw [hz1]; exact f74)⟩)⟩⟩
            · refine mv_null d_Reader_endText_115 ?_
              exact mv_aret (r := none) d_Reader_endText_116 rfl (by first | exact Or.inl ⟨_, rfl⟩ | exact Or.inr ⟨_, rfl⟩) ⟨_, I251, Or.inl ⟨rfl, (by have := (Im.o h48) (by omega); have := yC.d s30.2.2; have := yC.kn s30.2.2; have hb : s261.1 ≠ 0 := (by omega); have z1 : ∀ c, p_sg pb pn c s261 = s261 := (fun c => p_sg_Z s261 hb); have z2 : ∀ c, p_wd pb pn c s261 = s261 := (fun c => p_wd_Z s261 hb); have z3 : ∀ op, p_sum pb pn pa op s261 = s261 := (fun op => p_sum_Z s261 hb); have z4 : ∀ r oc, p_con pb pn pa r oc s261 = s261 := (fun r oc => p_con_Z s261 hb); have z5 : p_prt pb pn s261 = s261 := p_prt_Z s261 hb; have eT : p_en1 pb pn pa [] (p_nx ps) = s261 := (by unfold p_en1; unfold p_prt; (try simp only [e31, e97, e135, e169, e227, e262, z1, z2, z3, z4, z5]); ((repeat' (first | (with_reducible rfl) | split)) <;> (first | ((try simp only [e31, e97, e135, e169, e227, e262, z1, z2, z3, z4, z5]); done) | (exfalso; omega)))); rw [eT]; exact ⟨⟨_, _, _, _, _, _, _, q270, q271, q272, q273, q274, q275, q276, h277, Im.o h278, Im.o h279⟩, by omega⟩)⟩⟩
        · refine mv_null d_Reader_endText_86 ?_
          exact mv_aret (r := none) d_Reader_endText_87 rfl (by first | exact Or.inl ⟨_, rfl⟩ | exact Or.inr ⟨_, rfl⟩) ⟨_, I159, Or.inl ⟨rfl, (by have := (Im.o h48) (by omega); have := yC.d s30.2.2; have := yC.kn s30.2.2; have hb : s168.1 ≠ 0 := (by omega); have z1 : ∀ c, p_sg pb pn c s168 = s168 := (fun c => p_sg_Z s168 hb); have z2 : ∀ c, p_wd pb pn c s168 = s168 := (fun c => p_wd_Z s168 hb); have z3 : ∀ op, p_sum pb pn pa op s168 = s168 := (fun op => p_sum_Z s168 hb); have z4 : ∀ r oc, p_con pb pn pa r oc s168 = s168 := (fun r oc => p_con_Z s168 hb); have z5 : p_prt pb pn s168 = s168 := p_prt_Z s168 hb; have eT : p_en1 pb pn pa [] (p_nx ps) = s168 := (by unfold p_en1; unfold p_prt; (try simp only [e31, e97, e135, e169, z1, z2, z3, z4, z5]); ((repeat' (first | (with_reducible rfl) | split)) <;> (first | ((try simp only [e31, e97, e135, e169, z1, z2, z3, z4, z5]); done) | (exfalso; omega)))); rw [eT]; exact ⟨⟨_, _, _, _, _, _, _, q177, q178, q179, q180, q181, q182, q183, h184, Im.o h185, Im.o h186⟩, by omega⟩)⟩⟩
    · refine mv_aload_n d_Reader_endText_28 rfl rfl ?_
      refine mv_iconst (v := 1) d_Reader_endText_29 (by decide) ?_
      obtain ⟨_, b524, -⟩ := I23.1 _ _ t26
      refine mv_callV (kc1 := 0) (ks1 := 0) (kc' := 0) (ks' := 0) (As := [.int 1]) (st9 := [.int 1, .ref o0]) d_Reader_endText_30 lV_Reader_56 b524 rfl (mj_enter (by decide) (Nat.le_of_ble_eq_true rfl) ?_) rfl (Nat.le_of_ble_eq_true rfl) (Nat.le_of_ble_eq_true rfl) (Nat.le_of_ble_eq_true rfl) (hst := rfl) (fun _ _ _ h => h)
      refine mv_aload_n d_Reader_refuse_0 rfl rfl ?_
      refine mv_iload_n d_Reader_refuse_1 rfl rfl ?_
      refine tr_putK tm_okF I23 t26 (k := 1) rfl ⟨_, rfl⟩ (Or.inl (by decide)) d_Reader_refuse_2 p_Reader_70_9 rfl rfl (fun M525 I526 q527 K528 => ?_)
      refine mv_aload_n d_Reader_refuse_5 rfl rfl ?_
      refine mv_aload_n d_Reader_refuse_6 rfl rfl ?_
      refine tr_getK (k := 11) (K528 _ 9 11 _ rfl q43) d_Reader_refuse_7 f_Reader_175_9 ?_
      refine tr_putK tm_okF I526 t26 (k := 2) rfl ⟨_, rfl⟩ (Or.inl (by decide)) d_Reader_refuse_10 p_Reader_11_9 rfl rfl (fun M529 I530 q531 K532 => ?_)
      refine mv_iconst (v := 0) d_Reader_refuse_13 (by decide) ?_
      obtain ⟨s533, e534⟩ : ∃ s9 : p_S, p_fl pb pn 1 s30 = s9 := ⟨_, rfl⟩
      have h535 := q_fl e534 (by omega) (by decide)
      have h536 : (1 : Int32).toInt = s533.1 := (by have e9 : (1 : Int32).toInt = 1 := (by decide); omega)
      have h537 : Im (s533.1 ≠ 0 → v36.toInt = (s533.2.1 : Int)) := Im.i (fun _ => by have := (Im.o h48) (by omega); omega)
      have h538 : Im (s533.1 = 0 → v34.toInt = (s533.2.2 : Int) ∧ v35.toInt = p_ki pb pn s533.2.2 ∧ v36.toInt = (p_st pb pn s533.2.2 : Int) ∧ v37.toInt = (p_sp pb pn s533.2.2 : Int) ∧ v38.toInt = p_va pb pn s533.2.2 ∧ v36.toInt = -1) := Im.i (fun z9 => absurd z9 h535.2.2)
      refine mv_iret d_Reader_refuse_14 rfl (by decide) ?_
      refine mv_pop d_Reader_endText_33 rfl ?_
      refine mv_null d_Reader_endText_34 ?_
      exact mv_aret (r := none) d_Reader_endText_35 rfl (by first | exact Or.inl ⟨_, rfl⟩ | exact Or.inr ⟨_, rfl⟩) ⟨_, I530, Or.inl ⟨rfl, (by have := (Im.o h48) (by omega); have := yC.d s30.2.2; have := yC.kn s30.2.2; have hb : s533.1 ≠ 0 := (by omega); have z1 : ∀ c, p_sg pb pn c s533 = s533 := (fun c => p_sg_Z s533 hb); have z2 : ∀ c, p_wd pb pn c s533 = s533 := (fun c => p_wd_Z s533 hb); have z3 : ∀ op, p_sum pb pn pa op s533 = s533 := (fun op => p_sum_Z s533 hb); have z4 : ∀ r oc, p_con pb pn pa r oc s533 = s533 := (fun r oc => p_con_Z s533 hb); have z5 : p_prt pb pn s533 = s533 := p_prt_Z s533 hb; have eT : p_en1 pb pn pa [] (p_nx ps) = s533 := (by unfold p_en1; unfold p_prt; (try simp only [e31, e534, z1, z2, z3, z4, z5]); ((repeat' (first | (with_reducible rfl) | split)) <;> (first | ((try simp only [e31, e534, z1, z2, z3, z4, z5]); done) | (exfalso; omega)))); rw [eT]; exact ⟨⟨_, _, _, _, _, _, _, (K532 _ 9 1 _ rfl q527), q531, (K532 _ 9 9 _ rfl (K528 _ 9 9 _ rfl q41)), (K532 _ 9 10 _ rfl (K528 _ 9 10 _ rfl q42)), (K532 _ 9 11 _ rfl (K528 _ 9 11 _ rfl q43)), (K532 _ 9 12 _ rfl (K528 _ 9 12 _ rfl q44)), (K532 _ 9 13 _ rfl (K528 _ 9 13 _ rfl q45)), h536, Im.o h537, Im.o h538⟩, by omega⟩)⟩⟩
def w_Reader_readNearEnd_x : List Nat := [901, 902, 908, 909, 910, 911, 912, 913, 914, 915, 916, 918, 954, 955, 956, 957, 967]
set_option maxHeartbeats 100000000 in theorem tc_Reader_readNearEnd_x {g : mj_G} {l : Launch} {d : Nat} {T0 : tm_H} {M0 : mj_M} {n0 x9 : Nat} {o0 : Nat} (h_o0 : T0 o0 = some (0, 9, 0)) {pb : Nat → Int} {pn : Nat} (yB : qB M0 o0 pb pn) (I0 : tm_I tm_FT (tm_in w_Reader_readNearEnd_x) x9 T0 M0 n0 T0 M0 n0) : mj_Met g l kY_Reader_readNearEnd (d + 21) [.ref o0] M0 n0 5 807 (tm_Q tm_FT (tm_in w_Reader_readNearEnd_x) x9 T0 M0 n0 (fun r T M => (r = some .null ∧ ∃ vf vp : Int32, tm_at M o0 9 1 (.int vf) ∧ tm_at M o0 9 2 (.int vp) ∧ vf.toInt = (p_nea pb pn).1 ∧ (p_nea pb pn).1 ≠ 0 ∧ vp.toInt = ((p_nea pb pn).2.1 : Int)) ∨ ∃ b, r = some (.ref b) ∧ T b = some (0, 4, 0) ∧ ∃ vf vp : Int32, tm_at M o0 9 1 (.int vf) ∧ tm_at M o0 9 2 (.int vp) ∧ vf.toInt = (p_nea pb pn).1 ∧ (p_nea pb pn).1 = 0 ∧ vp.toInt = -1)) := by
  refine mj_enter (by decide) (Nat.le_of_ble_eq_true rfl) ?_
  have hB : ∀ {T : tm_H} {M : mj_M} {n : Nat}, tm_I tm_FT (tm_in w_Reader_readNearEnd_x) x9 T0 M0 n0 T M n → qB M o0 pb pn := fun I => yB.keep I0.1 I h_o0 (by decide +kernel) (by decide +kernel) (by decide +kernel)
  have := yB.1
  have := yB.2.1
  refine mv_aload_n d_Reader_readNearEnd_0 rfl rfl ?_
  refine mv_bipush (v := 10) d_Reader_readNearEnd_1 (by decide) ?_
  obtain ⟨_, b7, -⟩ := I0.1 _ _ h_o0
  refine mv_callV (kc' := 5) (ks' := 807) (As := [.int 10]) (st9 := [.int 10, .ref o0]) d_Reader_readNearEnd_3 lV_Reader_37 b7 rfl (tc_Reader_begin_x (d := (d + 11)) (x9 := x9) (o0 := o0) (x1 := 10) h_o0 (hB I0) (by decide) I0.start) rfl (Nat.le_of_ble_eq_true rfl) (Nat.le_of_ble_eq_true rfl) (Nat.le_of_ble_eq_true rfl) (hst := rfl) (fun b1r M2 n3 b1 => ?_)
  obtain ⟨T4, J5, rfl, f8, f9, f10⟩ := b1
  have I6 := I0.call J5 (tm_sub (by decide)) (Or.inl rfl)
  have t11 := J5.up h_o0
  rw [show (10 : Int32).toInt = 10 from by decide] at f9
  obtain ⟨s12, e13⟩ : ∃ s9 : p_S, (0, 0, 0) = s9 := ⟨_, rfl⟩
  rw [e13] at f10
  have : s12.1 = 0 := by rw [← e13]
  have : s12.2.2 = 0 := by rw [← e13]
  obtain ⟨v14, v15, v16, v17, v18, v19, v20, q21, q22, q23, q24, q25, q26, q27, h28, h29, h30⟩ := f10
  replace h29 := Im.i h29
  replace h30 := Im.i h30
  have yC := f9
  refine mv_aload_n d_Reader_readNearEnd_6 rfl rfl ?_
  refine mv_bipush (v := 26) d_Reader_readNearEnd_7 (by decide) ?_
  obtain ⟨_, b31, -⟩ := I6.1 _ _ t11
  refine mv_callV (kc1 := 0) (ks1 := 0) (kc' := 5) (ks' := 807) (As := [.int 26]) (st9 := [.int 26, .ref o0]) d_Reader_readNearEnd_9 lV_Reader_52 b31 rfl (mj_enter (by decide) (Nat.le_of_ble_eq_true rfl) ?_) rfl (Nat.le_of_ble_eq_true rfl) (Nat.le_of_ble_eq_true rfl) (Nat.le_of_ble_eq_true rfl) (hst := rfl) (fun _ _ _ h => h)
  refine mv_aload_n d_Reader_isWord_0 rfl rfl ?_
  refine tr_getK (k := 10) q24 d_Reader_isWord_1 f_Reader_41_9 ?_
  refine mv_iconst (v := 1) d_Reader_isWord_4 (by decide) ?_
  have := mz_hi v17
  refine mv_icmp_neZ (tgt := 20) (a := v17.toInt) (b := 1) d_Reader_isWord_5 (by decide) rfl (by decide) (fun b32 => ?_) (fun b32 => ?_)
  · refine mv_iconst (v := 0) d_Reader_isWord_20 (by decide) ?_
    refine mv_iret d_Reader_isWord_21 rfl (by decide) ?_
    refine mv_if_ne_f (tgt := 23) d_Reader_readNearEnd_12 (by decide) (by decide) ?_
    refine mv_aload_n d_Reader_readNearEnd_15 rfl rfl ?_
    refine mv_iconst (v := 1) d_Reader_readNearEnd_16 (by decide) ?_
    obtain ⟨_, b33, -⟩ := I6.1 _ _ t11
    refine mv_callV (kc1 := 0) (ks1 := 0) (kc' := 0) (ks' := 0) (As := [.int 1]) (st9 := [.int 1, .ref o0]) d_Reader_readNearEnd_17 lV_Reader_56 b33 rfl (mj_enter (by decide) (Nat.le_of_ble_eq_true rfl) ?_) rfl (Nat.le_of_ble_eq_true rfl) (Nat.le_of_ble_eq_true rfl) (Nat.le_of_ble_eq_true rfl) (hst := rfl) (fun _ _ _ h => h)
    refine mv_aload_n d_Reader_refuse_0 rfl rfl ?_
    refine mv_iload_n d_Reader_refuse_1 rfl rfl ?_
    refine tr_putK tm_okF I6 t11 (k := 1) rfl ⟨_, rfl⟩ (Or.inl (by decide)) d_Reader_refuse_2 p_Reader_70_9 rfl rfl (fun M34 I35 q36 K37 => ?_)
    refine mv_aload_n d_Reader_refuse_5 rfl rfl ?_
    refine mv_aload_n d_Reader_refuse_6 rfl rfl ?_
    refine tr_getK (k := 11) (K37 _ 9 11 _ rfl q25) d_Reader_refuse_7 f_Reader_175_9 ?_
    refine tr_putK tm_okF I35 t11 (k := 2) rfl ⟨_, rfl⟩ (Or.inl (by decide)) d_Reader_refuse_10 p_Reader_11_9 rfl rfl (fun M38 I39 q40 K41 => ?_)
    refine mv_iconst (v := 0) d_Reader_refuse_13 (by decide) ?_
    obtain ⟨s42, e43⟩ : ∃ s9 : p_S, p_fl pb pn 1 s12 = s9 := ⟨_, rfl⟩
    have h44 := q_fl e43 (by omega) (by decide)
    have h45 : (1 : Int32).toInt = s42.1 := (by have e9 : (1 : Int32).toInt = 1 := (by decide); omega)
    have h46 : Im (s42.1 ≠ 0 → v18.toInt = (s42.2.1 : Int)) := Im.i (fun _ => by have := (Im.o h30) (by omega); omega)
    have h47 : Im (s42.1 = 0 → v16.toInt = (s42.2.2 : Int) ∧ v17.toInt = p_ki pb pn s42.2.2 ∧ v18.toInt = (p_st pb pn s42.2.2 : Int) ∧ v19.toInt = (p_sp pb pn s42.2.2 : Int) ∧ v20.toInt = p_va pb pn s42.2.2 ∧ v18.toInt = -1) := Im.i (fun z9 => absurd z9 h44.2.2)
    refine mv_iret d_Reader_refuse_14 rfl (by decide) ?_
    refine mv_pop d_Reader_readNearEnd_20 rfl ?_
    refine mv_null d_Reader_readNearEnd_21 ?_
    exact mv_aret (r := none) d_Reader_readNearEnd_22 rfl (by first | exact Or.inl ⟨_, rfl⟩ | exact Or.inr ⟨_, rfl⟩) ⟨_, I39, Or.inl ⟨rfl, (by have := (Im.o h30) (by omega); have := yC.d s12.2.2; have := yC.kn s12.2.2; have hb : s42.1 ≠ 0 := (by omega); have z1 : ∀ c, p_sg pb pn c s42 = s42 := (fun c => p_sg_Z s42 hb); have hp9 : p_nea pb pn = p_ov pb pn (if p_wi pb pn s12.2.2 = 26 then p_sg pb pn 59 (p_en1 pb pn 10 [] (p_nx s12)) else p_fl pb pn 1 s12) := (by rw [← e13]; rfl); have hX : (if p_wi pb pn s12.2.2 = 26 then p_sg pb pn 59 (p_en1 pb pn 10 [] (p_nx s12)) else p_fl pb pn 1 s12) = s42 := (by first | (rw [if_pos (by omega)]; simp only [e43, z1]; done) | (rw [if_neg (by omega)]; simp only [e43, z1]; done)); have hE : p_nea pb pn = s42 := (by rw [hp9, hX]; unfold p_ov; (repeat' split) <;> first | rfl | exact e43 | (exfalso; omega)); have z2 : (p_nea pb pn).1 = s42.1 := (by rw [hE]); have z3 : (p_nea pb pn).2.1 = s42.2.1 := (by rw [hE]); have := (Im.o h46) (by omega); exact ⟨_, _, (K41 _ 9 1 _ rfl q36), q40, by omega, by omega, by omega⟩)⟩⟩
  · refine mv_aload_n d_Reader_isWord_8 rfl rfl ?_
    refine tr_getK (k := 13) q27 d_Reader_isWord_9 f_Reader_241_9 ?_
    refine mv_iload_n d_Reader_isWord_12 rfl rfl ?_
    have := mz_hi v20
    refine mv_icmp_neZ (tgt := 20) (a := v20.toInt) (b := 26) d_Reader_isWord_13 (by decide) rfl (by decide) (fun b48 => ?_) (fun b48 => ?_)
    · refine mv_iconst (v := 0) d_Reader_isWord_20 (by decide) ?_
      refine mv_iret d_Reader_isWord_21 rfl (by decide) ?_
      refine mv_if_ne_f (tgt := 23) d_Reader_readNearEnd_12 (by decide) (by decide) ?_
      refine mv_aload_n d_Reader_readNearEnd_15 rfl rfl ?_
      refine mv_iconst (v := 1) d_Reader_readNearEnd_16 (by decide) ?_
      obtain ⟨_, b49, -⟩ := I6.1 _ _ t11
      refine mv_callV (kc1 := 0) (ks1 := 0) (kc' := 0) (ks' := 0) (As := [.int 1]) (st9 := [.int 1, .ref o0]) d_Reader_readNearEnd_17 lV_Reader_56 b49 rfl (mj_enter (by decide) (Nat.le_of_ble_eq_true rfl) ?_) rfl (Nat.le_of_ble_eq_true rfl) (Nat.le_of_ble_eq_true rfl) (Nat.le_of_ble_eq_true rfl) (hst := rfl) (fun _ _ _ h => h)
      refine mv_aload_n d_Reader_refuse_0 rfl rfl ?_
      refine mv_iload_n d_Reader_refuse_1 rfl rfl ?_
      refine tr_putK tm_okF I6 t11 (k := 1) rfl ⟨_, rfl⟩ (Or.inl (by decide)) d_Reader_refuse_2 p_Reader_70_9 rfl rfl (fun M50 I51 q52 K53 => ?_)
      refine mv_aload_n d_Reader_refuse_5 rfl rfl ?_
      refine mv_aload_n d_Reader_refuse_6 rfl rfl ?_
      refine tr_getK (k := 11) (K53 _ 9 11 _ rfl q25) d_Reader_refuse_7 f_Reader_175_9 ?_
      refine tr_putK tm_okF I51 t11 (k := 2) rfl ⟨_, rfl⟩ (Or.inl (by decide)) d_Reader_refuse_10 p_Reader_11_9 rfl rfl (fun M54 I55 q56 K57 => ?_)
      refine mv_iconst (v := 0) d_Reader_refuse_13 (by decide) ?_
      obtain ⟨s58, e59⟩ : ∃ s9 : p_S, p_fl pb pn 1 s12 = s9 := ⟨_, rfl⟩
      have h60 := q_fl e59 (by omega) (by decide)
      have h61 : (1 : Int32).toInt = s58.1 := (by have e9 : (1 : Int32).toInt = 1 := (by decide); omega)
      have h62 : Im (s58.1 ≠ 0 → v18.toInt = (s58.2.1 : Int)) := Im.i (fun _ => by have := (Im.o h30) (by omega); omega)
      have h63 : Im (s58.1 = 0 → v16.toInt = (s58.2.2 : Int) ∧ v17.toInt = p_ki pb pn s58.2.2 ∧ v18.toInt = (p_st pb pn s58.2.2 : Int) ∧ v19.toInt = (p_sp pb pn s58.2.2 : Int) ∧ v20.toInt = p_va pb pn s58.2.2 ∧ v18.toInt = -1) := Im.i (fun z9 => absurd z9 h60.2.2)
      refine mv_iret d_Reader_refuse_14 rfl (by decide) ?_
      refine mv_pop d_Reader_readNearEnd_20 rfl ?_
      refine mv_null d_Reader_readNearEnd_21 ?_
      exact mv_aret (r := none) d_Reader_readNearEnd_22 rfl (by first | exact Or.inl ⟨_, rfl⟩ | exact Or.inr ⟨_, rfl⟩) ⟨_, I55, Or.inl ⟨rfl, (by have := (Im.o h30) (by omega); have := yC.d s12.2.2; have := yC.kn s12.2.2; have hb : s58.1 ≠ 0 := (by omega); have z1 : ∀ c, p_sg pb pn c s58 = s58 := (fun c => p_sg_Z s58 hb); have hp9 : p_nea pb pn = p_ov pb pn (if p_wi pb pn s12.2.2 = 26 then p_sg pb pn 59 (p_en1 pb pn 10 [] (p_nx s12)) else p_fl pb pn 1 s12) := (by rw [← e13]; rfl); have hX : (if p_wi pb pn s12.2.2 = 26 then p_sg pb pn 59 (p_en1 pb pn 10 [] (p_nx s12)) else p_fl pb pn 1 s12) = s58 := (by first | (rw [if_pos (by omega)]; simp only [e59, z1]; done) | (rw [if_neg (by omega)]; simp only [e59, z1]; done)); have hE : p_nea pb pn = s58 := (by rw [hp9, hX]; unfold p_ov; (repeat' split) <;> first | rfl | exact e59 | (exfalso; omega)); have z2 : (p_nea pb pn).1 = s58.1 := (by rw [hE]); have z3 : (p_nea pb pn).2.1 = s58.2.1 := (by rw [hE]); have := (Im.o h62) (by omega); exact ⟨_, _, (K57 _ 9 1 _ rfl q52), q56, by omega, by omega, by omega⟩)⟩⟩
    · refine mv_iconst (v := 1) d_Reader_isWord_16 (by decide) ?_
      refine mv_goto (tgt := 21) d_Reader_isWord_17 (by decide) ?_
      refine mv_iret d_Reader_isWord_21 rfl (by decide) ?_
      refine mv_if_ne_t (tgt := 23) d_Reader_readNearEnd_12 (by decide) (by decide) ?_
      refine mv_aload_n d_Reader_readNearEnd_23 rfl rfl ?_
      refine mv_null d_Reader_readNearEnd_24 ?_
      obtain ⟨_, b70, -⟩ := I6.1 _ _ t11
      refine mv_callV (kc' := 0) (ks' := 0) (As := [.null]) (st9 := [.null, .ref o0]) d_Reader_readNearEnd_25 lV_Reader_59 b70 rfl (tc_Reader_endText_n1_q4_x (d := d) (x9 := x9) (o0 := o0) t11 (p := 0) f8 (by decide) (ps := s12) (by first | omega | decide) f9 ⟨_, _, _, _, _, _, _, q21, q22, q23, q24, q25, q26, q27, h28, Im.o h29, Im.o h30⟩ (by omega) (by have := (Im.o h30) (by omega); have := yC.d s12.2.2; have := yC.kn s12.2.2; show p_ki pb pn s12.2.2 ≠ 0; omega) I6.start) rfl (Nat.le_of_ble_eq_true rfl) (Nat.le_of_ble_eq_true rfl) (Nat.le_of_ble_eq_true rfl) (hst := rfl) (fun b64r M65 n66 b64 => ?_)
      obtain ⟨T67, J68, b72⟩ := b64
      have I69 := I6.call J68 (tm_sub (by decide)) (Or.inl rfl)
      have t73 := J68.up t11
      rcases b72 with ⟨rfl, f75, f76⟩ | ⟨a71, rfl, t_a71, o74, g77, g78, g79, v80, g81, g82⟩
      · obtain ⟨s83, e84⟩ : ∃ s9 : p_S, p_en1 pb pn 10 [] (p_nx s12) = s9 := ⟨_, rfl⟩
        rw [e84] at f75 f76
        obtain ⟨v85, v86, v87, v88, v89, v90, v91, q92, q93, q94, q95, q96, q97, q98, h99, h100, h101⟩ := f75
        replace h100 := Im.i h100
        replace h101 := Im.i h101
        refine mv_astore_nN (lv' := [(1, .null), (0, .ref o0)]) d_Reader_readNearEnd_28 rfl (by decide) rfl ?_
        refine mv_aload_nN d_Reader_readNearEnd_29 rfl rfl ?_
        refine mv_ifnullN (tgt := 42) d_Reader_readNearEnd_30 (by decide) ?_
        refine mv_null d_Reader_readNearEnd_42 ?_
        exact mv_aret (r := none) d_Reader_readNearEnd_43 rfl (by first | exact Or.inl ⟨_, rfl⟩ | exact Or.inr ⟨_, rfl⟩) ⟨_, I69, Or.inl ⟨rfl, (by have := (Im.o h30) (by omega); have := yC.d s12.2.2; have := yC.kn s12.2.2; have hb : s83.1 ≠ 0 := (by omega); have z1 : ∀ c, p_sg pb pn c s83 = s83 := (fun c => p_sg_Z s83 hb); have hp9 : p_nea pb pn = p_ov pb pn (if p_wi pb pn s12.2.2 = 26 then p_sg pb pn 59 (p_en1 pb pn 10 [] (p_nx s12)) else p_fl pb pn 1 s12) := (by rw [← e13]; rfl); have hX : (if p_wi pb pn s12.2.2 = 26 then p_sg pb pn 59 (p_en1 pb pn 10 [] (p_nx s12)) else p_fl pb pn 1 s12) = s83 := (by first | (rw [if_pos (by omega)]; simp only [e84, z1]; done) | (rw [if_neg (by omega)]; simp only [e84, z1]; done)); have hE : p_nea pb pn = s83 := (by rw [hp9, hX]; unfold p_ov; (repeat' split) <;> first | rfl | (exfalso; omega)); have z2 : (p_nea pb pn).1 = s83.1 := (by rw [hE]); have z3 : (p_nea pb pn).2.1 = s83.2.1 := (by rw [hE]); have := (Im.o h100) (by omega); exact ⟨_, _, q92, q93, by omega, by omega, by omega⟩)⟩⟩
      · obtain ⟨s102, e103⟩ : ∃ s9 : p_S, p_en1 pb pn 10 [] (p_nx s12) = s9 := ⟨_, rfl⟩
        rw [e103] at g77 g78
        obtain ⟨v104, v105, v106, v107, v108, v109, v110, q111, q112, q113, q114, q115, q116, q117, h118, h119, h120⟩ := g77
        replace h119 := Im.i h119
        replace h120 := Im.i h120
        refine mv_astore_n (lv' := [(1, .ref a71), (0, .ref o0)]) d_Reader_readNearEnd_28 rfl (by decide) rfl ?_
        refine mv_aload_n d_Reader_readNearEnd_29 rfl rfl ?_
        refine mv_ifnull d_Reader_readNearEnd_30 ?_
        refine mv_aload_n d_Reader_readNearEnd_33 rfl rfl ?_
        refine mv_bipush (v := 59) d_Reader_readNearEnd_34 (by decide) ?_
        obtain ⟨_, b127, -⟩ := I69.1 _ _ t73
        refine mv_callV (kc' := 0) (ks' := 0) (As := [.int 59]) (st9 := [.int 59, .ref o0]) d_Reader_readNearEnd_36 lV_Reader_63 b127 rfl (tc_Reader_sign_x (d := (d + 19)) (x9 := x9) (o0 := o0) (x1 := 59) t73 f9 ⟨_, _, _, _, _, _, _, q111, q112, q113, q114, q115, q116, q117, h118, Im.o h119, Im.o h120⟩ (by omega) (by first | omega | decide) I69.start) rfl (Nat.le_of_ble_eq_true rfl) (Nat.le_of_ble_eq_true rfl) (Nat.le_of_ble_eq_true rfl) (hst := rfl) (fun b121r M122 n123 b121 => ?_)
        obtain ⟨T124, J125, v128, rfl, b129, b130, f131, f132⟩ := b121
        have I126 := I69.call J125 (tm_sub (by decide)) (Or.inl rfl)
        have t133 := J125.up t_a71
        have t134 := J125.up t73
        have q135 := J125.keep t73 (by decide) o74
        have q136 := J125.keep t_a71 (by decide) g81
        have h137 := f9.keep I69.1 J125 (I69.up h_o0) (qW_of (by decide +kernel))
        rw [show (59 : Int32).toInt = 59 from by decide] at f131 f132
        obtain ⟨s138, e139⟩ : ∃ s9 : p_S, p_sg pb pn 59 s102 = s9 := ⟨_, rfl⟩
        rw [e139] at f131 f132
        obtain ⟨v140, v141, v142, v143, v144, v145, v146, q147, q148, q149, q150, q151, q152, q153, h154, h155, h156⟩ := f131
        replace h155 := Im.i h155
        replace h156 := Im.i h156
        have := mz_hi v128
        refine mv_if_neZ (tgt := 44) (a := v128.toInt) d_Reader_readNearEnd_39 (by decide) rfl (fun b157 => ?_) (fun b157 => ?_)
        · refine mv_aload_n d_Reader_readNearEnd_44 rfl rfl ?_
          refine tr_getK (k := 10) q150 d_Reader_readNearEnd_45 f_Reader_41_9 ?_
          have := mz_hi v143
          refine mv_if_eqZ (tgt := 59) (a := v143.toInt) d_Reader_readNearEnd_48 (by decide) rfl (fun b158 => ?_) (fun b158 => ?_)
          · refine mv_aload_n d_Reader_readNearEnd_59 rfl rfl ?_
            exact mv_aret (r := (some a71)) d_Reader_readNearEnd_60 rfl (by first | exact Or.inl ⟨_, rfl⟩ | exact Or.inr ⟨_, rfl⟩) ⟨_, I126, Or.inr ⟨_, rfl, t133, (by have := (Im.o h30) (by omega); have := yC.d s12.2.2; have := yC.kn s12.2.2; have := (Im.o h156) (by omega); have := yC.d s138.2.2; have := yC.kn s138.2.2; have hp9 : p_nea pb pn = p_ov pb pn (if p_wi pb pn s12.2.2 = 26 then p_sg pb pn 59 (p_en1 pb pn 10 [] (p_nx s12)) else p_fl pb pn 1 s12) := (by rw [← e13]; rfl); have hX : (if p_wi pb pn s12.2.2 = 26 then p_sg pb pn 59 (p_en1 pb pn 10 [] (p_nx s12)) else p_fl pb pn 1 s12) = s138 := (by first | (rw [if_pos (by omega)]; simp only [e103, e139]; done) | (rw [if_neg (by omega)]; simp only [e103, e139]; done)); have hE : p_nea pb pn = s138 := (by rw [hp9, hX]; unfold p_ov; (repeat' split) <;> first | rfl | (exfalso; omega)); have z2 : (p_nea pb pn).1 = s138.1 := (by rw [hE]); have z3 : (p_nea pb pn).2.1 = s138.2.1 := (by rw [hE]); have := (Im.o h156) (by omega); exact ⟨_, _, q147, q148, by omega, by omega, by omega⟩)⟩⟩
          · refine mv_aload_n d_Reader_readNearEnd_51 rfl rfl ?_
            refine mv_iconst (v := 1) d_Reader_readNearEnd_52 (by decide) ?_
            obtain ⟨_, b159, -⟩ := I126.1 _ _ t134
            refine mv_callV (kc1 := 0) (ks1 := 0) (kc' := 0) (ks' := 0) (As := [.int 1]) (st9 := [.int 1, .ref o0]) d_Reader_readNearEnd_53 lV_Reader_56 b159 rfl (mj_enter (by decide) (Nat.le_of_ble_eq_true rfl) ?_) rfl (Nat.le_of_ble_eq_true rfl) (Nat.le_of_ble_eq_true rfl) (Nat.le_of_ble_eq_true rfl) (hst := rfl) (fun _ _ _ h => h)
            refine mv_aload_n d_Reader_refuse_0 rfl rfl ?_
            refine mv_iload_n d_Reader_refuse_1 rfl rfl ?_
            refine tr_putK tm_okF I126 t134 (k := 1) rfl ⟨_, rfl⟩ (Or.inl (by decide)) d_Reader_refuse_2 p_Reader_70_9 rfl rfl (fun M160 I161 q162 K163 => ?_)
            refine mv_aload_n d_Reader_refuse_5 rfl rfl ?_
            refine mv_aload_n d_Reader_refuse_6 rfl rfl ?_
            refine tr_getK (k := 11) (K163 _ 9 11 _ rfl q151) d_Reader_refuse_7 f_Reader_175_9 ?_
            refine tr_putK tm_okF I161 t134 (k := 2) rfl ⟨_, rfl⟩ (Or.inl (by decide)) d_Reader_refuse_10 p_Reader_11_9 rfl rfl (fun M164 I165 q166 K167 => ?_)
            refine mv_iconst (v := 0) d_Reader_refuse_13 (by decide) ?_
            obtain ⟨s168, e169⟩ : ∃ s9 : p_S, p_fl pb pn 1 s138 = s9 := ⟨_, rfl⟩
            have h170 := q_fl e169 (by omega) (by decide)
            have h171 : (1 : Int32).toInt = s168.1 := (by have e9 : (1 : Int32).toInt = 1 := (by decide); omega)
            have h172 : Im (s168.1 ≠ 0 → v144.toInt = (s168.2.1 : Int)) := Im.i (fun _ => by have := (Im.o h156) (by omega); omega)
            have h173 : Im (s168.1 = 0 → v142.toInt = (s168.2.2 : Int) ∧ v143.toInt = p_ki pb pn s168.2.2 ∧ v144.toInt = (p_st pb pn s168.2.2 : Int) ∧ v145.toInt = (p_sp pb pn s168.2.2 : Int) ∧ v146.toInt = p_va pb pn s168.2.2 ∧ v144.toInt = -1) := Im.i (fun z9 => absurd z9 h170.2.2)
            refine mv_iret d_Reader_refuse_14 rfl (by decide) ?_
            refine mv_pop d_Reader_readNearEnd_56 rfl ?_
            refine mv_null d_Reader_readNearEnd_57 ?_
            exact mv_aret (r := none) d_Reader_readNearEnd_58 rfl (by first | exact Or.inl ⟨_, rfl⟩ | exact Or.inr ⟨_, rfl⟩) ⟨_, I165, Or.inl ⟨rfl, (by have := (Im.o h30) (by omega); have := yC.d s12.2.2; have := yC.kn s12.2.2; have := (Im.o h156) (by omega); have := yC.d s138.2.2; have := yC.kn s138.2.2; have hb : s168.1 ≠ 0 := (by omega); have z1 : ∀ c, p_sg pb pn c s168 = s168 := (fun c => p_sg_Z s168 hb); have hp9 : p_nea pb pn = p_ov pb pn (if p_wi pb pn s12.2.2 = 26 then p_sg pb pn 59 (p_en1 pb pn 10 [] (p_nx s12)) else p_fl pb pn 1 s12) := (by rw [← e13]; rfl); have hX : (if p_wi pb pn s12.2.2 = 26 then p_sg pb pn 59 (p_en1 pb pn 10 [] (p_nx s12)) else p_fl pb pn 1 s12) = s138 := (by first | (rw [if_pos (by omega)]; simp only [e103, e139, e169]; done) | (rw [if_neg (by omega)]; simp only [e103, e139, e169]; done)); have hE : p_nea pb pn = s168 := (by rw [hp9, hX]; unfold p_ov; (repeat' split) <;> first | rfl | exact e169 | (exfalso; omega)); have z2 : (p_nea pb pn).1 = s168.1 := (by rw [hE]); have z3 : (p_nea pb pn).2.1 = s168.2.1 := (by rw [hE]); have := (Im.o h172) (by omega); exact ⟨_, _, (K167 _ 9 1 _ rfl q162), q166, by omega, by omega, by omega⟩)⟩⟩
        · refine mv_null d_Reader_readNearEnd_42 ?_
          exact mv_aret (r := none) d_Reader_readNearEnd_43 rfl (by first | exact Or.inl ⟨_, rfl⟩ | exact Or.inr ⟨_, rfl⟩) ⟨_, I126, Or.inl ⟨rfl, (by have := (Im.o h30) (by omega); have := yC.d s12.2.2; have := yC.kn s12.2.2; have hb : s138.1 ≠ 0 := (by omega); have z1 : ∀ c, p_sg pb pn c s138 = s138 := (fun c => p_sg_Z s138 hb); have hp9 : p_nea pb pn = p_ov pb pn (if p_wi pb pn s12.2.2 = 26 then p_sg pb pn 59 (p_en1 pb pn 10 [] (p_nx s12)) else p_fl pb pn 1 s12) := (by rw [← e13]; rfl); have hX : (if p_wi pb pn s12.2.2 = 26 then p_sg pb pn 59 (p_en1 pb pn 10 [] (p_nx s12)) else p_fl pb pn 1 s12) = s138 := (by first | (rw [if_pos (by omega)]; simp only [e103, e139, z1]; done) | (rw [if_neg (by omega)]; simp only [e103, e139, z1]; done)); have hE : p_nea pb pn = s138 := (by rw [hp9, hX]; unfold p_ov; (repeat' split) <;> first | rfl | (exfalso; omega)); have z2 : (p_nea pb pn).1 = s138.1 := (by rw [hE]); have z3 : (p_nea pb pn).2.1 = s138.2.1 := (by rw [hE]); have := (Im.o h155) (by omega); exact ⟨_, _, q147, q148, by omega, by omega, by omega⟩)⟩⟩
