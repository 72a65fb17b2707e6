def w_Reader_advance_x : List Nat := [909, 910, 911, 912, 913]
set_option maxHeartbeats 100000000 in theorem tc_Reader_advance_x {g : mj_G} {l : Launch} {d : Nat} {T0 : tm_H} {M0 : mj_M} {n0 x9 : Nat} {o0 : Nat} (h_o0 : T0 o0 = some (0, 9, 0))  {pb : Nat → Int} {pn : Nat} {pa : Int} {ps : p_S} (yC : qC M0 o0 pb pn pa) (yA : qA M0 o0 ps) (yk : ps.2.2 ≤ 401) (I0 : tm_I tm_FT (tm_in w_Reader_advance_x) x9 T0 M0 n0 T0 M0 n0) : mj_Met g l kY_Reader_advance d [.ref o0] M0 n0 0 0 (tm_Q tm_FT (tm_in w_Reader_advance_x) x9 T0 M0 n0 (fun r _ M => r = none ∧ (qS M o0 pb pn ps))) := by
  refine mj_enter (by decide) (Nat.le_of_ble_eq_true rfl) ?_
  have hK : ∀ {T : tm_H} {M : mj_M} {n : Nat}, tm_I tm_FT (tm_in w_Reader_advance_x) x9 T0 M0 n0 T M n → qC M o0 pb pn pa := fun I => yC.keep I0.1 I h_o0 (qW_of (by decide +kernel))
  obtain ⟨yf, yp, ya, yq1, yq2, yq9, yA1, yA2, yA3⟩ := yA
  obtain ⟨tc, htc, htl⟩ : ∃ tc : Nat, rv M0 o0 8 = (tc : Int) ∧ tc ≤ 400 := by obtain ⟨h1, -, -, tc, ⟨h2, h3, -⟩, -⟩ := yC; exact ⟨tc, h2, by have := h1.2.1; omega⟩
  have hya : ps.1 = 0 → (ya + 1 : Int32).toInt = ya.toInt + 1 := fun z9 => by have := yA3 z9; exact mz_addn 1 1 (by decide) (by omega) (by omega)
  have hra : ∀ {T : tm_H} {M : mj_M} {n : Nat}, tm_I tm_FT (tm_in w_Reader_advance_x) x9 T0 M0 n0 T M n → ∀ k i, 4 ≤ k → k ≤ 7 → ra M o0 k i = ra M0 o0 k i := fun I k i h1 h2 => by rcases (show k = 4 ∨ k = 5 ∨ k = 6 ∨ k = 7 by omega) with rfl | rfl | rfl | rfl <;> exact ra_9 I0.1 I h_o0 rfl (by decide +kernel) (by decide +kernel) i
  have hv8 : ∀ {T : tm_H} {M : mj_M} {n : Nat}, tm_I tm_FT (tm_in w_Reader_advance_x) x9 T0 M0 n0 T M n → rv M o0 8 = rv M0 o0 8 := fun I => by obtain ⟨fs, hm, -⟩ := I0.1 o0 _ h_o0; exact (rv_9 I h_o0 ⟨fs, hm⟩ (by decide +kernel)).1
  refine mv_aload_n d_Reader_advance_0 rfl rfl ?_
  refine mv_dup d_Reader_advance_1 rfl ?_
  refine tr_getK (k := 9) yq9 d_Reader_advance_2 f_Reader_79_9 ?_
  refine mv_iconst (v := 1) d_Reader_advance_5 (by decide) ?_
  refine mv_iadd d_Reader_advance_6 ?_
  refine tr_putK tm_okF I0 h_o0 (k := 9) rfl ⟨_, rfl⟩ (Or.inl (by decide)) d_Reader_advance_7 p_Reader_79_9 rfl rfl (fun M1 I2 q3 K4 => ?_)
  refine mv_aload_n d_Reader_advance_10 rfl rfl ?_
  refine tr_getK (k := 9) q3 d_Reader_advance_11 f_Reader_79_9 ?_
  have := mz_hi (ya + 1)
  refine mv_if_ltZ (tgt := 42) (a := (ya + 1).toInt) d_Reader_advance_14 (by decide) rfl (fun b5 => ?_) (fun b5 => ?_)
  · refine mv_iconst (v := 0) d_Reader_advance_42 (by decide) ?_
    refine mv_istore_n (lv' := [(1, .int 0), (0, .ref o0)]) d_Reader_advance_43 rfl (by decide) rfl ?_
    refine mv_aload_n d_Reader_advance_44 rfl rfl ?_
    refine mv_iload_n d_Reader_advance_45 rfl rfl ?_
    refine mv_if_eq_t (tgt := 61) d_Reader_advance_46 (by decide) (by decide) ?_
    refine mv_iconst (v := 0) d_Reader_advance_61 (by decide) ?_
    refine tr_putK tm_okF I2 h_o0 (k := 10) rfl ⟨_, rfl⟩ (Or.inl (by decide)) d_Reader_advance_62 p_Reader_41_9 rfl rfl (fun M6 I7 q8 K9 => ?_)
    refine mv_aload_n d_Reader_advance_65 rfl rfl ?_
    refine mv_iload_n d_Reader_advance_66 rfl rfl ?_
    refine mv_if_eq_t (tgt := 82) d_Reader_advance_67 (by decide) (by decide) ?_
    refine mv_aload_n d_Reader_advance_82 rfl rfl ?_
    obtain ⟨v11, q10⟩ := tm_atI I7 h_o0 (k := 0) rfl
    refine tr_getK q10 d_Reader_advance_83 f_Reader_34_9 ?_
    refine tr_putK tm_okF I7 h_o0 (k := 11) rfl ⟨_, rfl⟩ (Or.inl (by decide)) d_Reader_advance_86 p_Reader_175_9 rfl rfl (fun M12 I13 q14 K15 => ?_)
    refine mv_aload_n d_Reader_advance_89 rfl rfl ?_
    refine mv_iload_n d_Reader_advance_90 rfl rfl ?_
    refine mv_if_eq_t (tgt := 106) d_Reader_advance_91 (by decide) (by decide) ?_
    refine mv_aload_n d_Reader_advance_106 rfl rfl ?_
    refine tr_getK (k := 0) (K15 _ 9 0 _ rfl q10) d_Reader_advance_107 f_Reader_34_9 ?_
    refine tr_putK tm_okF I13 h_o0 (k := 12) rfl ⟨_, rfl⟩ (Or.inl (by decide)) d_Reader_advance_110 p_Reader_172_9 rfl rfl (fun M16 I17 q18 K19 => ?_)
    refine mv_aload_n d_Reader_advance_113 rfl rfl ?_
    refine mv_iload_n d_Reader_advance_114 rfl rfl ?_
    refine mv_if_eq_t (tgt := 130) d_Reader_advance_115 (by decide) (by decide) ?_
    refine mv_iconst (v := (-1)) d_Reader_advance_130 (by decide) ?_
    refine tr_putK tm_okF I17 h_o0 (k := 13) rfl ⟨_, rfl⟩ (Or.inl (by decide)) d_Reader_advance_131 p_Reader_241_9 rfl rfl (fun M20 I21 q22 K23 => ?_)
    exact mv_vret d_Reader_advance_134 rfl ⟨_, I21, rfl, (qS.adv (tc := tc) (hK I21) ((hv8 I21).trans htc) (K23 _ 9 1 _ rfl (K19 _ 9 1 _ rfl (K15 _ 9 1 _ rfl (K9 _ 9 1 _ rfl (K4 _ 9 1 _ rfl yq1))))) (K23 _ 9 2 _ rfl (K19 _ 9 2 _ rfl (K15 _ 9 2 _ rfl (K9 _ 9 2 _ rfl (K4 _ 9 2 _ rfl yq2))))) (K23 _ 9 9 _ rfl (K19 _ 9 9 _ rfl (K15 _ 9 9 _ rfl (K9 _ 9 9 _ rfl q3)))) (K23 _ 9 10 _ rfl (K19 _ 9 10 _ rfl (K15 _ 9 10 _ rfl q8))) (K23 _ 9 11 _ rfl (K19 _ 9 11 _ rfl q14)) (K23 _ 9 12 _ rfl q18) q22 yA1 yA2 (fun z9 => by have := yA3 z9; have := hya z9; have := (hv8 I21); have := hra I21 4 ps.2.2 (by decide) (by decide); have := hra I21 5 ps.2.2 (by decide) (by decide); have := hra I21 6 ps.2.2 (by decide) (by decide); have := hra I21 7 ps.2.2 (by decide) (by decide); have e9 : (-1 : Int32).toInt = -1 := (by decide); have e8 : (0 : Int32).toInt = 0 := (by decide); have := tm_rv (K23 _ 9 0 _ rfl (K19 _ 9 0 _ rfl (K15 _ 9 0 _ rfl q10))); exact ⟨by omega, by omega, by omega⟩))⟩
  · refine mv_aload_n d_Reader_advance_17 rfl rfl ?_
    refine tr_getK (k := 9) q3 d_Reader_advance_18 f_Reader_79_9 ?_
    refine mv_aload_n d_Reader_advance_21 rfl rfl ?_
    obtain ⟨v25, q24⟩ := tm_atI I2 h_o0 (k := 8) rfl
    refine tr_getK q24 d_Reader_advance_22 f_Reader_244_9 ?_
    have := mz_hi (ya + 1)
    have := mz_hi v25
    refine mv_icmp_geZ (tgt := 42) (a := (ya + 1).toInt) (b := v25.toInt) d_Reader_advance_25 (by decide) rfl rfl (fun b26 => ?_) (fun b26 => ?_)
    · refine mv_iconst (v := 0) d_Reader_advance_42 (by decide) ?_
      refine mv_istore_n (lv' := [(1, .int 0), (0, .ref o0)]) d_Reader_advance_43 rfl (by decide) rfl ?_
      refine mv_aload_n d_Reader_advance_44 rfl rfl ?_
      refine mv_iload_n d_Reader_advance_45 rfl rfl ?_
      refine mv_if_eq_t (tgt := 61) d_Reader_advance_46 (by decide) (by decide) ?_
      refine mv_iconst (v := 0) d_Reader_advance_61 (by decide) ?_
      refine tr_putK tm_okF I2 h_o0 (k := 10) rfl ⟨_, rfl⟩ (Or.inl (by decide)) d_Reader_advance_62 p_Reader_41_9 rfl rfl (fun M27 I28 q29 K30 => ?_)
      refine mv_aload_n d_Reader_advance_65 rfl rfl ?_
      refine mv_iload_n d_Reader_advance_66 rfl rfl ?_
      refine mv_if_eq_t (tgt := 82) d_Reader_advance_67 (by decide) (by decide) ?_
      refine mv_aload_n d_Reader_advance_82 rfl rfl ?_
      obtain ⟨v32, q31⟩ := tm_atI I28 h_o0 (k := 0) rfl
      refine tr_getK q31 d_Reader_advance_83 f_Reader_34_9 ?_
      refine tr_putK tm_okF I28 h_o0 (k := 11) rfl ⟨_, rfl⟩ (Or.inl (by decide)) d_Reader_advance_86 p_Reader_175_9 rfl rfl (fun M33 I34 q35 K36 => ?_)
      refine mv_aload_n d_Reader_advance_89 rfl rfl ?_
      refine mv_iload_n d_Reader_advance_90 rfl rfl ?_
      refine mv_if_eq_t (tgt := 106) d_Reader_advance_91 (by decide) (by decide) ?_
      refine mv_aload_n d_Reader_advance_106 rfl rfl ?_
      refine tr_getK (k := 0) (K36 _ 9 0 _ rfl q31) d_Reader_advance_107 f_Reader_34_9 ?_
      refine tr_putK tm_okF I34 h_o0 (k := 12) rfl ⟨_, rfl⟩ (Or.inl (by decide)) d_Reader_advance_110 p_Reader_172_9 rfl rfl (fun M37 I38 q39 K40 => ?_)
      refine mv_aload_n d_Reader_advance_113 rfl rfl ?_
      refine mv_iload_n d_Reader_advance_114 rfl rfl ?_
      refine mv_if_eq_t (tgt := 130) d_Reader_advance_115 (by decide) (by decide) ?_
      refine mv_iconst (v := (-1)) d_Reader_advance_130 (by decide) ?_
      refine tr_putK tm_okF I38 h_o0 (k := 13) rfl ⟨_, rfl⟩ (Or.inl (by decide)) d_Reader_advance_131 p_Reader_241_9 rfl rfl (fun M41 I42 q43 K44 => ?_)
      exact mv_vret d_Reader_advance_134 rfl ⟨_, I42, rfl, (qS.adv (tc := tc) (hK I42) ((hv8 I42).trans htc) (K44 _ 9 1 _ rfl (K40 _ 9 1 _ rfl (K36 _ 9 1 _ rfl (K30 _ 9 1 _ rfl (K4 _ 9 1 _ rfl yq1))))) (K44 _ 9 2 _ rfl (K40 _ 9 2 _ rfl (K36 _ 9 2 _ rfl (K30 _ 9 2 _ rfl (K4 _ 9 2 _ rfl yq2))))) (K44 _ 9 9 _ rfl (K40 _ 9 9 _ rfl (K36 _ 9 9 _ rfl (K30 _ 9 9 _ rfl q3)))) (K44 _ 9 10 _ rfl (K40 _ 9 10 _ rfl (K36 _ 9 10 _ rfl q29))) (K44 _ 9 11 _ rfl (K40 _ 9 11 _ rfl q35)) (K44 _ 9 12 _ rfl q39) q43 yA1 yA2 (fun z9 => by have := yA3 z9; have := hya z9; have := (hv8 I42); have := hra I42 4 ps.2.2 (by decide) (by decide); have := hra I42 5 ps.2.2 (by decide) (by decide); have := hra I42 6 ps.2.2 (by decide) (by decide); have := hra I42 7 ps.2.2 (by decide) (by decide); have e9 : (-1 : Int32).toInt = -1 := (by decide); have e8 : (0 : Int32).toInt = 0 := (by decide); have := tm_rv (K44 _ 9 0 _ rfl (K40 _ 9 0 _ rfl (K36 _ 9 0 _ rfl q31))); have := tm_rv (K44 _ 9 8 _ rfl (K40 _ 9 8 _ rfl (K36 _ 9 8 _ rfl (K30 _ 9 8 _ rfl q24)))); exact ⟨by omega, by omega, by omega⟩))⟩
    · refine mv_aload_n d_Reader_advance_28 rfl rfl ?_
      refine tr_getK (k := 9) q3 d_Reader_advance_29 f_Reader_79_9 ?_
      refine mv_sipush (v := 400) d_Reader_advance_32 (by decide) ?_
      have := mz_hi (ya + 1)
      refine mv_icmp_geZ (tgt := 42) (a := (ya + 1).toInt) (b := 400) d_Reader_advance_35 (by decide) rfl (by decide) (fun b45 => ?_) (fun b45 => ?_)
      · refine mv_iconst (v := 0) d_Reader_advance_42 (by decide) ?_
        refine mv_istore_n (lv' := [(1, .int 0), (0, .ref o0)]) d_Reader_advance_43 rfl (by decide) rfl ?_
        refine mv_aload_n d_Reader_advance_44 rfl rfl ?_
        refine mv_iload_n d_Reader_advance_45 rfl rfl ?_
        refine mv_if_eq_t (tgt := 61) d_Reader_advance_46 (by decide) (by decide) ?_
        refine mv_iconst (v := 0) d_Reader_advance_61 (by decide) ?_
        refine tr_putK tm_okF I2 h_o0 (k := 10) rfl ⟨_, rfl⟩ (Or.inl (by decide)) d_Reader_advance_62 p_Reader_41_9 rfl rfl (fun M46 I47 q48 K49 => ?_)
        refine mv_aload_n d_Reader_advance_65 rfl rfl ?_
        refine mv_iload_n d_Reader_advance_66 rfl rfl ?_
        refine mv_if_eq_t (tgt := 82) d_Reader_advance_67 (by decide) (by decide) ?_
        refine mv_aload_n d_Reader_advance_82 rfl rfl ?_
        obtain ⟨v51, q50⟩ := tm_atI I47 h_o0 (k := 0) rfl
        refine tr_getK q50 d_Reader_advance_83 f_Reader_34_9 ?_
        refine tr_putK tm_okF I47 h_o0 (k := 11) rfl ⟨_, rfl⟩ (Or.inl (by decide)) d_Reader_advance_86 p_Reader_175_9 rfl rfl (fun M52 I53 q54 K55 => ?_)
        refine mv_aload_n d_Reader_advance_89 rfl rfl ?_
        refine mv_iload_n d_Reader_advance_90 rfl rfl ?_
        refine mv_if_eq_t (tgt := 106) d_Reader_advance_91 (by decide) (by decide) ?_
        refine mv_aload_n d_Reader_advance_106 rfl rfl ?_
        refine tr_getK (k := 0) (K55 _ 9 0 _ rfl q50) d_Reader_advance_107 f_Reader_34_9 ?_
        refine tr_putK tm_okF I53 h_o0 (k := 12) rfl ⟨_, rfl⟩ (Or.inl (by decide)) d_Reader_advance_110 p_Reader_172_9 rfl rfl (fun M56 I57 q58 K59 => ?_)
        refine mv_aload_n d_Reader_advance_113 rfl rfl ?_
        refine mv_iload_n d_Reader_advance_114 rfl rfl ?_
        refine mv_if_eq_t (tgt := 130) d_Reader_advance_115 (by decide) (by decide) ?_
        refine mv_iconst (v := (-1)) d_Reader_advance_130 (by decide) ?_
        refine tr_putK tm_okF I57 h_o0 (k := 13) rfl ⟨_, rfl⟩ (Or.inl (by decide)) d_Reader_advance_131 p_Reader_241_9 rfl rfl (fun M60 I61 q62 K63 => ?_)
        exact mv_vret d_Reader_advance_134 rfl ⟨_, I61, rfl, (qS.adv (tc := tc) (hK I61) ((hv8 I61).trans htc) (K63 _ 9 1 _ rfl (K59 _ 9 1 _ rfl (K55 _ 9 1 _ rfl (K49 _ 9 1 _ rfl (K4 _ 9 1 _ rfl yq1))))) (K63 _ 9 2 _ rfl (K59 _ 9 2 _ rfl (K55 _ 9 2 _ rfl (K49 _ 9 2 _ rfl (K4 _ 9 2 _ rfl yq2))))) (K63 _ 9 9 _ rfl (K59 _ 9 9 _ rfl (K55 _ 9 9 _ rfl (K49 _ 9 9 _ rfl q3)))) (K63 _ 9 10 _ rfl (K59 _ 9 10 _ rfl (K55 _ 9 10 _ rfl q48))) (K63 _ 9 11 _ rfl (K59 _ 9 11 _ rfl q54)) (K63 _ 9 12 _ rfl q58) q62 yA1 yA2 (fun z9 => by have := yA3 z9; have := hya z9; have := (hv8 I61); have := hra I61 4 ps.2.2 (by decide) (by decide); have := hra I61 5 ps.2.2 (by decide) (by decide); have := hra I61 6 ps.2.2 (by decide) (by decide); have := hra I61 7 ps.2.2 (by decide) (by decide); have e9 : (-1 : Int32).toInt = -1 := (by decide); have e8 : (0 : Int32).toInt = 0 := (by decide); have := tm_rv (K63 _ 9 0 _ rfl (K59 _ 9 0 _ rfl (K55 _ 9 0 _ rfl q50))); have := tm_rv (K63 _ 9 8 _ rfl (K59 _ 9 8 _ rfl (K55 _ 9 8 _ rfl (K49 _ 9 8 _ rfl q24)))); exact ⟨by omega, by omega, by omega⟩))⟩
      · refine mv_iconst (v := 1) d_Reader_advance_38 (by decide) ?_
        refine mv_goto (tgt := 43) d_Reader_advance_39 (by decide) ?_
        refine mv_istore_n (lv' := [(1, .int 1), (0, .ref o0)]) d_Reader_advance_43 rfl (by decide) rfl ?_
        refine mv_aload_n d_Reader_advance_44 rfl rfl ?_
        refine mv_iload_n d_Reader_advance_45 rfl rfl ?_
        refine mv_if_eq_f (tgt := 61) d_Reader_advance_46 (by decide) (by decide) ?_
        refine mv_aload_n d_Reader_advance_49 rfl rfl ?_
        obtain ⟨a65, q64, t_a65⟩ := tm_atR I2 h_o0 (k := 4) rfl
        refine tr_getK q64 d_Reader_advance_50 f_Reader_19_9 ?_
        refine mv_aload_n d_Reader_advance_53 rfl rfl ?_
        refine tr_getK (k := 9) q3 d_Reader_advance_54 f_Reader_79_9 ?_
        refine tr_iald9 (o := o0) (k := 4) I2 q64 t_a65 (by decide) d_Reader_advance_57 (vp_in_iff.mpr (by omega)) (fun v66 e67 => ?_)
        have : ps.1 = 0 → v66.toInt = ra M0 o0 4 ps.2.2 := fun z9 => by have e8 := yA3 z9; have e7 := hya z9; rw [e67, show (ya + 1).toNatClampNeg = ps.2.2 from by have := mz_nat9 (i := (ya + 1)) (by omega); omega]; exact hra I2 4 ps.2.2 (by decide) (by decide)
        refine mv_goto (tgt := 62) d_Reader_advance_58 (by decide) ?_
        refine tr_putK tm_okF I2 h_o0 (k := 10) rfl ⟨_, rfl⟩ (Or.inl (by decide)) d_Reader_advance_62 p_Reader_41_9 rfl rfl (fun M68 I69 q70 K71 => ?_)
        refine mv_aload_n d_Reader_advance_65 rfl rfl ?_
        refine mv_iload_n d_Reader_advance_66 rfl rfl ?_
        refine mv_if_eq_f (tgt := 82) d_Reader_advance_67 (by decide) (by decide) ?_
        refine mv_aload_n d_Reader_advance_70 rfl rfl ?_
        obtain ⟨a73, q72, t_a73⟩ := tm_atR I69 h_o0 (k := 5) rfl
        refine tr_getK q72 d_Reader_advance_71 f_Reader_22_9 ?_
        refine mv_aload_n d_Reader_advance_74 rfl rfl ?_
        refine tr_getK (k := 9) (K71 _ 9 9 _ rfl q3) d_Reader_advance_75 f_Reader_79_9 ?_
        refine tr_iald9 (o := o0) (k := 5) I69 q72 t_a73 (by decide) d_Reader_advance_78 (vp_in_iff.mpr (by omega)) (fun v74 e75 => ?_)
        have : ps.1 = 0 → v74.toInt = ra M0 o0 5 ps.2.2 := fun z9 => by have e8 := yA3 z9; have e7 := hya z9; rw [e75, show (ya + 1).toNatClampNeg = ps.2.2 from by have := mz_nat9 (i := (ya + 1)) (by omega); omega]; exact hra I69 5 ps.2.2 (by decide) (by decide)
        refine mv_goto (tgt := 86) d_Reader_advance_79 (by decide) ?_
        refine tr_putK tm_okF I69 h_o0 (k := 11) rfl ⟨_, rfl⟩ (Or.inl (by decide)) d_Reader_advance_86 p_Reader_175_9 rfl rfl (fun M76 I77 q78 K79 => ?_)
        refine mv_aload_n d_Reader_advance_89 rfl rfl ?_
        refine mv_iload_n d_Reader_advance_90 rfl rfl ?_
        refine mv_if_eq_f (tgt := 106) d_Reader_advance_91 (by decide) (by decide) ?_
        refine mv_aload_n d_Reader_advance_94 rfl rfl ?_
        obtain ⟨a81, q80, t_a81⟩ := tm_atR I77 h_o0 (k := 6) rfl
        refine tr_getK q80 d_Reader_advance_95 f_Reader_25_9 ?_
        refine mv_aload_n d_Reader_advance_98 rfl rfl ?_
        refine tr_getK (k := 9) (K79 _ 9 9 _ rfl (K71 _ 9 9 _ rfl q3)) d_Reader_advance_99 f_Reader_79_9 ?_
        refine tr_iald9 (o := o0) (k := 6) I77 q80 t_a81 (by decide) d_Reader_advance_102 (vp_in_iff.mpr (by omega)) (fun v82 e83 => ?_)
        have : ps.1 = 0 → v82.toInt = ra M0 o0 6 ps.2.2 := fun z9 => by have e8 := yA3 z9; have e7 := hya z9; rw [e83, show (ya + 1).toNatClampNeg = ps.2.2 from by have := mz_nat9 (i := (ya + 1)) (by omega); omega]; exact hra I77 6 ps.2.2 (by decide) (by decide)
        refine mv_goto (tgt := 110) d_Reader_advance_103 (by decide) ?_
        refine tr_putK tm_okF I77 h_o0 (k := 12) rfl ⟨_, rfl⟩ (Or.inl (by decide)) d_Reader_advance_110 p_Reader_172_9 rfl rfl (fun M84 I85 q86 K87 => ?_)
        refine mv_aload_n d_Reader_advance_113 rfl rfl ?_
        refine mv_iload_n d_Reader_advance_114 rfl rfl ?_
        refine mv_if_eq_f (tgt := 130) d_Reader_advance_115 (by decide) (by decide) ?_
        refine mv_aload_n d_Reader_advance_118 rfl rfl ?_
        obtain ⟨a89, q88, t_a89⟩ := tm_atR I85 h_o0 (k := 7) rfl
        refine tr_getK q88 d_Reader_advance_119 f_Reader_28_9 ?_
        refine mv_aload_n d_Reader_advance_122 rfl rfl ?_
        refine tr_getK (k := 9) (K87 _ 9 9 _ rfl (K79 _ 9 9 _ rfl (K71 _ 9 9 _ rfl q3))) d_Reader_advance_123 f_Reader_79_9 ?_
        refine tr_iald9 (o := o0) (k := 7) I85 q88 t_a89 (by decide) d_Reader_advance_126 (vp_in_iff.mpr (by omega)) (fun v90 e91 => ?_)
        have : ps.1 = 0 → v90.toInt = ra M0 o0 7 ps.2.2 := fun z9 => by have e8 := yA3 z9; have e7 := hya z9; rw [e91, show (ya + 1).toNatClampNeg = ps.2.2 from by have := mz_nat9 (i := (ya + 1)) (by omega); omega]; exact hra I85 7 ps.2.2 (by decide) (by decide)
        refine mv_goto (tgt := 131) d_Reader_advance_127 (by decide) ?_
        refine tr_putK tm_okF I85 h_o0 (k := 13) rfl ⟨_, rfl⟩ (Or.inl (by decide)) d_Reader_advance_131 p_Reader_241_9 rfl rfl (fun M92 I93 q94 K95 => ?_)
        exact mv_vret d_Reader_advance_134 rfl ⟨_, I93, rfl, (qS.adv (tc := tc) (hK I93) ((hv8 I93).trans htc) (K95 _ 9 1 _ rfl (K87 _ 9 1 _ rfl (K79 _ 9 1 _ rfl (K71 _ 9 1 _ rfl (K4 _ 9 1 _ rfl yq1))))) (K95 _ 9 2 _ rfl (K87 _ 9 2 _ rfl (K79 _ 9 2 _ rfl (K71 _ 9 2 _ rfl (K4 _ 9 2 _ rfl yq2))))) (K95 _ 9 9 _ rfl (K87 _ 9 9 _ rfl (K79 _ 9 9 _ rfl (K71 _ 9 9 _ rfl q3)))) (K95 _ 9 10 _ rfl (K87 _ 9 10 _ rfl (K79 _ 9 10 _ rfl q70))) (K95 _ 9 11 _ rfl (K87 _ 9 11 _ rfl q78)) (K95 _ 9 12 _ rfl q86) q94 yA1 yA2 (fun z9 => by have := yA3 z9; have := hya z9; have := (hv8 I93); have := hra I93 4 ps.2.2 (by decide) (by decide); have := hra I93 5 ps.2.2 (by decide) (by decide); have := hra I93 6 ps.2.2 (by decide) (by decide); have := hra I93 7 ps.2.2 (by decide) (by decide); have e9 : (-1 : Int32).toInt = -1 := (by decide); have e8 : (0 : Int32).toInt = 0 := (by decide); have := tm_rv (K95 _ 9 8 _ rfl (K87 _ 9 8 _ rfl (K79 _ 9 8 _ rfl (K71 _ 9 8 _ rfl q24)))); exact ⟨by omega, by omega, by omega⟩))⟩
def w_Reader_sign_x : List Nat := [901, 902, 909, 910, 911, 912, 913]
set_option maxHeartbeats 100000000 in theorem tc_Reader_sign_x {g : mj_G} {l : Launch} {d : Nat} {T0 : tm_H} {M0 : mj_M} {n0 x9 : Nat} {o0 : Nat} {x1 : Int32} (h_o0 : T0 o0 = some (0, 9, 0))  {pb : Nat → Int} {pn : Nat} {pa : Int} {ps : p_S} (yC : qC M0 o0 pb pn pa) (yD : qS M0 o0 pb pn ps) (yw : ps.1 = 0) (yc : 0 ≤ x1.toInt ∧ x1.toInt ≤ 255) (I0 : tm_I tm_FT (tm_in w_Reader_sign_x) x9 T0 M0 n0 T0 M0 n0) : mj_Met g l kY_Reader_sign (d + 1) [.ref o0, .int x1] M0 n0 0 0 (tm_Q tm_FT (tm_in w_Reader_sign_x) x9 T0 M0 n0 (fun r _ M => ∃ v : Int32, r = some (.int v) ∧ 0 ≤ v.toInt ∧ v.toInt ≤ 1 ∧ (qS M o0 pb pn (p_sg pb pn x1.toInt ps)) ∧ (v.toInt = 1 ∧ (p_sg pb pn x1.toInt ps).1 = 0 ∨ v.toInt = 0 ∧ (p_sg pb pn x1.toInt ps).1 ≠ 0))) := by
  refine mj_enter (by decide) (Nat.le_of_ble_eq_true rfl) ?_
  have hK : ∀ {T : tm_H} {M : mj_M} {n : Nat}, tm_I tm_FT (tm_in w_Reader_sign_x) x9 T0 M0 n0 T M n → qC M o0 pb pn pa := fun I => yC.keep I0.1 I h_o0 (qW_of (by decide +kernel))
  obtain ⟨v1, v2, v3, v4, v5, v6, v7, q8, q9, q10, q11, q12, q13, q14, h15, h16, h17⟩ := yD
  replace h16 := Im.i h16
  replace h17 := Im.i h17
  refine mv_aload_n d_Reader_sign_0 rfl rfl ?_
  refine mv_iload_n d_Reader_sign_1 rfl rfl ?_
  obtain ⟨_, b18, -⟩ := I0.1 _ _ h_o0
  refine mv_callV (kc1 := 0) (ks1 := 0) (kc' := 0) (ks' := 0) (As := [.int x1]) (st9 := [.int x1, .ref o0]) d_Reader_sign_2 lV_Reader_209 b18 rfl (mj_enter (by decide) (Nat.le_of_ble_eq_true rfl) ?_) rfl (Nat.le_of_ble_eq_true rfl) (Nat.le_of_ble_eq_true rfl) (Nat.le_of_ble_eq_true rfl) (hst := rfl) (fun _ _ _ h => h)
  refine mv_aload_n d_Reader_isSign_0 rfl rfl ?_
  refine tr_getK (k := 10) q11 d_Reader_isSign_1 f_Reader_41_9 ?_
  refine mv_iconst (v := 3) d_Reader_isSign_4 (by decide) ?_
  have := mz_hi v4
  refine mv_icmp_neZ (tgt := 20) (a := v4.toInt) (b := 3) d_Reader_isSign_5 (by decide) rfl (by decide) (fun b19 => ?_) (fun b19 => ?_)
  · refine mv_iconst (v := 0) d_Reader_isSign_20 (by decide) ?_
    refine mv_iret d_Reader_isSign_21 rfl (by decide) ?_
    refine mv_if_ne_f (tgt := 14) d_Reader_sign_5 (by decide) (by decide) ?_
    refine mv_aload_n d_Reader_sign_8 rfl rfl ?_
    refine mv_iconst (v := 1) d_Reader_sign_9 (by decide) ?_
    obtain ⟨_, b20, -⟩ := I0.1 _ _ h_o0
    refine mv_callV (kc1 := 0) (ks1 := 0) (kc' := 0) (ks' := 0) (As := [.int 1]) (st9 := [.int 1, .ref o0]) d_Reader_sign_10 lV_Reader_56 b20 rfl (mj_enter (by decide) (Nat.le_of_ble_eq_true rfl) ?_) rfl (Nat.le_of_ble_eq_true rfl) (Nat.le_of_ble_eq_true rfl) (Nat.le_of_ble_eq_true rfl) (hst := rfl) (fun _ _ _ h => h)
    refine mv_aload_n d_Reader_refuse_0 rfl rfl ?_
    refine mv_iload_n d_Reader_refuse_1 rfl rfl ?_
    refine tr_putK tm_okF I0 h_o0 (k := 1) rfl ⟨_, rfl⟩ (Or.inl (by decide)) d_Reader_refuse_2 p_Reader_70_9 rfl rfl (fun M21 I22 q23 K24 => ?_)
    refine mv_aload_n d_Reader_refuse_5 rfl rfl ?_
    refine mv_aload_n d_Reader_refuse_6 rfl rfl ?_
    refine tr_getK (k := 11) (K24 _ 9 11 _ rfl q12) d_Reader_refuse_7 f_Reader_175_9 ?_
    refine tr_putK tm_okF I22 h_o0 (k := 2) rfl ⟨_, rfl⟩ (Or.inl (by decide)) d_Reader_refuse_10 p_Reader_11_9 rfl rfl (fun M25 I26 q27 K28 => ?_)
    refine mv_iconst (v := 0) d_Reader_refuse_13 (by decide) ?_
    obtain ⟨s29, e30⟩ : ∃ s9 : p_S, p_fl pb pn 1 ps = s9 := ⟨_, rfl⟩
    have h31 := q_fl e30 (by omega) (by decide)
    have h32 : (1 : Int32).toInt = s29.1 := (by have e9 : (1 : Int32).toInt = 1 := (by decide); omega)
    have h33 : Im (s29.1 ≠ 0 → v5.toInt = (s29.2.1 : Int)) := Im.i (fun _ => by have := (Im.o h17) (by omega); omega)
    have h34 : Im (s29.1 = 0 → v3.toInt = (s29.2.2 : Int) ∧ v4.toInt = p_ki pb pn s29.2.2 ∧ v5.toInt = (p_st pb pn s29.2.2 : Int) ∧ v6.toInt = (p_sp pb pn s29.2.2 : Int) ∧ v7.toInt = p_va pb pn s29.2.2 ∧ v5.toInt = -1) := Im.i (fun z9 => absurd z9 h31.2.2)
    refine mv_iret d_Reader_refuse_14 rfl (by decide) ?_
    exact mv_iret d_Reader_sign_13 rfl (by decide) ⟨_, I26, _, rfl, by decide, by decide, (by have := (Im.o h17) (by omega); have := yC.d ps.2.2; have := yC.kn ps.2.2; have hb : s29.1 ≠ 0 := (by omega); have z1 : ∀ c, p_sg pb pn c s29 = s29 := (fun c => p_sg_Z s29 hb); have z2 : ∀ c, p_wd pb pn c s29 = s29 := (fun c => p_wd_Z s29 hb); have z3 : ∀ op, p_sum pb pn pa op s29 = s29 := (fun op => p_sum_Z s29 hb); have z4 : ∀ r oc, p_con pb pn pa r oc s29 = s29 := (fun r oc => p_con_Z s29 hb); have z5 : p_prt pb pn s29 = s29 := p_prt_Z s29 hb; have eT : p_sg pb pn x1.toInt ps = s29 := (by unfold p_sg; (try simp only [e30, z1, z2, z3, z4, z5]); ((repeat' (first | (with_reducible rfl) | split)) <;> (first | ((try simp only [e30, z1, z2, z3, z4, z5]); done) | (exfalso; omega)))); rw [eT]; exact ⟨⟨_, _, _, _, _, _, _, (K28 _ 9 1 _ rfl q23), q27, (K28 _ 9 9 _ rfl (K24 _ 9 9 _ rfl q10)), (K28 _ 9 10 _ rfl (K24 _ 9 10 _ rfl q11)), (K28 _ 9 11 _ rfl (K24 _ 9 11 _ rfl q12)), (K28 _ 9 12 _ rfl (K24 _ 9 12 _ rfl q13)), (K28 _ 9 13 _ rfl (K24 _ 9 13 _ rfl q14)), h32, Im.o h33, Im.o h34⟩, (Or.inr ⟨by first | decide | omega, by omega⟩)⟩)⟩
  · refine mv_aload_n d_Reader_isSign_8 rfl rfl ?_
    refine tr_getK (k := 13) q14 d_Reader_isSign_9 f_Reader_241_9 ?_
    refine mv_iload_n d_Reader_isSign_12 rfl rfl ?_
    have := mz_hi v7
    have := mz_hi x1
    refine mv_icmp_neZ (tgt := 20) (a := v7.toInt) (b := x1.toInt) d_Reader_isSign_13 (by decide) rfl rfl (fun b35 => ?_) (fun b35 => ?_)
    · refine mv_iconst (v := 0) d_Reader_isSign_20 (by decide) ?_
      refine mv_iret d_Reader_isSign_21 rfl (by decide) ?_
      refine mv_if_ne_f (tgt := 14) d_Reader_sign_5 (by decide) (by decide) ?_
      refine mv_aload_n d_Reader_sign_8 rfl rfl ?_
      refine mv_iconst (v := 1) d_Reader_sign_9 (by decide) ?_
      obtain ⟨_, b36, -⟩ := I0.1 _ _ h_o0
      refine mv_callV (kc1 := 0) (ks1 := 0) (kc' := 0) (ks' := 0) (As := [.int 1]) (st9 := [.int 1, .ref o0]) d_Reader_sign_10 lV_Reader_56 b36 rfl (mj_enter (by decide) (Nat.le_of_ble_eq_true rfl) ?_) rfl (Nat.le_of_ble_eq_true rfl) (Nat.le_of_ble_eq_true rfl) (Nat.le_of_ble_eq_true rfl) (hst := rfl) (fun _ _ _ h => h)
      refine mv_aload_n d_Reader_refuse_0 rfl rfl ?_
      refine mv_iload_n d_Reader_refuse_1 rfl rfl ?_
      refine tr_putK tm_okF I0 h_o0 (k := 1) rfl ⟨_, rfl⟩ (Or.inl (by decide)) d_Reader_refuse_2 p_Reader_70_9 rfl rfl (fun M37 I38 q39 K40 => ?_)
      refine mv_aload_n d_Reader_refuse_5 rfl rfl ?_
      refine mv_aload_n d_Reader_refuse_6 rfl rfl ?_
      refine tr_getK (k := 11) (K40 _ 9 11 _ rfl q12) d_Reader_refuse_7 f_Reader_175_9 ?_
      refine tr_putK tm_okF I38 h_o0 (k := 2) rfl ⟨_, rfl⟩ (Or.inl (by decide)) d_Reader_refuse_10 p_Reader_11_9 rfl rfl (fun M41 I42 q43 K44 => ?_)
      refine mv_iconst (v := 0) d_Reader_refuse_13 (by decide) ?_
      obtain ⟨s45, e46⟩ : ∃ s9 : p_S, p_fl pb pn 1 ps = s9 := ⟨_, rfl⟩
      have h47 := q_fl e46 (by omega) (by decide)
      have h48 : (1 : Int32).toInt = s45.1 := (by have e9 : (1 : Int32).toInt = 1 := (by decide); omega)
      have h49 : Im (s45.1 ≠ 0 → v5.toInt = (s45.2.1 : Int)) := Im.i (fun _ => by have := (Im.o h17) (by omega); omega)
      have h50 : Im (s45.1 = 0 → v3.toInt = (s45.2.2 : Int) ∧ v4.toInt = p_ki pb pn s45.2.2 ∧ v5.toInt = (p_st pb pn s45.2.2 : Int) ∧ v6.toInt = (p_sp pb pn s45.2.2 : Int) ∧ v7.toInt = p_va pb pn s45.2.2 ∧ v5.toInt = -1) := Im.i (fun z9 => absurd z9 h47.2.2)
      refine mv_iret d_Reader_refuse_14 rfl (by decide) ?_
      exact mv_iret d_Reader_sign_13 rfl (by decide) ⟨_, I42, _, rfl, by decide, by decide, (by have := (Im.o h17) (by omega); have := yC.d ps.2.2; have := yC.kn ps.2.2; have hb : s45.1 ≠ 0 := (by omega); have z1 : ∀ c, p_sg pb pn c s45 = s45 := (fun c => p_sg_Z s45 hb); have z2 : ∀ c, p_wd pb pn c s45 = s45 := (fun c => p_wd_Z s45 hb); have z3 : ∀ op, p_sum pb pn pa op s45 = s45 := (fun op => p_sum_Z s45 hb); have z4 : ∀ r oc, p_con pb pn pa r oc s45 = s45 := (fun r oc => p_con_Z s45 hb); have z5 : p_prt pb pn s45 = s45 := p_prt_Z s45 hb; have eT : p_sg pb pn x1.toInt ps = s45 := (by unfold p_sg; (try simp only [e46, z1, z2, z3, z4, z5]); ((repeat' (first | (with_reducible rfl) | split)) <;> (first | ((try simp only [e46, z1, z2, z3, z4, z5]); done) | (exfalso; omega)))); rw [eT]; exact ⟨⟨_, _, _, _, _, _, _, (K44 _ 9 1 _ rfl q39), q43, (K44 _ 9 9 _ rfl (K40 _ 9 9 _ rfl q10)), (K44 _ 9 10 _ rfl (K40 _ 9 10 _ rfl q11)), (K44 _ 9 11 _ rfl (K40 _ 9 11 _ rfl q12)), (K44 _ 9 12 _ rfl (K40 _ 9 12 _ rfl q13)), (K44 _ 9 13 _ rfl (K40 _ 9 13 _ rfl q14)), h48, Im.o h49, Im.o h50⟩, (Or.inr ⟨by first | decide | omega, by omega⟩)⟩)⟩
    · refine mv_iconst (v := 1) d_Reader_isSign_16 (by decide) ?_
      refine mv_goto (tgt := 21) d_Reader_isSign_17 (by decide) ?_
      refine mv_iret d_Reader_isSign_21 rfl (by decide) ?_
      refine mv_if_ne_t (tgt := 14) d_Reader_sign_5 (by decide) (by decide) ?_
      refine mv_aload_n d_Reader_sign_14 rfl rfl ?_
      obtain ⟨_, b57, -⟩ := I0.1 _ _ h_o0
      refine mv_callV (kc' := 0) (ks' := 0) (As := []) (st9 := [.ref o0]) d_Reader_sign_15 lV_Reader_82 b57 rfl (tc_Reader_advance_x (d := d) (x9 := x9) (o0 := o0) h_o0 (hK I0) (qS.a (show qS M0 o0 pb pn ps from ⟨_, _, _, _, _, _, _, q8, q9, q10, q11, q12, q13, q14, h15, Im.o h16, Im.o h17⟩)) (by have := (Im.o h17) (by omega); have := yC.d ps.2.2; have := yC.kn ps.2.2; show ps.2.2 + 1 ≤ 401; omega) I0.start) rfl (Nat.le_of_ble_eq_true rfl) (Nat.le_of_ble_eq_true rfl) (Nat.le_of_ble_eq_true rfl) (hst := rfl) (fun b51r M52 n53 b51 => ?_)
      obtain ⟨T54, J55, rfl, f58⟩ := b51
      have I56 := I0.call J55 (tm_sub (by decide)) (Or.inl rfl)
      have t59 := J55.up h_o0
      have q60 := J55.keep h_o0 (by decide) q8
      have q61 := J55.keep h_o0 (by decide) q9
      obtain ⟨s62, e63⟩ : ∃ s9 : p_S, p_nx ps = s9 := ⟨_, rfl⟩
      rw [e63] at f58
      have : s62.1 = 0 := by rw [← e63]; show ps.1 = 0; omega
      obtain ⟨v64, v65, v66, v67, v68, v69, v70, q71, q72, q73, q74, q75, q76, q77, h78, h79, h80⟩ := f58
      replace h79 := Im.i h79
      replace h80 := Im.i h80
      refine mv_iconst (v := 1) d_Reader_sign_18 (by decide) ?_
      exact mv_iret d_Reader_sign_19 rfl (by decide) ⟨_, I56, _, rfl, by decide, by decide, (by have := (Im.o h17) (by omega); have := yC.d ps.2.2; have := yC.kn ps.2.2; have eT : p_sg pb pn x1.toInt ps = s62 := (by unfold p_sg; (try simp only [e63]); ((repeat' (first | (with_reducible rfl) | split)) <;> (first | ((try simp only [e63]); done) | (exfalso; omega)))); rw [eT]; exact ⟨⟨_, _, _, _, _, _, _, q71, q72, q73, q74, q75, q76, q77, h78, Im.o h79, Im.o h80⟩, (Or.inl ⟨by first | decide | omega, by omega⟩)⟩)⟩
def w_Reader_word_x : List Nat := [901, 902, 909, 910, 911, 912, 913]
set_option maxHeartbeats 100000000 in theorem tc_Reader_word_x {g : mj_G} {l : Launch} {d : Nat} {T0 : tm_H} {M0 : mj_M} {n0 x9 : Nat} {o0 : Nat} {x1 : Int32} (h_o0 : T0 o0 = some (0, 9, 0))  {pb : Nat → Int} {pn : Nat} {pa : Int} {ps : p_S} (yC : qC M0 o0 pb pn pa) (yD : qS M0 o0 pb pn ps) (yw : ps.1 = 0) (yc : 0 ≤ x1.toInt ∧ x1.toInt ≤ 255) (I0 : tm_I tm_FT (tm_in w_Reader_word_x) x9 T0 M0 n0 T0 M0 n0) : mj_Met g l kY_Reader_word (d + 1) [.ref o0, .int x1] M0 n0 0 0 (tm_Q tm_FT (tm_in w_Reader_word_x) x9 T0 M0 n0 (fun r _ M => ∃ v : Int32, r = some (.int v) ∧ 0 ≤ v.toInt ∧ v.toInt ≤ 1 ∧ (qS M o0 pb pn (p_wd pb pn x1.toInt ps)) ∧ (v.toInt = 1 ∧ (p_wd pb pn x1.toInt ps).1 = 0 ∨ v.toInt = 0 ∧ (p_wd pb pn x1.toInt ps).1 ≠ 0))) := by
  refine mj_enter (by decide) (Nat.le_of_ble_eq_true rfl) ?_
  have hK : ∀ {T : tm_H} {M : mj_M} {n : Nat}, tm_I tm_FT (tm_in w_Reader_word_x) x9 T0 M0 n0 T M n → qC M o0 pb pn pa := fun I => yC.keep I0.1 I h_o0 (qW_of (by decide +kernel))
  obtain ⟨v1, v2, v3, v4, v5, v6, v7, q8, q9, q10, q11, q12, q13, q14, h15, h16, h17⟩ := yD
  replace h16 := Im.i h16
  replace h17 := Im.i h17
  refine mv_aload_n d_Reader_word_0 rfl rfl ?_
  refine mv_iload_n d_Reader_word_1 rfl rfl ?_
  obtain ⟨_, b18, -⟩ := I0.1 _ _ h_o0
  refine mv_callV (kc1 := 0) (ks1 := 0) (kc' := 0) (ks' := 0) (As := [.int x1]) (st9 := [.int x1, .ref o0]) d_Reader_word_2 lV_Reader_52 b18 rfl (mj_enter (by decide) (Nat.le_of_ble_eq_true rfl) ?_) rfl (Nat.le_of_ble_eq_true rfl) (Nat.le_of_ble_eq_true rfl) (Nat.le_of_ble_eq_true rfl) (hst := rfl) (fun _ _ _ h => h)
  refine mv_aload_n d_Reader_isWord_0 rfl rfl ?_
  refine tr_getK (k := 10) q11 d_Reader_isWord_1 f_Reader_41_9 ?_
  refine mv_iconst (v := 1) d_Reader_isWord_4 (by decide) ?_
  have := mz_hi v4
  refine mv_icmp_neZ (tgt := 20) (a := v4.toInt) (b := 1) d_Reader_isWord_5 (by decide) rfl (by decide) (fun b19 => ?_) (fun b19 => ?_)
  · refine mv_iconst (v := 0) d_Reader_isWord_20 (by decide) ?_
    refine mv_iret d_Reader_isWord_21 rfl (by decide) ?_
    refine mv_if_ne_f (tgt := 14) d_Reader_word_5 (by decide) (by decide) ?_
    refine mv_aload_n d_Reader_word_8 rfl rfl ?_
    refine mv_iconst (v := 1) d_Reader_word_9 (by decide) ?_
    obtain ⟨_, b20, -⟩ := I0.1 _ _ h_o0
    refine mv_callV (kc1 := 0) (ks1 := 0) (kc' := 0) (ks' := 0) (As := [.int 1]) (st9 := [.int 1, .ref o0]) d_Reader_word_10 lV_Reader_56 b20 rfl (mj_enter (by decide) (Nat.le_of_ble_eq_true rfl) ?_) rfl (Nat.le_of_ble_eq_true rfl) (Nat.le_of_ble_eq_true rfl) (Nat.le_of_ble_eq_true rfl) (hst := rfl) (fun _ _ _ h => h)
    refine mv_aload_n d_Reader_refuse_0 rfl rfl ?_
    refine mv_iload_n d_Reader_refuse_1 rfl rfl ?_
    refine tr_putK tm_okF I0 h_o0 (k := 1) rfl ⟨_, rfl⟩ (Or.inl (by decide)) d_Reader_refuse_2 p_Reader_70_9 rfl rfl (fun M21 I22 q23 K24 => ?_)
    refine mv_aload_n d_Reader_refuse_5 rfl rfl ?_
    refine mv_aload_n d_Reader_refuse_6 rfl rfl ?_
    refine tr_getK (k := 11) (K24 _ 9 11 _ rfl q12) d_Reader_refuse_7 f_Reader_175_9 ?_
    refine tr_putK tm_okF I22 h_o0 (k := 2) rfl ⟨_, rfl⟩ (Or.inl (by decide)) d_Reader_refuse_10 p_Reader_11_9 rfl rfl (fun M25 I26 q27 K28 => ?_)
    refine mv_iconst (v := 0) d_Reader_refuse_13 (by decide) ?_
    obtain ⟨s29, e30⟩ : ∃ s9 : p_S, p_fl pb pn 1 ps = s9 := ⟨_, rfl⟩
    have h31 := q_fl e30 (by omega) (by decide)
    have h32 : (1 : Int32).toInt = s29.1 := (by have e9 : (1 : Int32).toInt = 1 := (by decide); omega)
    have h33 : Im (s29.1 ≠ 0 → v5.toInt = (s29.2.1 : Int)) := Im.i (fun _ => by have := (Im.o h17) (by omega); omega)
    have h34 : Im (s29.1 = 0 → v3.toInt = (s29.2.2 : Int) ∧ v4.toInt = p_ki pb pn s29.2.2 ∧ v5.toInt = (p_st pb pn s29.2.2 : Int) ∧ v6.toInt = (p_sp pb pn s29.2.2 : Int) ∧ v7.toInt = p_va pb pn s29.2.2 ∧ v5.toInt = -1) := Im.i (fun z9 => absurd z9 h31.2.2)
    refine mv_iret d_Reader_refuse_14 rfl (by decide) ?_
    exact mv_iret d_Reader_word_13 rfl (by decide) ⟨_, I26, _, rfl, by decide, by decide, (by have := (Im.o h17) (by omega); have := yC.d ps.2.2; have := yC.kn ps.2.2; have hb : s29.1 ≠ 0 := (by omega); have z1 : ∀ c, p_sg pb pn c s29 = s29 := (fun c => p_sg_Z s29 hb); have z2 : ∀ c, p_wd pb pn c s29 = s29 := (fun c => p_wd_Z s29 hb); have z3 : ∀ op, p_sum pb pn pa op s29 = s29 := (fun op => p_sum_Z s29 hb); have z4 : ∀ r oc, p_con pb pn pa r oc s29 = s29 := (fun r oc => p_con_Z s29 hb); have z5 : p_prt pb pn s29 = s29 := p_prt_Z s29 hb; have eT : p_wd pb pn x1.toInt ps = s29 := (by unfold p_wd; (try simp only [e30, z1, z2, z3, z4, z5]); ((repeat' (first | (with_reducible rfl) | split)) <;> (first | ((try simp only [e30, z1, z2, z3, z4, z5]); done) | (exfalso; omega)))); rw [eT]; exact ⟨⟨_, _, _, _, _, _, _, (K28 _ 9 1 _ rfl q23), q27, (K28 _ 9 9 _ rfl (K24 _ 9 9 _ rfl q10)), (K28 _ 9 10 _ rfl (K24 _ 9 10 _ rfl q11)), (K28 _ 9 11 _ rfl (K24 _ 9 11 _ rfl q12)), (K28 _ 9 12 _ rfl (K24 _ 9 12 _ rfl q13)), (K28 _ 9 13 _ rfl (K24 _ 9 13 _ rfl q14)), h32, Im.o h33, Im.o h34⟩, (Or.inr ⟨by first | decide | omega, by omega⟩)⟩)⟩
  · refine mv_aload_n d_Reader_isWord_8 rfl rfl ?_
    refine tr_getK (k := 13) q14 d_Reader_isWord_9 f_Reader_241_9 ?_
    refine mv_iload_n d_Reader_isWord_12 rfl rfl ?_
    have := mz_hi v7
    have := mz_hi x1
    refine mv_icmp_neZ (tgt := 20) (a := v7.toInt) (b := x1.toInt) d_Reader_isWord_13 (by decide) rfl rfl (fun b35 => ?_) (fun b35 => ?_)
    · refine mv_iconst (v := 0) d_Reader_isWord_20 (by decide) ?_
      refine mv_iret d_Reader_isWord_21 rfl (by decide) ?_
      refine mv_if_ne_f (tgt := 14) d_Reader_word_5 (by decide) (by decide) ?_
      refine mv_aload_n d_Reader_word_8 rfl rfl ?_
      refine mv_iconst (v := 1) d_Reader_word_9 (by decide) ?_
      obtain ⟨_, b36, -⟩ := I0.1 _ _ h_o0
      refine mv_callV (kc1 := 0) (ks1 := 0) (kc' := 0) (ks' := 0) (As := [.int 1]) (st9 := [.int 1, .ref o0]) d_Reader_word_10 lV_Reader_56 b36 rfl (mj_enter (by decide) (Nat.le_of_ble_eq_true rfl) ?_) rfl (Nat.le_of_ble_eq_true rfl) (Nat.le_of_ble_eq_true rfl) (Nat.le_of_ble_eq_true rfl) (hst := rfl) (fun _ _ _ h => h)
      refine mv_aload_n d_Reader_refuse_0 rfl rfl ?_
      refine mv_iload_n d_Reader_refuse_1 rfl rfl ?_
      refine tr_putK tm_okF I0 h_o0 (k := 1) rfl ⟨_, rfl⟩ (Or.inl (by decide)) d_Reader_refuse_2 p_Reader_70_9 rfl rfl (fun M37 I38 q39 K40 => ?_)
      refine mv_aload_n d_Reader_refuse_5 rfl rfl ?_
      refine mv_aload_n d_Reader_refuse_6 rfl rfl ?_
      refine tr_getK (k := 11) (K40 _ 9 11 _ rfl q12) d_Reader_refuse_7 f_Reader_175_9 ?_
      refine tr_putK tm_okF I38 h_o0 (k := 2) rfl ⟨_, rfl⟩ (Or.inl (by decide)) d_Reader_refuse_10 p_Reader_11_9 rfl rfl (fun M41 I42 q43 K44 => ?_)
      refine mv_iconst (v := 0) d_Reader_refuse_13 (by decide) ?_
      obtain ⟨s45, e46⟩ : ∃ s9 : p_S, p_fl pb pn 1 ps = s9 := ⟨_, rfl⟩
      have h47 := q_fl e46 (by omega) (by decide)
      have h48 : (1 : Int32).toInt = s45.1 := (by have e9 : (1 : Int32).toInt = 1 := (by decide); omega)
      have h49 : Im (s45.1 ≠ 0 → v5.toInt = (s45.2.1 : Int)) := Im.i (fun _ => by have := (Im.o h17) (by omega); omega)
      have h50 : Im (s45.1 = 0 → v3.toInt = (s45.2.2 : Int) ∧ v4.toInt = p_ki pb pn s45.2.2 ∧ v5.toInt = (p_st pb pn s45.2.2 : Int) ∧ v6.toInt = (p_sp pb pn s45.2.2 : Int) ∧ v7.toInt = p_va pb pn s45.2.2 ∧ v5.toInt = -1) := Im.i (fun z9 => absurd z9 h47.2.2)
      refine mv_iret d_Reader_refuse_14 rfl (by decide) ?_
      exact mv_iret d_Reader_word_13 rfl (by decide) ⟨_, I42, _, rfl, by decide, by decide, (by have := (Im.o h17) (by omega); have := yC.d ps.2.2; have := yC.kn ps.2.2; have hb : s45.1 ≠ 0 := (by omega); have z1 : ∀ c, p_sg pb pn c s45 = s45 := (fun c => p_sg_Z s45 hb); have z2 : ∀ c, p_wd pb pn c s45 = s45 := (fun c => p_wd_Z s45 hb); have z3 : ∀ op, p_sum pb pn pa op s45 = s45 := (fun op => p_sum_Z s45 hb); have z4 : ∀ r oc, p_con pb pn pa r oc s45 = s45 := (fun r oc => p_con_Z s45 hb); have z5 : p_prt pb pn s45 = s45 := p_prt_Z s45 hb; have eT : p_wd pb pn x1.toInt ps = s45 := (by unfold p_wd; (try simp only [e46, z1, z2, z3, z4, z5]); ((repeat' (first | (with_reducible rfl) | split)) <;> (first | ((try simp only [e46, z1, z2, z3, z4, z5]); done) | (exfalso; omega)))); rw [eT]; exact ⟨⟨_, _, _, _, _, _, _, (K44 _ 9 1 _ rfl q39), q43, (K44 _ 9 9 _ rfl (K40 _ 9 9 _ rfl q10)), (K44 _ 9 10 _ rfl (K40 _ 9 10 _ rfl q11)), (K44 _ 9 11 _ rfl (K40 _ 9 11 _ rfl q12)), (K44 _ 9 12 _ rfl (K40 _ 9 12 _ rfl q13)), (K44 _ 9 13 _ rfl (K40 _ 9 13 _ rfl q14)), h48, Im.o h49, Im.o h50⟩, (Or.inr ⟨by first | decide | omega, by omega⟩)⟩)⟩
    · refine mv_iconst (v := 1) d_Reader_isWord_16 (by decide) ?_
      refine mv_goto (tgt := 21) d_Reader_isWord_17 (by decide) ?_
      refine mv_iret d_Reader_isWord_21 rfl (by decide) ?_
      refine mv_if_ne_t (tgt := 14) d_Reader_word_5 (by decide) (by decide) ?_
      refine mv_aload_n d_Reader_word_14 rfl rfl ?_
      obtain ⟨_, b57, -⟩ := I0.1 _ _ h_o0
      refine mv_callV (kc' := 0) (ks' := 0) (As := []) (st9 := [.ref o0]) d_Reader_word_15 lV_Reader_82 b57 rfl (tc_Reader_advance_x (d := d) (x9 := x9) (o0 := o0) h_o0 (hK I0) (qS.a (show qS M0 o0 pb pn ps from ⟨_, _, _, _, _, _, _, q8, q9, q10, q11, q12, q13, q14, h15, Im.o h16, Im.o h17⟩)) (by have := (Im.o h17) (by omega); have := yC.d ps.2.2; have := yC.kn ps.2.2; show ps.2.2 + 1 ≤ 401; omega) I0.start) rfl (Nat.le_of_ble_eq_true rfl) (Nat.le_of_ble_eq_true rfl) (Nat.le_of_ble_eq_true rfl) (hst := rfl) (fun b51r M52 n53 b51 => ?_)
      obtain ⟨T54, J55, rfl, f58⟩ := b51
      have I56 := I0.call J55 (tm_sub (by decide)) (Or.inl rfl)
      have t59 := J55.up h_o0
      have q60 := J55.keep h_o0 (by decide) q8
      have q61 := J55.keep h_o0 (by decide) q9
      obtain ⟨s62, e63⟩ : ∃ s9 : p_S, p_nx ps = s9 := ⟨_, rfl⟩
      rw [e63] at f58
      have : s62.1 = 0 := by rw [← e63]; show ps.1 = 0; omega
      obtain ⟨v64, v65, v66, v67, v68, v69, v70, q71, q72, q73, q74, q75, q76, q77, h78, h79, h80⟩ := f58
      replace h79 := Im.i h79
      replace h80 := Im.i h80
      refine mv_iconst (v := 1) d_Reader_word_18 (by decide) ?_
      exact mv_iret d_Reader_word_19 rfl (by decide) ⟨_, I56, _, rfl, by decide, by decide, (by have := (Im.o h17) (by omega); have := yC.d ps.2.2; have := yC.kn ps.2.2; have eT : p_wd pb pn x1.toInt ps = s62 := (by unfold p_wd; (try simp only [e63]); ((repeat' (first | (with_reducible rfl) | split)) <;> (first | ((try simp only [e63]); done) | (exfalso; omega)))); rw [eT]; exact ⟨⟨_, _, _, _, _, _, _, q71, q72, q73, q74, q75, q76, q77, h78, Im.o h79, Im.o h80⟩, (Or.inl ⟨by first | decide | omega, by omega⟩)⟩)⟩
def w_Reader_numeral_x : List Nat := [901, 902, 909, 910, 911, 912, 913, 914]
set_option maxHeartbeats 100000000 in theorem tc_Reader_numeral_x {g : mj_G} {l : Launch} {d : Nat} {T0 : tm_H} {M0 : mj_M} {n0 x9 : Nat} {o0 : Nat} {x1 : Int32} {x2 : Int32} (h_o0 : T0 o0 = some (0, 9, 0))  {pb : Nat → Int} {pn : Nat} {pa : Int} {ps : p_S} (yC : qC M0 o0 pb pn pa) (yD : qS M0 o0 pb pn ps) (yw : ps.1 = 0) (I0 : tm_I tm_FT (tm_in w_Reader_numeral_x) x9 T0 M0 n0 T0 M0 n0) : mj_Met g l kY_Reader_numeral (d + 1) [.ref o0, .int x1, .int x2] M0 n0 0 0 (tm_Q tm_FT (tm_in w_Reader_numeral_x) x9 T0 M0 n0 (fun r _ M => ∃ v : Int32, r = some (.int v) ∧ 0 ≤ v.toInt ∧ v.toInt ≤ 1 ∧ (qS M o0 pb pn (p_num pb pn x1.toInt x2.toInt ps)) ∧ (v.toInt = 1 ∧ (p_num pb pn x1.toInt x2.toInt ps).1 = 0 ∨ v.toInt = 0 ∧ (p_num pb pn x1.toInt x2.toInt ps).1 ≠ 0) ∧ (∃ nv : Int32, tm_at M o0 9 14 (.int nv) ∧ (v.toInt = 1 → nv.toInt = p_nm pb pn ps.2.2)))) := by
  refine mj_enter (by decide) (Nat.le_of_ble_eq_true rfl) ?_
  have hK : ∀ {T : tm_H} {M : mj_M} {n : Nat}, tm_I tm_FT (tm_in w_Reader_numeral_x) x9 T0 M0 n0 T M n → qC M o0 pb pn pa := fun I => yC.keep I0.1 I h_o0 (qW_of (by decide +kernel))
  obtain ⟨v1, v2, v3, v4, v5, v6, v7, q8, q9, q10, q11, q12, q13, q14, h15, h16, h17⟩ := yD
  replace h16 := Im.i h16
  replace h17 := Im.i h17
  refine mv_aload_n d_Reader_numeral_0 rfl rfl ?_
  refine tr_getK (k := 10) q11 d_Reader_numeral_1 f_Reader_41_9 ?_
  refine mv_iconst (v := 2) d_Reader_numeral_4 (by decide) ?_
  have := mz_hi v4
  refine mv_icmp_neZ (tgt := 16) (a := v4.toInt) (b := 2) d_Reader_numeral_5 (by decide) rfl (by decide) (fun b18 => ?_) (fun b18 => ?_)
  · refine mv_aload_n d_Reader_numeral_16 rfl rfl ?_
    refine mv_iconst (v := 1) d_Reader_numeral_17 (by decide) ?_
    obtain ⟨_, b19, -⟩ := I0.1 _ _ h_o0
    refine mv_callV (kc1 := 0) (ks1 := 0) (kc' := 0) (ks' := 0) (As := [.int 1]) (st9 := [.int 1, .ref o0]) d_Reader_numeral_18 lV_Reader_56 b19 rfl (mj_enter (by decide) (Nat.le_of_ble_eq_true rfl) ?_) rfl (Nat.le_of_ble_eq_true rfl) (Nat.le_of_ble_eq_true rfl) (Nat.le_of_ble_eq_true rfl) (hst := rfl) (fun _ _ _ h => h)
    refine mv_aload_n d_Reader_refuse_0 rfl rfl ?_
    refine mv_iload_n d_Reader_refuse_1 rfl rfl ?_
    refine tr_putK tm_okF I0 h_o0 (k := 1) rfl ⟨_, rfl⟩ (Or.inl (by decide)) d_Reader_refuse_2 p_Reader_70_9 rfl rfl (fun M20 I21 q22 K23 => ?_)
    refine mv_aload_n d_Reader_refuse_5 rfl rfl ?_
    refine mv_aload_n d_Reader_refuse_6 rfl rfl ?_
    refine tr_getK (k := 11) (K23 _ 9 11 _ rfl q12) d_Reader_refuse_7 f_Reader_175_9 ?_
    refine tr_putK tm_okF I21 h_o0 (k := 2) rfl ⟨_, rfl⟩ (Or.inl (by decide)) d_Reader_refuse_10 p_Reader_11_9 rfl rfl (fun M24 I25 q26 K27 => ?_)
    refine mv_iconst (v := 0) d_Reader_refuse_13 (by decide) ?_
    obtain ⟨s28, e29⟩ : ∃ s9 : p_S, p_fl pb pn 1 ps = s9 := ⟨_, rfl⟩
    have h30 := q_fl e29 (by omega) (by decide)
    have h31 : (1 : Int32).toInt = s28.1 := (by have e9 : (1 : Int32).toInt = 1 := (by decide); omega)
    have h32 : Im (s28.1 ≠ 0 → v5.toInt = (s28.2.1 : Int)) := Im.i (fun _ => by have := (Im.o h17) (by omega); omega)
    have h33 : Im (s28.1 = 0 → v3.toInt = (s28.2.2 : Int) ∧ v4.toInt = p_ki pb pn s28.2.2 ∧ v5.toInt = (p_st pb pn s28.2.2 : Int) ∧ v6.toInt = (p_sp pb pn s28.2.2 : Int) ∧ v7.toInt = p_va pb pn s28.2.2 ∧ v5.toInt = -1) := Im.i (fun z9 => absurd z9 h30.2.2)
    refine mv_iret d_Reader_refuse_14 rfl (by decide) ?_
    exact mv_iret d_Reader_numeral_21 rfl (by decide) ⟨_, I25, _, rfl, by decide, by decide, (by have := (Im.o h17) (by omega); have := yC.d ps.2.2; have := yC.kn ps.2.2; have hb : s28.1 ≠ 0 := (by omega); have z1 : ∀ c, p_sg pb pn c s28 = s28 := (fun c => p_sg_Z s28 hb); have z2 : ∀ c, p_wd pb pn c s28 = s28 := (fun c => p_wd_Z s28 hb); have z3 : ∀ op, p_sum pb pn pa op s28 = s28 := (fun op => p_sum_Z s28 hb); have z4 : ∀ r oc, p_con pb pn pa r oc s28 = s28 := (fun r oc => p_con_Z s28 hb); have z5 : p_prt pb pn s28 = s28 := p_prt_Z s28 hb; have eT : p_num pb pn x1.toInt x2.toInt ps = s28 := (by unfold p_num; (try simp only [e29, z1, z2, z3, z4, z5]); ((repeat' (first | (with_reducible rfl) | split)) <;> (first | ((try simp only [e29, z1, z2, z3, z4, z5]); done) | (exfalso; omega)))); rw [eT]; exact ⟨⟨_, _, _, _, _, _, _, (K27 _ 9 1 _ rfl q22), q26, (K27 _ 9 9 _ rfl (K23 _ 9 9 _ rfl q10)), (K27 _ 9 10 _ rfl (K23 _ 9 10 _ rfl q11)), (K27 _ 9 11 _ rfl (K23 _ 9 11 _ rfl q12)), (K27 _ 9 12 _ rfl (K23 _ 9 12 _ rfl q13)), (K27 _ 9 13 _ rfl (K23 _ 9 13 _ rfl q14)), h31, Im.o h32, Im.o h33⟩, (Or.inr ⟨by first | decide | omega, by omega⟩), (by obtain ⟨v9, q9⟩ := tm_atI I25 (I25.up h_o0) (k := 14) rfl; exact ⟨v9, q9, fun h => absurd h (by decide)⟩)⟩)⟩
  · refine mv_aload_n d_Reader_numeral_8 rfl rfl ?_
    refine tr_getK (k := 13) q14 d_Reader_numeral_9 f_Reader_241_9 ?_
    refine mv_iconst (v := (-1)) d_Reader_numeral_12 (by decide) ?_
    have := mz_hi v7
    refine mv_icmp_neZ (tgt := 22) (a := v7.toInt) (b := (-1)) d_Reader_numeral_13 (by decide) rfl (by decide) (fun b34 => ?_) (fun b34 => ?_)
    · refine mv_aload_n d_Reader_numeral_22 rfl rfl ?_
      refine tr_getK (k := 13) q14 d_Reader_numeral_23 f_Reader_241_9 ?_
      refine mv_iload_n d_Reader_numeral_26 rfl rfl ?_
      have := mz_hi v7
      have := mz_hi x1
      refine mv_icmp_ltZ (tgt := 38) (a := v7.toInt) (b := x1.toInt) d_Reader_numeral_27 (by decide) rfl rfl (fun b35 => ?_) (fun b35 => ?_)
      · refine mv_aload_n d_Reader_numeral_38 rfl rfl ?_
        refine mv_iconst (v := 2) d_Reader_numeral_39 (by decide) ?_
        obtain ⟨_, b36, -⟩ := I0.1 _ _ h_o0
        refine mv_callV (kc1 := 0) (ks1 := 0) (kc' := 0) (ks' := 0) (As := [.int 2]) (st9 := [.int 2, .ref o0]) d_Reader_numeral_40 lV_Reader_56 b36 rfl (mj_enter (by decide) (Nat.le_of_ble_eq_true rfl) ?_) rfl (Nat.le_of_ble_eq_true rfl) (Nat.le_of_ble_eq_true rfl) (Nat.le_of_ble_eq_true rfl) (hst := rfl) (fun _ _ _ h => h)
        refine mv_aload_n d_Reader_refuse_0 rfl rfl ?_
        refine mv_iload_n d_Reader_refuse_1 rfl rfl ?_
        refine tr_putK tm_okF I0 h_o0 (k := 1) rfl ⟨_, rfl⟩ (Or.inl (by decide)) d_Reader_refuse_2 p_Reader_70_9 rfl rfl (fun M37 I38 q39 K40 => ?_)
        refine mv_aload_n d_Reader_refuse_5 rfl rfl ?_
        refine mv_aload_n d_Reader_refuse_6 rfl rfl ?_
        refine tr_getK (k := 11) (K40 _ 9 11 _ rfl q12) d_Reader_refuse_7 f_Reader_175_9 ?_
        refine tr_putK tm_okF I38 h_o0 (k := 2) rfl ⟨_, rfl⟩ (Or.inl (by decide)) d_Reader_refuse_10 p_Reader_11_9 rfl rfl (fun M41 I42 q43 K44 => ?_)
        refine mv_iconst (v := 0) d_Reader_refuse_13 (by decide) ?_
        obtain ⟨s45, e46⟩ : ∃ s9 : p_S, p_fl pb pn 2 ps = s9 := ⟨_, rfl⟩
        have h47 := q_fl e46 (by omega) (by decide)
        have h48 : (2 : Int32).toInt = s45.1 := (by have e9 : (2 : Int32).toInt = 2 := (by decide); omega)
        have h49 : Im (s45.1 ≠ 0 → v5.toInt = (s45.2.1 : Int)) := Im.i (fun _ => by have := (Im.o h17) (by omega); omega)
        have h50 : Im (s45.1 = 0 → v3.toInt = (s45.2.2 : Int) ∧ v4.toInt = p_ki pb pn s45.2.2 ∧ v5.toInt = (p_st pb pn s45.2.2 : Int) ∧ v6.toInt = (p_sp pb pn s45.2.2 : Int) ∧ v7.toInt = p_va pb pn s45.2.2 ∧ v5.toInt = -1) := Im.i (fun z9 => absurd z9 h47.2.2)
        refine mv_iret d_Reader_refuse_14 rfl (by decide) ?_
        exact mv_iret d_Reader_numeral_43 rfl (by decide) ⟨_, I42, _, rfl, by decide, by decide, (by have := (Im.o h17) (by omega); have := yC.d ps.2.2; have := yC.kn ps.2.2; have hb : s45.1 ≠ 0 := (by omega); have z1 : ∀ c, p_sg pb pn c s45 = s45 := (fun c => p_sg_Z s45 hb); have z2 : ∀ c, p_wd pb pn c s45 = s45 := (fun c => p_wd_Z s45 hb); have z3 : ∀ op, p_sum pb pn pa op s45 = s45 := (fun op => p_sum_Z s45 hb); have z4 : ∀ r oc, p_con pb pn pa r oc s45 = s45 := (fun r oc => p_con_Z s45 hb); have z5 : p_prt pb pn s45 = s45 := p_prt_Z s45 hb; have eT : p_num pb pn x1.toInt x2.toInt ps = s45 := (by unfold p_num; (try simp only [e46, z1, z2, z3, z4, z5]); ((repeat' (first | (with_reducible rfl) | split)) <;> (first | ((try simp only [e46, z1, z2, z3, z4, z5]); done) | (exfalso; omega)))); rw [eT]; exact ⟨⟨_, _, _, _, _, _, _, (K44 _ 9 1 _ rfl q39), q43, (K44 _ 9 9 _ rfl (K40 _ 9 9 _ rfl q10)), (K44 _ 9 10 _ rfl (K40 _ 9 10 _ rfl q11)), (K44 _ 9 11 _ rfl (K40 _ 9 11 _ rfl q12)), (K44 _ 9 12 _ rfl (K40 _ 9 12 _ rfl q13)), (K44 _ 9 13 _ rfl (K40 _ 9 13 _ rfl q14)), h48, Im.o h49, Im.o h50⟩, (Or.inr ⟨by first | decide | omega, by omega⟩), (by obtain ⟨v9, q9⟩ := tm_atI I42 (I42.up h_o0) (k := 14) rfl; exact ⟨v9, q9, fun h => absurd h (by decide)⟩)⟩)⟩
      · refine mv_aload_n d_Reader_numeral_30 rfl rfl ?_
        refine tr_getK (k := 13) q14 d_Reader_numeral_31 f_Reader_241_9 ?_
        refine mv_iload_n d_Reader_numeral_34 rfl rfl ?_
        have := mz_hi v7
        have := mz_hi x2
        refine mv_icmp_leZ (tgt := 44) (a := v7.toInt) (b := x2.toInt) d_Reader_numeral_35 (by decide) rfl rfl (fun b51 => ?_) (fun b51 => ?_)
        · refine mv_aload_n d_Reader_numeral_44 rfl rfl ?_
          refine mv_aload_n d_Reader_numeral_45 rfl rfl ?_
          refine tr_getK (k := 13) q14 d_Reader_numeral_46 f_Reader_241_9 ?_
          refine tr_putK tm_okF I0 h_o0 (k := 14) rfl ⟨_, rfl⟩ (Or.inl (by decide)) d_Reader_numeral_49 p_Reader_111_9 rfl rfl (fun M52 I53 q54 K55 => ?_)
          refine mv_aload_n d_Reader_numeral_52 rfl rfl ?_
          obtain ⟨_, b62, -⟩ := I53.1 _ _ h_o0
          refine mv_callV (kc' := 0) (ks' := 0) (As := []) (st9 := [.ref o0]) d_Reader_numeral_53 lV_Reader_82 b62 rfl (tc_Reader_advance_x (d := d) (x9 := x9) (o0 := o0) h_o0 (hK I53) (qS.a (show qS M52 o0 pb pn ps from ⟨_, _, _, _, _, _, _, (K55 _ 9 1 _ rfl q8), (K55 _ 9 2 _ rfl q9), (K55 _ 9 9 _ rfl q10), (K55 _ 9 10 _ rfl q11), (K55 _ 9 11 _ rfl q12), (K55 _ 9 12 _ rfl q13), (K55 _ 9 13 _ rfl q14), h15, Im.o h16, Im.o h17⟩)) (by have := (Im.o h17) (by omega); have := yC.d ps.2.2; have := yC.kn ps.2.2; show ps.2.2 + 1 ≤ 401; omega) I53.start) rfl (Nat.le_of_ble_eq_true rfl) (Nat.le_of_ble_eq_true rfl) (Nat.le_of_ble_eq_true rfl) (hst := rfl) (fun b56r M57 n58 b56 => ?_)
          obtain ⟨T59, J60, rfl, f63⟩ := b56
          have I61 := I53.call J60 (tm_sub (by decide)) (Or.inl rfl)
          have t64 := J60.up h_o0
          have q65 := J60.keep h_o0 (by decide) (K55 _ 9 1 _ rfl q8)
          have q66 := J60.keep h_o0 (by decide) (K55 _ 9 2 _ rfl q9)
          have q67 := J60.keep h_o0 (by decide) q54
          obtain ⟨s68, e69⟩ : ∃ s9 : p_S, p_nx ps = s9 := ⟨_, rfl⟩
          rw [e69] at f63
          have : s68.1 = 0 := by rw [← e69]; show ps.1 = 0; omega
          obtain ⟨v70, v71, v72, v73, v74, v75, v76, q77, q78, q79, q80, q81, q82, q83, h84, h85, h86⟩ := f63
          replace h85 := Im.i h85
          replace h86 := Im.i h86
          refine mv_iconst (v := 1) d_Reader_numeral_56 (by decide) ?_
          exact mv_iret d_Reader_numeral_57 rfl (by decide) ⟨_, I61, _, rfl, by decide, by decide, (by have := (Im.o h17) (by omega); have := yC.d ps.2.2; have := yC.kn ps.2.2; have eT : p_num pb pn x1.toInt x2.toInt ps = s68 := (by unfold p_num; (try simp only [e69]); ((repeat' (first | (with_reducible rfl) | split)) <;> (first | ((try simp only [e69]); done) | (exfalso; omega)))); rw [eT]; exact ⟨⟨_, _, _, _, _, _, _, q77, q78, q79, q80, q81, q82, q83, h84, Im.o h85, Im.o h86⟩, (Or.inl ⟨by first | decide | omega, by omega⟩), ⟨_, q67, fun _ => by have := (Im.o h17) (by omega); have := yC.d ps.2.2; have := yC.kn ps.2.2; omega⟩⟩)⟩
        · refine mv_aload_n d_Reader_numeral_38 rfl rfl ?_
          refine mv_iconst (v := 2) d_Reader_numeral_39 (by decide) ?_
          obtain ⟨_, b87, -⟩ := I0.1 _ _ h_o0
          refine mv_callV (kc1 := 0) (ks1 := 0) (kc' := 0) (ks' := 0) (As := [.int 2]) (st9 := [.int 2, .ref o0]) d_Reader_numeral_40 lV_Reader_56 b87 rfl (mj_enter (by decide) (Nat.le_of_ble_eq_true rfl) ?_) rfl (Nat.le_of_ble_eq_true rfl) (Nat.le_of_ble_eq_true rfl) (Nat.le_of_ble_eq_true rfl) (hst := rfl) (fun _ _ _ h => h)
          refine mv_aload_n d_Reader_refuse_0 rfl rfl ?_
          refine mv_iload_n d_Reader_refuse_1 rfl rfl ?_
          refine tr_putK tm_okF I0 h_o0 (k := 1) rfl ⟨_, rfl⟩ (Or.inl (by decide)) d_Reader_refuse_2 p_Reader_70_9 rfl rfl (fun M88 I89 q90 K91 => ?_)
          refine mv_aload_n d_Reader_refuse_5 rfl rfl ?_
          refine mv_aload_n d_Reader_refuse_6 rfl rfl ?_
          refine tr_getK (k := 11) (K91 _ 9 11 _ rfl q12) d_Reader_refuse_7 f_Reader_175_9 ?_
          refine tr_putK tm_okF I89 h_o0 (k := 2) rfl ⟨_, rfl⟩ (Or.inl (by decide)) d_Reader_refuse_10 p_Reader_11_9 rfl rfl (fun M92 I93 q94 K95 => ?_)
          refine mv_iconst (v := 0) d_Reader_refuse_13 (by decide) ?_
          obtain ⟨s96, e97⟩ : ∃ s9 : p_S, p_fl pb pn 2 ps = s9 := ⟨_, rfl⟩
          have h98 := q_fl e97 (by omega) (by decide)
          have h99 : (2 : Int32).toInt = s96.1 := (by have e9 : (2 : Int32).toInt = 2 := (by decide); omega)
          have h100 : Im (s96.1 ≠ 0 → v5.toInt = (s96.2.1 : Int)) := Im.i (fun _ => by have := (Im.o h17) (by omega); omega)
          have h101 : Im (s96.1 = 0 → v3.toInt = (s96.2.2 : Int) ∧ v4.toInt = p_ki pb pn s96.2.2 ∧ v5.toInt = (p_st pb pn s96.2.2 : Int) ∧ v6.toInt = (p_sp pb pn s96.2.2 : Int) ∧ v7.toInt = p_va pb pn s96.2.2 ∧ v5.toInt = -1) := Im.i (fun z9 => absurd z9 h98.2.2)
          refine mv_iret d_Reader_refuse_14 rfl (by decide) ?_
          exact mv_iret d_Reader_numeral_43 rfl (by decide) ⟨_, I93, _, rfl, by decide, by decide, (by have := (Im.o h17) (by omega); have := yC.d ps.2.2; have := yC.kn ps.2.2; have hb : s96.1 ≠ 0 := (by omega); have z1 : ∀ c, p_sg pb pn c s96 = s96 := (fun c => p_sg_Z s96 hb); have z2 : ∀ c, p_wd pb pn c s96 = s96 := (fun c => p_wd_Z s96 hb); have z3 : ∀ op, p_sum pb pn pa op s96 = s96 := (fun op => p_sum_Z s96 hb); have z4 : ∀ r oc, p_con pb pn pa r oc s96 = s96 := (fun r oc => p_con_Z s96 hb); have z5 : p_prt pb pn s96 = s96 := p_prt_Z s96 hb; have eT : p_num pb pn x1.toInt x2.toInt ps = s96 := (by unfold p_num; (try simp only [e97, z1, z2, z3, z4, z5]); ((repeat' (first | (with_reducible rfl) | split)) <;> (first | ((try simp only [e97, z1, z2, z3, z4, z5]); done) | (exfalso; omega)))); rw [eT]; exact ⟨⟨_, _, _, _, _, _, _, (K95 _ 9 1 _ rfl q90), q94, (K95 _ 9 9 _ rfl (K91 _ 9 9 _ rfl q10)), (K95 _ 9 10 _ rfl (K91 _ 9 10 _ rfl q11)), (K95 _ 9 11 _ rfl (K91 _ 9 11 _ rfl q12)), (K95 _ 9 12 _ rfl (K91 _ 9 12 _ rfl q13)), (K95 _ 9 13 _ rfl (K91 _ 9 13 _ rfl q14)), h99, Im.o h100, Im.o h101⟩, (Or.inr ⟨by first | decide | omega, by omega⟩), (by obtain ⟨v9, q9⟩ := tm_atI I93 (I93.up h_o0) (k := 14) rfl; exact ⟨v9, q9, fun h => absurd h (by decide)⟩)⟩)⟩
    · refine mv_aload_n d_Reader_numeral_16 rfl rfl ?_
      refine mv_iconst (v := 1) d_Reader_numeral_17 (by decide) ?_
      obtain ⟨_, b102, -⟩ := I0.1 _ _ h_o0
      refine mv_callV (kc1 := 0) (ks1 := 0) (kc' := 0) (ks' := 0) (As := [.int 1]) (st9 := [.int 1, .ref o0]) d_Reader_numeral_18 lV_Reader_56 b102 rfl (mj_enter (by decide) (Nat.le_of_ble_eq_true rfl) ?_) rfl (Nat.le_of_ble_eq_true rfl) (Nat.le_of_ble_eq_true rfl) (Nat.le_of_ble_eq_true rfl) (hst := rfl) (fun _ _ _ h => h)
      refine mv_aload_n d_Reader_refuse_0 rfl rfl ?_
      refine mv_iload_n d_Reader_refuse_1 rfl rfl ?_
      refine tr_putK tm_okF I0 h_o0 (k := 1) rfl ⟨_, rfl⟩ (Or.inl (by decide)) d_Reader_refuse_2 p_Reader_70_9 rfl rfl (fun M103 I104 q105 K106 => ?_)
      refine mv_aload_n d_Reader_refuse_5 rfl rfl ?_
      refine mv_aload_n d_Reader_refuse_6 rfl rfl ?_
      refine tr_getK (k := 11) (K106 _ 9 11 _ rfl q12) d_Reader_refuse_7 f_Reader_175_9 ?_
      refine tr_putK tm_okF I104 h_o0 (k := 2) rfl ⟨_, rfl⟩ (Or.inl (by decide)) d_Reader_refuse_10 p_Reader_11_9 rfl rfl (fun M107 I108 q109 K110 => ?_)
      refine mv_iconst (v := 0) d_Reader_refuse_13 (by decide) ?_
      obtain ⟨s111, e112⟩ : ∃ s9 : p_S, p_fl pb pn 1 ps = s9 := ⟨_, rfl⟩
      have h113 := q_fl e112 (by omega) (by decide)
      have h114 : (1 : Int32).toInt = s111.1 := (by have e9 : (1 : Int32).toInt = 1 := (by decide); omega)
      have h115 : Im (s111.1 ≠ 0 → v5.toInt = (s111.2.1 : Int)) := Im.i (fun _ => by have := (Im.o h17) (by omega); omega)
      have h116 : Im (s111.1 = 0 → v3.toInt = (s111.2.2 : Int) ∧ v4.toInt = p_ki pb pn s111.2.2 ∧ v5.toInt = (p_st pb pn s111.2.2 : Int) ∧ v6.toInt = (p_sp pb pn s111.2.2 : Int) ∧ v7.toInt = p_va pb pn s111.2.2 ∧ v5.toInt = -1) := Im.i (fun z9 => absurd z9 h113.2.2)
      refine mv_iret d_Reader_refuse_14 rfl (by decide) ?_
      exact mv_iret d_Reader_numeral_21 rfl (by decide) ⟨_, I108, _, rfl, by decide, by decide, (by have := (Im.o h17) (by omega); have := yC.d ps.2.2; have := yC.kn ps.2.2; have hb : s111.1 ≠ 0 := (by omega); have z1 : ∀ c, p_sg pb pn c s111 = s111 := (fun c => p_sg_Z s111 hb); have z2 : ∀ c, p_wd pb pn c s111 = s111 := (fun c => p_wd_Z s111 hb); have z3 : ∀ op, p_sum pb pn pa op s111 = s111 := (fun op => p_sum_Z s111 hb); have z4 : ∀ r oc, p_con pb pn pa r oc s111 = s111 := (fun r oc => p_con_Z s111 hb); have z5 : p_prt pb pn s111 = s111 := p_prt_Z s111 hb; have eT : p_num pb pn x1.toInt x2.toInt ps = s111 := (by unfold p_num; (try simp only [e112, z1, z2, z3, z4, z5]); ((repeat' (first | (with_reducible rfl) | split)) <;> (first | ((try simp only [e112, z1, z2, z3, z4, z5]); done) | (exfalso; omega)))); rw [eT]; exact ⟨⟨_, _, _, _, _, _, _, (K110 _ 9 1 _ rfl q105), q109, (K110 _ 9 9 _ rfl (K106 _ 9 9 _ rfl q10)), (K110 _ 9 10 _ rfl (K106 _ 9 10 _ rfl q11)), (K110 _ 9 11 _ rfl (K106 _ 9 11 _ rfl q12)), (K110 _ 9 12 _ rfl (K106 _ 9 12 _ rfl q13)), (K110 _ 9 13 _ rfl (K106 _ 9 13 _ rfl q14)), h114, Im.o h115, Im.o h116⟩, (Or.inr ⟨by first | decide | omega, by omega⟩), (by obtain ⟨v9, q9⟩ := tm_atI I108 (I108.up h_o0) (k := 14) rfl; exact ⟨v9, q9, fun h => absurd h (by decide)⟩)⟩)⟩
