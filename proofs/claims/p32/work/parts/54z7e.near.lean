def w_Reader_endText_n1_q4_x : List Nat := [901, 902, 909, 910, 911, 912, 913, 914, 916, 918, 967]
set_option maxHeartbeats 100000000 in theorem tc_Reader_endText_n1_q4_x {g : mj_G} {l : Launch} {d : Nat} {T0 : tm_H} {M0 : mj_M} {n0 x9 : Nat} {o0 : Nat} (h_o0 : T0 o0 = some (0, 9, 0)) {p : Int32} (hO : tm_at M0 o0 9 16 (.int p)) (hp : 0 ≤ p.toInt) (hp2 : p.toInt ≤ 0) {pb : Nat → Int} {pn : Nat} {pa : Int} {ps : p_S} (yC : qC M0 o0 pb pn pa) (yD : qS M0 o0 pb pn ps) (yw : ps.1 = 0) (yz : p_ki pb pn ps.2.2 ≠ 0) (I0 : tm_I tm_FT (tm_in w_Reader_endText_n1_q4_x) x9 T0 M0 n0 T0 M0 n0) : mj_Met g l kY_Reader_endText (d + 20) [.ref o0, .null] M0 n0 5 807 (tm_Q tm_FT (tm_in w_Reader_endText_n1_q4_x) x9 T0 M0 n0 (fun r T M => (r = some .null ∧ qS M o0 pb pn (p_en1 pb pn pa [] (p_nx ps)) ∧ (p_en1 pb pn pa [] (p_nx ps)).1 ≠ 0) ∨ ∃ b, r = some (.ref b) ∧ T b = some (0, 4, 0) ∧ tm_at M o0 9 16 (.int p) ∧ qS M o0 pb pn (p_en1 pb pn pa [] (p_nx ps)) ∧ (p_en1 pb pn pa [] (p_nx ps)).1 = 0 ∧ p_ki pb pn (ps.2.2 + 1) = 1 ∧ ∃ nv : Int64, tm_at M b 4 0 (.long nv) ∧ nv.toInt = p_wn pb (p_sp pb pn (ps.2.2 + 1) - p_st pb pn (ps.2.2 + 1)) (p_st pb pn (ps.2.2 + 1)) 0)) := by
  refine mj_enter (by decide) (Nat.le_of_ble_eq_true rfl) ?_
  have hK : ∀ {T : tm_H} {M : mj_M} {n : Nat}, tm_I tm_FT (tm_in w_Reader_endText_n1_q4_x) x9 T0 M0 n0 T M n → qC M o0 pb pn pa := fun I => yC.keep I0.1 I h_o0 (qW_of (by decide +kernel))
  obtain ⟨v1, v2, v3, v4, v5, v6, v7, q8, q9, q10, q11, q12, q13, q14, h15, h16, h17⟩ := yD
  replace h16 := Im.i h16
  replace h17 := Im.i h17
  have := yC.kn ps.2.2
  refine mv_aload_n d_Reader_endText_0 rfl rfl ?_
  obtain ⟨_, b24, -⟩ := I0.1 _ _ h_o0
  refine mv_callV (kc' := 5) (ks' := 807) (As := []) (st9 := [.ref o0]) d_Reader_endText_1 lV_Reader_82 b24 rfl (tc_Reader_advance_x (d := (d + 19)) (x9 := x9) (o0 := o0) h_o0 (hK I0) (qS.a (show qS M0 o0 pb pn ps from ⟨_, _, _, _, _, _, _, q8, q9, q10, q11, q12, q13, q14, h15, Im.o h16, Im.o h17⟩)) (by show ps.2.2 + 1 ≤ 401; omega) I0.start) rfl (Nat.le_of_ble_eq_true rfl) (Nat.le_of_ble_eq_true rfl) (Nat.le_of_ble_eq_true rfl) (hst := rfl) (fun b18r M19 n20 b18 => ?_)
  obtain ⟨T21, J22, rfl, f25⟩ := b18
  have I23 := I0.call J22 (tm_sub (by decide)) (Or.inl rfl)
  have t26 := J22.up h_o0
  have q27 := J22.keep h_o0 (by decide) hO
  have q28 := J22.keep h_o0 (by decide) q8
  have q29 := J22.keep h_o0 (by decide) q9
  obtain ⟨s30, e31⟩ : ∃ s9 : p_S, p_nx ps = s9 := ⟨_, rfl⟩
  rw [e31] at f25
  have : s30.1 = 0 := by rw [← e31]; show ps.1 = 0; omega
  obtain ⟨v32, v33, v34, v35, v36, v37, v38, q39, q40, q41, q42, q43, q44, q45, h46, h47, h48⟩ := f25
  replace h47 := Im.i h47
  replace h48 := Im.i h48
  have hz1 : ps.2.2 + 1 = s30.2.2 := by rw [← e31]; rfl
  have := (Im.o h48) (by omega)
  have := yC.1.2.1
  have := p_tp_le (b := pb) (n := pn) (s30.2.2 + 1)
  have : p_sp pb pn s30.2.2 = p_tp pb pn (s30.2.2 + 1) := rfl
  have := p_st_le (b := pb) (n := pn) (k := s30.2.2)
  refine mv_aload_n d_Reader_endText_4 rfl rfl ?_
  refine tr_getK (k := 12) q44 d_Reader_endText_5 f_Reader_172_9 ?_
  refine mv_aload_n d_Reader_endText_8 rfl rfl ?_
  refine tr_getK (k := 11) q43 d_Reader_endText_9 f_Reader_175_9 ?_
  refine mv_isub d_Reader_endText_12 ?_
  refine mv_istore_n (lv' := [(2, .int (v37 - v36)), (0, .ref o0), (1, .null)]) d_Reader_endText_13 rfl (by decide) rfl ?_
  refine mv_aload_n d_Reader_endText_14 rfl rfl ?_
  refine tr_getK (k := 10) q42 d_Reader_endText_15 f_Reader_41_9 ?_
  refine mv_iconst (v := 1) d_Reader_endText_18 (by decide) ?_
  have := mz_hi v35
  refine mv_icmp_neZ (tgt := 28) (a := v35.toInt) (b := 1) d_Reader_endText_19 (by decide) rfl (by decide) (fun b49 => ?_) (fun b49 => ?_)
  · refine mv_aload_n d_Reader_endText_28 rfl rfl ?_
    refine mv_iconst (v := 1) d_Reader_endText_29 (by decide) ?_
    obtain ⟨_, b50, -⟩ := I23.1 _ _ t26
    refine mv_callV (kc1 := 0) (ks1 := 0) (kc' := 0) (ks' := 0) (As := [.int 1]) (st9 := [.int 1, .ref o0]) d_Reader_endText_30 lV_Reader_56 b50 rfl (mj_enter (by decide) (Nat.le_of_ble_eq_true rfl) ?_) rfl (Nat.le_of_ble_eq_true rfl) (Nat.le_of_ble_eq_true rfl) (Nat.le_of_ble_eq_true rfl) (hst := rfl) (fun _ _ _ h => h)
    refine mv_aload_n d_Reader_refuse_0 rfl rfl ?_
    refine mv_iload_n d_Reader_refuse_1 rfl rfl ?_
    refine tr_putK tm_okF I23 t26 (k := 1) rfl ⟨_, rfl⟩ (Or.inl (by decide)) d_Reader_refuse_2 p_Reader_70_9 rfl rfl (fun M51 I52 q53 K54 => ?_)
    refine mv_aload_n d_Reader_refuse_5 rfl rfl ?_
    refine mv_aload_n d_Reader_refuse_6 rfl rfl ?_
    refine tr_getK (k := 11) (K54 _ 9 11 _ rfl q43) d_Reader_refuse_7 f_Reader_175_9 ?_
    refine tr_putK tm_okF I52 t26 (k := 2) rfl ⟨_, rfl⟩ (Or.inl (by decide)) d_Reader_refuse_10 p_Reader_11_9 rfl rfl (fun M55 I56 q57 K58 => ?_)
    refine mv_iconst (v := 0) d_Reader_refuse_13 (by decide) ?_
    obtain ⟨s59, e60⟩ : ∃ s9 : p_S, p_fl pb pn 1 s30 = s9 := ⟨_, rfl⟩
    have h61 := q_fl e60 (by omega) (by decide)
    have h62 : (1 : Int32).toInt = s59.1 := (by have e9 : (1 : Int32).toInt = 1 := (by decide); omega)
    have h63 : Im (s59.1 ≠ 0 → v36.toInt = (s59.2.1 : Int)) := Im.i (fun _ => by have := (Im.o h48) (by omega); omega)
    have h64 : Im (s59.1 = 0 → v34.toInt = (s59.2.2 : Int) ∧ v35.toInt = p_ki pb pn s59.2.2 ∧ v36.toInt = (p_st pb pn s59.2.2 : Int) ∧ v37.toInt = (p_sp pb pn s59.2.2 : Int) ∧ v38.toInt = p_va pb pn s59.2.2 ∧ v36.toInt = -1) := Im.i (fun z9 => absurd z9 h61.2.2)
    refine mv_iret d_Reader_refuse_14 rfl (by decide) ?_
    refine mv_pop d_Reader_endText_33 rfl ?_
    refine mv_null d_Reader_endText_34 ?_
    exact mv_aret (r := none) d_Reader_endText_35 rfl (by first | exact Or.inl ⟨_, rfl⟩ | exact Or.inr ⟨_, rfl⟩) ⟨_, I56, Or.inl ⟨rfl, (by have := (Im.o h48) (by omega); have := yC.d s30.2.2; have := yC.kn s30.2.2; have hb : s59.1 ≠ 0 := (by omega); have z1 : ∀ c, p_sg pb pn c s59 = s59 := (fun c => p_sg_Z s59 hb); have z2 : ∀ c, p_wd pb pn c s59 = s59 := (fun c => p_wd_Z s59 hb); have z3 : ∀ op, p_sum pb pn pa op s59 = s59 := (fun op => p_sum_Z s59 hb); have z4 : ∀ r oc, p_con pb pn pa r oc s59 = s59 := (fun r oc => p_con_Z s59 hb); have z5 : p_prt pb pn s59 = s59 := p_prt_Z s59 hb; have eT : p_en1 pb pn pa [] (p_nx ps) = s59 := (by have hN : ∀ s9 e9 : Nat, p_hs pb [] s9 e9 = 0 := (fun _ _ => rfl); unfold p_en1; unfold p_prt; (try simp only [hN]); (try simp only [e31, e60, z1, z2, z3, z4, z5]); ((repeat' (first | (with_reducible rfl) | split)) <;> (first | ((try simp only [e31, e60, z1, z2, z3, z4, z5]); done) | (exfalso; omega)))); rw [eT]; exact ⟨⟨_, _, _, _, _, _, _, (K58 _ 9 1 _ rfl q53), q57, (K58 _ 9 9 _ rfl (K54 _ 9 9 _ rfl q41)), (K58 _ 9 10 _ rfl (K54 _ 9 10 _ rfl q42)), (K58 _ 9 11 _ rfl (K54 _ 9 11 _ rfl q43)), (K58 _ 9 12 _ rfl (K54 _ 9 12 _ rfl q44)), (K58 _ 9 13 _ rfl (K54 _ 9 13 _ rfl q45)), h62, Im.o h63, Im.o h64⟩, by omega⟩)⟩⟩
  · refine mv_iload_n d_Reader_endText_22 rfl rfl ?_
    refine mv_bipush (v := 8) d_Reader_endText_23 (by decide) ?_
    have : ((v37 - v36) : Int32).toInt = v37.toInt - v36.toInt := mz_sub2 rfl rfl (by omega) (by omega)
    have := mz_hi (v37 - v36)
    refine mv_icmp_leZ (tgt := 36) (a := (v37 - v36).toInt) (b := 8) d_Reader_endText_25 (by decide) rfl (by decide) (fun b65 => ?_) (fun b65 => ?_)
    · refine mv_aload_n d_Reader_endText_36 rfl rfl ?_
      obtain ⟨_, b72, -⟩ := I23.1 _ _ t26
      refine mv_callV (kc' := 5) (ks' := 807) (As := []) (st9 := [.ref o0]) d_Reader_endText_37 lV_Reader_178 b72 rfl (tc_Reader_wordAsNumber_x (d := (d + 19)) (x9 := x9) (o0 := o0) t26 (ps := s30) (hK I23) ⟨_, _, _, _, _, _, _, q39, q40, q41, q42, q43, q44, q45, h46, Im.o h47, Im.o h48⟩ (by omega) (by have := (Im.o h48) (by omega); have := yC.d s30.2.2; have := yC.kn s30.2.2; omega) (by have := (Im.o h48) (by omega); have := yC.d s30.2.2; have := yC.kn s30.2.2; omega) I23.start) rfl (Nat.le_of_ble_eq_true rfl) (Nat.le_of_ble_eq_true rfl) (Nat.le_of_ble_eq_true rfl) (hst := rfl) (fun b66r M67 n68 b66 => ?_)
      obtain ⟨T69, J70, v73, rfl, f74⟩ := b66
      have I71 := I23.call J70 (tm_sub (by decide)) (Or.inl rfl)
      have t75 := J70.up t26
      have q76 := J70.keep t26 (by decide) q27
      have q77 := J70.keep (I23.up h_o0) (by decide) q39
      have q78 := J70.keep (I23.up h_o0) (by decide) q40
      have q79 := J70.keep (I23.up h_o0) (by decide) q41
      have q80 := J70.keep (I23.up h_o0) (by decide) q42
      have q81 := J70.keep (I23.up h_o0) (by decide) q43
      have q82 := J70.keep (I23.up h_o0) (by decide) q44
      have q83 := J70.keep (I23.up h_o0) (by decide) q45
      refine mv_lstore_n (lv' := [(3, .long v73), (2, .int (v37 - v36)), (0, .ref o0), (1, .null)]) d_Reader_endText_40 rfl (by decide) rfl ?_
      refine mv_aload_nN d_Reader_endText_41 rfl rfl ?_
      refine mv_ifnullN (tgt := 61) d_Reader_endText_42 (by decide) ?_
      refine mv_aload_n d_Reader_endText_61 rfl rfl ?_
      obtain ⟨_, b90, -⟩ := I71.1 _ _ t75
      refine mv_callV (kc' := 5) (ks' := 807) (As := []) (st9 := [.ref o0]) d_Reader_endText_62 lV_Reader_82 b90 rfl (tc_Reader_advance_x (d := (d + 19)) (x9 := x9) (o0 := o0) t75 (hK I71) (qS.a (show qS M67 o0 pb pn s30 from ⟨_, _, _, _, _, _, _, q77, q78, q79, q80, q81, q82, q83, h46, Im.o h47, Im.o h48⟩)) (by have := (Im.o h48) (by omega); have := yC.d s30.2.2; have := yC.kn s30.2.2; show s30.2.2 + 1 ≤ 401; omega) I71.start) rfl (Nat.le_of_ble_eq_true rfl) (Nat.le_of_ble_eq_true rfl) (Nat.le_of_ble_eq_true rfl) (hst := rfl) (fun b84r M85 n86 b84 => ?_)
      obtain ⟨T87, J88, rfl, f91⟩ := b84
      have I89 := I71.call J88 (tm_sub (by decide)) (Or.inl rfl)
      have t92 := J88.up t75
      have q93 := J88.keep t75 (by decide) q76
      have q94 := J88.keep t75 (by decide) q77
      have q95 := J88.keep t75 (by decide) q78
      obtain ⟨s96, e97⟩ : ∃ s9 : p_S, p_nx s30 = s9 := ⟨_, rfl⟩
      rw [e97] at f91
      have : s96.1 = 0 := by rw [← e97]; show s30.1 = 0; omega
      obtain ⟨v98, v99, v100, v101, v102, v103, v104, q105, q106, q107, q108, q109, q110, q111, h112, h113, h114⟩ := f91
      replace h113 := Im.i h113
      replace h114 := Im.i h114
      refine mv_aload_n d_Reader_endText_65 rfl rfl ?_
      refine mv_iconst (v := 0) d_Reader_endText_66 (by decide) ?_
      refine tr_putK tm_okF I89 t92 (k := 18) rfl ⟨_, rfl⟩ (Or.inl (by decide)) d_Reader_endText_67 p_Reader_118_9 rfl rfl (fun M115 I116 q117 K118 => ?_)
      refine mv_aload_n d_Reader_endText_70 rfl rfl ?_
      refine mv_bipush (v := 27) d_Reader_endText_71 (by decide) ?_
      obtain ⟨_, b125, -⟩ := I116.1 _ _ t92
      refine mv_callV (kc' := 5) (ks' := 807) (As := [.int 27]) (st9 := [.int 27, .ref o0]) d_Reader_endText_73 lV_Reader_121 b125 rfl (tc_Reader_word_x (d := (d + 18)) (x9 := x9) (o0 := o0) (x1 := 27) t92 (hK I116) ⟨_, _, _, _, _, _, _, (K118 _ 9 1 _ rfl q105), (K118 _ 9 2 _ rfl q106), (K118 _ 9 9 _ rfl q107), (K118 _ 9 10 _ rfl q108), (K118 _ 9 11 _ rfl q109), (K118 _ 9 12 _ rfl q110), (K118 _ 9 13 _ rfl q111), h112, Im.o h113, Im.o h114⟩ (by omega) (by first | omega | decide) I116.start) rfl (Nat.le_of_ble_eq_true rfl) (Nat.le_of_ble_eq_true rfl) (Nat.le_of_ble_eq_true rfl) (hst := rfl) (fun b119r M120 n121 b119 => ?_)
      obtain ⟨T122, J123, v126, rfl, b127, b128, f129, f130⟩ := b119
      have I124 := I116.call J123 (tm_sub (by decide)) (Or.inl rfl)
      have t131 := J123.up t92
      have q132 := J123.keep t92 (by decide) (K118 _ 9 16 _ rfl q93)
      have q133 := J123.keep t92 (by decide) q117
      rw [show (27 : Int32).toInt = 27 from by decide] at f129 f130
      obtain ⟨s134, e135⟩ : ∃ s9 : p_S, p_wd pb pn 27 s96 = s9 := ⟨_, rfl⟩
      rw [e135] at f129 f130
      obtain ⟨v136, v137, v138, v139, v140, v141, v142, q143, q144, q145, q146, q147, q148, q149, h150, h151, h152⟩ := f129
      replace h151 := Im.i h151
      replace h152 := Im.i h152
      have := mz_hi v126
      refine mv_if_eqZ (tgt := 86) (a := v126.toInt) d_Reader_endText_76 (by decide) rfl (fun b153 => ?_) (fun b153 => ?_)
      · refine mv_null d_Reader_endText_86 ?_
        exact mv_aret (r := none) d_Reader_endText_87 rfl (by first | exact Or.inl ⟨_, rfl⟩ | exact Or.inr ⟨_, rfl⟩) ⟨_, I124, Or.inl ⟨rfl, (by have := (Im.o h48) (by omega); have := yC.d s30.2.2; have := yC.kn s30.2.2; have hb : s134.1 ≠ 0 := (by omega); have z1 : ∀ c, p_sg pb pn c s134 = s134 := (fun c => p_sg_Z s134 hb); have z2 : ∀ c, p_wd pb pn c s134 = s134 := (fun c => p_wd_Z s134 hb); have z3 : ∀ op, p_sum pb pn pa op s134 = s134 := (fun op => p_sum_Z s134 hb); have z4 : ∀ r oc, p_con pb pn pa r oc s134 = s134 := (fun r oc => p_con_Z s134 hb); have z5 : p_prt pb pn s134 = s134 := p_prt_Z s134 hb; have eT : p_en1 pb pn pa [] (p_nx ps) = s134 := (by have hN : ∀ s9 e9 : Nat, p_hs pb [] s9 e9 = 0 := (fun _ _ => rfl); unfold p_en1; unfold p_prt; (try simp only [hN]); (try simp only [e31, e97, e135, z1, z2, z3, z4, z5]); ((repeat' (first | (with_reducible rfl) | split)) <;> (first | ((try simp only [e31, e97, e135, z1, z2, z3, z4, z5]); done) | (exfalso; omega)))); rw [eT]; exact ⟨⟨_, _, _, _, _, _, _, q143, q144, q145, q146, q147, q148, q149, h150, Im.o h151, Im.o h152⟩, by omega⟩)⟩⟩
      · refine mv_aload_n d_Reader_endText_79 rfl rfl ?_
        obtain ⟨_, b160, -⟩ := I124.1 _ _ t131
        refine mv_callV (kc' := 5) (ks' := 807) (As := []) (st9 := [.ref o0]) d_Reader_endText_80 lV_Reader_186 b160 rfl (tc_Reader_sum_q4_x (d := (d + 3)) (x9 := x9) (o0 := o0) t131 (p := p) q132 (by omega) (by first | omega | decide) (hK I124) ⟨_, _, _, _, _, _, _, q143, q144, q145, q146, q147, q148, q149, h150, Im.o h151, Im.o h152⟩ (by omega) I124.start) rfl (Nat.le_of_ble_eq_true rfl) (Nat.le_of_ble_eq_true rfl) (Nat.le_of_ble_eq_true rfl) (hst := rfl) (fun b154r M155 n156 b154 => ?_)
        obtain ⟨T157, J158, v161, rfl, b162, b163, o164, f165, f166⟩ := b154
        have I159 := I124.call J158 (tm_sub (by decide)) (Or.inl rfl)
        have t167 := J158.up t131
        obtain ⟨s168, e169⟩ : ∃ s9 : p_S, p_sum pb pn pa (p_op pb pn pa 4) s134 = s9 := ⟨_, rfl⟩
        rw [e169] at f165 f166
        obtain ⟨v170, v171, v172, v173, v174, v175, v176, q177, q178, q179, q180, q181, q182, q183, h184, h185, h186⟩ := f165
        replace h185 := Im.i h185
        replace h186 := Im.i h186
        have := mz_hi v161
        refine mv_if_neZ (tgt := 88) (a := v161.toInt) d_Reader_endText_83 (by decide) rfl (fun b187 => ?_) (fun b187 => ?_)
        · have q188 := o164 (by omega)
          refine mv_aload_n d_Reader_endText_88 rfl rfl ?_
          obtain ⟨_, b195, -⟩ := I159.1 _ _ t167
          refine mv_callV (kc' := 3) (ks' := 406) (As := []) (st9 := [.ref o0]) d_Reader_endText_89 lV_Reader_128 b195 rfl (tc_Reader_stepsTaken (d := (d + 17)) (x9 := x9) (o0 := o0) t167 I159.start) rfl (Nat.le_of_ble_eq_true rfl) (Nat.le_of_ble_eq_true rfl) (Nat.le_of_ble_eq_true rfl) (hst := rfl) (fun b189r M190 n191 b189 => ?_)
          obtain ⟨T192, J193, a196, rfl, t_a196⟩ := b189
          have I194 := I159.call J193 (tm_sub (by decide)) (Or.inl rfl)
          have t197 := J193.up t167
          have q198 := J193.keep (I159.up h_o0) (by decide) q177
          have q199 := J193.keep (I159.up h_o0) (by decide) q178
          have q200 := J193.keep (I159.up h_o0) (by decide) q179
          have q201 := J193.keep (I159.up h_o0) (by decide) q180
          have q202 := J193.keep (I159.up h_o0) (by decide) q181
          have q203 := J193.keep (I159.up h_o0) (by decide) q182
          have q204 := J193.keep (I159.up h_o0) (by decide) q183
          have q205 := J193.keep t167 (by decide) q188
          refine mv_astore (lv' := [(5, .ref a196), (3, .long v73), (2, .int (v37 - v36)), (0, .ref o0), (1, .null)]) d_Reader_endText_92 (by decide) rfl ?_
          refine mv_aload_n d_Reader_endText_94 rfl rfl ?_
          refine mv_iconst (v := 0) d_Reader_endText_95 (by decide) ?_
          refine tr_putK tm_okF I194 t197 (k := 18) rfl ⟨_, rfl⟩ (Or.inl (by decide)) d_Reader_endText_96 p_Reader_118_9 rfl rfl (fun M206 I207 q208 K209 => ?_)
          refine mv_aload_n d_Reader_endText_99 rfl rfl ?_
          refine mv_bipush (v := 28) d_Reader_endText_100 (by decide) ?_
          obtain ⟨_, b216, -⟩ := I207.1 _ _ t197
          refine mv_callV (kc' := 3) (ks' := 406) (As := [.int 28]) (st9 := [.int 28, .ref o0]) d_Reader_endText_102 lV_Reader_121 b216 rfl (tc_Reader_word_x (d := (d + 18)) (x9 := x9) (o0 := o0) (x1 := 28) t197 (hK I207) ⟨_, _, _, _, _, _, _, (K209 _ 9 1 _ rfl q198), (K209 _ 9 2 _ rfl q199), (K209 _ 9 9 _ rfl q200), (K209 _ 9 10 _ rfl q201), (K209 _ 9 11 _ rfl q202), (K209 _ 9 12 _ rfl q203), (K209 _ 9 13 _ rfl q204), h184, Im.o h185, Im.o h186⟩ (by omega) (by first | omega | decide) I207.start) rfl (Nat.le_of_ble_eq_true rfl) (Nat.le_of_ble_eq_true rfl) (Nat.le_of_ble_eq_true rfl) (hst := rfl) (fun b210r M211 n212 b210 => ?_)
          obtain ⟨T213, J214, v217, rfl, b218, b219, f220, f221⟩ := b210
          have I215 := I207.call J214 (tm_sub (by decide)) (Or.inl rfl)
          have t222 := J214.up t_a196
          have t223 := J214.up t197
          have q224 := J214.keep t197 (by decide) (K209 _ 9 16 _ rfl q205)
          have q225 := J214.keep t197 (by decide) q208
          rw [show (28 : Int32).toInt = 28 from by decide] at f220 f221
          obtain ⟨s226, e227⟩ : ∃ s9 : p_S, p_wd pb pn 28 s168 = s9 := ⟨_, rfl⟩
          rw [e227] at f220 f221
          obtain ⟨v228, v229, v230, v231, v232, v233, v234, q235, q236, q237, q238, q239, q240, q241, h242, h243, h244⟩ := f220
          replace h243 := Im.i h243
          replace h244 := Im.i h244
          have := mz_hi v217
          refine mv_if_eqZ (tgt := 115) (a := v217.toInt) d_Reader_endText_105 (by decide) rfl (fun b245 => ?_) (fun b245 => ?_)
          · refine mv_null d_Reader_endText_115 ?_
            exact mv_aret (r := none) d_Reader_endText_116 rfl (by first | exact Or.inl ⟨_, rfl⟩ | exact Or.inr ⟨_, rfl⟩) ⟨_, I215, Or.inl ⟨rfl, (by have := (Im.o h48) (by omega); have := yC.d s30.2.2; have := yC.kn s30.2.2; have hb : s226.1 ≠ 0 := (by omega); have z1 : ∀ c, p_sg pb pn c s226 = s226 := (fun c => p_sg_Z s226 hb); have z2 : ∀ c, p_wd pb pn c s226 = s226 := (fun c => p_wd_Z s226 hb); have z3 : ∀ op, p_sum pb pn pa op s226 = s226 := (fun op => p_sum_Z s226 hb); have z4 : ∀ r oc, p_con pb pn pa r oc s226 = s226 := (fun r oc => p_con_Z s226 hb); have z5 : p_prt pb pn s226 = s226 := p_prt_Z s226 hb; have eT : p_en1 pb pn pa [] (p_nx ps) = s226 := (by have hN : ∀ s9 e9 : Nat, p_hs pb [] s9 e9 = 0 := (fun _ _ => rfl); unfold p_en1; unfold p_prt; (try simp only [hN]); (try simp only [e31, e97, e135, e169, e227, z1, z2, z3, z4, z5]); ((repeat' (first | (with_reducible rfl) | split)) <;> (first | ((try simp only [e31, e97, e135, e169, e227, z1, z2, z3, z4, z5]); done) | (exfalso; omega)))); rw [eT]; exact ⟨⟨_, _, _, _, _, _, _, q235, q236, q237, q238, q239, q240, q241, h242, Im.o h243, Im.o h244⟩, by omega⟩)⟩⟩
          · refine mv_aload_n d_Reader_endText_108 rfl rfl ?_
            obtain ⟨_, b252, -⟩ := I215.1 _ _ t223
            refine mv_callV (kc' := 3) (ks' := 406) (As := []) (st9 := [.ref o0]) d_Reader_endText_109 lV_Reader_124 b252 rfl (tc_Reader_condition_q4_x (d := d) (x9 := x9) (o0 := o0) t223 (p := p) q224 (by omega) (by first | omega | decide) (hK I215) ⟨_, _, _, _, _, _, _, q235, q236, q237, q238, q239, q240, q241, h242, Im.o h243, Im.o h244⟩ (by omega) I215.start) rfl (Nat.le_of_ble_eq_true rfl) (Nat.le_of_ble_eq_true rfl) (Nat.le_of_ble_eq_true rfl) (hst := rfl) (fun b246r M247 n248 b246 => ?_)
            obtain ⟨T249, J250, v253, rfl, b254, b255, o256, f257, f258⟩ := b246
            have I251 := I215.call J250 (tm_sub (by decide)) (Or.inl rfl)
            have t259 := J250.up t222
            have t260 := J250.up t223
            obtain ⟨s261, e262⟩ : ∃ s9 : p_S, p_con pb pn pa 4 (p_oc pb pn pa 4) s226 = s9 := ⟨_, rfl⟩
            rw [e262] at f257 f258
            obtain ⟨v263, v264, v265, v266, v267, v268, v269, q270, q271, q272, q273, q274, q275, q276, h277, h278, h279⟩ := f257
            replace h278 := Im.i h278
            replace h279 := Im.i h279
            have := mz_hi v253
            refine mv_if_neZ (tgt := 117) (a := v253.toInt) d_Reader_endText_112 (by decide) rfl (fun b280 => ?_) (fun b280 => ?_)
            · have q281 := o256 (by omega)
              refine mv_aload_n d_Reader_endText_117 rfl rfl ?_
              refine mv_bipush (v := 29) d_Reader_endText_118 (by decide) ?_
              obtain ⟨_, b282, -⟩ := I251.1 _ _ t260
              refine mv_callV (kc1 := 0) (ks1 := 0) (kc' := 3) (ks' := 406) (As := [.int 29]) (st9 := [.int 29, .ref o0]) d_Reader_endText_120 lV_Reader_52 b282 rfl (mj_enter (by decide) (Nat.le_of_ble_eq_true rfl) ?_) rfl (Nat.le_of_ble_eq_true rfl) (Nat.le_of_ble_eq_true rfl) (Nat.le_of_ble_eq_true rfl) (hst := rfl) (fun _ _ _ h => h)
              refine mv_aload_n d_Reader_isWord_0 rfl rfl ?_
              refine tr_getK (k := 10) q273 d_Reader_isWord_1 f_Reader_41_9 ?_
              refine mv_iconst (v := 1) d_Reader_isWord_4 (by decide) ?_
              have := mz_hi v266
              refine mv_icmp_neZ (tgt := 20) (a := v266.toInt) (b := 1) d_Reader_isWord_5 (by decide) rfl (by decide) (fun b283 => ?_) (fun b283 => ?_)
              · refine mv_iconst (v := 0) d_Reader_isWord_20 (by decide) ?_
                refine mv_iret d_Reader_isWord_21 rfl (by decide) ?_
                refine mv_istore (lv' := [(6, .int 0), (5, .ref a196), (3, .long v73), (2, .int (v37 - v36)), (0, .ref o0), (1, .null)]) d_Reader_endText_123 (by decide) rfl ?_
                refine mv_iload d_Reader_endText_125 rfl ?_
                refine mv_if_eq_t (tgt := 134) d_Reader_endText_127 (by decide) (by decide) ?_
                refine tr_new (kc' := 2) (ks' := 401) tm_okF I251 d_Reader_endText_134 n_Reader_189 (Nat.le_of_ble_eq_true rfl) (Nat.le_of_ble_eq_true rfl) (fun T284 M285 I286 t_x287 m288 h289 u290 K291 => ?_)
                have q292 := tm_at.eq (K291 _ _ (I251.up h_o0)) q270
                have t293 := u290 _ _ (I251.up h_o0)
                have q294 := tm_at.eq (K291 _ _ (I251.up h_o0)) q271
                have q295 := tm_at.eq (K291 _ _ (I251.up h_o0)) q272
                have q296 := tm_at.eq (K291 _ _ (I251.up h_o0)) q273
                have q297 := tm_at.eq (K291 _ _ (I251.up h_o0)) q274
                have q298 := tm_at.eq (K291 _ _ (I251.up h_o0)) q275
                have q299 := tm_at.eq (K291 _ _ (I251.up h_o0)) q276
                have q300 := tm_at.eq (K291 _ _ t260) q281
                have t301 := u290 _ _ t259
                refine mv_dup d_Reader_endText_137 rfl ?_
                refine mv_lload_n d_Reader_endText_138 rfl rfl ?_
                refine mv_iload_n d_Reader_endText_139 rfl rfl ?_
                refine mv_aload d_Reader_endText_140 rfl ?_
                refine mv_aload_n d_Reader_endText_142 rfl rfl ?_
                obtain ⟨_, b308, -⟩ := I286.1 _ _ t293
                refine mv_callV (kc' := 0) (ks' := 0) (As := []) (st9 := [.ref o0, .ref a196, .int (v37 - v36), .long v73, .ref n248, .ref n248]) d_Reader_endText_143 lV_Reader_128 b308 rfl (tc_Reader_stepsTaken (d := (d + 17)) (x9 := (n248 + 1)) (o0 := o0) t293 I286.start) rfl (Nat.le_of_ble_eq_true rfl) (Nat.le_of_ble_eq_true rfl) (Nat.le_of_ble_eq_true rfl) (hst := rfl) (fun b302r M303 n304 b302 => ?_)
                obtain ⟨T305, J306, a309, rfl, t_a309⟩ := b302
                have I307 := I286.call J306 (tm_sub (by decide)) (Or.inr I286.2.2.2.1)
                have m310 := (J306.keepX t_x287 (tm_ne I286 t_x287)).trans m288
                have t311 := J306.up t_x287
                have t312 := J306.up t301
                have t313 := J306.up t293
                have q314 := J306.keep t293 (by decide) q292
                have q315 := J306.keep t293 (by decide) q294
                have q316 := J306.keep t293 (by decide) q295
                have q317 := J306.keep t293 (by decide) q296
                have q318 := J306.keep t293 (by decide) q297
                have q319 := J306.keep t293 (by decide) q298
                have q320 := J306.keep t293 (by decide) q299
                have q321 := J306.keep t293 (by decide) q300
                refine mv_iload d_Reader_endText_146 rfl ?_
                refine mv_callI (kc' := 0) (ks' := 0) (As := [.long v73, .int (v37 - v36), .ref a196, .ref a309, .int 0]) (st9 := [.int 0, .ref a309, .ref a196, .int (v37 - v36), .long v73, .ref n248, .ref n248]) d_Reader_endText_148 lI_Reader_191 (tc_EndText_init (d := (d + 18)) (o0 := n248) (x1 := v73) (x2 := (v37 - v36)) (o3 := a196) (o4 := a309) (x5 := 0) t311 t312 t_a309 (by decide) m310 I307.start) rfl (Nat.le_of_ble_eq_true rfl) (Nat.le_of_ble_eq_true rfl) (Nat.le_of_ble_eq_true rfl) (hst := rfl) (fun b322r M323 n324 b322 => ?_)
                obtain ⟨T325, J326, rfl, m328⟩ := b322
                have I327 := I307.call J326 (tm_sub (by decide)) (Or.inr h289)
                have t329 := J326.up t311
                have t330 := J326.up t312
                have t331 := J326.up t313
                have t332 := J326.up t_a309
                have q333 := J326.keep t313 (by decide) q314
                have q334 := J326.keep t313 (by decide) q315
                have q335 := J326.keep t313 (by decide) q316
                have q336 := J326.keep t313 (by decide) q317
                have q337 := J326.keep t313 (by decide) q318
                have q338 := J326.keep t313 (by decide) q319
                have q339 := J326.keep t313 (by decide) q320
                have q340 := J326.keep t313 (by decide) q321
                obtain ⟨T341, I342, t_x343, u344⟩ := I327.sealO tm_okF t329 h289 m328 (fun _ z9 => (tm_fs_cons ⟨_, rfl⟩ (tm_fs_cons ⟨_, rfl⟩ (tm_fs_cons ⟨_, rfl, z9 _ _ t330 (Nat.le_of_ble_eq_true rfl)⟩ (tm_fs_cons ⟨_, rfl, z9 _ _ t332 (Nat.le_of_ble_eq_true rfl)⟩ (tm_fs_cons ⟨_, rfl⟩ tm_fs_nil))))))
                have t345 := u344 _ _ t331 (tm_dif t331 t329 rfl)
                have q346 : tm_at M323 n248 4 0 (.long v73) := ⟨_, m328, rfl⟩
                have q347 : tm_at M323 n248 4 1 (.int (v37 - v36)) := ⟨_, m328, rfl⟩
                have q348 : tm_at M323 n248 4 2 (.ref a196) := ⟨_, m328, rfl⟩
                have t349 := u344 _ _ t330 (tm_dif t330 t329 rfl)
                have q350 : tm_at M323 n248 4 3 (.ref a309) := ⟨_, m328, rfl⟩
                have t351 := u344 _ _ t332 (tm_dif t332 t329 rfl)
                have q352 : tm_at M323 n248 4 4 (.int 0) := ⟨_, m328, rfl⟩
                exact mv_aret (r := (some n248)) d_Reader_endText_151 rfl (by first | exact Or.inl ⟨_, rfl⟩ | exact Or.inr ⟨_, rfl⟩) ⟨_, I342, Or.inr ⟨_, rfl, t_x343, q340, (by have := (Im.o h48) (by omega); have := yC.d s30.2.2; have := yC.kn s30.2.2; have := (Im.o h279) (by omega); have := yC.d s261.2.2; have := yC.kn s261.2.2; have eT : p_en1 pb pn pa [] (p_nx ps) = s261 := (by have hN : ∀ s9 e9 : Nat, p_hs pb [] s9 e9 = 0 := (fun _ _ => rfl); unfold p_en1; unfold p_prt; (try simp only [hN]); (try simp only [e31, e97, e135, e169, e227, e262]); ((repeat' (first | (with_reducible rfl) | split)) <;> (first | ((try simp only [e31, e97, e135, e169, e227, e262]); done) | (exfalso; omega)))); rw [eT]; exact ⟨⟨_, _, _, _, _, _, _, q333, q334, q335, q336, q337, q338, q339, h277, Im.o h278, Im.o h279⟩, by omega, (by rw [hz1]; omega), _, q346, (by rw [hz1]; exact f74)⟩)⟩⟩
              · refine mv_aload_n d_Reader_isWord_8 rfl rfl ?_
                refine tr_getK (k := 13) q276 d_Reader_isWord_9 f_Reader_241_9 ?_
                refine mv_iload_n d_Reader_isWord_12 rfl rfl ?_
                have := mz_hi v269
                refine mv_icmp_neZ (tgt := 20) (a := v269.toInt) (b := 29) d_Reader_isWord_13 (by decide) rfl (by decide) (fun b353 => ?_) (fun b353 => ?_)
                · refine mv_iconst (v := 0) d_Reader_isWord_20 (by decide) ?_
                  refine mv_iret d_Reader_isWord_21 rfl (by decide) ?_
                  refine mv_istore (lv' := [(6, .int 0), (5, .ref a196), (3, .long v73), (2, .int (v37 - v36)), (0, .ref o0), (1, .null)]) d_Reader_endText_123 (by decide) rfl ?_
                  refine mv_iload d_Reader_endText_125 rfl ?_
                  refine mv_if_eq_t (tgt := 134) d_Reader_endText_127 (by decide) (by decide) ?_
                  refine tr_new (kc' := 2) (ks' := 401) tm_okF I251 d_Reader_endText_134 n_Reader_189 (Nat.le_of_ble_eq_true rfl) (Nat.le_of_ble_eq_true rfl) (fun T354 M355 I356 t_x357 m358 h359 u360 K361 => ?_)
                  have q362 := tm_at.eq (K361 _ _ (I251.up h_o0)) q270
                  have t363 := u360 _ _ (I251.up h_o0)
                  have q364 := tm_at.eq (K361 _ _ (I251.up h_o0)) q271
                  have q365 := tm_at.eq (K361 _ _ (I251.up h_o0)) q272
                  have q366 := tm_at.eq (K361 _ _ (I251.up h_o0)) q273
                  have q367 := tm_at.eq (K361 _ _ (I251.up h_o0)) q274
                  have q368 := tm_at.eq (K361 _ _ (I251.up h_o0)) q275
                  have q369 := tm_at.eq (K361 _ _ (I251.up h_o0)) q276
                  have q370 := tm_at.eq (K361 _ _ t260) q281
                  have t371 := u360 _ _ t259
                  refine mv_dup d_Reader_endText_137 rfl ?_
                  refine mv_lload_n d_Reader_endText_138 rfl rfl ?_
                  refine mv_iload_n d_Reader_endText_139 rfl rfl ?_
                  refine mv_aload d_Reader_endText_140 rfl ?_
                  refine mv_aload_n d_Reader_endText_142 rfl rfl ?_
                  obtain ⟨_, b378, -⟩ := I356.1 _ _ t363
                  refine mv_callV (kc' := 0) (ks' := 0) (As := []) (st9 := [.ref o0, .ref a196, .int (v37 - v36), .long v73, .ref n248, .ref n248]) d_Reader_endText_143 lV_Reader_128 b378 rfl (tc_Reader_stepsTaken (d := (d + 17)) (x9 := (n248 + 1)) (o0 := o0) t363 I356.start) rfl (Nat.le_of_ble_eq_true rfl) (Nat.le_of_ble_eq_true rfl) (Nat.le_of_ble_eq_true rfl) (hst := rfl) (fun b372r M373 n374 b372 => ?_)
                  obtain ⟨T375, J376, a379, rfl, t_a379⟩ := b372
                  have I377 := I356.call J376 (tm_sub (by decide)) (Or.inr I356.2.2.2.1)
                  have m380 := (J376.keepX t_x357 (tm_ne I356 t_x357)).trans m358
                  have t381 := J376.up t_x357
                  have t382 := J376.up t371
                  have t383 := J376.up t363
                  have q384 := J376.keep t363 (by decide) q362
                  have q385 := J376.keep t363 (by decide) q364
                  have q386 := J376.keep t363 (by decide) q365
                  have q387 := J376.keep t363 (by decide) q366
                  have q388 := J376.keep t363 (by decide) q367
                  have q389 := J376.keep t363 (by decide) q368
                  have q390 := J376.keep t363 (by decide) q369
                  have q391 := J376.keep t363 (by decide) q370
                  refine mv_iload d_Reader_endText_146 rfl ?_
                  refine mv_callI (kc' := 0) (ks' := 0) (As := [.long v73, .int (v37 - v36), .ref a196, .ref a379, .int 0]) (st9 := [.int 0, .ref a379, .ref a196, .int (v37 - v36), .long v73, .ref n248, .ref n248]) d_Reader_endText_148 lI_Reader_191 (tc_EndText_init (d := (d + 18)) (o0 := n248) (x1 := v73) (x2 := (v37 - v36)) (o3 := a196) (o4 := a379) (x5 := 0) t381 t382 t_a379 (by decide) m380 I377.start) rfl (Nat.le_of_ble_eq_true rfl) (Nat.le_of_ble_eq_true rfl) (Nat.le_of_ble_eq_true rfl) (hst := rfl) (fun b392r M393 n394 b392 => ?_)
                  obtain ⟨T395, J396, rfl, m398⟩ := b392
                  have I397 := I377.call J396 (tm_sub (by decide)) (Or.inr h359)
                  have t399 := J396.up t381
                  have t400 := J396.up t382
                  have t401 := J396.up t383
                  have t402 := J396.up t_a379
                  have q403 := J396.keep t383 (by decide) q384
                  have q404 := J396.keep t383 (by decide) q385
                  have q405 := J396.keep t383 (by decide) q386
                  have q406 := J396.keep t383 (by decide) q387
                  have q407 := J396.keep t383 (by decide) q388
                  have q408 := J396.keep t383 (by decide) q389
                  have q409 := J396.keep t383 (by decide) q390
                  have q410 := J396.keep t383 (by decide) q391
                  obtain ⟨T411, I412, t_x413, u414⟩ := I397.sealO tm_okF t399 h359 m398 (fun _ z9 => (tm_fs_cons ⟨_, rfl⟩ (tm_fs_cons ⟨_, rfl⟩ (tm_fs_cons ⟨_, rfl, z9 _ _ t400 (Nat.le_of_ble_eq_true rfl)⟩ (tm_fs_cons ⟨_, rfl, z9 _ _ t402 (Nat.le_of_ble_eq_true rfl)⟩ (tm_fs_cons ⟨_, rfl⟩ tm_fs_nil))))))
                  have t415 := u414 _ _ t401 (tm_dif t401 t399 rfl)
                  have q416 : tm_at M393 n248 4 0 (.long v73) := ⟨_, m398, rfl⟩
                  have q417 : tm_at M393 n248 4 1 (.int (v37 - v36)) := ⟨_, m398, rfl⟩
                  have q418 : tm_at M393 n248 4 2 (.ref a196) := ⟨_, m398, rfl⟩
                  have t419 := u414 _ _ t400 (tm_dif t400 t399 rfl)
                  have q420 : tm_at M393 n248 4 3 (.ref a379) := ⟨_, m398, rfl⟩
                  have t421 := u414 _ _ t402 (tm_dif t402 t399 rfl)
                  have q422 : tm_at M393 n248 4 4 (.int 0) := ⟨_, m398, rfl⟩
                  exact mv_aret (r := (some n248)) d_Reader_endText_151 rfl (by first | exact Or.inl ⟨_, rfl⟩ | exact Or.inr ⟨_, rfl⟩) ⟨_, I412, Or.inr ⟨_, rfl, t_x413, q410, (by have := (Im.o h48) (by omega); have := yC.d s30.2.2; have := yC.kn s30.2.2; have := (Im.o h279) (by omega); have := yC.d s261.2.2; have := yC.kn s261.2.2; have eT : p_en1 pb pn pa [] (p_nx ps) = s261 := (by have hN : ∀ s9 e9 : Nat, p_hs pb [] s9 e9 = 0 := (fun _ _ => rfl); unfold p_en1; unfold p_prt; (try simp only [hN]); (try simp only [e31, e97, e135, e169, e227, e262]); ((repeat' (first | (with_reducible rfl) | split)) <;> (first | ((try simp only [e31, e97, e135, e169, e227, e262]); done) | (exfalso; omega)))); rw [eT]; exact ⟨⟨_, _, _, _, _, _, _, q403, q404, q405, q406, q407, q408, q409, h277, Im.o h278, Im.o h279⟩, by omega, (by rw [hz1]; omega), _, q416, (by rw [hz1]; exact f74)⟩)⟩⟩
                · refine mv_iconst (v := 1) d_Reader_isWord_16 (by decide) ?_
                  refine mv_goto (tgt := 21) d_Reader_isWord_17 (by decide) ?_
                  refine mv_iret d_Reader_isWord_21 rfl (by decide) ?_
                  refine mv_istore (lv' := [(6, .int 1), (5, .ref a196), (3, .long v73), (2, .int (v37 - v36)), (0, .ref o0), (1, .null)]) d_Reader_endText_123 (by decide) rfl ?_
                  refine mv_iload d_Reader_endText_125 rfl ?_
                  refine mv_if_eq_f (tgt := 134) d_Reader_endText_127 (by decide) (by decide) ?_
                  refine mv_aload_n d_Reader_endText_130 rfl rfl ?_
                  obtain ⟨_, b429, -⟩ := I251.1 _ _ t260
                  refine mv_callV (kc' := 3) (ks' := 406) (As := []) (st9 := [.ref o0]) d_Reader_endText_131 lV_Reader_82 b429 rfl (tc_Reader_advance_x (d := (d + 19)) (x9 := x9) (o0 := o0) t260 (hK I251) (qS.a (show qS M247 o0 pb pn s261 from ⟨_, _, _, _, _, _, _, q270, q271, q272, q273, q274, q275, q276, h277, Im.o h278, Im.o h279⟩)) (by have := (Im.o h48) (by omega); have := yC.d s30.2.2; have := yC.kn s30.2.2; have := (Im.o h279) (by omega); have := yC.d s261.2.2; have := yC.kn s261.2.2; show s261.2.2 + 1 ≤ 401; omega) I251.start) rfl (Nat.le_of_ble_eq_true rfl) (Nat.le_of_ble_eq_true rfl) (Nat.le_of_ble_eq_true rfl) (hst := rfl) (fun b423r M424 n425 b423 => ?_)
                  obtain ⟨T426, J427, rfl, f430⟩ := b423
                  have I428 := I251.call J427 (tm_sub (by decide)) (Or.inl rfl)
                  have t431 := J427.up t259
                  have t432 := J427.up t260
                  have q433 := J427.keep (I251.up h_o0) (by decide) q270
                  have q434 := J427.keep (I251.up h_o0) (by decide) q271
                  have q435 := J427.keep t260 (by decide) q281
                  obtain ⟨s436, e437⟩ : ∃ s9 : p_S, p_nx s261 = s9 := ⟨_, rfl⟩
                  rw [e437] at f430
                  have : s436.1 = 0 := by rw [← e437]; show s261.1 = 0; omega
                  obtain ⟨v438, v439, v440, v441, v442, v443, v444, q445, q446, q447, q448, q449, q450, q451, h452, h453, h454⟩ := f430
                  replace h453 := Im.i h453
                  replace h454 := Im.i h454
                  refine tr_new (kc' := 2) (ks' := 401) tm_okF I428 d_Reader_endText_134 n_Reader_189 (Nat.le_of_ble_eq_true rfl) (Nat.le_of_ble_eq_true rfl) (fun T455 M456 I457 t_x458 m459 h460 u461 K462 => ?_)
                  have q463 := tm_at.eq (K462 _ _ (I428.up h_o0)) q445
                  have t464 := u461 _ _ (I428.up h_o0)
                  have q465 := tm_at.eq (K462 _ _ (I428.up h_o0)) q446
                  have q466 := tm_at.eq (K462 _ _ t432) q435
                  have q467 := tm_at.eq (K462 _ _ (I428.up h_o0)) q447
                  have q468 := tm_at.eq (K462 _ _ (I428.up h_o0)) q448
                  have q469 := tm_at.eq (K462 _ _ (I428.up h_o0)) q449
                  have q470 := tm_at.eq (K462 _ _ (I428.up h_o0)) q450
                  have q471 := tm_at.eq (K462 _ _ (I428.up h_o0)) q451
                  have t472 := u461 _ _ t431
                  refine mv_dup d_Reader_endText_137 rfl ?_
                  refine mv_lload_n d_Reader_endText_138 rfl rfl ?_
                  refine mv_iload_n d_Reader_endText_139 rfl rfl ?_
                  refine mv_aload d_Reader_endText_140 rfl ?_
                  refine mv_aload_n d_Reader_endText_142 rfl rfl ?_
                  obtain ⟨_, b479, -⟩ := I457.1 _ _ t464
                  refine mv_callV (kc' := 0) (ks' := 0) (As := []) (st9 := [.ref o0, .ref a196, .int (v37 - v36), .long v73, .ref n425, .ref n425]) d_Reader_endText_143 lV_Reader_128 b479 rfl (tc_Reader_stepsTaken (d := (d + 17)) (x9 := (n425 + 1)) (o0 := o0) t464 I457.start) rfl (Nat.le_of_ble_eq_true rfl) (Nat.le_of_ble_eq_true rfl) (Nat.le_of_ble_eq_true rfl) (hst := rfl) (fun b473r M474 n475 b473 => ?_)
                  obtain ⟨T476, J477, a480, rfl, t_a480⟩ := b473
                  have I478 := I457.call J477 (tm_sub (by decide)) (Or.inr I457.2.2.2.1)
                  have m481 := (J477.keepX t_x458 (tm_ne I457 t_x458)).trans m459
                  have t482 := J477.up t_x458
                  have t483 := J477.up t472
                  have t484 := J477.up t464
                  have q485 := J477.keep t464 (by decide) q463
                  have q486 := J477.keep t464 (by decide) q465
                  have q487 := J477.keep t464 (by decide) q466
                  have q488 := J477.keep t464 (by decide) q467
                  have q489 := J477.keep t464 (by decide) q468
                  have q490 := J477.keep t464 (by decide) q469
                  have q491 := J477.keep t464 (by decide) q470
                  have q492 := J477.keep t464 (by decide) q471
                  refine mv_iload d_Reader_endText_146 rfl ?_
                  refine mv_callI (kc' := 0) (ks' := 0) (As := [.long v73, .int (v37 - v36), .ref a196, .ref a480, .int 1]) (st9 := [.int 1, .ref a480, .ref a196, .int (v37 - v36), .long v73, .ref n425, .ref n425]) d_Reader_endText_148 lI_Reader_191 (tc_EndText_init (d := (d + 18)) (o0 := n425) (x1 := v73) (x2 := (v37 - v36)) (o3 := a196) (o4 := a480) (x5 := 1) t482 t483 t_a480 (by decide) m481 I478.start) rfl (Nat.le_of_ble_eq_true rfl) (Nat.le_of_ble_eq_true rfl) (Nat.le_of_ble_eq_true rfl) (hst := rfl) (fun b493r M494 n495 b493 => ?_)
                  obtain ⟨T496, J497, rfl, m499⟩ := b493
                  have I498 := I478.call J497 (tm_sub (by decide)) (Or.inr h460)
                  have t500 := J497.up t482
                  have t501 := J497.up t483
                  have t502 := J497.up t484
                  have t503 := J497.up t_a480
                  have q504 := J497.keep t484 (by decide) q485
                  have q505 := J497.keep t484 (by decide) q486
                  have q506 := J497.keep t484 (by decide) q487
                  have q507 := J497.keep t484 (by decide) q488
                  have q508 := J497.keep t484 (by decide) q489
                  have q509 := J497.keep t484 (by decide) q490
                  have q510 := J497.keep t484 (by decide) q491
                  have q511 := J497.keep t484 (by decide) q492
                  obtain ⟨T512, I513, t_x514, u515⟩ := I498.sealO tm_okF t500 h460 m499 (fun _ z9 => (tm_fs_cons ⟨_, rfl⟩ (tm_fs_cons ⟨_, rfl⟩ (tm_fs_cons ⟨_, rfl, z9 _ _ t501 (Nat.le_of_ble_eq_true rfl)⟩ (tm_fs_cons ⟨_, rfl, z9 _ _ t503 (Nat.le_of_ble_eq_true rfl)⟩ (tm_fs_cons ⟨_, rfl⟩ tm_fs_nil))))))
                  have t516 := u515 _ _ t502 (tm_dif t502 t500 rfl)
                  have q517 : tm_at M494 n425 4 0 (.long v73) := ⟨_, m499, rfl⟩
                  have q518 : tm_at M494 n425 4 1 (.int (v37 - v36)) := ⟨_, m499, rfl⟩
                  have q519 : tm_at M494 n425 4 2 (.ref a196) := ⟨_, m499, rfl⟩
                  have t520 := u515 _ _ t501 (tm_dif t501 t500 rfl)
                  have q521 : tm_at M494 n425 4 3 (.ref a480) := ⟨_, m499, rfl⟩
                  have t522 := u515 _ _ t503 (tm_dif t503 t500 rfl)
                  have q523 : tm_at M494 n425 4 4 (.int 1) := ⟨_, m499, rfl⟩
                  exact mv_aret (r := (some n425)) d_Reader_endText_151 rfl (by first | exact Or.inl ⟨_, rfl⟩ | exact Or.inr ⟨_, rfl⟩) ⟨_, I513, Or.inr ⟨_, rfl, t_x514, q506, (by have := (Im.o h48) (by omega); have := yC.d s30.2.2; have := yC.kn s30.2.2; have := (Im.o h279) (by omega); have := yC.d s261.2.2; have := yC.kn s261.2.2; have eT : p_en1 pb pn pa [] (p_nx ps) = s436 := (by have hN : ∀ s9 e9 : Nat, p_hs pb [] s9 e9 = 0 := (fun _ _ => rfl); unfold p_en1; unfold p_prt; (try simp only [hN]); (try simp only [e31, e97, e135, e169, e227, e262, e437]); ((repeat' (first | (with_reducible rfl) | split)) <;> (first | ((try simp only [e31, e97, e135, e169, e227, e262, e437]); done) | (exfalso; omega)))); rw [eT]; exact ⟨⟨_, _, _, _, _, _, _, q504, q505, q507, q508, q509, q510, q511, h452, Im.o h453, Im.o h454⟩, by omega, (by rw [hz1]; omega), _, q517, (by rw [hz1]; exact f74)⟩)⟩⟩
            · refine mv_null d_Reader_endText_115 ?_
              exact mv_aret (r := none) d_Reader_endText_116 rfl (by first | exact Or.inl ⟨_, rfl⟩ | exact Or.inr ⟨_, rfl⟩) ⟨_, I251, Or.inl ⟨rfl, (by have := (Im.o h48) (by omega); have := yC.d s30.2.2; have := yC.kn s30.2.2; have hb : s261.1 ≠ 0 := (by omega); have z1 : ∀ c, p_sg pb pn c s261 = s261 := (fun c => p_sg_Z s261 hb); have z2 : ∀ c, p_wd pb pn c s261 = s261 := (fun c => p_wd_Z s261 hb); have z3 : ∀ op, p_sum pb pn pa op s261 = s261 := (fun op => p_sum_Z s261 hb); have z4 : ∀ r oc, p_con pb pn pa r oc s261 = s261 := (fun r oc => p_con_Z s261 hb); have z5 : p_prt pb pn s261 = s261 := p_prt_Z s261 hb; have eT : p_en1 pb pn pa [] (p_nx ps) = s261 := (by have hN : ∀ s9 e9 : Nat, p_hs pb [] s9 e9 = 0 := (fun _ _ => rfl); unfold p_en1; unfold p_prt; (try simp only [hN]); (try simp only [e31, e97, e135, e169, e227, e262, z1, z2, z3, z4, z5]); ((repeat' (first | (with_reducible rfl) | split)) <;> (first | ((try simp only [e31, e97, e135, e169, e227, e262, z1, z2, z3, z4, z5]); done) | (exfalso; omega)))); rw [eT]; exact ⟨⟨_, _, _, _, _, _, _, q270, q271, q272, q273, q274, q275, q276, h277, Im.o h278, Im.o h279⟩, by omega⟩)⟩⟩
        · refine mv_null d_Reader_endText_86 ?_
          exact mv_aret (r := none) d_Reader_endText_87 rfl (by first | exact Or.inl ⟨_, rfl⟩ | exact Or.inr ⟨_, rfl⟩) ⟨_, I159, Or.inl ⟨rfl, (by have := (Im.o h48) (by omega); have := yC.d s30.2.2; have := yC.kn s30.2.2; have hb : s168.1 ≠ 0 := (by omega); have z1 : ∀ c, p_sg pb pn c s168 = s168 := (fun c => p_sg_Z s168 hb); have z2 : ∀ c, p_wd pb pn c s168 = s168 := (fun c => p_wd_Z s168 hb); have z3 : ∀ op, p_sum pb pn pa op s168 = s168 := (fun op => p_sum_Z s168 hb); have z4 : ∀ r oc, p_con pb pn pa r oc s168 = s168 := (fun r oc => p_con_Z s168 hb); have z5 : p_prt pb pn s168 = s168 := p_prt_Z s168 hb; have eT : p_en1 pb pn pa [] (p_nx ps) = s168 := (by have hN : ∀ s9 e9 : Nat, p_hs pb [] s9 e9 = 0 := (fun _ _ => rfl); unfold p_en1; unfold p_prt; (try simp only [hN]); (try simp only [e31, e97, e135, e169, z1, z2, z3, z4, z5]); ((repeat' (first | (with_reducible rfl) | split)) <;> (first | ((try simp only [e31, e97, e135, e169, z1, z2, z3, z4, z5]); done) | (exfalso; omega)))); rw [eT]; exact ⟨⟨_, _, _, _, _, _, _, q177, q178, q179, q180, q181, q182, q183, h184, Im.o h185, Im.o h186⟩, by omega⟩)⟩⟩
    · refine mv_aload_n d_Reader_endText_28 rfl rfl ?_
      refine mv_iconst (v := 1) d_Reader_endText_29 (by decide) ?_
      obtain ⟨_, b524, -⟩ := I23.1 _ _ t26
      refine mv_callV (kc1 := 0) (ks1 := 0) (kc' := 0) (ks' := 0) (As := [.int 1]) (st9 := [.int 1, .ref o0]) d_Reader_endText_30 lV_Reader_56 b524 rfl (mj_enter (by decide) (Nat.le_of_ble_eq_true rfl) ?_) rfl (Nat.le_of_ble_eq_true rfl) (Nat.le_of_ble_eq_true rfl) (Nat.le_of_ble_eq_true rfl) (hst := rfl) (fun _ _ _ h => h)
      refine mv_aload_n d_Reader_refuse_0 rfl rfl ?_
      refine mv_iload_n d_Reader_refuse_1 rfl rfl ?_
      refine tr_putK tm_okF I23 t26 (k := 1) rfl ⟨_, rfl⟩ (Or.inl (by decide)) d_Reader_refuse_2 p_Reader_70_9 rfl rfl (fun M525 I526 q527 K528 => ?_)
      refine mv_aload_n d_Reader_refuse_5 rfl rfl ?_
      refine mv_aload_n d_Reader_refuse_6 rfl rfl ?_
      refine tr_getK (k := 11) (K528 _ 9 11 _ rfl q43) d_Reader_refuse_7 f_Reader_175_9 ?_
      refine tr_putK tm_okF I526 t26 (k := 2) rfl ⟨_, rfl⟩ (Or.inl (by decide)) d_Reader_refuse_10 p_Reader_11_9 rfl rfl (fun M529 I530 q531 K532 => ?_)
      refine mv_iconst (v := 0) d_Reader_refuse_13 (by decide) ?_
      obtain ⟨s533, e534⟩ : ∃ s9 : p_S, p_fl pb pn 1 s30 = s9 := ⟨_, rfl⟩
      have h535 := q_fl e534 (by omega) (by decide)
      have h536 : (1 : Int32).toInt = s533.1 := (by have e9 : (1 : Int32).toInt = 1 := (by decide); omega)
      have h537 : Im (s533.1 ≠ 0 → v36.toInt = (s533.2.1 : Int)) := Im.i (fun _ => by have := (Im.o h48) (by omega); omega)
      have h538 : Im (s533.1 = 0 → v34.toInt = (s533.2.2 : Int) ∧ v35.toInt = p_ki pb pn s533.2.2 ∧ v36.toInt = (p_st pb pn s533.2.2 : Int) ∧ v37.toInt = (p_sp pb pn s533.2.2 : Int) ∧ v38.toInt = p_va pb pn s533.2.2 ∧ v36.toInt = -1) := Im.i (fun z9 => absurd z9 h535.2.2)
      refine mv_iret d_Reader_refuse_14 rfl (by decide) ?_
      refine mv_pop d_Reader_endText_33 rfl ?_
      refine mv_null d_Reader_endText_34 ?_
      exact mv_aret (r := none) d_Reader_endText_35 rfl (by first | exact Or.inl ⟨_, rfl⟩ | exact Or.inr ⟨_, rfl⟩) ⟨_, I530, Or.inl ⟨rfl, (by have := (Im.o h48) (by omega); have := yC.d s30.2.2; have := yC.kn s30.2.2; have hb : s533.1 ≠ 0 := (by omega); have z1 : ∀ c, p_sg pb pn c s533 = s533 := (fun c => p_sg_Z s533 hb); have z2 : ∀ c, p_wd pb pn c s533 = s533 := (fun c => p_wd_Z s533 hb); have z3 : ∀ op, p_sum pb pn pa op s533 = s533 := (fun op => p_sum_Z s533 hb); have z4 : ∀ r oc, p_con pb pn pa r oc s533 = s533 := (fun r oc => p_con_Z s533 hb); have z5 : p_prt pb pn s533 = s533 := p_prt_Z s533 hb; have eT : p_en1 pb pn pa [] (p_nx ps) = s533 := (by have hN : ∀ s9 e9 : Nat, p_hs pb [] s9 e9 = 0 := (fun _ _ => rfl); unfold p_en1; unfold p_prt; (try simp only [hN]); (try simp only [e31, e534, z1, z2, z3, z4, z5]); ((repeat' (first | (with_reducible rfl) | split)) <;> (first | ((try simp only [e31, e534, z1, z2, z3, z4, z5]); done) | (exfalso; omega)))); rw [eT]; exact ⟨⟨_, _, _, _, _, _, _, (K532 _ 9 1 _ rfl q527), q531, (K532 _ 9 9 _ rfl (K528 _ 9 9 _ rfl q41)), (K532 _ 9 10 _ rfl (K528 _ 9 10 _ rfl q42)), (K532 _ 9 11 _ rfl (K528 _ 9 11 _ rfl q43)), (K532 _ 9 12 _ rfl (K528 _ 9 12 _ rfl q44)), (K532 _ 9 13 _ rfl (K528 _ 9 13 _ rfl q45)), h536, Im.o h537, Im.o h538⟩, by omega⟩)⟩⟩
def w_Reader_readNearEnd_x : List Nat := [901, 902, 908, 909, 910, 911, 912, 913, 914, 915, 916, 918, 954, 955, 956, 957, 967]
set_option maxHeartbeats 100000000 in theorem tc_Reader_readNearEnd_x {g : mj_G} {l : Launch} {d : Nat} {T0 : tm_H} {M0 : mj_M} {n0 x9 : Nat} {o0 : Nat} (h_o0 : T0 o0 = some (0, 9, 0)) {pb : Nat → Int} {pn : Nat} (yB : qB M0 o0 pb pn) (I0 : tm_I tm_FT (tm_in w_Reader_readNearEnd_x) x9 T0 M0 n0 T0 M0 n0) : mj_Met g l kY_Reader_readNearEnd (d + 21) [.ref o0] M0 n0 5 807 (tm_Q tm_FT (tm_in w_Reader_readNearEnd_x) x9 T0 M0 n0 (fun r T M => (r = some .null ∧ ∃ vf vp : Int32, tm_at M o0 9 1 (.int vf) ∧ tm_at M o0 9 2 (.int vp) ∧ vf.toInt = (p_nea pb pn).1 ∧ (p_nea pb pn).1 ≠ 0 ∧ vp.toInt = ((p_nea pb pn).2.1 : Int)) ∨ ∃ b, r = some (.ref b) ∧ T b = some (0, 4, 0) ∧ ∃ vf vp : Int32, tm_at M o0 9 1 (.int vf) ∧ tm_at M o0 9 2 (.int vp) ∧ vf.toInt = (p_nea pb pn).1 ∧ (p_nea pb pn).1 = 0 ∧ vp.toInt = -1)) := by
  refine mj_enter (by decide) (Nat.le_of_ble_eq_true rfl) ?_
  have hB : ∀ {T : tm_H} {M : mj_M} {n : Nat}, tm_I tm_FT (tm_in w_Reader_readNearEnd_x) x9 T0 M0 n0 T M n → qB M o0 pb pn := fun I => yB.keep I0.1 I h_o0 (by decide +kernel) (by decide +kernel) (by decide +kernel)
  have := yB.1
  have := yB.2.1
  refine mv_aload_n d_Reader_readNearEnd_0 rfl rfl ?_
  refine mv_bipush (v := 10) d_Reader_readNearEnd_1 (by decide) ?_
  obtain ⟨_, b7, -⟩ := I0.1 _ _ h_o0
  refine mv_callV (kc' := 5) (ks' := 807) (As := [.int 10]) (st9 := [.int 10, .ref o0]) d_Reader_readNearEnd_3 lV_Reader_37 b7 rfl (tc_Reader_begin_x (d := (d + 11)) (x9 := x9) (o0 := o0) (x1 := 10) h_o0 (hB I0) (by decide) I0.start) rfl (Nat.le_of_ble_eq_true rfl) (Nat.le_of_ble_eq_true rfl) (Nat.le_of_ble_eq_true rfl) (hst := rfl) (fun b1r M2 n3 b1 => ?_)
  obtain ⟨T4, J5, rfl, f8, f9, f10⟩ := b1
  have I6 := I0.call J5 (tm_sub (by decide)) (Or.inl rfl)
  have t11 := J5.up h_o0
  rw [show (10 : Int32).toInt = 10 from by decide] at f9
  obtain ⟨s12, e13⟩ : ∃ s9 : p_S, (0, 0, 0) = s9 := ⟨_, rfl⟩
  rw [e13] at f10
  have : s12.1 = 0 := by rw [← e13]
  have : s12.2.2 = 0 := by rw [← e13]
  obtain ⟨v14, v15, v16, v17, v18, v19, v20, q21, q22, q23, q24, q25, q26, q27, h28, h29, h30⟩ := f10
  replace h29 := Im.i h29
  replace h30 := Im.i h30
  have yC := f9
  refine mv_aload_n d_Reader_readNearEnd_6 rfl rfl ?_
  refine mv_bipush (v := 26) d_Reader_readNearEnd_7 (by decide) ?_
  obtain ⟨_, b31, -⟩ := I6.1 _ _ t11
  refine mv_callV (kc1 := 0) (ks1 := 0) (kc' := 5) (ks' := 807) (As := [.int 26]) (st9 := [.int 26, .ref o0]) d_Reader_readNearEnd_9 lV_Reader_52 b31 rfl (mj_enter (by decide) (Nat.le_of_ble_eq_true rfl) ?_) rfl (Nat.le_of_ble_eq_true rfl) (Nat.le_of_ble_eq_true rfl) (Nat.le_of_ble_eq_true rfl) (hst := rfl) (fun _ _ _ h => h)
  refine mv_aload_n d_Reader_isWord_0 rfl rfl ?_
  refine tr_getK (k := 10) q24 d_Reader_isWord_1 f_Reader_41_9 ?_
  refine mv_iconst (v := 1) d_Reader_isWord_4 (by decide) ?_
  have := mz_hi v17
  refine mv_icmp_neZ (tgt := 20) (a := v17.toInt) (b := 1) d_Reader_isWord_5 (by decide) rfl (by decide) (fun b32 => ?_) (fun b32 => ?_)
  · refine mv_iconst (v := 0) d_Reader_isWord_20 (by decide) ?_
    refine mv_iret d_Reader_isWord_21 rfl (by decide) ?_
    refine mv_if_ne_f (tgt := 23) d_Reader_readNearEnd_12 (by decide) (by decide) ?_
    refine mv_aload_n d_Reader_readNearEnd_15 rfl rfl ?_
    refine mv_iconst (v := 1) d_Reader_readNearEnd_16 (by decide) ?_
    obtain ⟨_, b33, -⟩ := I6.1 _ _ t11
    refine mv_callV (kc1 := 0) (ks1 := 0) (kc' := 0) (ks' := 0) (As := [.int 1]) (st9 := [.int 1, .ref o0]) d_Reader_readNearEnd_17 lV_Reader_56 b33 rfl (mj_enter (by decide) (Nat.le_of_ble_eq_true rfl) ?_) rfl (Nat.le_of_ble_eq_true rfl) (Nat.le_of_ble_eq_true rfl) (Nat.le_of_ble_eq_true rfl) (hst := rfl) (fun _ _ _ h => h)
    refine mv_aload_n d_Reader_refuse_0 rfl rfl ?_
    refine mv_iload_n d_Reader_refuse_1 rfl rfl ?_
    refine tr_putK tm_okF I6 t11 (k := 1) rfl ⟨_, rfl⟩ (Or.inl (by decide)) d_Reader_refuse_2 p_Reader_70_9 rfl rfl (fun M34 I35 q36 K37 => ?_)
    refine mv_aload_n d_Reader_refuse_5 rfl rfl ?_
    refine mv_aload_n d_Reader_refuse_6 rfl rfl ?_
    refine tr_getK (k := 11) (K37 _ 9 11 _ rfl q25) d_Reader_refuse_7 f_Reader_175_9 ?_
    refine tr_putK tm_okF I35 t11 (k := 2) rfl ⟨_, rfl⟩ (Or.inl (by decide)) d_Reader_refuse_10 p_Reader_11_9 rfl rfl (fun M38 I39 q40 K41 => ?_)
    refine mv_iconst (v := 0) d_Reader_refuse_13 (by decide) ?_
    obtain ⟨s42, e43⟩ : ∃ s9 : p_S, p_fl pb pn 1 s12 = s9 := ⟨_, rfl⟩
    have h44 := q_fl e43 (by omega) (by decide)
    have h45 : (1 : Int32).toInt = s42.1 := (by have e9 : (1 : Int32).toInt = 1 := (by decide); omega)
    have h46 : Im (s42.1 ≠ 0 → v18.toInt = (s42.2.1 : Int)) := Im.i (fun _ => by have := (Im.o h30) (by omega); omega)
    have h47 : Im (s42.1 = 0 → v16.toInt = (s42.2.2 : Int) ∧ v17.toInt = p_ki pb pn s42.2.2 ∧ v18.toInt = (p_st pb pn s42.2.2 : Int) ∧ v19.toInt = (p_sp pb pn s42.2.2 : Int) ∧ v20.toInt = p_va pb pn s42.2.2 ∧ v18.toInt = -1) := Im.i (fun z9 => absurd z9 h44.2.2)
    refine mv_iret d_Reader_refuse_14 rfl (by decide) ?_
    refine mv_pop d_Reader_readNearEnd_20 rfl ?_
    refine mv_null d_Reader_readNearEnd_21 ?_
    exact mv_aret (r := none) d_Reader_readNearEnd_22 rfl (by first | exact Or.inl ⟨_, rfl⟩ | exact Or.inr ⟨_, rfl⟩) ⟨_, I39, Or.inl ⟨rfl, (by have := (Im.o h30) (by omega); have := yC.d s12.2.2; have := yC.kn s12.2.2; have hb : s42.1 ≠ 0 := (by omega); have z1 : ∀ c, p_sg pb pn c s42 = s42 := (fun c => p_sg_Z s42 hb); have hp9 : p_nea pb pn = p_ov pb pn (if p_wi pb pn s12.2.2 = 26 then p_sg pb pn 59 (p_en1 pb pn 10 [] (p_nx s12)) else p_fl pb pn 1 s12) := (by rw [← e13]; rfl); have hX : (if p_wi pb pn s12.2.2 = 26 then p_sg pb pn 59 (p_en1 pb pn 10 [] (p_nx s12)) else p_fl pb pn 1 s12) = s42 := (by first | (rw [if_pos (by omega)]; simp only [e43, z1]; done) | (rw [if_neg (by omega)]; simp only [e43, z1]; done)); have hE : p_nea pb pn = s42 := (by rw [hp9, hX]; unfold p_ov; (repeat' split) <;> first | rfl | exact e43 | (exfalso; omega)); have z2 : (p_nea pb pn).1 = s42.1 := (by rw [hE]); have z3 : (p_nea pb pn).2.1 = s42.2.1 := (by rw [hE]); have := (Im.o h46) (by omega); exact ⟨_, _, (K41 _ 9 1 _ rfl q36), q40, by omega, by omega, by omega⟩)⟩⟩
  · refine mv_aload_n d_Reader_isWord_8 rfl rfl ?_
    refine tr_getK (k := 13) q27 d_Reader_isWord_9 f_Reader_241_9 ?_
    refine mv_iload_n d_Reader_isWord_12 rfl rfl ?_
    have := mz_hi v20
    refine mv_icmp_neZ (tgt := 20) (a := v20.toInt) (b := 26) d_Reader_isWord_13 (by decide) rfl (by decide) (fun b48 => ?_) (fun b48 => ?_)
    · refine mv_iconst (v := 0) d_Reader_isWord_20 (by decide) ?_
      refine mv_iret d_Reader_isWord_21 rfl (by decide) ?_
      refine mv_if_ne_f (tgt := 23) d_Reader_readNearEnd_12 (by decide) (by decide) ?_
      refine mv_aload_n d_Reader_readNearEnd_15 rfl rfl ?_
      refine mv_iconst (v := 1) d_Reader_readNearEnd_16 (by decide) ?_
      obtain ⟨_, b49, -⟩ := I6.1 _ _ t11
      refine mv_callV (kc1 := 0) (ks1 := 0) (kc' := 0) (ks' := 0) (As := [.int 1]) (st9 := [.int 1, .ref o0]) d_Reader_readNearEnd_17 lV_Reader_56 b49 rfl (mj_enter (by decide) (Nat.le_of_ble_eq_true rfl) ?_) rfl (Nat.le_of_ble_eq_true rfl) (Nat.le_of_ble_eq_true rfl) (Nat.le_of_ble_eq_true rfl) (hst := rfl) (fun _ _ _ h => h)
      refine mv_aload_n d_Reader_refuse_0 rfl rfl ?_
      refine mv_iload_n d_Reader_refuse_1 rfl rfl ?_
      refine tr_putK tm_okF I6 t11 (k := 1) rfl ⟨_, rfl⟩ (Or.inl (by decide)) d_Reader_refuse_2 p_Reader_70_9 rfl rfl (fun M50 I51 q52 K53 => ?_)
      refine mv_aload_n d_Reader_refuse_5 rfl rfl ?_
      refine mv_aload_n d_Reader_refuse_6 rfl rfl ?_
      refine tr_getK (k := 11) (K53 _ 9 11 _ rfl q25) d_Reader_refuse_7 f_Reader_175_9 ?_
      refine tr_putK tm_okF I51 t11 (k := 2) rfl ⟨_, rfl⟩ (Or.inl (by decide)) d_Reader_refuse_10 p_Reader_11_9 rfl rfl (fun M54 I55 q56 K57 => ?_)
      refine mv_iconst (v := 0) d_Reader_refuse_13 (by decide) ?_
      obtain ⟨s58, e59⟩ : ∃ s9 : p_S, p_fl pb pn 1 s12 = s9 := ⟨_, rfl⟩
      have h60 := q_fl e59 (by omega) (by decide)
      have h61 : (1 : Int32).toInt = s58.1 := (by have e9 : (1 : Int32).toInt = 1 := (by decide); omega)
      have h62 : Im (s58.1 ≠ 0 → v18.toInt = (s58.2.1 : Int)) := Im.i (fun _ => by have := (Im.o h30) (by omega); omega)
      have h63 : Im (s58.1 = 0 → v16.toInt = (s58.2.2 : Int) ∧ v17.toInt = p_ki pb pn s58.2.2 ∧ v18.toInt = (p_st pb pn s58.2.2 : Int) ∧ v19.toInt = (p_sp pb pn s58.2.2 : Int) ∧ v20.toInt = p_va pb pn s58.2.2 ∧ v18.toInt = -1) := Im.i (fun z9 => absurd z9 h60.2.2)
      refine mv_iret d_Reader_refuse_14 rfl (by decide) ?_
      refine mv_pop d_Reader_readNearEnd_20 rfl ?_
      refine mv_null d_Reader_readNearEnd_21 ?_
      exact mv_aret (r := none) d_Reader_readNearEnd_22 rfl (by first | exact Or.inl ⟨_, rfl⟩ | exact Or.inr ⟨_, rfl⟩) ⟨_, I55, Or.inl ⟨rfl, (by have := (Im.o h30) (by omega); have := yC.d s12.2.2; have := yC.kn s12.2.2; have hb : s58.1 ≠ 0 := (by omega); have z1 : ∀ c, p_sg pb pn c s58 = s58 := (fun c => p_sg_Z s58 hb); have hp9 : p_nea pb pn = p_ov pb pn (if p_wi pb pn s12.2.2 = 26 then p_sg pb pn 59 (p_en1 pb pn 10 [] (p_nx s12)) else p_fl pb pn 1 s12) := (by rw [← e13]; rfl); have hX : (if p_wi pb pn s12.2.2 = 26 then p_sg pb pn 59 (p_en1 pb pn 10 [] (p_nx s12)) else p_fl pb pn 1 s12) = s58 := (by first | (rw [if_pos (by omega)]; simp only [e59, z1]; done) | (rw [if_neg (by omega)]; simp only [e59, z1]; done)); have hE : p_nea pb pn = s58 := (by rw [hp9, hX]; unfold p_ov; (repeat' split) <;> first | rfl | exact e59 | (exfalso; omega)); have z2 : (p_nea pb pn).1 = s58.1 := (by rw [hE]); have z3 : (p_nea pb pn).2.1 = s58.2.1 := (by rw [hE]); have := (Im.o h62) (by omega); exact ⟨_, _, (K57 _ 9 1 _ rfl q52), q56, by omega, by omega, by omega⟩)⟩⟩
    · refine mv_iconst (v := 1) d_Reader_isWord_16 (by decide) ?_
      refine mv_goto (tgt := 21) d_Reader_isWord_17 (by decide) ?_
      refine mv_iret d_Reader_isWord_21 rfl (by decide) ?_
      refine mv_if_ne_t (tgt := 23) d_Reader_readNearEnd_12 (by decide) (by decide) ?_
      refine mv_aload_n d_Reader_readNearEnd_23 rfl rfl ?_
      refine mv_null d_Reader_readNearEnd_24 ?_
      obtain ⟨_, b70, -⟩ := I6.1 _ _ t11
      refine mv_callV (kc' := 0) (ks' := 0) (As := [.null]) (st9 := [.null, .ref o0]) d_Reader_readNearEnd_25 lV_Reader_59 b70 rfl (tc_Reader_endText_n1_q4_x (d := d) (x9 := x9) (o0 := o0) t11 (p := 0) f8 (by decide) (ps := s12) (by first | omega | decide) f9 ⟨_, _, _, _, _, _, _, q21, q22, q23, q24, q25, q26, q27, h28, Im.o h29, Im.o h30⟩ (by omega) (by have := (Im.o h30) (by omega); have := yC.d s12.2.2; have := yC.kn s12.2.2; show p_ki pb pn s12.2.2 ≠ 0; omega) I6.start) rfl (Nat.le_of_ble_eq_true rfl) (Nat.le_of_ble_eq_true rfl) (Nat.le_of_ble_eq_true rfl) (hst := rfl) (fun b64r M65 n66 b64 => ?_)
      obtain ⟨T67, J68, b72⟩ := b64
      have I69 := I6.call J68 (tm_sub (by decide)) (Or.inl rfl)
      have t73 := J68.up t11
      have h74 := f9.keep I6.1 J68 (I6.up h_o0) (qW_of (by decide +kernel))
      rcases b72 with ⟨rfl, f76, f77⟩ | ⟨a71, rfl, t_a71, o75, g78, g79, g80, v81, g82, g83⟩
      · obtain ⟨s84, e85⟩ : ∃ s9 : p_S, p_en1 pb pn 10 [] (p_nx s12) = s9 := ⟨_, rfl⟩
        rw [e85] at f76 f77
        obtain ⟨v86, v87, v88, v89, v90, v91, v92, q93, q94, q95, q96, q97, q98, q99, h100, h101, h102⟩ := f76
        replace h101 := Im.i h101
        replace h102 := Im.i h102
        refine mv_astore_nN (lv' := [(1, .null), (0, .ref o0)]) d_Reader_readNearEnd_28 rfl (by decide) rfl ?_
        refine mv_aload_nN d_Reader_readNearEnd_29 rfl rfl ?_
        refine mv_ifnullN (tgt := 42) d_Reader_readNearEnd_30 (by decide) ?_
        refine mv_null d_Reader_readNearEnd_42 ?_
        exact mv_aret (r := none) d_Reader_readNearEnd_43 rfl (by first | exact Or.inl ⟨_, rfl⟩ | exact Or.inr ⟨_, rfl⟩) ⟨_, I69, Or.inl ⟨rfl, (by have := (Im.o h30) (by omega); have := yC.d s12.2.2; have := yC.kn s12.2.2; have hb : s84.1 ≠ 0 := (by omega); have z1 : ∀ c, p_sg pb pn c s84 = s84 := (fun c => p_sg_Z s84 hb); have hp9 : p_nea pb pn = p_ov pb pn (if p_wi pb pn s12.2.2 = 26 then p_sg pb pn 59 (p_en1 pb pn 10 [] (p_nx s12)) else p_fl pb pn 1 s12) := (by rw [← e13]; rfl); have hX : (if p_wi pb pn s12.2.2 = 26 then p_sg pb pn 59 (p_en1 pb pn 10 [] (p_nx s12)) else p_fl pb pn 1 s12) = s84 := (by first | (rw [if_pos (by omega)]; simp only [e85, z1]; done) | (rw [if_neg (by omega)]; simp only [e85, z1]; done)); have hE : p_nea pb pn = s84 := (by rw [hp9, hX]; unfold p_ov; (repeat' split) <;> first | rfl | (exfalso; omega)); have z2 : (p_nea pb pn).1 = s84.1 := (by rw [hE]); have z3 : (p_nea pb pn).2.1 = s84.2.1 := (by rw [hE]); have := (Im.o h101) (by omega); exact ⟨_, _, q93, q94, by omega, by omega, by omega⟩)⟩⟩
      · obtain ⟨s103, e104⟩ : ∃ s9 : p_S, p_en1 pb pn 10 [] (p_nx s12) = s9 := ⟨_, rfl⟩
        rw [e104] at g78 g79
        obtain ⟨v105, v106, v107, v108, v109, v110, v111, q112, q113, q114, q115, q116, q117, q118, h119, h120, h121⟩ := g78
        replace h120 := Im.i h120
        replace h121 := Im.i h121
        refine mv_astore_n (lv' := [(1, .ref a71), (0, .ref o0)]) d_Reader_readNearEnd_28 rfl (by decide) rfl ?_
        refine mv_aload_n d_Reader_readNearEnd_29 rfl rfl ?_
        refine mv_ifnull d_Reader_readNearEnd_30 ?_
        refine mv_aload_n d_Reader_readNearEnd_33 rfl rfl ?_
        refine mv_bipush (v := 59) d_Reader_readNearEnd_34 (by decide) ?_
        obtain ⟨_, b128, -⟩ := I69.1 _ _ t73
        refine mv_callV (kc' := 0) (ks' := 0) (As := [.int 59]) (st9 := [.int 59, .ref o0]) d_Reader_readNearEnd_36 lV_Reader_63 b128 rfl (tc_Reader_sign_x (d := (d + 19)) (x9 := x9) (o0 := o0) (x1 := 59) t73 h74 ⟨_, _, _, _, _, _, _, q112, q113, q114, q115, q116, q117, q118, h119, Im.o h120, Im.o h121⟩ (by omega) (by first | omega | decide) I69.start) rfl (Nat.le_of_ble_eq_true rfl) (Nat.le_of_ble_eq_true rfl) (Nat.le_of_ble_eq_true rfl) (hst := rfl) (fun b122r M123 n124 b122 => ?_)
        obtain ⟨T125, J126, v129, rfl, b130, b131, f132, f133⟩ := b122
        have I127 := I69.call J126 (tm_sub (by decide)) (Or.inl rfl)
        have t134 := J126.up t_a71
        have t135 := J126.up t73
        have q136 := J126.keep t73 (by decide) o75
        have q137 := J126.keep t_a71 (by decide) g82
        have h138 := h74.keep I69.1 J126 (I69.up h_o0) (qW_of (by decide +kernel))
        rw [show (59 : Int32).toInt = 59 from by decide] at f132 f133
        obtain ⟨s139, e140⟩ : ∃ s9 : p_S, p_sg pb pn 59 s103 = s9 := ⟨_, rfl⟩
        rw [e140] at f132 f133
        obtain ⟨v141, v142, v143, v144, v145, v146, v147, q148, q149, q150, q151, q152, q153, q154, h155, h156, h157⟩ := f132
        replace h156 := Im.i h156
        replace h157 := Im.i h157
        have := mz_hi v129
        refine mv_if_neZ (tgt := 44) (a := v129.toInt) d_Reader_readNearEnd_39 (by decide) rfl (fun b158 => ?_) (fun b158 => ?_)
        · refine mv_aload_n d_Reader_readNearEnd_44 rfl rfl ?_
          refine tr_getK (k := 10) q151 d_Reader_readNearEnd_45 f_Reader_41_9 ?_
          have := mz_hi v144
          refine mv_if_eqZ (tgt := 59) (a := v144.toInt) d_Reader_readNearEnd_48 (by decide) rfl (fun b159 => ?_) (fun b159 => ?_)
          · refine mv_aload_n d_Reader_readNearEnd_59 rfl rfl ?_
            exact mv_aret (r := (some a71)) d_Reader_readNearEnd_60 rfl (by first | exact Or.inl ⟨_, rfl⟩ | exact Or.inr ⟨_, rfl⟩) ⟨_, I127, Or.inr ⟨_, rfl, t134, (by have := (Im.o h30) (by omega); have := yC.d s12.2.2; have := yC.kn s12.2.2; have := (Im.o h157) (by omega); have := yC.d s139.2.2; have := yC.kn s139.2.2; have hp9 : p_nea pb pn = p_ov pb pn (if p_wi pb pn s12.2.2 = 26 then p_sg pb pn 59 (p_en1 pb pn 10 [] (p_nx s12)) else p_fl pb pn 1 s12) := (by rw [← e13]; rfl); have hX : (if p_wi pb pn s12.2.2 = 26 then p_sg pb pn 59 (p_en1 pb pn 10 [] (p_nx s12)) else p_fl pb pn 1 s12) = s139 := (by first | (rw [if_pos (by omega)]; simp only [e104, e140]; done) | (rw [if_neg (by omega)]; simp only [e104, e140]; done)); have hE : p_nea pb pn = s139 := (by rw [hp9, hX]; unfold p_ov; (repeat' split) <;> first | rfl | (exfalso; omega)); have z2 : (p_nea pb pn).1 = s139.1 := (by rw [hE]); have z3 : (p_nea pb pn).2.1 = s139.2.1 := (by rw [hE]); have := (Im.o h157) (by omega); exact ⟨_, _, q148, q149, by omega, by omega, by omega⟩)⟩⟩
          · refine mv_aload_n d_Reader_readNearEnd_51 rfl rfl ?_
            refine mv_iconst (v := 1) d_Reader_readNearEnd_52 (by decide) ?_
            obtain ⟨_, b160, -⟩ := I127.1 _ _ t135
            refine mv_callV (kc1 := 0) (ks1 := 0) (kc' := 0) (ks' := 0) (As := [.int 1]) (st9 := [.int 1, .ref o0]) d_Reader_readNearEnd_53 lV_Reader_56 b160 rfl (mj_enter (by decide) (Nat.le_of_ble_eq_true rfl) ?_) rfl (Nat.le_of_ble_eq_true rfl) (Nat.le_of_ble_eq_true rfl) (Nat.le_of_ble_eq_true rfl) (hst := rfl) (fun _ _ _ h => h)
            refine mv_aload_n d_Reader_refuse_0 rfl rfl ?_
            refine mv_iload_n d_Reader_refuse_1 rfl rfl ?_
            refine tr_putK tm_okF I127 t135 (k := 1) rfl ⟨_, rfl⟩ (Or.inl (by decide)) d_Reader_refuse_2 p_Reader_70_9 rfl rfl (fun M161 I162 q163 K164 => ?_)
            refine mv_aload_n d_Reader_refuse_5 rfl rfl ?_
            refine mv_aload_n d_Reader_refuse_6 rfl rfl ?_
            refine tr_getK (k := 11) (K164 _ 9 11 _ rfl q152) d_Reader_refuse_7 f_Reader_175_9 ?_
            refine tr_putK tm_okF I162 t135 (k := 2) rfl ⟨_, rfl⟩ (Or.inl (by decide)) d_Reader_refuse_10 p_Reader_11_9 rfl rfl (fun M165 I166 q167 K168 => ?_)
            refine mv_iconst (v := 0) d_Reader_refuse_13 (by decide) ?_
            obtain ⟨s169, e170⟩ : ∃ s9 : p_S, p_fl pb pn 1 s139 = s9 := ⟨_, rfl⟩
            have h171 := q_fl e170 (by omega) (by decide)
            have h172 : (1 : Int32).toInt = s169.1 := (by have e9 : (1 : Int32).toInt = 1 := (by decide); omega)
            have h173 : Im (s169.1 ≠ 0 → v145.toInt = (s169.2.1 : Int)) := Im.i (fun _ => by have := (Im.o h157) (by omega); omega)
            have h174 : Im (s169.1 = 0 → v143.toInt = (s169.2.2 : Int) ∧ v144.toInt = p_ki pb pn s169.2.2 ∧ v145.toInt = (p_st pb pn s169.2.2 : Int) ∧ v146.toInt = (p_sp pb pn s169.2.2 : Int) ∧ v147.toInt = p_va pb pn s169.2.2 ∧ v145.toInt = -1) := Im.i (fun z9 => absurd z9 h171.2.2)
            refine mv_iret d_Reader_refuse_14 rfl (by decide) ?_
            refine mv_pop d_Reader_readNearEnd_56 rfl ?_
            refine mv_null d_Reader_readNearEnd_57 ?_
            exact mv_aret (r := none) d_Reader_readNearEnd_58 rfl (by first | exact Or.inl ⟨_, rfl⟩ | exact Or.inr ⟨_, rfl⟩) ⟨_, I166, Or.inl ⟨rfl, (by have := (Im.o h30) (by omega); have := yC.d s12.2.2; have := yC.kn s12.2.2; have := (Im.o h157) (by omega); have := yC.d s139.2.2; have := yC.kn s139.2.2; have hb : s169.1 ≠ 0 := (by omega); have z1 : ∀ c, p_sg pb pn c s169 = s169 := (fun c => p_sg_Z s169 hb); have hp9 : p_nea pb pn = p_ov pb pn (if p_wi pb pn s12.2.2 = 26 then p_sg pb pn 59 (p_en1 pb pn 10 [] (p_nx s12)) else p_fl pb pn 1 s12) := (by rw [← e13]; rfl); have hX : (if p_wi pb pn s12.2.2 = 26 then p_sg pb pn 59 (p_en1 pb pn 10 [] (p_nx s12)) else p_fl pb pn 1 s12) = s139 := (by first | (rw [if_pos (by omega)]; simp only [e104, e140, e170]; done) | (rw [if_neg (by omega)]; simp only [e104, e140, e170]; done)); have hE : p_nea pb pn = s169 := (by rw [hp9, hX]; unfold p_ov; (repeat' split) <;> first | rfl | exact e170 | (exfalso; omega)); have z2 : (p_nea pb pn).1 = s169.1 := (by rw [hE]); have z3 : (p_nea pb pn).2.1 = s169.2.1 := (by rw [hE]); have := (Im.o h173) (by omega); exact ⟨_, _, (K168 _ 9 1 _ rfl q163), q167, by omega, by omega, by omega⟩)⟩⟩
        · refine mv_null d_Reader_readNearEnd_42 ?_
          exact mv_aret (r := none) d_Reader_readNearEnd_43 rfl (by first | exact Or.inl ⟨_, rfl⟩ | exact Or.inr ⟨_, rfl⟩) ⟨_, I127, Or.inl ⟨rfl, (by have := (Im.o h30) (by omega); have := yC.d s12.2.2; have := yC.kn s12.2.2; have hb : s139.1 ≠ 0 := (by omega); have z1 : ∀ c, p_sg pb pn c s139 = s139 := (fun c => p_sg_Z s139 hb); have hp9 : p_nea pb pn = p_ov pb pn (if p_wi pb pn s12.2.2 = 26 then p_sg pb pn 59 (p_en1 pb pn 10 [] (p_nx s12)) else p_fl pb pn 1 s12) := (by rw [← e13]; rfl); have hX : (if p_wi pb pn s12.2.2 = 26 then p_sg pb pn 59 (p_en1 pb pn 10 [] (p_nx s12)) else p_fl pb pn 1 s12) = s139 := (by first | (rw [if_pos (by omega)]; simp only [e104, e140, z1]; done) | (rw [if_neg (by omega)]; simp only [e104, e140, z1]; done)); have hE : p_nea pb pn = s139 := (by rw [hp9, hX]; unfold p_ov; (repeat' split) <;> first | rfl | (exfalso; omega)); have z2 : (p_nea pb pn).1 = s139.1 := (by rw [hE]); have z3 : (p_nea pb pn).2.1 = s139.2.1 := (by rw [hE]); have := (Im.o h156) (by omega); exact ⟨_, _, q148, q149, by omega, by omega, by omega⟩)⟩⟩
