section PW1
theorem pW1 {v : Int32} {A B : Prop} (h : (v.toInt = 1 ∧ A) ∨ (v.toInt = 0 ∧ B)) (hv : v.toInt = 1) : A := by
  rcases h with h | h
  · exact h.2
  · omega
theorem pW0 {v : Int32} {A B : Prop} (h : (v.toInt = 1 ∧ A) ∨ (v.toInt = 0 ∧ B)) (hv : v.toInt = 0) : B := by
  rcases h with h | h
  · omega
  · exact h.2
theorem p_no10 {w : Int} (h0 : w ≠ 0) (h1 : w ≠ 1) (h2 : w ≠ 2) (h3 : w ≠ 3) (h4 : w ≠ 4) (h5 : w ≠ 5) (h6 : w ≠ 6) (h7 : w ≠ 7) (h8 : w ≠ 8) (h9 : w ≠ 9) : w < 0 ∨ 10 ≤ w := by omega
theorem p_no13 {w : Int} (h0 : w ≠ 0) (h1 : w ≠ 1) (h2 : w ≠ 2) (h3 : w ≠ 3) (h4 : w ≠ 4) (h5 : w ≠ 5) (h6 : w ≠ 6) (h7 : w ≠ 7) (h8 : w ≠ 8) (h9 : w ≠ 9) (h10 : w ≠ 10) (h11 : w ≠ 11) (h12 : w ≠ 12) : w < 0 ∨ 13 ≤ w := by omega
theorem p_norw {w : Int} (h0 : w ≠ 13) (h1 : w ≠ 14) (h2 : w ≠ 15) (h3 : w ≠ 16) (h4 : w ≠ 17) (h5 : w ≠ 18) (h6 : w ≠ 23) : ¬ (13 ≤ w ∧ w ≤ 18) ∧ w ≠ 23 := by omega
end PW1
def w_TrustDeskModel_name_x : List Nat := []
set_option maxHeartbeats 100000000 in theorem tc_TrustDeskModel_name_x {g : mj_G} {l : Launch} {d : Nat} {T0 : tm_H} {M0 : mj_M} {n0 x9 : Nat} {o0 : Nat} (h_o0 : T0 o0 = some (0, 13, 0)) (yR : rI M0 o0) (yw : rv M0 o0 19 = 0) {pb : Nat → Int} {pn : Nat} {pa : Int} {ps : p_S} (yO : pO M0 o0 pb pn pa ps) (I0 : tm_I tm_FT (tm_in w_TrustDeskModel_name_x) x9 T0 M0 n0 T0 M0 n0) : mj_Met g l kY_TrustDeskModel_name (d + 5) [.ref o0] M0 n0 0 0 (tm_Q tm_FT (tm_in w_TrustDeskModel_name_x) x9 T0 M0 n0 (fun r _ M => ∃ v : Int32, r = some (.int v) ∧ rI M o0 ∧ (-1 ≤ v.toInt ∧ v.toInt ≤ 12) ∧ ((0 ≤ p_wi pb pn ps.2.2 ∧ p_wi pb pn ps.2.2 < pa ∧ v.toInt = p_wi pb pn ps.2.2) ∨ (¬ (0 ≤ p_wi pb pn ps.2.2 ∧ p_wi pb pn ps.2.2 < pa) ∧ v.toInt = -1)))) := by
  refine mj_enter (by decide) (Nat.le_of_ble_eq_true rfl) ?_
  have := yO.w
  refine mv_aload_n d_TrustDeskModel_name_0 rfl rfl ?_
  refine mv_ldcS (id := 27) (tx := "poor") d_TrustDeskModel_name_1 (List.mem_of_getElem? (i := 17) rfl) ?_
  obtain ⟨_, b7, -⟩ := I0.1 _ _ h_o0
  refine mv_callV (kc' := 0) (ks' := 0) (As := [.ref 27]) (st9 := [.ref 27, .ref o0]) d_TrustDeskModel_name_3 lV_TrustDeskModel_244 b7 rfl (tc_TrustDeskModel_isWord_s1_27_x (d := d) (x9 := x9) (o0 := o0) h_o0 yR I0.start) rfl (Nat.le_of_ble_eq_true rfl) (Nat.le_of_ble_eq_true rfl) (Nat.le_of_ble_eq_true rfl) (hst := rfl) (fun b1r M2 n3 b1 => ?_)
  obtain ⟨T4, J5, v8, rfl, b9, b10, R11, f12, f13, f14⟩ := b1
  have I6 := I0.call J5 (tm_sub (by decide)) (Or.inl rfl)
  have t15 := J5.up h_o0
  replace f13 := Im.i f13
  replace f14 := Im.i f14
  have z16 := (rv_c I0 J5 (I0.up h_o0) (k := 16) rfl)
  have z17 := (rv_c I0 J5 (I0.up h_o0) (k := 17) rfl)
  have z18 := (rv_c I0 J5 (I0.up h_o0) (k := 19) rfl)
  have z19 := (rv_c I0 J5 (I0.up h_o0) (k := 22) rfl)
  have z20 := (rv_c I0 J5 (I0.up h_o0) (k := 23) rfl)
  have Z921 : pO M2 o0 pb pn pa ps := yO.same (rE_hv I0 J5 (I0.up h_o0) 14 20 (by decide)) (rv_c I0 J5 (I0.up h_o0) (k := 23) rfl) (ra_call I0 J5 (I0.up h_o0) (k := 13) rfl rfl rfl)
  have d22 := Im.i (pO.w_0 yO (by have := yR.1 15 _ _ rfl; have := yR.1 16 _ _ rfl; have := yR.1 19 _ _ rfl; omega) (Im.o f13) (Im.o f14) (by have := yR.1 15 _ _ rfl; have := yR.1 16 _ _ rfl; have := yR.1 19 _ _ rfl; omega))
  have := mz_hi v8
  refine mv_if_eqZ (tgt := 13) (a := v8.toInt) d_TrustDeskModel_name_6 (by decide) rfl (fun b23 => ?_) (fun b23 => ?_)
  · refine mv_aload_n d_TrustDeskModel_name_13 rfl rfl ?_
    refine mv_ldcS (id := 28) (tx := "maids") d_TrustDeskModel_name_14 (List.mem_of_getElem? (i := 18) rfl) ?_
    obtain ⟨_, b30, -⟩ := I6.1 _ _ t15
    refine mv_callV (kc' := 0) (ks' := 0) (As := [.ref 28]) (st9 := [.ref 28, .ref o0]) d_TrustDeskModel_name_16 lV_TrustDeskModel_244 b30 rfl (tc_TrustDeskModel_isWord_s1_28_x (d := d) (x9 := x9) (o0 := o0) t15 R11 I6.start) rfl (Nat.le_of_ble_eq_true rfl) (Nat.le_of_ble_eq_true rfl) (Nat.le_of_ble_eq_true rfl) (hst := rfl) (fun b24r M25 n26 b24 => ?_)
    obtain ⟨T27, J28, v31, rfl, b32, b33, R34, f35, f36, f37⟩ := b24
    have I29 := I6.call J28 (tm_sub (by decide)) (Or.inl rfl)
    have t38 := J28.up t15
    replace f36 := Im.i f36
    replace f37 := Im.i f37
    have z39 := (rv_c I6 J28 (I6.up h_o0) (k := 16) rfl).trans z16
    have z40 := (rv_c I6 J28 (I6.up h_o0) (k := 17) rfl).trans z17
    have z41 := (rv_c I6 J28 (I6.up h_o0) (k := 19) rfl).trans z18
    have z42 := (rv_c I6 J28 (I6.up h_o0) (k := 22) rfl).trans z19
    have z43 := (rv_c I6 J28 (I6.up h_o0) (k := 23) rfl).trans z20
    have Z944 : pO M25 o0 pb pn pa ps := Z921.same (rE_hv I6 J28 (I6.up h_o0) 14 20 (by decide)) (rv_c I6 J28 (I6.up h_o0) (k := 23) rfl) (ra_call I6 J28 (I6.up h_o0) (k := 13) rfl rfl rfl)
    have d45 := Im.i (pO.w_1 Z921 (by have := R11.1 15 _ _ rfl; have := R11.1 16 _ _ rfl; have := R11.1 19 _ _ rfl; omega) (Im.o f36) (Im.o f37) (by have := R11.1 15 _ _ rfl; have := R11.1 16 _ _ rfl; have := R11.1 19 _ _ rfl; omega))
    clear z18 z19 z20
    have := mz_hi v31
    refine mv_if_eqZ (tgt := 26) (a := v31.toInt) d_TrustDeskModel_name_19 (by decide) rfl (fun b46 => ?_) (fun b46 => ?_)
    · refine mv_aload_n d_TrustDeskModel_name_26 rfl rfl ?_
      refine mv_ldcS (id := 29) (tx := "boys") d_TrustDeskModel_name_27 (List.mem_of_getElem? (i := 19) rfl) ?_
      obtain ⟨_, b53, -⟩ := I29.1 _ _ t38
      refine mv_callV (kc' := 0) (ks' := 0) (As := [.ref 29]) (st9 := [.ref 29, .ref o0]) d_TrustDeskModel_name_29 lV_TrustDeskModel_244 b53 rfl (tc_TrustDeskModel_isWord_s1_29_x (d := d) (x9 := x9) (o0 := o0) t38 R34 I29.start) rfl (Nat.le_of_ble_eq_true rfl) (Nat.le_of_ble_eq_true rfl) (Nat.le_of_ble_eq_true rfl) (hst := rfl) (fun b47r M48 n49 b47 => ?_)
      obtain ⟨T50, J51, v54, rfl, b55, b56, R57, f58, f59, f60⟩ := b47
      have I52 := I29.call J51 (tm_sub (by decide)) (Or.inl rfl)
      have t61 := J51.up t38
      replace f59 := Im.i f59
      replace f60 := Im.i f60
      have z62 := (rv_c I29 J51 (I29.up h_o0) (k := 16) rfl).trans z39
      have z63 := (rv_c I29 J51 (I29.up h_o0) (k := 17) rfl).trans z40
      have z64 := (rv_c I29 J51 (I29.up h_o0) (k := 19) rfl).trans z41
      have z65 := (rv_c I29 J51 (I29.up h_o0) (k := 22) rfl).trans z42
      have z66 := (rv_c I29 J51 (I29.up h_o0) (k := 23) rfl).trans z43
      have Z967 : pO M48 o0 pb pn pa ps := Z944.same (rE_hv I29 J51 (I29.up h_o0) 14 20 (by decide)) (rv_c I29 J51 (I29.up h_o0) (k := 23) rfl) (ra_call I29 J51 (I29.up h_o0) (k := 13) rfl rfl rfl)
      have d68 := Im.i (pO.w_2 Z944 (by have := R34.1 15 _ _ rfl; have := R34.1 16 _ _ rfl; have := R34.1 19 _ _ rfl; omega) (Im.o f59) (Im.o f60) (by have := R34.1 15 _ _ rfl; have := R34.1 16 _ _ rfl; have := R34.1 19 _ _ rfl; omega))
      clear z41 z42 z43
      have := mz_hi v54
      refine mv_if_eqZ (tgt := 39) (a := v54.toInt) d_TrustDeskModel_name_32 (by decide) rfl (fun b69 => ?_) (fun b69 => ?_)
      · refine mv_aload_n d_TrustDeskModel_name_39 rfl rfl ?_
        refine mv_ldcS (id := 30) (tx := "sick") d_TrustDeskModel_name_40 (List.mem_of_getElem? (i := 20) rfl) ?_
        obtain ⟨_, b76, -⟩ := I52.1 _ _ t61
        refine mv_callV (kc' := 0) (ks' := 0) (As := [.ref 30]) (st9 := [.ref 30, .ref o0]) d_TrustDeskModel_name_42 lV_TrustDeskModel_244 b76 rfl (tc_TrustDeskModel_isWord_s1_30_x (d := d) (x9 := x9) (o0 := o0) t61 R57 I52.start) rfl (Nat.le_of_ble_eq_true rfl) (Nat.le_of_ble_eq_true rfl) (Nat.le_of_ble_eq_true rfl) (hst := rfl) (fun b70r M71 n72 b70 => ?_)
        obtain ⟨T73, J74, v77, rfl, b78, b79, R80, f81, f82, f83⟩ := b70
        have I75 := I52.call J74 (tm_sub (by decide)) (Or.inl rfl)
        have t84 := J74.up t61
        replace f82 := Im.i f82
        replace f83 := Im.i f83
        have z85 := (rv_c I52 J74 (I52.up h_o0) (k := 16) rfl).trans z62
        have z86 := (rv_c I52 J74 (I52.up h_o0) (k := 17) rfl).trans z63
        have z87 := (rv_c I52 J74 (I52.up h_o0) (k := 19) rfl).trans z64
        have z88 := (rv_c I52 J74 (I52.up h_o0) (k := 22) rfl).trans z65
        have z89 := (rv_c I52 J74 (I52.up h_o0) (k := 23) rfl).trans z66
        have Z990 : pO M71 o0 pb pn pa ps := Z967.same (rE_hv I52 J74 (I52.up h_o0) 14 20 (by decide)) (rv_c I52 J74 (I52.up h_o0) (k := 23) rfl) (ra_call I52 J74 (I52.up h_o0) (k := 13) rfl rfl rfl)
        have d91 := Im.i (pO.w_3 Z967 (by have := R57.1 15 _ _ rfl; have := R57.1 16 _ _ rfl; have := R57.1 19 _ _ rfl; omega) (Im.o f82) (Im.o f83) (by have := R57.1 15 _ _ rfl; have := R57.1 16 _ _ rfl; have := R57.1 19 _ _ rfl; omega))
        clear z64 z65 z66
        have := mz_hi v77
        refine mv_if_eqZ (tgt := 52) (a := v77.toInt) d_TrustDeskModel_name_45 (by decide) rfl (fun b92 => ?_) (fun b92 => ?_)
        · refine mv_aload_n d_TrustDeskModel_name_52 rfl rfl ?_
          refine mv_ldcSw (id := 31) (tx := "bread") d_TrustDeskModel_name_53 (List.mem_of_getElem? (i := 21) rfl) ?_
          obtain ⟨_, b99, -⟩ := I75.1 _ _ t84
          refine mv_callV (kc' := 0) (ks' := 0) (As := [.ref 31]) (st9 := [.ref 31, .ref o0]) d_TrustDeskModel_name_56 lV_TrustDeskModel_244 b99 rfl (tc_TrustDeskModel_isWord_s1_31_x (d := d) (x9 := x9) (o0 := o0) t84 R80 I75.start) rfl (Nat.le_of_ble_eq_true rfl) (Nat.le_of_ble_eq_true rfl) (Nat.le_of_ble_eq_true rfl) (hst := rfl) (fun b93r M94 n95 b93 => ?_)
          obtain ⟨T96, J97, v100, rfl, b101, b102, R103, f104, f105, f106⟩ := b93
          have I98 := I75.call J97 (tm_sub (by decide)) (Or.inl rfl)
          have t107 := J97.up t84
          replace f105 := Im.i f105
          replace f106 := Im.i f106
          have z108 := (rv_c I75 J97 (I75.up h_o0) (k := 16) rfl).trans z85
          have z109 := (rv_c I75 J97 (I75.up h_o0) (k := 17) rfl).trans z86
          have z110 := (rv_c I75 J97 (I75.up h_o0) (k := 19) rfl).trans z87
          have z111 := (rv_c I75 J97 (I75.up h_o0) (k := 22) rfl).trans z88
          have z112 := (rv_c I75 J97 (I75.up h_o0) (k := 23) rfl).trans z89
          have Z9113 : pO M94 o0 pb pn pa ps := Z990.same (rE_hv I75 J97 (I75.up h_o0) 14 20 (by decide)) (rv_c I75 J97 (I75.up h_o0) (k := 23) rfl) (ra_call I75 J97 (I75.up h_o0) (k := 13) rfl rfl rfl)
          have d114 := Im.i (pO.w_4 Z990 (by have := R80.1 15 _ _ rfl; have := R80.1 16 _ _ rfl; have := R80.1 19 _ _ rfl; omega) (Im.o f105) (Im.o f106) (by have := R80.1 15 _ _ rfl; have := R80.1 16 _ _ rfl; have := R80.1 19 _ _ rfl; omega))
          clear z87 z88 z89
          have := mz_hi v100
          refine mv_if_eqZ (tgt := 66) (a := v100.toInt) d_TrustDeskModel_name_59 (by decide) rfl (fun b115 => ?_) (fun b115 => ?_)
          · refine mv_aload_n d_TrustDeskModel_name_66 rfl rfl ?_
            refine mv_ldcSw (id := 32) (tx := "coal") d_TrustDeskModel_name_67 (List.mem_of_getElem? (i := 22) rfl) ?_
            obtain ⟨_, b122, -⟩ := I98.1 _ _ t107
            refine mv_callV (kc' := 0) (ks' := 0) (As := [.ref 32]) (st9 := [.ref 32, .ref o0]) d_TrustDeskModel_name_70 lV_TrustDeskModel_244 b122 rfl (tc_TrustDeskModel_isWord_s1_32_x (d := d) (x9 := x9) (o0 := o0) t107 R103 I98.start) rfl (Nat.le_of_ble_eq_true rfl) (Nat.le_of_ble_eq_true rfl) (Nat.le_of_ble_eq_true rfl) (hst := rfl) (fun b116r M117 n118 b116 => ?_)
            obtain ⟨T119, J120, v123, rfl, b124, b125, R126, f127, f128, f129⟩ := b116
            have I121 := I98.call J120 (tm_sub (by decide)) (Or.inl rfl)
            have t130 := J120.up t107
            replace f128 := Im.i f128
            replace f129 := Im.i f129
            have z131 := (rv_c I98 J120 (I98.up h_o0) (k := 16) rfl).trans z108
            have z132 := (rv_c I98 J120 (I98.up h_o0) (k := 17) rfl).trans z109
            have z133 := (rv_c I98 J120 (I98.up h_o0) (k := 19) rfl).trans z110
            have z134 := (rv_c I98 J120 (I98.up h_o0) (k := 22) rfl).trans z111
            have z135 := (rv_c I98 J120 (I98.up h_o0) (k := 23) rfl).trans z112
            have Z9136 : pO M117 o0 pb pn pa ps := Z9113.same (rE_hv I98 J120 (I98.up h_o0) 14 20 (by decide)) (rv_c I98 J120 (I98.up h_o0) (k := 23) rfl) (ra_call I98 J120 (I98.up h_o0) (k := 13) rfl rfl rfl)
            have d137 := Im.i (pO.w_5 Z9113 (by have := R103.1 15 _ _ rfl; have := R103.1 16 _ _ rfl; have := R103.1 19 _ _ rfl; omega) (Im.o f128) (Im.o f129) (by have := R103.1 15 _ _ rfl; have := R103.1 16 _ _ rfl; have := R103.1 19 _ _ rfl; omega))
            clear z110 z111 z112
            have := mz_hi v123
            refine mv_if_eqZ (tgt := 80) (a := v123.toInt) d_TrustDeskModel_name_73 (by decide) rfl (fun b138 => ?_) (fun b138 => ?_)
            · refine mv_aload_n d_TrustDeskModel_name_80 rfl rfl ?_
              refine mv_ldcSw (id := 33) (tx := "rent") d_TrustDeskModel_name_81 (List.mem_of_getElem? (i := 23) rfl) ?_
              obtain ⟨_, b145, -⟩ := I121.1 _ _ t130
              refine mv_callV (kc' := 0) (ks' := 0) (As := [.ref 33]) (st9 := [.ref 33, .ref o0]) d_TrustDeskModel_name_84 lV_TrustDeskModel_244 b145 rfl (tc_TrustDeskModel_isWord_s1_33_x (d := d) (x9 := x9) (o0 := o0) t130 R126 I121.start) rfl (Nat.le_of_ble_eq_true rfl) (Nat.le_of_ble_eq_true rfl) (Nat.le_of_ble_eq_true rfl) (hst := rfl) (fun b139r M140 n141 b139 => ?_)
              obtain ⟨T142, J143, v146, rfl, b147, b148, R149, f150, f151, f152⟩ := b139
              have I144 := I121.call J143 (tm_sub (by decide)) (Or.inl rfl)
              have t153 := J143.up t130
              replace f151 := Im.i f151
              replace f152 := Im.i f152
              have z154 := (rv_c I121 J143 (I121.up h_o0) (k := 16) rfl).trans z131
              have z155 := (rv_c I121 J143 (I121.up h_o0) (k := 17) rfl).trans z132
              have z156 := (rv_c I121 J143 (I121.up h_o0) (k := 19) rfl).trans z133
              have z157 := (rv_c I121 J143 (I121.up h_o0) (k := 22) rfl).trans z134
              have z158 := (rv_c I121 J143 (I121.up h_o0) (k := 23) rfl).trans z135
              have Z9159 : pO M140 o0 pb pn pa ps := Z9136.same (rE_hv I121 J143 (I121.up h_o0) 14 20 (by decide)) (rv_c I121 J143 (I121.up h_o0) (k := 23) rfl) (ra_call I121 J143 (I121.up h_o0) (k := 13) rfl rfl rfl)
              have d160 := Im.i (pO.w_6 Z9136 (by have := R126.1 15 _ _ rfl; have := R126.1 16 _ _ rfl; have := R126.1 19 _ _ rfl; omega) (Im.o f151) (Im.o f152) (by have := R126.1 15 _ _ rfl; have := R126.1 16 _ _ rfl; have := R126.1 19 _ _ rfl; omega))
              clear z133 z134 z135
              have := mz_hi v146
              refine mv_if_eqZ (tgt := 95) (a := v146.toInt) d_TrustDeskModel_name_87 (by decide) rfl (fun b161 => ?_) (fun b161 => ?_)
              · refine mv_aload_n d_TrustDeskModel_name_95 rfl rfl ?_
                refine mv_ldcSw (id := 34) (tx := "lake") d_TrustDeskModel_name_96 (List.mem_of_getElem? (i := 24) rfl) ?_
                obtain ⟨_, b168, -⟩ := I144.1 _ _ t153
                refine mv_callV (kc' := 0) (ks' := 0) (As := [.ref 34]) (st9 := [.ref 34, .ref o0]) d_TrustDeskModel_name_99 lV_TrustDeskModel_244 b168 rfl (tc_TrustDeskModel_isWord_s1_34_x (d := d) (x9 := x9) (o0 := o0) t153 R149 I144.start) rfl (Nat.le_of_ble_eq_true rfl) (Nat.le_of_ble_eq_true rfl) (Nat.le_of_ble_eq_true rfl) (hst := rfl) (fun b162r M163 n164 b162 => ?_)
                obtain ⟨T165, J166, v169, rfl, b170, b171, R172, f173, f174, f175⟩ := b162
                have I167 := I144.call J166 (tm_sub (by decide)) (Or.inl rfl)
                have t176 := J166.up t153
                replace f174 := Im.i f174
                replace f175 := Im.i f175
                have z177 := (rv_c I144 J166 (I144.up h_o0) (k := 16) rfl).trans z154
                have z178 := (rv_c I144 J166 (I144.up h_o0) (k := 17) rfl).trans z155
                have z179 := (rv_c I144 J166 (I144.up h_o0) (k := 19) rfl).trans z156
                have z180 := (rv_c I144 J166 (I144.up h_o0) (k := 22) rfl).trans z157
                have z181 := (rv_c I144 J166 (I144.up h_o0) (k := 23) rfl).trans z158
                have Z9182 : pO M163 o0 pb pn pa ps := Z9159.same (rE_hv I144 J166 (I144.up h_o0) 14 20 (by decide)) (rv_c I144 J166 (I144.up h_o0) (k := 23) rfl) (ra_call I144 J166 (I144.up h_o0) (k := 13) rfl rfl rfl)
                have d183 := Im.i (pO.w_7 Z9159 (by have := R149.1 15 _ _ rfl; have := R149.1 16 _ _ rfl; have := R149.1 19 _ _ rfl; omega) (Im.o f174) (Im.o f175) (by have := R149.1 15 _ _ rfl; have := R149.1 16 _ _ rfl; have := R149.1 19 _ _ rfl; omega))
                clear z156 z157 z158
                have := mz_hi v169
                refine mv_if_eqZ (tgt := 110) (a := v169.toInt) d_TrustDeskModel_name_102 (by decide) rfl (fun b184 => ?_) (fun b184 => ?_)
                · refine mv_aload_n d_TrustDeskModel_name_110 rfl rfl ?_
                  refine mv_ldcSw (id := 35) (tx := "income") d_TrustDeskModel_name_111 (List.mem_of_getElem? (i := 25) rfl) ?_
                  obtain ⟨_, b191, -⟩ := I167.1 _ _ t176
                  refine mv_callV (kc' := 0) (ks' := 0) (As := [.ref 35]) (st9 := [.ref 35, .ref o0]) d_TrustDeskModel_name_114 lV_TrustDeskModel_244 b191 rfl (tc_TrustDeskModel_isWord_s1_35_x (d := d) (x9 := x9) (o0 := o0) t176 R172 I167.start) rfl (Nat.le_of_ble_eq_true rfl) (Nat.le_of_ble_eq_true rfl) (Nat.le_of_ble_eq_true rfl) (hst := rfl) (fun b185r M186 n187 b185 => ?_)
                  obtain ⟨T188, J189, v192, rfl, b193, b194, R195, f196, f197, f198⟩ := b185
                  have I190 := I167.call J189 (tm_sub (by decide)) (Or.inl rfl)
                  have t199 := J189.up t176
                  replace f197 := Im.i f197
                  replace f198 := Im.i f198
                  have z200 := (rv_c I167 J189 (I167.up h_o0) (k := 16) rfl).trans z177
                  have z201 := (rv_c I167 J189 (I167.up h_o0) (k := 17) rfl).trans z178
                  have z202 := (rv_c I167 J189 (I167.up h_o0) (k := 19) rfl).trans z179
                  have z203 := (rv_c I167 J189 (I167.up h_o0) (k := 22) rfl).trans z180
                  have z204 := (rv_c I167 J189 (I167.up h_o0) (k := 23) rfl).trans z181
                  have Z9205 : pO M186 o0 pb pn pa ps := Z9182.same (rE_hv I167 J189 (I167.up h_o0) 14 20 (by decide)) (rv_c I167 J189 (I167.up h_o0) (k := 23) rfl) (ra_call I167 J189 (I167.up h_o0) (k := 13) rfl rfl rfl)
                  have d206 := Im.i (pO.w_8 Z9182 (by have := R172.1 15 _ _ rfl; have := R172.1 16 _ _ rfl; have := R172.1 19 _ _ rfl; omega) (Im.o f197) (Im.o f198) (by have := R172.1 15 _ _ rfl; have := R172.1 16 _ _ rfl; have := R172.1 19 _ _ rfl; omega))
                  clear z179 z180 z181
                  have := mz_hi v192
                  refine mv_if_eqZ (tgt := 125) (a := v192.toInt) d_TrustDeskModel_name_117 (by decide) rfl (fun b207 => ?_) (fun b207 => ?_)
                  · refine mv_aload_n d_TrustDeskModel_name_125 rfl rfl ?_
                    refine mv_ldcSw (id := 36) (tx := "coin") d_TrustDeskModel_name_126 (List.mem_of_getElem? (i := 26) rfl) ?_
                    obtain ⟨_, b214, -⟩ := I190.1 _ _ t199
                    refine mv_callV (kc' := 0) (ks' := 0) (As := [.ref 36]) (st9 := [.ref 36, .ref o0]) d_TrustDeskModel_name_129 lV_TrustDeskModel_244 b214 rfl (tc_TrustDeskModel_isWord_s1_36_x (d := d) (x9 := x9) (o0 := o0) t199 R195 I190.start) rfl (Nat.le_of_ble_eq_true rfl) (Nat.le_of_ble_eq_true rfl) (Nat.le_of_ble_eq_true rfl) (hst := rfl) (fun b208r M209 n210 b208 => ?_)
                    obtain ⟨T211, J212, v215, rfl, b216, b217, R218, f219, f220, f221⟩ := b208
                    have I213 := I190.call J212 (tm_sub (by decide)) (Or.inl rfl)
                    have t222 := J212.up t199
                    replace f220 := Im.i f220
                    replace f221 := Im.i f221
                    have z223 := (rv_c I190 J212 (I190.up h_o0) (k := 16) rfl).trans z200
                    have z224 := (rv_c I190 J212 (I190.up h_o0) (k := 17) rfl).trans z201
                    have z225 := (rv_c I190 J212 (I190.up h_o0) (k := 19) rfl).trans z202
                    have z226 := (rv_c I190 J212 (I190.up h_o0) (k := 22) rfl).trans z203
                    have z227 := (rv_c I190 J212 (I190.up h_o0) (k := 23) rfl).trans z204
                    have Z9228 : pO M209 o0 pb pn pa ps := Z9205.same (rE_hv I190 J212 (I190.up h_o0) 14 20 (by decide)) (rv_c I190 J212 (I190.up h_o0) (k := 23) rfl) (ra_call I190 J212 (I190.up h_o0) (k := 13) rfl rfl rfl)
                    have d229 := Im.i (pO.w_9 Z9205 (by have := R195.1 15 _ _ rfl; have := R195.1 16 _ _ rfl; have := R195.1 19 _ _ rfl; omega) (Im.o f220) (Im.o f221) (by have := R195.1 15 _ _ rfl; have := R195.1 16 _ _ rfl; have := R195.1 19 _ _ rfl; omega))
                    clear z202 z203 z204
                    have := mz_hi v215
                    refine mv_if_eqZ (tgt := 140) (a := v215.toInt) d_TrustDeskModel_name_132 (by decide) rfl (fun b230 => ?_) (fun b230 => ?_)
                    · refine mv_iconst (v := (-1)) d_TrustDeskModel_name_140 (by decide) ?_
                      refine mv_istore_n (lv' := [(1, .int (-1)), (0, .ref o0)]) d_TrustDeskModel_name_141 rfl (by decide) rfl ?_
                      refine mv_iload_n d_TrustDeskModel_name_142 rfl rfl ?_
                      refine mv_iconst (v := (-1)) d_TrustDeskModel_name_143 (by decide) ?_
                      refine mv_icmp_ne_f (tgt := 154) d_TrustDeskModel_name_144 (by decide) (by decide) ?_
                      refine mv_aload_n d_TrustDeskModel_name_147 rfl rfl ?_
                      obtain ⟨v232, q231⟩ := tm_atI I213 t222 (k := 23) rfl
                      refine tr_getK q231 d_TrustDeskModel_name_148 f_TrustDeskModel_267_13 ?_
                      have := (tm_rv q231).symm.trans z227
                      have := tm_rv q231
                      have := mz_hi v232
                      refine mv_if_neZ (tgt := 156) (a := v232.toInt) d_TrustDeskModel_name_151 (by decide) rfl (fun b233 => ?_) (fun b233 => ?_)
                      · refine mv_aload_n d_TrustDeskModel_name_156 rfl rfl ?_
                        refine mv_ldcSw (id := 37) (tx := "living") d_TrustDeskModel_name_157 (List.mem_of_getElem? (i := 27) rfl) ?_
                        obtain ⟨_, b240, -⟩ := I213.1 _ _ t222
                        refine mv_callV (kc' := 0) (ks' := 0) (As := [.ref 37]) (st9 := [.ref 37, .ref o0]) d_TrustDeskModel_name_160 lV_TrustDeskModel_244 b240 rfl (tc_TrustDeskModel_isWord_s1_37_x (d := d) (x9 := x9) (o0 := o0) t222 R218 I213.start) rfl (Nat.le_of_ble_eq_true rfl) (Nat.le_of_ble_eq_true rfl) (Nat.le_of_ble_eq_true rfl) (hst := rfl) (fun b234r M235 n236 b234 => ?_)
                        obtain ⟨T237, J238, v241, rfl, b242, b243, R244, f245, f246, f247⟩ := b234
                        have I239 := I213.call J238 (tm_sub (by decide)) (Or.inl rfl)
                        have t248 := J238.up t222
                        replace f246 := Im.i f246
                        replace f247 := Im.i f247
                        have z249 := (rv_c I213 J238 (I213.up h_o0) (k := 16) rfl).trans z223
                        have z250 := (rv_c I213 J238 (I213.up h_o0) (k := 17) rfl).trans z224
                        have z251 := (rv_c I213 J238 (I213.up h_o0) (k := 19) rfl).trans z225
                        have z252 := (rv_c I213 J238 (I213.up h_o0) (k := 22) rfl).trans z226
                        have z253 := (rv_c I213 J238 (I213.up h_o0) (k := 23) rfl).trans z227
                        have Z9254 : pO M235 o0 pb pn pa ps := Z9228.same (rE_hv I213 J238 (I213.up h_o0) 14 20 (by decide)) (rv_c I213 J238 (I213.up h_o0) (k := 23) rfl) (ra_call I213 J238 (I213.up h_o0) (k := 13) rfl rfl rfl)
                        have d255 := Im.i (pO.w_10 Z9228 (by have := R218.1 15 _ _ rfl; have := R218.1 16 _ _ rfl; have := R218.1 19 _ _ rfl; omega) (Im.o f246) (Im.o f247) (by have := R218.1 15 _ _ rfl; have := R218.1 16 _ _ rfl; have := R218.1 19 _ _ rfl; omega))
                        clear z225 z226 z227
                        have q256 := J238.keep t222 (by decide) q231
                        have := mz_hi v241
                        refine mv_if_eqZ (tgt := 171) (a := v241.toInt) d_TrustDeskModel_name_163 (by decide) rfl (fun b257 => ?_) (fun b257 => ?_)
                        · refine mv_aload_n d_TrustDeskModel_name_171 rfl rfl ?_
                          refine mv_ldcSw (id := 38) (tx := "dead") d_TrustDeskModel_name_172 (List.mem_of_getElem? (i := 28) rfl) ?_
                          obtain ⟨_, b264, -⟩ := I239.1 _ _ t248
                          refine mv_callV (kc' := 0) (ks' := 0) (As := [.ref 38]) (st9 := [.ref 38, .ref o0]) d_TrustDeskModel_name_175 lV_TrustDeskModel_244 b264 rfl (tc_TrustDeskModel_isWord_s1_38_x (d := d) (x9 := x9) (o0 := o0) t248 R244 I239.start) rfl (Nat.le_of_ble_eq_true rfl) (Nat.le_of_ble_eq_true rfl) (Nat.le_of_ble_eq_true rfl) (hst := rfl) (fun b258r M259 n260 b258 => ?_)
                          obtain ⟨T261, J262, v265, rfl, b266, b267, R268, f269, f270, f271⟩ := b258
                          have I263 := I239.call J262 (tm_sub (by decide)) (Or.inl rfl)
                          have t272 := J262.up t248
                          replace f270 := Im.i f270
                          replace f271 := Im.i f271
                          have z273 := (rv_c I239 J262 (I239.up h_o0) (k := 16) rfl).trans z249
                          have z274 := (rv_c I239 J262 (I239.up h_o0) (k := 17) rfl).trans z250
                          have z275 := (rv_c I239 J262 (I239.up h_o0) (k := 19) rfl).trans z251
                          have z276 := (rv_c I239 J262 (I239.up h_o0) (k := 22) rfl).trans z252
                          have z277 := (rv_c I239 J262 (I239.up h_o0) (k := 23) rfl).trans z253
                          have Z9278 : pO M259 o0 pb pn pa ps := Z9254.same (rE_hv I239 J262 (I239.up h_o0) 14 20 (by decide)) (rv_c I239 J262 (I239.up h_o0) (k := 23) rfl) (ra_call I239 J262 (I239.up h_o0) (k := 13) rfl rfl rfl)
                          have d279 := Im.i (pO.w_11 Z9254 (by have := R244.1 15 _ _ rfl; have := R244.1 16 _ _ rfl; have := R244.1 19 _ _ rfl; omega) (Im.o f270) (Im.o f271) (by have := R244.1 15 _ _ rfl; have := R244.1 16 _ _ rfl; have := R244.1 19 _ _ rfl; omega))
                          clear z251 z252 z253
                          have q280 := J262.keep t248 (by decide) q256
                          have := mz_hi v265
                          refine mv_if_eqZ (tgt := 186) (a := v265.toInt) d_TrustDeskModel_name_178 (by decide) rfl (fun b281 => ?_) (fun b281 => ?_)
                          · refine mv_aload_n d_TrustDeskModel_name_186 rfl rfl ?_
                            refine mv_ldcSw (id := 39) (tx := "marks") d_TrustDeskModel_name_187 (List.mem_of_getElem? (i := 29) rfl) ?_
                            obtain ⟨_, b288, -⟩ := I263.1 _ _ t272
                            refine mv_callV (kc' := 0) (ks' := 0) (As := [.ref 39]) (st9 := [.ref 39, .ref o0]) d_TrustDeskModel_name_190 lV_TrustDeskModel_244 b288 rfl (tc_TrustDeskModel_isWord_s1_39_x (d := d) (x9 := x9) (o0 := o0) t272 R268 I263.start) rfl (Nat.le_of_ble_eq_true rfl) (Nat.le_of_ble_eq_true rfl) (Nat.le_of_ble_eq_true rfl) (hst := rfl) (fun b282r M283 n284 b282 => ?_)
                            obtain ⟨T285, J286, v289, rfl, b290, b291, R292, f293, f294, f295⟩ := b282
                            have I287 := I263.call J286 (tm_sub (by decide)) (Or.inl rfl)
                            have t296 := J286.up t272
                            replace f294 := Im.i f294
                            replace f295 := Im.i f295
                            have z297 := (rv_c I263 J286 (I263.up h_o0) (k := 16) rfl).trans z273
                            have z298 := (rv_c I263 J286 (I263.up h_o0) (k := 17) rfl).trans z274
                            have z299 := (rv_c I263 J286 (I263.up h_o0) (k := 19) rfl).trans z275
                            have z300 := (rv_c I263 J286 (I263.up h_o0) (k := 22) rfl).trans z276
                            have z301 := (rv_c I263 J286 (I263.up h_o0) (k := 23) rfl).trans z277
                            have Z9302 : pO M283 o0 pb pn pa ps := Z9278.same (rE_hv I263 J286 (I263.up h_o0) 14 20 (by decide)) (rv_c I263 J286 (I263.up h_o0) (k := 23) rfl) (ra_call I263 J286 (I263.up h_o0) (k := 13) rfl rfl rfl)
                            have d303 := Im.i (pO.w_12 Z9278 (by have := R268.1 15 _ _ rfl; have := R268.1 16 _ _ rfl; have := R268.1 19 _ _ rfl; omega) (Im.o f294) (Im.o f295) (by have := R268.1 15 _ _ rfl; have := R268.1 16 _ _ rfl; have := R268.1 19 _ _ rfl; omega))
                            clear z275 z276 z277
                            have q304 := J286.keep t272 (by decide) q280
                            have := mz_hi v289
                            refine mv_if_eqZ (tgt := 201) (a := v289.toInt) d_TrustDeskModel_name_193 (by decide) rfl (fun b305 => ?_) (fun b305 => ?_)
                            · refine mv_iconst (v := (-1)) d_TrustDeskModel_name_201 (by decide) ?_
                              exact mv_iret d_TrustDeskModel_name_202 rfl (by first | rfl | decide) ⟨_, I287, _, rfl, R292, (by decide), (by have h9 := Z9302.1.2.2.2.2; have w_0 := pW0 (Im.o d22) (by omega); have w_1 := pW0 (Im.o d45) (by omega); have w_2 := pW0 (Im.o d68) (by omega); have w_3 := pW0 (Im.o d91) (by omega); have w_4 := pW0 (Im.o d114) (by omega); have w_5 := pW0 (Im.o d137) (by omega); have w_6 := pW0 (Im.o d160) (by omega); have w_7 := pW0 (Im.o d183) (by omega); have w_8 := pW0 (Im.o d206) (by omega); have w_9 := pW0 (Im.o d229) (by omega); have w_10 := pW0 (Im.o d255) (by omega); have w_11 := pW0 (Im.o d279) (by omega); have w_12 := pW0 (Im.o d303) (by omega); have := p_no13 w_0 w_1 w_2 w_3 w_4 w_5 w_6 w_7 w_8 w_9 w_10 w_11 w_12; have e9 : ((-1) : Int32).toInt = (-1) := (by decide); clear w_0 w_1 w_2 w_3 w_4 w_5 w_6 w_7 w_8 w_9 w_10 w_11 w_12; omega)⟩
                            · refine mv_bipush (v := 12) d_TrustDeskModel_name_196 (by decide) ?_
                              refine mv_goto (tgt := 202) d_TrustDeskModel_name_198 (by decide) ?_
                              exact mv_iret d_TrustDeskModel_name_202 rfl (by first | rfl | decide) ⟨_, I287, _, rfl, R292, (by decide), (by have h9 := Z9302.1.2.2.2.2; have w_12 := pW1 (Im.o d303) (by omega); have e9 : (12 : Int32).toInt = 12 := (by decide); omega)⟩
                          · refine mv_bipush (v := 11) d_TrustDeskModel_name_181 (by decide) ?_
                            refine mv_goto (tgt := 202) d_TrustDeskModel_name_183 (by decide) ?_
                            exact mv_iret d_TrustDeskModel_name_202 rfl (by first | rfl | decide) ⟨_, I263, _, rfl, R268, (by decide), (by have h9 := Z9278.1.2.2.2.2; have w_11 := pW1 (Im.o d279) (by omega); have e9 : (11 : Int32).toInt = 11 := (by decide); omega)⟩
                        · refine mv_bipush (v := 10) d_TrustDeskModel_name_166 (by decide) ?_
                          refine mv_goto (tgt := 202) d_TrustDeskModel_name_168 (by decide) ?_
                          exact mv_iret d_TrustDeskModel_name_202 rfl (by first | rfl | decide) ⟨_, I239, _, rfl, R244, (by decide), (by have h9 := Z9254.1.2.2.2.2; have w_10 := pW1 (Im.o d255) (by omega); have e9 : (10 : Int32).toInt = 10 := (by decide); omega)⟩
                      · refine mv_iload_n d_TrustDeskModel_name_154 rfl rfl ?_
                        exact mv_iret d_TrustDeskModel_name_155 rfl (by first | rfl | decide) ⟨_, I213, _, rfl, R218, (by decide), (by have h9 := Z9228.1.2.2.2.2; have w_0 := pW0 (Im.o d22) (by omega); have w_1 := pW0 (Im.o d45) (by omega); have w_2 := pW0 (Im.o d68) (by omega); have w_3 := pW0 (Im.o d91) (by omega); have w_4 := pW0 (Im.o d114) (by omega); have w_5 := pW0 (Im.o d137) (by omega); have w_6 := pW0 (Im.o d160) (by omega); have w_7 := pW0 (Im.o d183) (by omega); have w_8 := pW0 (Im.o d206) (by omega); have w_9 := pW0 (Im.o d229) (by omega); have := p_no10 w_0 w_1 w_2 w_3 w_4 w_5 w_6 w_7 w_8 w_9; have e9 : ((-1) : Int32).toInt = (-1) := (by decide); clear w_0 w_1 w_2 w_3 w_4 w_5 w_6 w_7 w_8 w_9; omega)⟩
                    · refine mv_bipush (v := 9) d_TrustDeskModel_name_135 (by decide) ?_
                      refine mv_goto (tgt := 141) d_TrustDeskModel_name_137 (by decide) ?_
                      refine mv_istore_n (lv' := [(1, .int 9), (0, .ref o0)]) d_TrustDeskModel_name_141 rfl (by decide) rfl ?_
                      refine mv_iload_n d_TrustDeskModel_name_142 rfl rfl ?_
                      refine mv_iconst (v := (-1)) d_TrustDeskModel_name_143 (by decide) ?_
                      refine mv_icmp_ne_t (tgt := 154) d_TrustDeskModel_name_144 (by decide) (by decide) ?_
                      refine mv_iload_n d_TrustDeskModel_name_154 rfl rfl ?_
                      exact mv_iret d_TrustDeskModel_name_155 rfl (by first | rfl | decide) ⟨_, I213, _, rfl, R218, (by decide), (by have h9 := Z9228.1.2.2.2.2; have w_9 := pW1 (Im.o d229) (by omega); have e9 : (9 : Int32).toInt = 9 := (by decide); omega)⟩
                  · refine mv_bipush (v := 8) d_TrustDeskModel_name_120 (by decide) ?_
                    refine mv_goto (tgt := 141) d_TrustDeskModel_name_122 (by decide) ?_
                    refine mv_istore_n (lv' := [(1, .int 8), (0, .ref o0)]) d_TrustDeskModel_name_141 rfl (by decide) rfl ?_
                    refine mv_iload_n d_TrustDeskModel_name_142 rfl rfl ?_
                    refine mv_iconst (v := (-1)) d_TrustDeskModel_name_143 (by decide) ?_
                    refine mv_icmp_ne_t (tgt := 154) d_TrustDeskModel_name_144 (by decide) (by decide) ?_
                    refine mv_iload_n d_TrustDeskModel_name_154 rfl rfl ?_
                    exact mv_iret d_TrustDeskModel_name_155 rfl (by first | rfl | decide) ⟨_, I190, _, rfl, R195, (by decide), (by have h9 := Z9205.1.2.2.2.2; have w_8 := pW1 (Im.o d206) (by omega); have e9 : (8 : Int32).toInt = 8 := (by decide); omega)⟩
                · refine mv_bipush (v := 7) d_TrustDeskModel_name_105 (by decide) ?_
                  refine mv_goto (tgt := 141) d_TrustDeskModel_name_107 (by decide) ?_
                  refine mv_istore_n (lv' := [(1, .int 7), (0, .ref o0)]) d_TrustDeskModel_name_141 rfl (by decide) rfl ?_
                  refine mv_iload_n d_TrustDeskModel_name_142 rfl rfl ?_
                  refine mv_iconst (v := (-1)) d_TrustDeskModel_name_143 (by decide) ?_
                  refine mv_icmp_ne_t (tgt := 154) d_TrustDeskModel_name_144 (by decide) (by decide) ?_
                  refine mv_iload_n d_TrustDeskModel_name_154 rfl rfl ?_
                  exact mv_iret d_TrustDeskModel_name_155 rfl (by first | rfl | decide) ⟨_, I167, _, rfl, R172, (by decide), (by have h9 := Z9182.1.2.2.2.2; have w_7 := pW1 (Im.o d183) (by omega); have e9 : (7 : Int32).toInt = 7 := (by decide); omega)⟩
              · refine mv_bipush (v := 6) d_TrustDeskModel_name_90 (by decide) ?_
                refine mv_goto (tgt := 141) d_TrustDeskModel_name_92 (by decide) ?_
                refine mv_istore_n (lv' := [(1, .int 6), (0, .ref o0)]) d_TrustDeskModel_name_141 rfl (by decide) rfl ?_
                refine mv_iload_n d_TrustDeskModel_name_142 rfl rfl ?_
                refine mv_iconst (v := (-1)) d_TrustDeskModel_name_143 (by decide) ?_
                refine mv_icmp_ne_t (tgt := 154) d_TrustDeskModel_name_144 (by decide) (by decide) ?_
                refine mv_iload_n d_TrustDeskModel_name_154 rfl rfl ?_
                exact mv_iret d_TrustDeskModel_name_155 rfl (by first | rfl | decide) ⟨_, I144, _, rfl, R149, (by decide), (by have h9 := Z9159.1.2.2.2.2; have w_6 := pW1 (Im.o d160) (by omega); have e9 : (6 : Int32).toInt = 6 := (by decide); omega)⟩
            · refine mv_iconst (v := 5) d_TrustDeskModel_name_76 (by decide) ?_
              refine mv_goto (tgt := 141) d_TrustDeskModel_name_77 (by decide) ?_
              refine mv_istore_n (lv' := [(1, .int 5), (0, .ref o0)]) d_TrustDeskModel_name_141 rfl (by decide) rfl ?_
              refine mv_iload_n d_TrustDeskModel_name_142 rfl rfl ?_
              refine mv_iconst (v := (-1)) d_TrustDeskModel_name_143 (by decide) ?_
              refine mv_icmp_ne_t (tgt := 154) d_TrustDeskModel_name_144 (by decide) (by decide) ?_
              refine mv_iload_n d_TrustDeskModel_name_154 rfl rfl ?_
              exact mv_iret d_TrustDeskModel_name_155 rfl (by first | rfl | decide) ⟨_, I121, _, rfl, R126, (by decide), (by have h9 := Z9136.1.2.2.2.2; have w_5 := pW1 (Im.o d137) (by omega); have e9 : (5 : Int32).toInt = 5 := (by decide); omega)⟩
          · refine mv_iconst (v := 4) d_TrustDeskModel_name_62 (by decide) ?_
            refine mv_goto (tgt := 141) d_TrustDeskModel_name_63 (by decide) ?_
            refine mv_istore_n (lv' := [(1, .int 4), (0, .ref o0)]) d_TrustDeskModel_name_141 rfl (by decide) rfl ?_
            refine mv_iload_n d_TrustDeskModel_name_142 rfl rfl ?_
            refine mv_iconst (v := (-1)) d_TrustDeskModel_name_143 (by decide) ?_
            refine mv_icmp_ne_t (tgt := 154) d_TrustDeskModel_name_144 (by decide) (by decide) ?_
            refine mv_iload_n d_TrustDeskModel_name_154 rfl rfl ?_
            exact mv_iret d_TrustDeskModel_name_155 rfl (by first | rfl | decide) ⟨_, I98, _, rfl, R103, (by decide), (by have h9 := Z9113.1.2.2.2.2; have w_4 := pW1 (Im.o d114) (by omega); have e9 : (4 : Int32).toInt = 4 := (by decide); omega)⟩
        · refine mv_iconst (v := 3) d_TrustDeskModel_name_48 (by decide) ?_
          refine mv_goto (tgt := 141) d_TrustDeskModel_name_49 (by decide) ?_
          refine mv_istore_n (lv' := [(1, .int 3), (0, .ref o0)]) d_TrustDeskModel_name_141 rfl (by decide) rfl ?_
          refine mv_iload_n d_TrustDeskModel_name_142 rfl rfl ?_
          refine mv_iconst (v := (-1)) d_TrustDeskModel_name_143 (by decide) ?_
          refine mv_icmp_ne_t (tgt := 154) d_TrustDeskModel_name_144 (by decide) (by decide) ?_
          refine mv_iload_n d_TrustDeskModel_name_154 rfl rfl ?_
          exact mv_iret d_TrustDeskModel_name_155 rfl (by first | rfl | decide) ⟨_, I75, _, rfl, R80, (by decide), (by have h9 := Z990.1.2.2.2.2; have w_3 := pW1 (Im.o d91) (by omega); have e9 : (3 : Int32).toInt = 3 := (by decide); omega)⟩
      · refine mv_iconst (v := 2) d_TrustDeskModel_name_35 (by decide) ?_
        refine mv_goto (tgt := 141) d_TrustDeskModel_name_36 (by decide) ?_
        refine mv_istore_n (lv' := [(1, .int 2), (0, .ref o0)]) d_TrustDeskModel_name_141 rfl (by decide) rfl ?_
        refine mv_iload_n d_TrustDeskModel_name_142 rfl rfl ?_
        refine mv_iconst (v := (-1)) d_TrustDeskModel_name_143 (by decide) ?_
        refine mv_icmp_ne_t (tgt := 154) d_TrustDeskModel_name_144 (by decide) (by decide) ?_
        refine mv_iload_n d_TrustDeskModel_name_154 rfl rfl ?_
        exact mv_iret d_TrustDeskModel_name_155 rfl (by first | rfl | decide) ⟨_, I52, _, rfl, R57, (by decide), (by have h9 := Z967.1.2.2.2.2; have w_2 := pW1 (Im.o d68) (by omega); have e9 : (2 : Int32).toInt = 2 := (by decide); omega)⟩
    · refine mv_iconst (v := 1) d_TrustDeskModel_name_22 (by decide) ?_
      refine mv_goto (tgt := 141) d_TrustDeskModel_name_23 (by decide) ?_
      refine mv_istore_n (lv' := [(1, .int 1), (0, .ref o0)]) d_TrustDeskModel_name_141 rfl (by decide) rfl ?_
      refine mv_iload_n d_TrustDeskModel_name_142 rfl rfl ?_
      refine mv_iconst (v := (-1)) d_TrustDeskModel_name_143 (by decide) ?_
      refine mv_icmp_ne_t (tgt := 154) d_TrustDeskModel_name_144 (by decide) (by decide) ?_
      refine mv_iload_n d_TrustDeskModel_name_154 rfl rfl ?_
      exact mv_iret d_TrustDeskModel_name_155 rfl (by first | rfl | decide) ⟨_, I29, _, rfl, R34, (by decide), (by have h9 := Z944.1.2.2.2.2; have w_1 := pW1 (Im.o d45) (by omega); have e9 : (1 : Int32).toInt = 1 := (by decide); omega)⟩
  · refine mv_iconst (v := 0) d_TrustDeskModel_name_9 (by decide) ?_
    refine mv_goto (tgt := 141) d_TrustDeskModel_name_10 (by decide) ?_
    refine mv_istore_n (lv' := [(1, .int 0), (0, .ref o0)]) d_TrustDeskModel_name_141 rfl (by decide) rfl ?_
    refine mv_iload_n d_TrustDeskModel_name_142 rfl rfl ?_
    refine mv_iconst (v := (-1)) d_TrustDeskModel_name_143 (by decide) ?_
    refine mv_icmp_ne_t (tgt := 154) d_TrustDeskModel_name_144 (by decide) (by decide) ?_
    refine mv_iload_n d_TrustDeskModel_name_154 rfl rfl ?_
    exact mv_iret d_TrustDeskModel_name_155 rfl (by first | rfl | decide) ⟨_, I6, _, rfl, R11, (by decide), (by have h9 := Z921.1.2.2.2.2; have w_0 := pW1 (Im.o d22) (by omega); have e9 : (0 : Int32).toInt = 0 := (by decide); omega)⟩
