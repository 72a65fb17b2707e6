def w_Reader_begin_x : List Nat := [901, 902, 908, 909, 910, 911, 912, 913, 915, 916, 954, 955, 956, 957]
set_option maxHeartbeats 100000000 in theorem tc_Reader_begin_x {g : mj_G} {l : Launch} {d : Nat} {T0 : tm_H} {M0 : mj_M} {n0 x9 : Nat} {o0 : Nat} {x1 : Int32} (h_o0 : T0 o0 = some (0, 9, 0)) {pb : Nat → Int} {pn : Nat} (yB : qB M0 o0 pb pn) (y1 : x1.toInt = 10 ∨ x1.toInt = 13) (I0 : tm_I tm_FT (tm_in w_Reader_begin_x) x9 T0 M0 n0 T0 M0 n0) : mj_Met g l kY_Reader_begin (d + 9) [.ref o0, .int x1] M0 n0 0 0 (tm_Q tm_FT (tm_in w_Reader_begin_x) x9 T0 M0 n0 (fun r _ M => r = none ∧ (tm_at M o0 9 16 (.int 0)) ∧ (qC M o0 pb pn x1.toInt) ∧ (qS M o0 pb pn (0, 0, 0)))) := by
  refine mj_enter (by decide) (Nat.le_of_ble_eq_true rfl) ?_
  have hB : ∀ {T : tm_H} {M : mj_M} {n : Nat}, tm_I tm_FT (tm_in w_Reader_begin_x) x9 T0 M0 n0 T M n → qB M o0 pb pn := fun I => yB.keep I0.1 I h_o0 (by decide +kernel) (by decide +kernel) (by decide +kernel)
  have := yB.1
  have := yB.2.1
  refine mv_aload_n d_Reader_begin_0 rfl rfl ?_
  refine mv_iload_n d_Reader_begin_1 rfl rfl ?_
  refine tr_putK tm_okF I0 h_o0 (k := 15) rfl ⟨_, rfl⟩ (Or.inl (by decide)) d_Reader_begin_2 p_Reader_67_9 rfl rfl (fun M1 I2 q3 K4 => ?_)
  refine mv_aload_n d_Reader_begin_5 rfl rfl ?_
  refine mv_iconst (v := 0) d_Reader_begin_6 (by decide) ?_
  refine tr_putK tm_okF I2 h_o0 (k := 1) rfl ⟨_, rfl⟩ (Or.inl (by decide)) d_Reader_begin_7 p_Reader_70_9 rfl rfl (fun M5 I6 q7 K8 => ?_)
  refine mv_aload_n d_Reader_begin_10 rfl rfl ?_
  refine mv_iconst (v := (-1)) d_Reader_begin_11 (by decide) ?_
  refine tr_putK tm_okF I6 h_o0 (k := 2) rfl ⟨_, rfl⟩ (Or.inl (by decide)) d_Reader_begin_12 p_Reader_11_9 rfl rfl (fun M9 I10 q11 K12 => ?_)
  refine mv_aload_n d_Reader_begin_15 rfl rfl ?_
  refine mv_iconst (v := 0) d_Reader_begin_16 (by decide) ?_
  refine tr_putK tm_okF I10 h_o0 (k := 16) rfl ⟨_, rfl⟩ (Or.inl (by decide)) d_Reader_begin_17 p_Reader_73_9 rfl rfl (fun M13 I14 q15 K16 => ?_)
  refine mv_aload_n d_Reader_begin_20 rfl rfl ?_
  obtain ⟨_, b23, -⟩ := I14.1 _ _ h_o0
  refine mv_callV (kc' := 0) (ks' := 0) (As := []) (st9 := [.ref o0]) d_Reader_begin_21 lV_Reader_76 b23 rfl (tc_Reader_cut_x (d := d) (x9 := x9) (o0 := o0) h_o0 (hB I14) I14.start) rfl (Nat.le_of_ble_eq_true rfl) (Nat.le_of_ble_eq_true rfl) (Nat.le_of_ble_eq_true rfl) (hst := rfl) (fun b17r M18 n19 b17 => ?_)
  obtain ⟨T20, J21, rfl, f24⟩ := b17
  have I22 := I14.call J21 (tm_sub (by decide)) (Or.inl rfl)
  have t25 := J21.up h_o0
  have q26 := J21.keep h_o0 (by decide) (K16 _ 9 15 _ rfl (K12 _ 9 15 _ rfl (K8 _ 9 15 _ rfl q3)))
  have q27 := J21.keep h_o0 (by decide) (K16 _ 9 1 _ rfl (K12 _ 9 1 _ rfl q7))
  have q28 := J21.keep h_o0 (by decide) (K16 _ 9 2 _ rfl q11)
  have q29 := J21.keep h_o0 (by decide) q15
  obtain ⟨c30, h31, h32⟩ := f24
  refine mv_aload_n d_Reader_begin_24 rfl rfl ?_
  refine mv_iconst (v := (-1)) d_Reader_begin_25 (by decide) ?_
  refine tr_putKM tm_okF I22 t25 (k := 9) rfl ⟨_, rfl⟩ (Or.inl (by decide)) d_Reader_begin_26 p_Reader_79_9 rfl rfl (fun M33 I34 q35 K36 K36M => ?_)
  have h37 := h31.put9 I22 t25 (by decide) K36 K36M
  refine mv_aload_n d_Reader_begin_29 rfl rfl ?_
  obtain ⟨_, b44, -⟩ := I34.1 _ _ t25
  refine mv_callV (kc' := 0) (ks' := 0) (As := []) (st9 := [.ref o0]) d_Reader_begin_30 lV_Reader_82 b44 rfl (tc_Reader_advance_x (d := (d + 8)) (x9 := x9) (o0 := o0) t25 (ps := (0, 0, 0)) ⟨hB I34, (tm_rv (K36 _ 9 15 _ rfl q26)), y1, c30, h37, h32⟩ ⟨_, _, _, (K36 _ 9 1 _ rfl q27), (K36 _ 9 2 _ rfl q28), q35, by decide, fun h => absurd rfl h, fun _ => ⟨by decide, by decide⟩⟩ (by decide) I34.start) rfl (Nat.le_of_ble_eq_true rfl) (Nat.le_of_ble_eq_true rfl) (Nat.le_of_ble_eq_true rfl) (hst := rfl) (fun b38r M39 n40 b38 => ?_)
  obtain ⟨T41, J42, rfl, f45⟩ := b38
  have I43 := I34.call J42 (tm_sub (by decide)) (Or.inl rfl)
  have t46 := J42.up t25
  have q47 := J42.keep t25 (by decide) (K36 _ 9 15 _ rfl q26)
  have q48 := J42.keep t25 (by decide) (K36 _ 9 1 _ rfl q27)
  have q49 := J42.keep t25 (by decide) (K36 _ 9 2 _ rfl q28)
  have q50 := J42.keep t25 (by decide) (K36 _ 9 16 _ rfl q29)
  have h51 := (show qC M33 o0 pb pn x1.toInt from ⟨hB I34, (tm_rv (K36 _ 9 15 _ rfl q26)), y1, c30, h37, h32⟩).keep I34.1 J42 (I34.up h_o0) (qW_of (by decide +kernel))
  exact mv_vret d_Reader_begin_33 rfl ⟨_, I43, rfl, q50, h51, f45⟩
