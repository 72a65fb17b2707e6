abbrev kY_TrustDesk_fundOf : mj_Y := (⟨"TrustDesk", "fundOf", "(II)I"⟩, prog_1_method_38_code, 4, (Option.some Jvm.ClassFile.FieldType.int))
theorem d_TrustDesk_fundOf_21 : decode kY_TrustDesk_fundOf.2.1 21 = .ok (.iload_n 2, 1) := by decide +kernel
theorem d_TrustDesk_fundOf_22 : decode kY_TrustDesk_fundOf.2.1 22 = .ok (.tableswitch 109 0 9 #[54, 59, 64, 69, 77, 83, 89, 94, 99, 104], 54) := by decide +kernel
theorem d_TrustDesk_fundOf_131 : decode kY_TrustDesk_fundOf.2.1 131 = .ok (.new 442, 3) := by decide +kernel
theorem d_TrustDesk_fundOf_76 : decode kY_TrustDesk_fundOf.2.1 76 = .ok (.aload_n 3, 1) := by decide +kernel
theorem d_TrustDesk_fundOf_77 : decode kY_TrustDesk_fundOf.2.1 77 = .ok (.getfield 356, 3) := by decide +kernel
theorem d_TrustDesk_fundOf_80 : decode kY_TrustDesk_fundOf.2.1 80 = .ok (.ireturn, 1) := by decide +kernel
theorem d_TrustDesk_fundOf_81 : decode kY_TrustDesk_fundOf.2.1 81 = .ok (.aload_n 3, 1) := by decide +kernel
theorem d_TrustDesk_fundOf_82 : decode kY_TrustDesk_fundOf.2.1 82 = .ok (.getfield 449, 3) := by decide +kernel
theorem f_TrustDesk_449_6 : mj_fl "TrustDesk" 449 6 2 := ⟨kR_Fund, kF_Fund, 15, "TrustDesk$Fund", rfl, kg_6, by decide, (mj_in1 (List.mem_of_getElem? (i := 669) (by decide +kernel)) rfl), Or.inl rfl⟩
theorem d_TrustDesk_fundOf_85 : decode kY_TrustDesk_fundOf.2.1 85 = .ok (.ireturn, 1) := by decide +kernel
theorem d_TrustDesk_fundOf_86 : decode kY_TrustDesk_fundOf.2.1 86 = .ok (.aload_n 3, 1) := by decide +kernel
theorem d_TrustDesk_fundOf_87 : decode kY_TrustDesk_fundOf.2.1 87 = .ok (.getfield 372, 3) := by decide +kernel
theorem d_TrustDesk_fundOf_90 : decode kY_TrustDesk_fundOf.2.1 90 = .ok (.ireturn, 1) := by decide +kernel
theorem d_TrustDesk_fundOf_91 : decode kY_TrustDesk_fundOf.2.1 91 = .ok (.aload_n 3, 1) := by decide +kernel
theorem d_TrustDesk_fundOf_92 : decode kY_TrustDesk_fundOf.2.1 92 = .ok (.getfield 188, 3) := by decide +kernel
theorem d_TrustDesk_fundOf_95 : decode kY_TrustDesk_fundOf.2.1 95 = .ok (.invokevirtual 97, 3) := by decide +kernel
theorem d_TrustDesk_fundOf_98 : decode kY_TrustDesk_fundOf.2.1 98 = .ok (.ireturn, 1) := by decide +kernel
theorem d_TrustDesk_fundOf_99 : decode kY_TrustDesk_fundOf.2.1 99 = .ok (.aload_n 3, 1) := by decide +kernel
theorem d_TrustDesk_fundOf_100 : decode kY_TrustDesk_fundOf.2.1 100 = .ok (.iconst 0, 1) := by decide +kernel
theorem d_TrustDesk_fundOf_101 : decode kY_TrustDesk_fundOf.2.1 101 = .ok (.invokevirtual 369, 3) := by decide +kernel
theorem d_TrustDesk_fundOf_104 : decode kY_TrustDesk_fundOf.2.1 104 = .ok (.ireturn, 1) := by decide +kernel
theorem d_TrustDesk_fundOf_105 : decode kY_TrustDesk_fundOf.2.1 105 = .ok (.aload_n 3, 1) := by decide +kernel
theorem d_TrustDesk_fundOf_106 : decode kY_TrustDesk_fundOf.2.1 106 = .ok (.iconst 1, 1) := by decide +kernel
theorem d_TrustDesk_fundOf_107 : decode kY_TrustDesk_fundOf.2.1 107 = .ok (.invokevirtual 369, 3) := by decide +kernel
theorem d_TrustDesk_fundOf_110 : decode kY_TrustDesk_fundOf.2.1 110 = .ok (.ireturn, 1) := by decide +kernel
theorem d_TrustDesk_fundOf_111 : decode kY_TrustDesk_fundOf.2.1 111 = .ok (.aload_n 3, 1) := by decide +kernel
theorem d_TrustDesk_fundOf_112 : decode kY_TrustDesk_fundOf.2.1 112 = .ok (.getfield 452, 3) := by decide +kernel
theorem f_TrustDesk_452_6 : mj_fl "TrustDesk" 452 6 8 := ⟨kR_Fund, kF_Fund, 15, "TrustDesk$Fund", rfl, kg_6, by decide, (mj_in1 (List.mem_of_getElem? (i := 685) (by decide +kernel)) rfl), Or.inl rfl⟩
theorem d_TrustDesk_fundOf_115 : decode kY_TrustDesk_fundOf.2.1 115 = .ok (.ireturn, 1) := by decide +kernel
theorem d_TrustDesk_fundOf_116 : decode kY_TrustDesk_fundOf.2.1 116 = .ok (.aload_n 3, 1) := by decide +kernel
theorem d_TrustDesk_fundOf_117 : decode kY_TrustDesk_fundOf.2.1 117 = .ok (.getfield 455, 3) := by decide +kernel
theorem f_TrustDesk_455_6 : mj_fl "TrustDesk" 455 6 7 := ⟨kR_Fund, kF_Fund, 15, "TrustDesk$Fund", rfl, kg_6, by decide, (mj_in1 (List.mem_of_getElem? (i := 683) (by decide +kernel)) rfl), Or.inl rfl⟩
theorem d_TrustDesk_fundOf_120 : decode kY_TrustDesk_fundOf.2.1 120 = .ok (.ireturn, 1) := by decide +kernel
theorem d_TrustDesk_fundOf_121 : decode kY_TrustDesk_fundOf.2.1 121 = .ok (.aload_n 3, 1) := by decide +kernel
theorem d_TrustDesk_fundOf_122 : decode kY_TrustDesk_fundOf.2.1 122 = .ok (.getfield 458, 3) := by decide +kernel
theorem f_TrustDesk_458_6 : mj_fl "TrustDesk" 458 6 5 := ⟨kR_Fund, kF_Fund, 15, "TrustDesk$Fund", rfl, kg_6, by decide, (mj_in1 (List.mem_of_getElem? (i := 678) (by decide +kernel)) rfl), Or.inl rfl⟩
theorem d_TrustDesk_fundOf_125 : decode kY_TrustDesk_fundOf.2.1 125 = .ok (.ireturn, 1) := by decide +kernel
theorem d_TrustDesk_fundOf_126 : decode kY_TrustDesk_fundOf.2.1 126 = .ok (.aload_n 3, 1) := by decide +kernel
theorem d_TrustDesk_fundOf_127 : decode kY_TrustDesk_fundOf.2.1 127 = .ok (.getfield 388, 3) := by decide +kernel
theorem d_TrustDesk_fundOf_130 : decode kY_TrustDesk_fundOf.2.1 130 = .ok (.ireturn, 1) := by decide +kernel
def w_fo : List Nat := [30000]
theorem fo_tail {g : mj_G} {l : Launch} {d : Nat} {T0 : tm_H} {M0 : mj_M} {n0 x9 o0 o3 : Nat} {x1 x2 : Int32} (h_o0 : T0 o0 = some (0, 12, 0)) (h_o3 : T0 o3 = some (0, 6, 0)) (hx0 : 0 ≤ x2.toInt) (hx9 : x2.toInt ≤ 9) (I0 : tm_I tm_FT (tm_in w_fo) x9 T0 M0 n0 T0 M0 n0) : mj_V g l kY_TrustDesk_fundOf (d + 4) 21 [(3, .ref o3), (2, .int x2), (1, .int x1), (0, .ref o0)] [] M0 n0 0 0 (tm_Q tm_FT (tm_in w_fo) x9 T0 M0 n0 (fun r _ _ => ∃ v : Int32, r = some (.int v))) := by
  refine mv_iload_n d_TrustDesk_fundOf_21 rfl rfl ?_
  rcases (show (x2.toInt < 0 ∨ 9 < x2.toInt) ∨ x2.toInt = 0 ∨ x2.toInt = 1 ∨ x2.toInt = 2 ∨ x2.toInt = 3 ∨ x2.toInt = 4 ∨ x2.toInt = 5 ∨ x2.toInt = 6 ∨ x2.toInt = 7 ∨ x2.toInt = 8 ∨ x2.toInt = 9 by omega) with b1 | b1 | b1 | b1 | b1 | b1 | b1 | b1 | b1 | b1 | b1
  · refine mv_tableOut (tgt := 131) d_TrustDesk_fundOf_22 b1 (by decide) ?_
    exfalso
    omega
  · refine mv_tableIn (tgt := 76) (off := 54) d_TrustDesk_fundOf_22 (by omega) (by omega) (by rw [b1]; rfl) (by decide) ?_
    refine mv_aload_n d_TrustDesk_fundOf_76 rfl rfl ?_
    obtain ⟨v3, q2⟩ := tm_atI I0 h_o3 (k := 1) rfl
    refine tr_getK q2 d_TrustDesk_fundOf_77 f_TrustDesk_356_6 ?_
    exact mv_iret d_TrustDesk_fundOf_80 rfl (by first | rfl | decide) ⟨_, I0, _, rfl⟩
  · refine mv_tableIn (tgt := 81) (off := 59) d_TrustDesk_fundOf_22 (by omega) (by omega) (by rw [b1]; rfl) (by decide) ?_
    refine mv_aload_n d_TrustDesk_fundOf_81 rfl rfl ?_
    obtain ⟨v5, q4⟩ := tm_atI I0 h_o3 (k := 2) rfl
    refine tr_getK q4 d_TrustDesk_fundOf_82 f_TrustDesk_449_6 ?_
    exact mv_iret d_TrustDesk_fundOf_85 rfl (by first | rfl | decide) ⟨_, I0, _, rfl⟩
  · refine mv_tableIn (tgt := 86) (off := 64) d_TrustDesk_fundOf_22 (by omega) (by omega) (by rw [b1]; rfl) (by decide) ?_
    refine mv_aload_n d_TrustDesk_fundOf_86 rfl rfl ?_
    obtain ⟨v7, q6⟩ := tm_atI I0 h_o3 (k := 4) rfl
    refine tr_getK q6 d_TrustDesk_fundOf_87 f_TrustDesk_372_6 ?_
    exact mv_iret d_TrustDesk_fundOf_90 rfl (by first | rfl | decide) ⟨_, I0, _, rfl⟩
  · refine mv_tableIn (tgt := 91) (off := 69) d_TrustDesk_fundOf_22 (by omega) (by omega) (by rw [b1]; rfl) (by decide) ?_
    refine mv_aload_n d_TrustDesk_fundOf_91 rfl rfl ?_
    obtain ⟨a9, q8, t_a9⟩ := tm_atO I0 h_o3 (k := 11) rfl
    refine tr_getK q8 d_TrustDesk_fundOf_92 f_TrustDesk_188_6 ?_
    obtain ⟨m11, n15, e12, N13, f14, h10⟩ := I0.1 _ _ t_a9
    have := h10.2.1
    have : n15.toInt ≤ 72 := h10.2.2.1
    have q16 : tm_at M0 a9 0 2 (.int n15) := ⟨_, h10.1, rfl⟩
    refine mv_callV_s (kc' := 0) (ks' := 0) [] [.ref a9] d_TrustDesk_fundOf_95 lV_TrustDesk_97 h10.1 rfl (tc_L_size (d := (d + 3)) h10.1) rfl (Nat.le_of_ble_eq_true rfl) (Nat.le_of_ble_eq_true rfl) (Nat.le_of_ble_eq_true rfl) rfl ?_
    exact mv_iret d_TrustDesk_fundOf_98 rfl (by first | rfl | decide) ⟨_, I0, _, rfl⟩
  · refine mv_tableIn (tgt := 99) (off := 77) d_TrustDesk_fundOf_22 (by omega) (by omega) (by rw [b1]; rfl) (by decide) ?_
    refine mv_aload_n d_TrustDesk_fundOf_99 rfl rfl ?_
    refine mv_iconst (v := 0) d_TrustDesk_fundOf_100 (by decide) ?_
    obtain ⟨_, b23, -⟩ := I0.1 _ _ h_o3
    refine mv_callV (kc' := 0) (ks' := 0) (As := [.int 0]) (st9 := [.int 0, .ref o3]) d_TrustDesk_fundOf_101 lV_TrustDesk_369 b23 rfl (tc_Fund_endsIn (d := d) (x9 := x9) (o0 := o3) (x1 := 0) h_o3 I0.start) rfl (Nat.le_of_ble_eq_true rfl) (Nat.le_of_ble_eq_true rfl) (Nat.le_of_ble_eq_true rfl) (hst := rfl) (fun b17r M18 n19 b17 => ?_)
    obtain ⟨T20, J21, v24, rfl⟩ := b17
    have I22 := I0.call J21 (tm_sub (by decide)) (Or.inl rfl)
    have t25 := J21.up h_o3
    have t26 := J21.up h_o0
    exact mv_iret d_TrustDesk_fundOf_104 rfl (by first | rfl | decide) ⟨_, I22, _, rfl⟩
  · refine mv_tableIn (tgt := 105) (off := 83) d_TrustDesk_fundOf_22 (by omega) (by omega) (by rw [b1]; rfl) (by decide) ?_
    refine mv_aload_n d_TrustDesk_fundOf_105 rfl rfl ?_
    refine mv_iconst (v := 1) d_TrustDesk_fundOf_106 (by decide) ?_
    obtain ⟨_, b33, -⟩ := I0.1 _ _ h_o3
    refine mv_callV (kc' := 0) (ks' := 0) (As := [.int 1]) (st9 := [.int 1, .ref o3]) d_TrustDesk_fundOf_107 lV_TrustDesk_369 b33 rfl (tc_Fund_endsIn (d := d) (x9 := x9) (o0 := o3) (x1 := 1) h_o3 I0.start) rfl (Nat.le_of_ble_eq_true rfl) (Nat.le_of_ble_eq_true rfl) (Nat.le_of_ble_eq_true rfl) (hst := rfl) (fun b27r M28 n29 b27 => ?_)
    obtain ⟨T30, J31, v34, rfl⟩ := b27
    have I32 := I0.call J31 (tm_sub (by decide)) (Or.inl rfl)
    have t35 := J31.up h_o3
    have t36 := J31.up h_o0
    exact mv_iret d_TrustDesk_fundOf_110 rfl (by first | rfl | decide) ⟨_, I32, _, rfl⟩
  · refine mv_tableIn (tgt := 111) (off := 89) d_TrustDesk_fundOf_22 (by omega) (by omega) (by rw [b1]; rfl) (by decide) ?_
    refine mv_aload_n d_TrustDesk_fundOf_111 rfl rfl ?_
    obtain ⟨v38, q37⟩ := tm_atI I0 h_o3 (k := 8) rfl
    refine tr_getK q37 d_TrustDesk_fundOf_112 f_TrustDesk_452_6 ?_
    exact mv_iret d_TrustDesk_fundOf_115 rfl (by first | rfl | decide) ⟨_, I0, _, rfl⟩
  · refine mv_tableIn (tgt := 116) (off := 94) d_TrustDesk_fundOf_22 (by omega) (by omega) (by rw [b1]; rfl) (by decide) ?_
    refine mv_aload_n d_TrustDesk_fundOf_116 rfl rfl ?_
    obtain ⟨v40, q39⟩ := tm_atI I0 h_o3 (k := 7) rfl
    refine tr_getK q39 d_TrustDesk_fundOf_117 f_TrustDesk_455_6 ?_
    exact mv_iret d_TrustDesk_fundOf_120 rfl (by first | rfl | decide) ⟨_, I0, _, rfl⟩
  · refine mv_tableIn (tgt := 121) (off := 99) d_TrustDesk_fundOf_22 (by omega) (by omega) (by rw [b1]; rfl) (by decide) ?_
    refine mv_aload_n d_TrustDesk_fundOf_121 rfl rfl ?_
    obtain ⟨v42, q41⟩ := tm_atI I0 h_o3 (k := 5) rfl
    refine tr_getK q41 d_TrustDesk_fundOf_122 f_TrustDesk_458_6 ?_
    exact mv_iret d_TrustDesk_fundOf_125 rfl (by first | rfl | decide) ⟨_, I0, _, rfl⟩
  · refine mv_tableIn (tgt := 126) (off := 104) d_TrustDesk_fundOf_22 (by omega) (by omega) (by rw [b1]; rfl) (by decide) ?_
    refine mv_aload_n d_TrustDesk_fundOf_126 rfl rfl ?_
    obtain ⟨v44, q43⟩ := tm_atI I0 h_o3 (k := 6) rfl
    refine tr_getK q43 d_TrustDesk_fundOf_127 f_TrustDesk_388_6 ?_
    exact mv_iret d_TrustDesk_fundOf_130 rfl (by first | rfl | decide) ⟨_, I0, _, rfl⟩
theorem d_TrustDesk_fundOf_0 : decode kY_TrustDesk_fundOf.2.1 0 = .ok (.aload_n 0, 1) := by decide +kernel
theorem d_TrustDesk_fundOf_1 : decode kY_TrustDesk_fundOf.2.1 1 = .ok (.iload_n 1, 1) := by decide +kernel
theorem d_TrustDesk_fundOf_2 : decode kY_TrustDesk_fundOf.2.1 2 = .ok (.invokevirtual 257, 3) := by decide +kernel
theorem d_TrustDesk_fundOf_5 : decode kY_TrustDesk_fundOf.2.1 5 = .ok (.astore_n 3, 1) := by decide +kernel
theorem d_TrustDesk_fundOf_6 : decode kY_TrustDesk_fundOf.2.1 6 = .ok (.aload_n 3, 1) := by decide +kernel
theorem d_TrustDesk_fundOf_7 : decode kY_TrustDesk_fundOf.2.1 7 = .ok (.ifnonnull 14, 3) := by decide +kernel
theorem d_TrustDesk_fundOf_10 : decode kY_TrustDesk_fundOf.2.1 10 = .ok (.new 442, 3) := by decide +kernel
theorem d_TrustDesk_fundOf_13 : decode kY_TrustDesk_fundOf.2.1 13 = .ok (.dup, 1) := by decide +kernel
theorem d_TrustDesk_fundOf_14 : decode kY_TrustDesk_fundOf.2.1 14 = .ok (.ldc_w 444, 3) := by decide +kernel
theorem d_TrustDesk_fundOf_17 : decode kY_TrustDesk_fundOf.2.1 17 = .ok (.invokespecial 446, 3) := by decide +kernel
theorem d_TrustDesk_fundOf_20 : decode kY_TrustDesk_fundOf.2.1 20 = .ok (.athrow, 1) := by decide +kernel
theorem d_TrustDesk_fundOf_134 : decode kY_TrustDesk_fundOf.2.1 134 = .ok (.dup, 1) := by decide +kernel
theorem d_TrustDesk_fundOf_135 : decode kY_TrustDesk_fundOf.2.1 135 = .ok (.ldc_w 461, 3) := by decide +kernel
theorem d_TrustDesk_fundOf_138 : decode kY_TrustDesk_fundOf.2.1 138 = .ok (.invokespecial 446, 3) := by decide +kernel
theorem d_TrustDesk_fundOf_141 : decode kY_TrustDesk_fundOf.2.1 141 = .ok (.athrow, 1) := by decide +kernel
/-! fundOf: the one call that throws, and the law's method that catches it -/
theorem mj_R.grow {g : mj_G} {M : mj_M} {nx : Nat} {H H1 : Heap} (hR : mj_R g M nx H) (z : H.size ≤ H1.size) (oq : ∀ q : Nat, q < H.size → H1[q]? = H[q]?) : ∃ nx', nx ≤ nx' ∧ mj_R g M nx' H1 := by
  have hn := hR.2.1
  have hs := hR.2.2
  rw [mj_r_ge hn] at hs
  refine ⟨64 + (H1.size - g.1), by omega, fun b c hb => ?_, by omega, by rw [mj_r_ge (by omega)]; omega⟩
  obtain ⟨e1, e2, e3⟩ := hR.1 b c hb
  exact ⟨e1, by omega, e3.kept (oq _ (by rw [mj_r_ge e1, hs]; omega))⟩
theorem tm_I.more {FT : Nat → List tm_F} {W : Nat → Bool} {x n0 n n1 : Nat} {T0 T : tm_H} {M0 M : mj_M} (I : tm_I FT W x T0 M0 n0 T M n) (h : n ≤ n1) : tm_I FT W x T0 M0 n0 T M n1 := by
  obtain ⟨i1, i2, i3, i4, i5, i6, i7, i8⟩ := I
  exact ⟨i1, fun a t ht => ⟨(i2 a t ht).1, Nat.lt_of_lt_of_le (i2 a t ht).2 h⟩, i3, Nat.le_trans i4 h, i5, i6, i7, i8⟩
/-- typed memory, in a heap -/
def fo_B (g : mj_G) (x : Nat) (T0 : tm_H) (M0 : mj_M) (n0 : Nat) : State → Prop := fun t => ∃ (T : tm_H) (M : mj_M) (nx : Nat), tm_I tm_FT (tm_in w_fo) x T0 M0 n0 T M nx ∧ mj_R g M nx t.heap
abbrev kE_no : String := "java/util/NoSuchElementException"
abbrev kE_at : List Cond := (th_at "TrustDesk" 446 kE_no 13 prog_37_method_4_code "java/lang/RuntimeException" ["java/lang/Exception"]).filter vx_no
theorem fo_words : ∀ w ∈ kE_at, w ∈ mj_T := by
  intro w hw
  have h := List.all_eq_true.mp (show (kE_at).all (fun w => decide (w ∈ tables_1) && mj_good w) = true by decide +kernel) w hw
  simp only [Bool.and_eq_true, decide_eq_true_eq] at h
  exact mj_in1 h.1 h.2
theorem fo_good : ∀ w ∈ Cond.classLink "TrustDesk" 442 kE_no :: Cond.initialized kE_no :: kE_at, vx_ot w = true := by
  intro w hw
  exact List.all_eq_true.mp (show (Cond.classLink "TrustDesk" 442 kE_no :: Cond.initialized kE_no :: kE_at).all vx_ot = true by decide +kernel) w hw
theorem fo_k : Cond.classLink "TrustDesk" 442 kE_no ∈ mj_T ∧ Cond.initialized kE_no ∈ mj_T := ⟨mj_in1 (by decide +kernel) rfl, mj_in1 (by decide +kernel) rfl⟩
theorem th_0 : decode prog_37_method_4_code 0 = .ok (.aload_n 0, 1) := by decide +kernel
theorem th_1 : decode prog_37_method_4_code 1 = .ok (.aload_n 1, 1) := by decide +kernel
theorem th_2 : decode prog_37_method_4_code 2 = .ok (.invokespecial 13, 3) := by decide +kernel
theorem th_5 : decode prog_37_method_4_code 5 = .ok (.return_, 1) := by decide +kernel
theorem fo_str : ("TrustDesk", 444, "no such fund", 12) ∈ mj_strs := List.mem_of_getElem? (i := 2) rfl
theorem fo_str2 : ("TrustDesk", 461, "no such question", 13) ∈ mj_strs := List.mem_of_getElem? (i := 3) rfl
theorem fo_ret {p : Program} {l : Launch} {e : Env} {R : Room} {s : State} {m : MethodId} {args : Array Value} {below : List Frame} {meth : Method} {c : Code} {H : Heap} {locs : List Loc} {cells slots mc ms : Nat} {free : Addr → Prop} {Qc Qc' : Array Value → State → Outcome → State → Prop} {F : JFrame} (h : ∀ o t, Qc args s o t → Qc' args s o t) (k : W p l e R s m args below meth c H locs cells slots (MQ below Qc args s mc ms free) F) : W p l e R s m args below meth c H locs cells slots (MQ below Qc' args s mc ms free) F := by
  intro T hT X
  obtain ⟨t, a, o, b1, b2, b3, b4⟩ := k T hT X
  exact ⟨t, a, o, b1, b2, h _ _ b3, b4⟩
set_option maxHeartbeats 4000000 in
theorem fo_desk {g : mj_G} {l : Launch} {d x : Nat} {T0 : tm_H} {M0 : mj_M} {n0 : Nat} (hlt : l.stackTraces = false) {x1 x2 : Int32} (h64 : T0 64 = some (0, 12, 0)) (I0 : tm_I tm_FT (tm_in w_fo) x T0 M0 n0 T0 M0 n0) :
    vx_Met l kY_TrustDesk_fundOf.1 (mj_ws kY_TrustDesk_fundOf) (mj_rm0 (d + 6) 1 6) (mj_Pc g [.ref 64, .int x1, .int x2] M0 n0) (va_Qi (S := Unit) (fun _ _ => True) (fun _ t => fo_B g x T0 M0 n0 t) (mj_A g)) (vx_X (S := Unit) (fun _ => True) (fun E _ t => E = kE_no ∧ fo_B g x T0 M0 n0 t) (mj_A g)) 1 6 (mj_A g) := by
  refine vx_ofW (cc := kY_TrustDesk_fundOf.2.1) (maxL := 4) (ret := some .int) (by decide) rfl ?_
  intro p e s m args below meth c s₁ B hml hno hv
  obtain ⟨rfl, hR, hK, hZ⟩ := hv
  have hts0 := atoms_spec (ws := mj_ws kY_TrustDesk_fundOf) B.pre
  have hts : ∀ w ∈ mj_T, w.before _ s = true := fun w hw => hts0 w (List.mem_cons_of_mem _ hw)
  have hx := B.exec
  have hb := B.bytes
  have hown := findClass_of_methodNamed B.named
  have hlk := B.notSynchronized
  have hl := lv_entry ([.ref (mj_r g 64), .int x1, .int x2]) (n := 4) (Nat.le_of_ble_eq_true rfl)
  have hge : g.1 ≤ s.heap.size := by
    rw [hR.2.2, mj_r_ge hR.2.1]
    omega
  have X : mj_X g kY_TrustDesk_fundOf (d + 6) p (mj_rm0 (d + 6) 1 6) s m _ meth c := ⟨hx, hb, hml, B.returns, hlk, hown, (fun h9 => (name_of_methodNamed B.named B.method).1.trans h9), hts, hK, hZ, Nat.le_refl _, Nat.le_refl _, hge⟩
  have hS : va_S (mj_A g) s.heap s.heap [] := va_S.rf
  obtain ⟨fs64, h_64, -⟩ := I0.1 _ _ h64
  rw [show (List.map (mj_v g) [Value.ref 64, .int x1, .int x2]) = [.ref (mj_r g 64), .int x1, .int x2] from rfl, lg_entry_eq]
  generalize (lg_sl ([.ref (mj_r g 64), .int x1, .int x2]) ++ List.replicate (4 - (lg_sl ([.ref (mj_r g 64), .int x1, .int x2])).length) Slot.unset).toArray = ls at hl ⊢
  have hl : lv_has ls 4 [(0, .ref (mj_r g 64)), (1, .int x1), (2, .int x2)] := hl
  refine lv_aload_n hx hb d_TrustDesk_fundOf_0 rfl (lv_at hl 0 rfl) ?_
  refine lv_iload_n hx hb d_TrustDesk_fundOf_1 rfl (lv_at hl 1 rfl) ?_
  obtain ⟨hw1, hw2, hw3⟩ := lV_TrustDesk_257
  have hrun := va_runV (e := e) (below := below) (meth := meth) (m := m) (cells := 0) (slots := 0) (locs := []) (g := F0 m 2 ls [.int x1, .ref (mj_r g 64)]) (rest := []) (As := [.int x1]) (b := mj_r g 64) (H := s.heap) ⟨hx, hb, hml, hown, hts⟩ (tc_TrustDesk_fundAt (g := g) (l := l) (d := d + 2) (x9 := x) (o0 := 64) (x1 := x1) h64 I0.start) ⟨mj_cB (R := mj_rm0 (d + 6) 1 6) (d := d + 5) hts hw1 (Nat.le_refl _) (Nat.le_refl _), hts _ hw2, hts _ hw3⟩ ⟨mj_Pc_blind, va_recv hK (mj_one (hR.1 64 _ h_64).2.2) rfl (q0 := 0) rfl, mj_Pc_at (As := [.ref 64, .int x1]) X hR hS⟩ rfl rfl hl.1 rfl (lv_room (Nat.le_of_ble_eq_true rfl)) d_TrustDesk_fundOf_2 ⟨Nat.zero_le _, Nat.zero_le _⟩
  refine mj_back hrun hS fun r M' nx' H1 locs1 hq hR1 hS1 => ?_
  obtain ⟨T1, J1, hr⟩ := hq
  have I1 := I0.call J1 (tm_sub (by decide)) (Or.inl rfl)
  have hthrow : ∀ {is : Nat} {tx : String} {id pc : Nat} {ls : Array Slot} {lv : List (Nat × Value)}, ("TrustDesk", is, tx, id) ∈ mj_strs → lv_has ls 4 lv → decode kY_TrustDesk_fundOf.2.1 pc = .ok (.new 442, 3) → decode kY_TrustDesk_fundOf.2.1 (pc + 3) = .ok (.dup, 1) → decode kY_TrustDesk_fundOf.2.1 (pc + 4) = .ok (.ldc_w is, 3) → decode kY_TrustDesk_fundOf.2.1 (pc + 7) = .ok (.invokespecial 446, 3) → decode kY_TrustDesk_fundOf.2.1 (pc + 10) = .ok (.athrow, 1) → W p l e (mj_rm0 (d + 6) 1 6) s m ([Value.ref (mj_r g 64), .int x1, .int x2] : List Value).toArray below meth c H1 locs1 (0 + 0) (0 + 0) (vx_MQ below (va_Qi (S := Unit) (fun _ _ => True) (fun _ t => fo_B g x T0 M0 n0 t) (mj_A g)) (vx_X (S := Unit) (fun _ => True) (fun E _ t => E = kE_no ∧ fo_B g x T0 M0 n0 t) (mj_A g)) ([Value.ref (mj_r g 64), .int x1, .int x2] : List Value).toArray s 1 6 (mj_A g)) (F0 m pc ls []) := by
    intro is tx id pc ls lv hs9 hl d0 d3 d4 d7 d10
    have hstr : vk_R "TrustDesk" is tx (mj_r g id) s := hZ.2.2.2.2.2.2.1 _ hs9
    refine th_throwSW (is := is) (ic := 446) (ik := 442) hx hb hlt (x0 := th_0) (x1 := th_1) (x2 := th_2) (x5 := th_5) hown (by decide +kernel) (by decide +kernel) (by decide +kernel) (hts _ fo_k.1) (hts _ fo_k.2) hstr (fun w hw => hts w (fo_words w hw)) fo_good hZ.2.2.2.2.2.1.1 hZ.2.2.2.2.2.1.2 hS1 (hl.1.trans hml.symm) d0 d3 d4 d7 d10 (fun x hx => (hno x hx).elim) ?_ ?_ (Nat.le_refl _) (Nat.le_refl _) hlk (fun t ha hz ho => ?_) hS1.2.2 (Nat.le_refl _) (Nat.le_refl _)
    · show 1 + 4 < d + 6
      omega
    · show 0 + (13 * 3 + 43) ≤ 100 * (d + 6)
      omega
    · obtain ⟨nx2, hle, hR2⟩ := hR1.grow hz ho
      refine ⟨(), trivial, ⟨rfl, T1, M', nx2, I1.more hle, hR2⟩, Nat.le_trans hS1.1 hz, fun q h1 h2 => ?_⟩
      rw [ho q (Nat.lt_of_lt_of_le h1 hS1.1)]
      exact hS1.2.1 q h1 h2
  rcases hr with rfl | ⟨b, rfl, tb⟩
  · refine lv_astore_nN (lv' := [(3, .null), (0, .ref (mj_r g 64)), (1, .int x1), (2, .int x2)]) hx hb d_TrustDesk_fundOf_5 rfl hl (by decide) rfl (fun ls hl => ?_)
    refine lv_aload_nN hx hb d_TrustDesk_fundOf_6 rfl (lv_at hl 0 rfl) ?_
    refine lv_ifnonnullN hx hb d_TrustDesk_fundOf_7 ?_
    exact hthrow fo_str hl d_TrustDesk_fundOf_10 d_TrustDesk_fundOf_13 d_TrustDesk_fundOf_14 d_TrustDesk_fundOf_17 d_TrustDesk_fundOf_20
  · refine lv_astore_n (lv' := [(3, .ref (mj_r g b)), (0, .ref (mj_r g 64)), (1, .int x1), (2, .int x2)]) hx hb d_TrustDesk_fundOf_5 rfl hl (by decide) rfl (fun ls hl => ?_)
    refine lv_aload_n hx hb d_TrustDesk_fundOf_6 rfl (lv_at hl 0 rfl) ?_
    refine lv_ifnonnull (tgt := 21) hx hb d_TrustDesk_fundOf_7 (by decide) ?_
    by_cases hx9 : 0 ≤ x2.toInt ∧ x2.toInt ≤ 9
    · refine vx_ret (fo_ret (fun o t h => ?_) (fo_tail (g := g) (l := l) (d := d + 2) (x9 := x) (o0 := 64) (o3 := b) (x1 := x1) (x2 := x2) (J1.up h64) tb hx9.1 hx9.2 I1.start p e _ s m _ below meth c H1 locs1 ls 0 0 1 6 X hR1 hS1 ⟨hl.1, hl.2.1, fun q hq => ?_⟩ (by decide) (by decide) (Nat.le_refl _) (Nat.le_refl _)))
      · obtain ⟨⟨r, M2, n2, h1, ⟨T2, J2, v, rfl⟩, h3⟩, h4⟩ := h
        exact ⟨⟨v, (), h1, trivial, T2, M2, n2, I1.call J2 (fun _ h => h) (Or.inl rfl), h3⟩, h4⟩
      · have hq : q ∈ [(3, Value.ref (mj_r g b)), (2, .int x2), (1, .int x1), (0, .ref (mj_r g 64))] := hq
        refine hl.2.2 q ?_
        simp only [List.mem_cons, List.not_mem_nil, or_false] at hq ⊢
        rcases hq with h | h | h | h
        · exact Or.inl h
        · exact Or.inr (Or.inr (Or.inr h))
        · exact Or.inr (Or.inr (Or.inl h))
        · exact Or.inr (Or.inl h)
    · refine lv_iload_n hx hb d_TrustDesk_fundOf_21 rfl (lv_at hl 3 rfl) ?_
      refine lv_tableOut (tgt := 131) hx hb d_TrustDesk_fundOf_22 (by omega) (by decide) ?_
      exact hthrow fo_str2 hl d_TrustDesk_fundOf_131 d_TrustDesk_fundOf_134 d_TrustDesk_fundOf_135 d_TrustDesk_fundOf_138 d_TrustDesk_fundOf_141
/-! the law's own fundOf -/
def kY_fo : MethodName := ⟨"TrustDeskLaw", "fundOf", "(LTrustDesk;II[J)I"⟩
abbrev kB_fo : ByteArray := method_3_code
abbrev kY_foy : mj_Y := (kY_fo, kB_fo, 5, some .int)
def kW_fo : List Cond := Cond.codeWith kY_fo kB_fo 5 (some .int) [(0, 10, 13, 13)] :: mj_T
theorem fl_0 : decode kB_fo 0 = .ok (.aload_n 3, 1) := by decide +kernel
theorem fl_1 : decode kB_fo 1 = .ok (.iconst 0, 1) := by decide +kernel
theorem fl_2 : decode kB_fo 2 = .ok (.aload_n 0, 1) := by decide +kernel
theorem fl_3 : decode kB_fo 3 = .ok (.iload_n 1, 1) := by decide +kernel
theorem fl_4 : decode kB_fo 4 = .ok (.iload_n 2, 1) := by decide +kernel
theorem fl_5 : decode kB_fo 5 = .ok (.invokevirtual 7, 3) := by decide +kernel
theorem fl_8 : decode kY_foy.2.1 8 = .ok (.i2l, 1) := by decide +kernel
theorem fl_9 : decode kY_foy.2.1 9 = .ok (.lastore, 1) := by decide +kernel
theorem fl_10 : decode kY_foy.2.1 10 = .ok (.goto 7, 3) := by decide +kernel
theorem fl_17 : decode kY_foy.2.1 17 = .ok (.iconst 0, 1) := by decide +kernel
theorem fl_18 : decode kY_foy.2.1 18 = .ok (.ireturn, 1) := by decide +kernel
theorem fl_13 : decode kB_fo 13 = .ok (.astore 4, 2) := by decide +kernel
theorem fl_15 : decode kB_fo 15 = .ok (.iconst 1, 1) := by decide +kernel
theorem fl_16 : decode kB_fo 16 = .ok (.ireturn, 1) := by decide +kernel
theorem fl_w : mj_lV "TrustDeskLaw" 7 kY_TrustDesk_fundOf 2 := ⟨⟨mj_in1 (by decide +kernel) rfl, mj_in1 (by decide +kernel) rfl, mj_in1 (by decide +kernel) rfl, by decide, rfl, by decide⟩, mj_in1 (by decide +kernel) rfl, mj_in1 (by decide +kernel) rfl⟩
theorem fl_k : Cond.classLink "TrustDeskLaw" 13 kE_no ∈ mj_T ∧ Cond.castable kE_no kE_no ∈ mj_T := ⟨mj_in1 (by decide +kernel) rfl, mj_in1 (by decide +kernel) rfl⟩
theorem fl_word : Cond.codeWith kY_fo kB_fo 5 (some .int) [(0, 10, 13, 13)] ∈ mj_T ∧ Cond.methodLink "TrustDeskLaw" 94 kY_fo ∈ mj_T ∧ Cond.static kY_fo ∈ mj_T ∧ Cond.initialized "TrustDeskLaw" ∈ mj_T := ⟨mj_in1 (by decide +kernel) rfl, mj_in1 (by decide +kernel) rfl, mj_in1 (by decide +kernel) rfl, mj_in1 (by decide +kernel) rfl⟩
/-- behind its call that has returned -/
theorem fo_after {g : mj_G} {l : Launch} {d x : Nat} {T0 : tm_H} {M0 : mj_M} {n0 : Nat} {r : Int32} {lv : List (Nat × Value)} (h148 : T0 148 = some (1, 240001, 1)) (I0 : tm_I tm_FT (tm_in w_fo) x T0 M0 n0 T0 M0 n0) : mj_V g l kY_foy d 8 lv [.int r, .int 0, .ref 148] M0 n0 0 0 (tm_Q tm_FT (tm_in w_fo) x T0 M0 n0 (fun r _ _ => ∃ v : Int32, r = some (.int v))) := by
  refine mv_i2l fl_8 rfl ?_
  refine tr_last tm_okF I0 h148 (by decide) (Or.inl (by decide)) fl_9 (by unfold vp_in; decide) (fun M1 I1 => ?_)
  refine mv_goto (tgt := 17) fl_10 (by decide) ?_
  refine mv_iconst (v := 0) fl_17 (by decide) ?_
  exact mv_iret fl_18 rfl (by first | rfl | decide) ⟨_, I1, _, rfl⟩
set_option maxHeartbeats 4000000 in
theorem fo_law {g : mj_G} {l : Launch} {d x : Nat} {T0 : tm_H} {M0 : mj_M} {n0 : Nat} (hlt : l.stackTraces = false) {x1 x2 : Int32} (h64 : T0 64 = some (0, 12, 0)) (h148 : T0 148 = some (1, 240001, 1)) (I0 : tm_I tm_FT (tm_in w_fo) x T0 M0 n0 T0 M0 n0) :
    vx_Met l kY_fo kW_fo (mj_rm0 (d + 7) 1 6) (mj_Pc g [.ref 64, .int x1, .int x2, .ref 148] M0 n0) (va_Qi (S := Unit) (fun _ _ => True) (fun _ t => fo_B g x T0 M0 n0 t) (mj_A g)) (vx_X (S := Unit) (fun _ => False) (fun _ _ _ => True) (mj_A g)) 1 6 (mj_A g) := by
  refine vx_ofWH (cc := kB_fo) (maxL := 5) (ret := some .int) (hh := [(0, 10, 13, 13)]) (by decide) rfl ?_
  intro p e s m args below meth c s₁ B hml hv
  obtain ⟨rfl, hR, hK, hZ⟩ := hv
  have hts0 := atoms_spec (ws := kW_fo) B.pre
  have hts : ∀ w ∈ mj_T, w.before _ s = true := fun w hw => hts0 w (List.mem_cons_of_mem _ hw)
  have hx := B.exec
  have hb := B.bytes
  have hown := findClass_of_methodNamed B.named
  have hlk := B.notSynchronized
  obtain ⟨fs64, h_64, -⟩ := I0.1 _ _ h64
  have hge : g.1 ≤ s.heap.size := by
    rw [hR.2.2, mj_r_ge hR.2.1]
    omega
  have X : mj_X g kY_foy (d + 7) p (mj_rm0 (d + 7) 1 6) s m _ meth c := ⟨hx, hb, hml, B.returns, hlk, hown, (fun h9 => (name_of_methodNamed B.named B.method).1.trans h9), hts, hK, hZ, Nat.le_refl _, Nat.le_refl _, hge⟩
  have hl := lv_entry ([.ref (mj_r g 64), .int x1, .int x2, .ref (mj_r g 148)]) (n := 5) (Nat.le_of_ble_eq_true rfl)
  have htab := vx_table (x := kY_fo) B (hts0 _ List.mem_cons_self)
  have hS : va_S (mj_A g) s.heap s.heap [] := va_S.rf
  rw [show (List.map (mj_v g) [Value.ref 64, .int x1, .int x2, .ref 148]) = [.ref (mj_r g 64), .int x1, .int x2, .ref (mj_r g 148)] from rfl, lg_entry_eq]
  generalize (lg_sl ([.ref (mj_r g 64), .int x1, .int x2, .ref (mj_r g 148)]) ++ List.replicate (5 - (lg_sl ([.ref (mj_r g 64), .int x1, .int x2, .ref (mj_r g 148)])).length) Slot.unset).toArray = ls at hl ⊢
  have hl : lv_has ls 5 [(0, .ref (mj_r g 64)), (1, .int x1), (2, .int x2), (3, .ref (mj_r g 148))] := hl
  refine lv_aload_n hx hb fl_0 rfl (lv_at hl 3 rfl) ?_
  refine lv_iconst (v := 0) hx hb fl_1 (by decide) ?_
  refine lv_aload_n hx hb fl_2 rfl (lv_at hl 0 rfl) ?_
  refine lv_iload_n hx hb fl_3 rfl (lv_at hl 1 rfl) ?_
  refine lv_iload_n hx hb fl_4 rfl (lv_at hl 2 rfl) ?_
  obtain ⟨hw1, hw2, hw3⟩ := fl_w
  have hPc : ∀ U : State, U.heap = s.heap → s.WarmedH U.vm → mj_Pc g [.ref 64, .int x1, .int x2] M0 n0 ([Value.ref 64, .int x1, .int x2].map (mj_v g)).toArray U := by
    intro U hU hW
    refine ⟨rfl, by rw [hU]; exact hR, va_K.moved hW.alike hK, ?_⟩
    rw [hU]
    exact hZ.warm hW
  have hrun := vx_runV (e := e) (below := below) (meth := meth) (m := m) (cells := 0) (slots := 0) (locs := []) (g := F0 m 5 ls [.int x2, .int x1, .ref (mj_r g 64), .int 0, .ref (mj_r g 148)]) (rest := [.int 0, .ref (mj_r g 148)]) (As := [.int x1, .int x2]) (b := mj_r g 64) (H := s.heap) ⟨hx, hb, hml, hown, hts⟩ (fo_desk (g := g) (l := l) (d := d) (x := x) hlt (x1 := x1) (x2 := x2) h64 I0) ⟨mj_cB (R := mj_rm0 (d + 7) 1 6) (d := d + 6) hts hw1 (Nat.le_refl _) (Nat.le_refl _), hts _ hw2, hts _ hw3⟩ ⟨mj_Pc_blind, va_recv hK (mj_one (hR.1 64 _ h_64).2.2) rfl (q0 := 0) rfl, hPc⟩ rfl rfl hl.1 rfl (lv_room (Nat.le_of_ble_eq_true rfl)) fl_5 ⟨Nat.le_refl _, Nat.le_refl _⟩
  refine vx_calli hrun hS (fun q _ h => h) (fun q h => h) (fun q _ h => h) (fun E ce q9 u t H1 locs1 ht ha hpx hBX hz ho hS1 hce hcv hcl => ?_) (fun r u t H1 locs1 ht ha hp hB hz ho hS1 => ?_)
  · obtain ⟨rfl, T1, M1, nx', I1, hR'⟩ := hBX
    rw [ht] at hR'
    refine vx_catch (own := "TrustDeskLaw") (name := kE_no) hown [] _ [] htab (fun z hz => nomatch hz) (by decide) (by decide) (hts _ fl_k.1) (hts _ fl_k.2) hce hcv hcl ?_
    refine vx_ret ?_
    refine lv_astore (i := 4) (lv' := [(4, .ref q9), (0, .ref (mj_r g 64)), (1, .int x1), (2, .int x2), (3, .ref (mj_r g 148))]) hx hb fl_13 hl (by decide) rfl (fun ls hl => ?_)
    refine lv_iconst (v := 1) hx hb fl_15 (by decide) ?_
    exact W.iret hx hb B.returns (fun t2 ht2 hW => ⟨⟨1, (), rfl, trivial, T1, M1, nx', I1, by rw [ht2]; exact hR'⟩, hS1.F ht2⟩) hS1.2.2 fl_16 hlk
  · obtain ⟨T1, M1, nx', I1, hR'⟩ := hB
    rw [ht] at hR'
    have h148' : T1 148 = some (1, 240001, 1) := I1.up h148
    refine vx_ret (fo_ret (fun o t h => ?_) (fo_after (g := g) (l := l) (d := d + 7) (x := x) (r := r) (lv := []) h148' I1.start p e _ s m _ below meth c H1 locs1 ls 1 6 1 6 X hR' hS1 ⟨hl.1, hl.2.1, fun q hq => nomatch hq⟩ (by decide) (by decide) (Nat.le_refl _) (Nat.le_refl _)))
    obtain ⟨⟨r, M2, n2, h1, ⟨T2, J2, v, rfl⟩, h3⟩, h4⟩ := h
    exact ⟨⟨v, (), h1, trivial, T2, M2, n2, I1.call J2 (fun _ h => h) (Or.inl rfl), h3⟩, h4⟩
theorem fo_loc (d : Nat) : 8 + (5 + 11) + 100 * (d + 7) ≤ 100 * (d + 8) := by omega
/-- the law's call of it -/
theorem mv_callFO {g : mj_G} {l : Launch} {y : mj_Y} {d pc x : Nat} {lv : List (Nat × Value)} {st : List Value} {T : tm_H} {M : mj_M} {nx kc' ks' kc ks : Nat} {Q : Option Value → mj_M → Nat → Prop} (hlt : l.stackTraces = false) (hy : y.1.cls = "TrustDeskLaw") {x1 x2 : Int32} (h64 : T 64 = some (0, 12, 0)) (h148 : T 148 = some (1, 240001, 1)) (I0 : tm_I tm_FT (tm_in w_fo) x T M nx T M nx)
    (hd : decode y.2.1 pc = .ok (.invokestatic 94, 3)) (hcat : (st.map fun v => v.category).sum ≤ 8) (hkc : kc' + 1 ≤ kc) (hks : ks' + 6 ≤ ks) (kk : ∀ (v : Int32) (T1 : tm_H) (M1 : mj_M) (n1 : Nat), tm_I tm_FT (tm_in w_fo) x T M nx T1 M1 n1 → mj_V g l y (d + 8) (pc + 3) lv (.int v :: st) M1 n1 kc' ks' Q) : mj_V g l y (d + 8) pc lv (.ref 148 :: .int x2 :: .int x1 :: .ref 64 :: st) M nx kc ks Q := by
  intro p e R s m args below meth c H locs ls cells slots TC TS X hR hS hl h1 h2 h3 h4
  obtain ⟨hx, hb, hml, hr, hlk, hown, hnm, hts, hK, hZ, hfr, hlo, hg0⟩ := id X
  rw [hy] at hown
  obtain ⟨hw1, hw2, hw3, hw4⟩ := fl_word
  have hcw : vx_CSW R s args "TrustDeskLaw" 94 kY_fo kB_fo 5 (some .int) [(0, 10, 13, 13)] kW_fo (mj_rm0 (d + 7) 1 6) 1 6 4 := by
    refine ⟨⟨rfl, rfl, hfr, ?_, fun w hw => ?_, List.mem_cons_self⟩, hts _ hw1, hts _ hw4, ⟨by decide, by decide⟩, fun sig hsig => ?_, hts _ hw2, hts _ hw3⟩
    · exact Nat.le_trans (fo_loc d) hlo
    · rcases List.mem_cons.mp hw with rfl | hw
      · exact mj_pay hts _ hw1
      · exact mj_pay hts w hw
    · have h9 : (parseMethodDescriptor kY_fo.desc).map (fun d => d.parameters.length) = some 4 := by rfl
      rw [hsig] at h9
      exact (Option.some.inj h9).symm
  have hrun := vx_runSX (e := e) (below := below) (meth := meth) (m := m) (cells := cells) (slots := slots) (locs := locs) (g := F0 m pc ls ((Value.ref 148 :: .int x2 :: .int x1 :: .ref 64 :: st).map (mj_v g))) (rest := st.map (mj_v g)) (As := [.ref 64, .int x1, .int x2, .ref 148].map (mj_v g)) (H := H) ⟨hx, hb, hml, hown, hts⟩ (fo_law (g := g) (l := l) (d := d) (x := x) hlt (x1 := x1) (x2 := x2) h64 h148 I0) hcw ⟨mj_Pc_blind, mj_Pc_at (As := [.ref 64, .int x1, .int x2, .ref 148]) X hR hS⟩ rfl rfl hl.1 rfl (mj_room hcat) hd ⟨by omega, by omega⟩
  refine vx_calli hrun hS (fun q _ h => h) (fun q h => h) (fun q _ h => h) (fun E ce q9 u t H1 locs1 ht ha hpx => hpx.elim) (fun r u t H1 locs1 ht ha hp hB hz ho hS1 => ?_)
  obtain ⟨T1, M1, nx', I1, hR'⟩ := hB
  rw [ht] at hR'
  exact kk r T1 M1 nx' I1 p e R s m args below meth c H1 locs1 ls (cells + 1) (slots + 6) TC TS X hR' hS1 hl (by omega) (by omega) h3 h4
