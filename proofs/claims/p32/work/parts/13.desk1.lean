abbrev kY_ArrayList_size : mj_Y := (⟨"java/util/ArrayList", "size", "()I"⟩, prog_33_method_8_code, 1, (Option.some Jvm.ClassFile.FieldType.int))
abbrev kY_ArrayList_get : mj_Y := (⟨"java/util/ArrayList", "get", "(I)Ljava/lang/Object;"⟩, prog_33_method_20_code, 2, (Option.some (Jvm.ClassFile.FieldType.object "java/lang/Object")))
abbrev kY_ArrayList_elementData : mj_Y := (⟨"java/util/ArrayList", "elementData", "(I)Ljava/lang/Object;"⟩, prog_33_method_18_code, 2, (Option.some (Jvm.ClassFile.FieldType.object "java/lang/Object")))
abbrev kY_Objects_checkIndex : mj_Y := (⟨"java/util/Objects", "checkIndex", "(II)I"⟩, prog_38_method_17_code, 2, (Option.some Jvm.ClassFile.FieldType.int))
theorem d_ArrayList_size_0 : decode kY_ArrayList_size.2.1 0 = .ok (.aload_n 0, 1) := by decide +kernel
theorem d_ArrayList_size_1 : decode kY_ArrayList_size.2.1 1 = .ok (.getfield 48, 3) := by decide +kernel
theorem d_ArrayList_size_4 : decode kY_ArrayList_size.2.1 4 = .ok (.ireturn, 1) := by decide +kernel
theorem d_Objects_checkIndex_0 : decode kY_Objects_checkIndex.2.1 0 = .ok (.iload_n 0, 1) := by decide +kernel
theorem d_Objects_checkIndex_1 : decode kY_Objects_checkIndex.2.1 1 = .ok (.iload_n 1, 1) := by decide +kernel
theorem d_Objects_checkIndex_2 : decode kY_Objects_checkIndex.2.1 2 = .ok (.aconst_null, 1) := by decide +kernel
theorem d_Objects_checkIndex_3 : decode kY_Objects_checkIndex.2.1 3 = .ok (.invokestatic 105, 3) := by decide +kernel
theorem d_Objects_checkIndex_6 : decode kY_Objects_checkIndex.2.1 6 = .ok (.ireturn, 1) := by decide +kernel
theorem d_ArrayList_elementData_0 : decode kY_ArrayList_elementData.2.1 0 = .ok (.aload_n 0, 1) := by decide +kernel
theorem d_ArrayList_elementData_1 : decode kY_ArrayList_elementData.2.1 1 = .ok (.getfield 9, 3) := by decide +kernel
theorem d_ArrayList_elementData_4 : decode kY_ArrayList_elementData.2.1 4 = .ok (.iload_n 1, 1) := by decide +kernel
theorem d_ArrayList_elementData_5 : decode kY_ArrayList_elementData.2.1 5 = .ok (.aaload, 1) := by decide +kernel
theorem d_ArrayList_elementData_6 : decode kY_ArrayList_elementData.2.1 6 = .ok (.areturn, 1) := by decide +kernel
theorem d_ArrayList_get_0 : decode kY_ArrayList_get.2.1 0 = .ok (.iload_n 1, 1) := by decide +kernel
theorem d_ArrayList_get_1 : decode kY_ArrayList_get.2.1 1 = .ok (.aload_n 0, 1) := by decide +kernel
theorem d_ArrayList_get_2 : decode kY_ArrayList_get.2.1 2 = .ok (.getfield 48, 3) := by decide +kernel
theorem d_ArrayList_get_5 : decode kY_ArrayList_get.2.1 5 = .ok (.invokestatic 118, 3) := by decide +kernel
theorem d_ArrayList_get_8 : decode kY_ArrayList_get.2.1 8 = .ok (.pop, 1) := by decide +kernel
theorem d_ArrayList_get_9 : decode kY_ArrayList_get.2.1 9 = .ok (.aload_n 0, 1) := by decide +kernel
theorem d_ArrayList_get_10 : decode kY_ArrayList_get.2.1 10 = .ok (.iload_n 1, 1) := by decide +kernel
theorem d_ArrayList_get_11 : decode kY_ArrayList_get.2.1 11 = .ok (.invokevirtual 123, 3) := by decide +kernel
theorem d_ArrayList_get_14 : decode kY_ArrayList_get.2.1 14 = .ok (.areturn, 1) := by decide +kernel
theorem lS_Objects_105 : mj_lS "java/util/Objects" 105 kY_Preconditions_checkIndex 3 := ⟨⟨(mj_in1 (List.mem_of_getElem? (i := 641) (by decide +kernel)) rfl), (mj_in1 (List.mem_of_getElem? (i := 13) (by decide +kernel)) rfl), (mj_in1 (List.mem_of_getElem? (i := 418) (by decide +kernel)) rfl), by decide, rfl, by decide⟩, (mj_in1 (List.mem_of_getElem? (i := 417) (by decide +kernel)) rfl)⟩
theorem lS_ArrayList_118 : mj_lS "java/util/ArrayList" 118 kY_Objects_checkIndex 2 := ⟨⟨(mj_in1 (List.mem_of_getElem? (i := 638) (by decide +kernel)) rfl), (mj_in1 (List.mem_of_getElem? (i := 20) (by decide +kernel)) rfl), (mj_in1 (List.mem_of_getElem? (i := 640) (by decide +kernel)) rfl), by decide, rfl, by decide⟩, (mj_in1 (List.mem_of_getElem? (i := 639) (by decide +kernel)) rfl)⟩
theorem lV_ArrayList_123 : mj_lV "java/util/ArrayList" 123 kY_ArrayList_elementData 1 := ⟨⟨(mj_in1 (List.mem_of_getElem? (i := 642) (by decide +kernel)) rfl), (mj_in1 (List.mem_of_getElem? (i := 9) (by decide +kernel)) rfl), (mj_in1 (List.mem_of_getElem? (i := 645) (by decide +kernel)) rfl), by decide, rfl, by decide⟩, (mj_in1 (List.mem_of_getElem? (i := 643) (by decide +kernel)) rfl), (mj_in1 (List.mem_of_getElem? (i := 644) (by decide +kernel)) rfl)⟩
theorem tc_L_size {g : mj_G} {l : Launch} {d nx : Nat} {M : mj_M} {a e : Nat} {m n : Int32} (hM : M a = some (.inr (0, [.int m, .ref e, .int n]))) : mj_Met g l kY_ArrayList_size d [.ref a] M nx 0 0 (mj_E1 (some (.int n)) M nx) := by
  refine mj_enter (by decide) (Nat.le_of_ble_eq_true rfl) ?_
  refine mv_aload_n d_ArrayList_size_0 rfl rfl ?_
  refine mv_get d_ArrayList_size_1 f_ArrayList_48_0 hM rfl ?_
  exact mv_iret d_ArrayList_size_4 rfl rfl ⟨rfl, rfl, rfl⟩
theorem tc_L_pre {g : mj_G} {l : Launch} {d nx : Nat} {M : mj_M} {i n : Int32} (h0 : 0 ≤ i.toInt) (h1 : i.toInt < n.toInt) : mj_Met g l kY_Preconditions_checkIndex d [.int i, .int n, .null] M nx 0 0 (mj_E1 (some (.int i)) M nx) := by
  refine mj_enter (by decide) (Nat.le_of_ble_eq_true rfl) ?_
  refine mv_iload_n d_Preconditions_checkIndex_0 rfl rfl ?_
  refine mv_if_ltZ (tgt := 9) (a := i.toInt) d_Preconditions_checkIndex_1 (by decide) rfl (fun h => absurd h (by omega)) (fun _ => ?_)
  refine mv_iload_n d_Preconditions_checkIndex_4 rfl rfl ?_
  refine mv_iload_n d_Preconditions_checkIndex_5 rfl rfl ?_
  refine mv_icmp_ltZ (tgt := 16) (a := i.toInt) (b := n.toInt) d_Preconditions_checkIndex_6 (by decide) rfl rfl (fun _ => ?_) (fun h => absurd h (by omega))
  refine mv_iload_n d_Preconditions_checkIndex_16 rfl rfl ?_
  exact mv_iret d_Preconditions_checkIndex_17 rfl rfl ⟨rfl, rfl, rfl⟩
theorem tc_L_chk {g : mj_G} {l : Launch} {d nx : Nat} {M : mj_M} {i n : Int32} (h0 : 0 ≤ i.toInt) (h1 : i.toInt < n.toInt) : mj_Met g l kY_Objects_checkIndex (d + 1) [.int i, .int n] M nx 0 0 (mj_E1 (some (.int i)) M nx) := by
  refine mj_enter (by decide) (Nat.le_of_ble_eq_true rfl) ?_
  refine mv_iload_n d_Objects_checkIndex_0 rfl rfl ?_
  refine mv_iload_n d_Objects_checkIndex_1 rfl rfl ?_
  refine mv_null d_Objects_checkIndex_2 ?_
  refine mv_callS_s (kc' := 0) (ks' := 0) [.int i, .int n, .null] [.null, .int n, .int i] d_Objects_checkIndex_3 lS_Objects_105 (tc_L_pre (d := d) h0 h1) rfl (Nat.le_of_ble_eq_true rfl) (Nat.le_of_ble_eq_true rfl) (Nat.le_of_ble_eq_true rfl) rfl ?_
  exact mv_iret d_Objects_checkIndex_6 rfl rfl ⟨rfl, rfl, rfl⟩
theorem tc_L_el {g : mj_G} {l : Launch} {d nx : Nat} {M : mj_M} {a e N b : Nat} {m n i : Int32} {f : Nat → Option Nat} (hM : M a = some (.inr (0, [.int m, .ref e, .int n]))) (hE : M e = some (.inl (4, N, .inr (.inr (.inr (.inr f)))))) (hi : vp_in i N) (hf : f i.toNatClampNeg = some b) : mj_Met g l kY_ArrayList_elementData d [.ref a, .int i] M nx 0 0 (mj_E1 (some (.ref b)) M nx) := by
  refine mj_enter (by decide) (Nat.le_of_ble_eq_true rfl) ?_
  refine mv_aload_n d_ArrayList_elementData_0 rfl rfl ?_
  refine mv_get d_ArrayList_elementData_1 f_ArrayList_9_0 hM rfl ?_
  refine mv_iload_n d_ArrayList_elementData_4 rfl rfl ?_
  refine mv_aald (r := some b) d_ArrayList_elementData_5 hE hi hf ?_
  exact mv_aret (r := some b) d_ArrayList_elementData_6 rfl (by first | exact Or.inl ⟨_, rfl⟩ | exact Or.inr ⟨_, rfl⟩) ⟨rfl, rfl, rfl⟩
theorem tc_L_get {g : mj_G} {l : Launch} {d nx : Nat} {M : mj_M} {a e N b : Nat} {m n i : Int32} {f : Nat → Option Nat} (hM : M a = some (.inr (0, [.int m, .ref e, .int n]))) (hE : M e = some (.inl (4, N, .inr (.inr (.inr (.inr f)))))) (h0 : 0 ≤ i.toInt) (h1 : i.toInt < n.toInt) (hi : vp_in i N) (hf : f i.toNatClampNeg = some b) : mj_Met g l kY_ArrayList_get (d + 2) [.ref a, .int i] M nx 0 0 (mj_E1 (some (.ref b)) M nx) := by
  refine mj_enter (by decide) (Nat.le_of_ble_eq_true rfl) ?_
  refine mv_iload_n d_ArrayList_get_0 rfl rfl ?_
  refine mv_aload_n d_ArrayList_get_1 rfl rfl ?_
  refine mv_get d_ArrayList_get_2 f_ArrayList_48_0 hM rfl ?_
  refine mv_callS_s (kc' := 0) (ks' := 0) [.int i, .int n] [.int n, .int i] d_ArrayList_get_5 lS_ArrayList_118 (tc_L_chk (d := d) h0 h1) rfl (Nat.le_of_ble_eq_true rfl) (Nat.le_of_ble_eq_true rfl) (Nat.le_of_ble_eq_true rfl) rfl ?_
  refine mv_pop d_ArrayList_get_8 rfl ?_
  refine mv_aload_n d_ArrayList_get_9 rfl rfl ?_
  refine mv_iload_n d_ArrayList_get_10 rfl rfl ?_
  refine mv_callV_s (kc' := 0) (ks' := 0) [.int i] [.int i, .ref a] d_ArrayList_get_11 lV_ArrayList_123 hM rfl (tc_L_el (d := d + 1) hM hE hi hf) rfl (Nat.le_of_ble_eq_true rfl) (Nat.le_of_ble_eq_true rfl) (Nat.le_of_ble_eq_true rfl) rfl ?_
  exact mv_aret (r := some b) d_ArrayList_get_14 rfl (by first | exact Or.inl ⟨_, rfl⟩ | exact Or.inr ⟨_, rfl⟩) ⟨rfl, rfl, rfl⟩
theorem tm_el {T : tm_H} {M : mj_M} {a c e N : Nat} {m n i : Int32} {f : Nat → Option Nat} (h : tm_ls T M a c m n e N f) (h0 : 0 ≤ i.toInt) (h1 : i.toInt < n.toInt) : M e = some (.inl (4, N, .inr (.inr (.inr (.inr f))))) ∧ vp_in i N ∧ ∃ b, f i.toNatClampNeg = some b ∧ T b = some (0, c, 0) := by
  obtain ⟨e1, e2, e3, e4, e5, e6, e7⟩ := h
  refine ⟨?_, vp_in_iff.mpr (by omega), e7 _ (by rw [mz_nat9 h0]; exact h1)⟩
  rcases e6 with ⟨-, e6⟩ | ⟨-, e6, -⟩
  · omega
  · exact e6
theorem tm_rl {i : Int32} (h0 : 0 ≤ i.toInt) (h1 : i.toInt < 6) : ∃ v : Int32, mj_rl.getD i.toNatClampNeg .null = .int v := by
  have h := mz_nat9 h0
  rcases (show i.toNatClampNeg = 0 ∨ i.toNatClampNeg = 1 ∨ i.toNatClampNeg = 2 ∨ i.toNatClampNeg = 3 ∨ i.toNatClampNeg = 4 ∨ i.toNatClampNeg = 5 by omega) with h | h | h | h | h | h <;> (rw [h]; exact ⟨_, rfl⟩)
theorem tm_rm {i : Int32} (h0 : 0 ≤ i.toInt) (h1 : i.toInt < 6) : ∃ v : Int32, mj_rm.getD i.toNatClampNeg .null = .int v := by
  have h := mz_nat9 h0
  rcases (show i.toNatClampNeg = 0 ∨ i.toNatClampNeg = 1 ∨ i.toNatClampNeg = 2 ∨ i.toNatClampNeg = 3 ∨ i.toNatClampNeg = 4 ∨ i.toNatClampNeg = 5 by omega) with h | h | h | h | h | h <;> (rw [h]; exact ⟨_, rfl⟩)
abbrev kY_TrustDesk_account : mj_Y := (⟨"TrustDesk", "account", "(II)I"⟩, prog_1_method_56_code, 6, (Option.some Jvm.ClassFile.FieldType.int))
theorem d_TrustDesk_account_0 : decode kY_TrustDesk_account.2.1 0 = .ok (.aload_n 0, 1) := by decide +kernel
theorem d_TrustDesk_account_1 : decode kY_TrustDesk_account.2.1 1 = .ok (.iload_n 1, 1) := by decide +kernel
theorem d_TrustDesk_account_2 : decode kY_TrustDesk_account.2.1 2 = .ok (.invokevirtual 257, 3) := by decide +kernel
abbrev kY_TrustDesk_fundAt : mj_Y := (⟨"TrustDesk", "fundAt", "(I)LTrustDesk$Fund;"⟩, prog_1_method_60_code, 2, (Option.some (Jvm.ClassFile.FieldType.object "TrustDesk$Fund")))
theorem d_TrustDesk_fundAt_0 : decode kY_TrustDesk_fundAt.2.1 0 = .ok (.iload_n 1, 1) := by decide +kernel
theorem d_TrustDesk_fundAt_1 : decode kY_TrustDesk_fundAt.2.1 1 = .ok (.ifCond .lt 28, 3) := by decide +kernel
theorem d_TrustDesk_fundAt_29 : decode kY_TrustDesk_fundAt.2.1 29 = .ok (.aconst_null, 1) := by decide +kernel
theorem d_TrustDesk_fundAt_30 : decode kY_TrustDesk_fundAt.2.1 30 = .ok (.areturn, 1) := by decide +kernel
theorem d_TrustDesk_fundAt_4 : decode kY_TrustDesk_fundAt.2.1 4 = .ok (.iload_n 1, 1) := by decide +kernel
theorem d_TrustDesk_fundAt_5 : decode kY_TrustDesk_fundAt.2.1 5 = .ok (.aload_n 0, 1) := by decide +kernel
theorem d_TrustDesk_fundAt_6 : decode kY_TrustDesk_fundAt.2.1 6 = .ok (.getfield 53, 3) := by decide +kernel
theorem f_TrustDesk_53_12 : mj_fl "TrustDesk" 53 12 6 := ⟨kR_TrustDesk, kF_TrustDesk, 13, "TrustDesk", rfl, kg_12, by decide, (mj_in1 (List.mem_of_getElem? (i := 273) (by decide +kernel)) rfl), Or.inl rfl⟩
theorem d_TrustDesk_fundAt_9 : decode kY_TrustDesk_fundAt.2.1 9 = .ok (.invokevirtual 97, 3) := by decide +kernel
theorem lV_TrustDesk_97 : mj_lV "TrustDesk" 97 kY_ArrayList_size 0 := ⟨⟨(mj_in1 (List.mem_of_getElem? (i := 353) (by decide +kernel)) rfl), (mj_in1 (List.mem_of_getElem? (i := 9) (by decide +kernel)) rfl), (mj_in1 (List.mem_of_getElem? (i := 356) (by decide +kernel)) rfl), by decide, rfl, by decide⟩, (mj_in1 (List.mem_of_getElem? (i := 354) (by decide +kernel)) rfl), (mj_in1 (List.mem_of_getElem? (i := 355) (by decide +kernel)) rfl)⟩
theorem d_TrustDesk_fundAt_12 : decode kY_TrustDesk_fundAt.2.1 12 = .ok (.if_icmp .ge 17, 3) := by decide +kernel
theorem d_TrustDesk_fundAt_15 : decode kY_TrustDesk_fundAt.2.1 15 = .ok (.aload_n 0, 1) := by decide +kernel
theorem d_TrustDesk_fundAt_16 : decode kY_TrustDesk_fundAt.2.1 16 = .ok (.getfield 53, 3) := by decide +kernel
theorem d_TrustDesk_fundAt_19 : decode kY_TrustDesk_fundAt.2.1 19 = .ok (.iload_n 1, 1) := by decide +kernel
theorem d_TrustDesk_fundAt_20 : decode kY_TrustDesk_fundAt.2.1 20 = .ok (.invokevirtual 158, 3) := by decide +kernel
theorem lV_TrustDesk_158 : mj_lV "TrustDesk" 158 kY_ArrayList_get 1 := ⟨⟨(mj_in1 (List.mem_of_getElem? (i := 634) (by decide +kernel)) rfl), (mj_in1 (List.mem_of_getElem? (i := 9) (by decide +kernel)) rfl), (mj_in1 (List.mem_of_getElem? (i := 637) (by decide +kernel)) rfl), by decide, rfl, by decide⟩, (mj_in1 (List.mem_of_getElem? (i := 635) (by decide +kernel)) rfl), (mj_in1 (List.mem_of_getElem? (i := 636) (by decide +kernel)) rfl)⟩
theorem d_TrustDesk_fundAt_23 : decode kY_TrustDesk_fundAt.2.1 23 = .ok (.checkcast 123, 3) := by decide +kernel
theorem d_TrustDesk_fundAt_26 : decode kY_TrustDesk_fundAt.2.1 26 = .ok (.goto 4, 3) := by decide +kernel
def w_TrustDesk_fundAt : List Nat := []
theorem tc_TrustDesk_fundAt {g : mj_G} {l : Launch} {d : Nat} {T0 : tm_H} {M0 : mj_M} {n0 x9 : Nat} {o0 : Nat} {x1 : Int32} (h_o0 : T0 o0 = some (0, 12, 0)) (I0 : tm_I tm_FT (tm_in w_TrustDesk_fundAt) x9 T0 M0 n0 T0 M0 n0) : mj_Met g l kY_TrustDesk_fundAt (d + 3) [.ref o0, .int x1] M0 n0 0 0 (tm_Q tm_FT (tm_in w_TrustDesk_fundAt) x9 T0 M0 n0 (fun r T _ => r = some .null ∨ ∃ b, r = some (.ref b) ∧ T b = some (0, 6, 0))) := by
  refine mj_enter (by decide) (Nat.le_of_ble_eq_true rfl) ?_
  refine mv_iload_n d_TrustDesk_fundAt_0 rfl rfl ?_
  have := mz_hi x1
  refine mv_if_ltZ (tgt := 29) (a := x1.toInt) d_TrustDesk_fundAt_1 (by decide) rfl (fun b1 => ?_) (fun b1 => ?_)
  · refine mv_null d_TrustDesk_fundAt_29 ?_
    exact mv_aret (r := none) d_TrustDesk_fundAt_30 rfl (by first | exact Or.inl ⟨_, rfl⟩ | exact Or.inr ⟨_, rfl⟩) ⟨_, I0, Or.inl rfl⟩
  · refine mv_iload_n d_TrustDesk_fundAt_4 rfl rfl ?_
    refine mv_aload_n d_TrustDesk_fundAt_5 rfl rfl ?_
    obtain ⟨a3, q2, t_a3⟩ := tm_atO I0 h_o0 (k := 6) rfl
    refine tr_getK q2 d_TrustDesk_fundAt_6 f_TrustDesk_53_12 ?_
    obtain ⟨m5, n9, e6, N7, f8, h4⟩ := I0.1 _ _ t_a3
    have := h4.2.1
    have : n9.toInt ≤ 12 := h4.2.2.1
    have q10 : tm_at M0 a3 0 2 (.int n9) := ⟨_, h4.1, rfl⟩
    refine mv_callV_s (kc' := 0) (ks' := 0) [] [.ref a3, .int x1] d_TrustDesk_fundAt_9 lV_TrustDesk_97 h4.1 rfl (tc_L_size (d := (d + 2)) h4.1) rfl (Nat.le_of_ble_eq_true rfl) (Nat.le_of_ble_eq_true rfl) (Nat.le_of_ble_eq_true rfl) rfl ?_
    have := mz_hi x1
    have := mz_hi n9
    refine mv_icmp_geZ (tgt := 29) (a := x1.toInt) (b := n9.toInt) d_TrustDesk_fundAt_12 (by decide) rfl rfl (fun b11 => ?_) (fun b11 => ?_)
    · refine mv_null d_TrustDesk_fundAt_29 ?_
      exact mv_aret (r := none) d_TrustDesk_fundAt_30 rfl (by first | exact Or.inl ⟨_, rfl⟩ | exact Or.inr ⟨_, rfl⟩) ⟨_, I0, Or.inl rfl⟩
    · refine mv_aload_n d_TrustDesk_fundAt_15 rfl rfl ?_
      refine tr_getK (k := 6) q2 d_TrustDesk_fundAt_16 f_TrustDesk_53_12 ?_
      refine mv_iload_n d_TrustDesk_fundAt_19 rfl rfl ?_
      obtain ⟨m13, e14, N15, f16, h12⟩ := tm_lsn I0 t_a3 q10
      obtain ⟨u17e, u17i, a18, u17f, u17t⟩ := tm_el (i := x1) h12 (by omega) (by omega)
      have t_a18 : T0 a18 = some (0, 6, 0) := u17t
      refine mv_callV_s (kc' := 0) (ks' := 0) [.int x1] [.int x1, .ref a3] d_TrustDesk_fundAt_20 lV_TrustDesk_158 h12.1 rfl (tc_L_get (d := d) h12.1 u17e (by omega) (by omega) u17i u17f) rfl (Nat.le_of_ble_eq_true rfl) (Nat.le_of_ble_eq_true rfl) (Nat.le_of_ble_eq_true rfl) rfl ?_
      obtain ⟨_, b19, -⟩ := I0.1 _ _ t_a18
      refine mv_castS (T9 := kF_Fund) (N := 15) d_TrustDesk_fundAt_23 (mj_in1 (List.mem_of_getElem? (i := 655) (by decide +kernel)) rfl) b19 rfl ?_
      refine mv_goto (tgt := 30) d_TrustDesk_fundAt_26 (by decide) ?_
      exact mv_aret (r := some a18) d_TrustDesk_fundAt_30 rfl (by first | exact Or.inl ⟨_, rfl⟩ | exact Or.inr ⟨_, rfl⟩) ⟨_, I0, Or.inr ⟨_, rfl, t_a18⟩⟩
theorem lV_TrustDesk_257 : mj_lV "TrustDesk" 257 kY_TrustDesk_fundAt 1 := ⟨⟨(mj_in1 (List.mem_of_getElem? (i := 938) (by decide +kernel)) rfl), (mj_in1 (List.mem_of_getElem? (i := 1) (by decide +kernel)) rfl), (mj_in1 (List.mem_of_getElem? (i := 941) (by decide +kernel)) rfl), by decide, rfl, by decide⟩, (mj_in1 (List.mem_of_getElem? (i := 940) (by decide +kernel)) rfl), (mj_in (List.mem_append_left _ (List.mem_of_getElem? (i := 49) (by decide +kernel))) rfl)⟩
theorem d_TrustDesk_account_5 : decode kY_TrustDesk_account.2.1 5 = .ok (.astore_n 3, 1) := by decide +kernel
theorem d_TrustDesk_account_6 : decode kY_TrustDesk_account.2.1 6 = .ok (.aload_n 3, 1) := by decide +kernel
theorem d_TrustDesk_account_7 : decode kY_TrustDesk_account.2.1 7 = .ok (.ifnull 39, 3) := by decide +kernel
theorem d_TrustDesk_account_46 : decode kY_TrustDesk_account.2.1 46 = .ok (.iconst (-1), 1) := by decide +kernel
theorem d_TrustDesk_account_47 : decode kY_TrustDesk_account.2.1 47 = .ok (.ireturn, 1) := by decide +kernel
theorem d_TrustDesk_account_10 : decode kY_TrustDesk_account.2.1 10 = .ok (.iload_n 2, 1) := by decide +kernel
theorem d_TrustDesk_account_11 : decode kY_TrustDesk_account.2.1 11 = .ok (.invokestatic 70, 3) := by decide +kernel
abbrev kY_TrustDesk_isYear : mj_Y := (⟨"TrustDesk", "isYear", "(I)Z"⟩, prog_1_method_66_code, 1, (Option.some Jvm.ClassFile.FieldType.boolean))
theorem d_TrustDesk_isYear_0 : decode kY_TrustDesk_isYear.2.1 0 = .ok (.iload_n 0, 1) := by decide +kernel
theorem d_TrustDesk_isYear_1 : decode kY_TrustDesk_isYear.2.1 1 = .ok (.ifCond .lt 13, 3) := by decide +kernel
theorem d_TrustDesk_isYear_14 : decode kY_TrustDesk_isYear.2.1 14 = .ok (.iconst 0, 1) := by decide +kernel
theorem d_TrustDesk_isYear_15 : decode kY_TrustDesk_isYear.2.1 15 = .ok (.ireturn, 1) := by decide +kernel
theorem d_TrustDesk_isYear_4 : decode kY_TrustDesk_isYear.2.1 4 = .ok (.iload_n 0, 1) := by decide +kernel
theorem d_TrustDesk_isYear_5 : decode kY_TrustDesk_isYear.2.1 5 = .ok (.bipush 100, 2) := by decide +kernel
theorem d_TrustDesk_isYear_7 : decode kY_TrustDesk_isYear.2.1 7 = .ok (.if_icmp .gt 7, 3) := by decide +kernel
theorem d_TrustDesk_isYear_10 : decode kY_TrustDesk_isYear.2.1 10 = .ok (.iconst 1, 1) := by decide +kernel
theorem d_TrustDesk_isYear_11 : decode kY_TrustDesk_isYear.2.1 11 = .ok (.goto 4, 3) := by decide +kernel
def w_TrustDesk_isYear : List Nat := []
theorem tc_TrustDesk_isYear {g : mj_G} {l : Launch} {d : Nat} {T0 : tm_H} {M0 : mj_M} {n0 x9 : Nat} {x1 : Int32} (I0 : tm_I tm_FT (tm_in w_TrustDesk_isYear) x9 T0 M0 n0 T0 M0 n0) : mj_Met g l kY_TrustDesk_isYear d [.int x1] M0 n0 0 0 (tm_Q tm_FT (tm_in w_TrustDesk_isYear) x9 T0 M0 n0 (fun r _ _ => ∃ v : Int32, r = some (.int v) ∧ 0 ≤ v.toInt ∧ v.toInt ≤ 1)) := by
  refine mj_enter (by decide) (Nat.le_of_ble_eq_true rfl) ?_
  refine mv_iload_n d_TrustDesk_isYear_0 rfl rfl ?_
  have := mz_hi x1
  refine mv_if_ltZ (tgt := 14) (a := x1.toInt) d_TrustDesk_isYear_1 (by decide) rfl (fun b1 => ?_) (fun b1 => ?_)
  · refine mv_iconst (v := 0) d_TrustDesk_isYear_14 (by decide) ?_
    exact mv_iret d_TrustDesk_isYear_15 rfl (by decide) ⟨_, I0, _, rfl, by decide, by decide⟩
  · refine mv_iload_n d_TrustDesk_isYear_4 rfl rfl ?_
    refine mv_bipush (v := 100) d_TrustDesk_isYear_5 (by decide) ?_
    have := mz_hi x1
    refine mv_icmp_gtZ (tgt := 14) (a := x1.toInt) (b := 100) d_TrustDesk_isYear_7 (by decide) rfl (by decide) (fun b2 => ?_) (fun b2 => ?_)
    · refine mv_iconst (v := 0) d_TrustDesk_isYear_14 (by decide) ?_
      exact mv_iret d_TrustDesk_isYear_15 rfl (by decide) ⟨_, I0, _, rfl, by decide, by decide⟩
    · refine mv_iconst (v := 1) d_TrustDesk_isYear_10 (by decide) ?_
      refine mv_goto (tgt := 15) d_TrustDesk_isYear_11 (by decide) ?_
      exact mv_iret d_TrustDesk_isYear_15 rfl (by decide) ⟨_, I0, _, rfl, by decide, by decide⟩
theorem lS_TrustDesk_70 : mj_lS "TrustDesk" 70 kY_TrustDesk_isYear 1 := ⟨⟨(mj_in1 (List.mem_of_getElem? (i := 314) (by decide +kernel)) rfl), (mj_in1 (List.mem_of_getElem? (i := 1) (by decide +kernel)) rfl), (mj_in1 (List.mem_of_getElem? (i := 316) (by decide +kernel)) rfl), by decide, rfl, by decide⟩, (mj_in1 (List.mem_of_getElem? (i := 315) (by decide +kernel)) rfl)⟩
theorem d_TrustDesk_account_14 : decode kY_TrustDesk_account.2.1 14 = .ok (.ifCond .eq 32, 3) := by decide +kernel
theorem d_TrustDesk_account_17 : decode kY_TrustDesk_account.2.1 17 = .ok (.iload_n 2, 1) := by decide +kernel
theorem d_TrustDesk_account_18 : decode kY_TrustDesk_account.2.1 18 = .ok (.invokestatic 151, 3) := by decide +kernel
abbrev kY_TrustDesk_lastDayOf : mj_Y := (⟨"TrustDesk", "lastDayOf", "(I)I"⟩, prog_1_method_71_code, 1, (Option.some Jvm.ClassFile.FieldType.int))
theorem d_TrustDesk_lastDayOf_0 : decode kY_TrustDesk_lastDayOf.2.1 0 = .ok (.iload_n 0, 1) := by decide +kernel
theorem d_TrustDesk_lastDayOf_1 : decode kY_TrustDesk_lastDayOf.2.1 1 = .ok (.sipush 360, 3) := by decide +kernel
theorem d_TrustDesk_lastDayOf_4 : decode kY_TrustDesk_lastDayOf.2.1 4 = .ok (.imul, 1) := by decide +kernel
theorem d_TrustDesk_lastDayOf_5 : decode kY_TrustDesk_lastDayOf.2.1 5 = .ok (.sipush 360, 3) := by decide +kernel
theorem d_TrustDesk_lastDayOf_8 : decode kY_TrustDesk_lastDayOf.2.1 8 = .ok (.iadd, 1) := by decide +kernel
theorem d_TrustDesk_lastDayOf_9 : decode kY_TrustDesk_lastDayOf.2.1 9 = .ok (.iconst 1, 1) := by decide +kernel
theorem d_TrustDesk_lastDayOf_10 : decode kY_TrustDesk_lastDayOf.2.1 10 = .ok (.isub, 1) := by decide +kernel
theorem d_TrustDesk_lastDayOf_11 : decode kY_TrustDesk_lastDayOf.2.1 11 = .ok (.ireturn, 1) := by decide +kernel
def w_TrustDesk_lastDayOf : List Nat := []
theorem tc_TrustDesk_lastDayOf {g : mj_G} {l : Launch} {d : Nat} {T0 : tm_H} {M0 : mj_M} {n0 x9 : Nat} {x1 : Int32} (I0 : tm_I tm_FT (tm_in w_TrustDesk_lastDayOf) x9 T0 M0 n0 T0 M0 n0) : mj_Met g l kY_TrustDesk_lastDayOf d [.int x1] M0 n0 0 0 (tm_Q tm_FT (tm_in w_TrustDesk_lastDayOf) x9 T0 M0 n0 (fun r _ _ => ∃ v : Int32, r = some (.int v))) := by
  refine mj_enter (by decide) (Nat.le_of_ble_eq_true rfl) ?_
  refine mv_iload_n d_TrustDesk_lastDayOf_0 rfl rfl ?_
  refine mv_sipush (v := 360) d_TrustDesk_lastDayOf_1 (by decide) ?_
  refine mv_imul d_TrustDesk_lastDayOf_4 ?_
  refine mv_sipush (v := 360) d_TrustDesk_lastDayOf_5 (by decide) ?_
  refine mv_iadd d_TrustDesk_lastDayOf_8 ?_
  refine mv_iconst (v := 1) d_TrustDesk_lastDayOf_9 (by decide) ?_
  refine mv_isub d_TrustDesk_lastDayOf_10 ?_
  exact mv_iret d_TrustDesk_lastDayOf_11 rfl (by first | rfl | decide) ⟨_, I0, _, rfl⟩
theorem lS_TrustDesk_151 : mj_lS "TrustDesk" 151 kY_TrustDesk_lastDayOf 1 := ⟨⟨(mj_in1 (List.mem_of_getElem? (i := 848) (by decide +kernel)) rfl), (mj_in1 (List.mem_of_getElem? (i := 1) (by decide +kernel)) rfl), (mj_in1 (List.mem_of_getElem? (i := 850) (by decide +kernel)) rfl), by decide, rfl, by decide⟩, (mj_in1 (List.mem_of_getElem? (i := 849) (by decide +kernel)) rfl)⟩
theorem d_TrustDesk_account_21 : decode kY_TrustDesk_account.2.1 21 = .ok (.aload_n 0, 1) := by decide +kernel
theorem d_TrustDesk_account_22 : decode kY_TrustDesk_account.2.1 22 = .ok (.getfield 73, 3) := by decide +kernel
theorem f_TrustDesk_73_12 : mj_fl "TrustDesk" 73 12 12 := ⟨kR_TrustDesk, kF_TrustDesk, 13, "TrustDesk", rfl, kg_12, by decide, (mj_in1 (List.mem_of_getElem? (i := 279) (by decide +kernel)) rfl), Or.inl rfl⟩
theorem d_TrustDesk_account_25 : decode kY_TrustDesk_account.2.1 25 = .ok (.if_icmp .ge 21, 3) := by decide +kernel
theorem d_TrustDesk_account_28 : decode kY_TrustDesk_account.2.1 28 = .ok (.aload_n 0, 1) := by decide +kernel
theorem d_TrustDesk_account_29 : decode kY_TrustDesk_account.2.1 29 = .ok (.getfield 509, 3) := by decide +kernel
theorem f_TrustDesk_509_12 : mj_fl "TrustDesk" 509 12 11 := ⟨kR_TrustDesk, kF_TrustDesk, 13, "TrustDesk", rfl, kg_12, by decide, (mj_in1 (List.mem_of_getElem? (i := 278) (by decide +kernel)) rfl), Or.inl rfl⟩
theorem d_TrustDesk_account_32 : decode kY_TrustDesk_account.2.1 32 = .ok (.sipush 200, 3) := by decide +kernel
theorem d_TrustDesk_account_35 : decode kY_TrustDesk_account.2.1 35 = .ok (.if_icmp .ge 11, 3) := by decide +kernel
theorem d_TrustDesk_account_38 : decode kY_TrustDesk_account.2.1 38 = .ok (.aload_n 3, 1) := by decide +kernel
theorem d_TrustDesk_account_39 : decode kY_TrustDesk_account.2.1 39 = .ok (.iload_n 2, 1) := by decide +kernel
theorem d_TrustDesk_account_40 : decode kY_TrustDesk_account.2.1 40 = .ok (.invokevirtual 512, 3) := by decide +kernel
abbrev kY_Fund_takeAccount : mj_Y := (⟨"TrustDesk$Fund", "takeAccount", "(I)Z"⟩, prog_7_method_13_code, 2, (Option.some Jvm.ClassFile.FieldType.boolean))
theorem d_Fund_takeAccount_0 : decode kY_Fund_takeAccount.2.1 0 = .ok (.iload_n 1, 1) := by decide +kernel
theorem d_Fund_takeAccount_1 : decode kY_Fund_takeAccount.2.1 1 = .ok (.ifCond .lt 18, 3) := by decide +kernel
theorem d_Fund_takeAccount_19 : decode kY_Fund_takeAccount.2.1 19 = .ok (.iconst 0, 1) := by decide +kernel
theorem d_Fund_takeAccount_20 : decode kY_Fund_takeAccount.2.1 20 = .ok (.ireturn, 1) := by decide +kernel
theorem d_Fund_takeAccount_4 : decode kY_Fund_takeAccount.2.1 4 = .ok (.iload_n 1, 1) := by decide +kernel
theorem d_Fund_takeAccount_5 : decode kY_Fund_takeAccount.2.1 5 = .ok (.bipush 100, 2) := by decide +kernel
theorem d_Fund_takeAccount_7 : decode kY_Fund_takeAccount.2.1 7 = .ok (.if_icmp .gt 12, 3) := by decide +kernel
theorem d_Fund_takeAccount_10 : decode kY_Fund_takeAccount.2.1 10 = .ok (.aload_n 0, 1) := by decide +kernel
theorem d_Fund_takeAccount_11 : decode kY_Fund_takeAccount.2.1 11 = .ok (.getfield 36, 3) := by decide +kernel
theorem kg_6 : ∀ w ∈ u_ws kR_Fund kF_Fund 15, w ∈ mj_T := fun w h => mj_in1 (ki_Fund w h) (List.all_eq_true.mp (show (u_ws kR_Fund kF_Fund 15).all mj_good = true by decide +kernel) w h)
theorem f_Fund_36_6 : mj_fl "TrustDesk$Fund" 36 6 14 := ⟨kR_Fund, kF_Fund, 15, "TrustDesk$Fund", rfl, kg_6, by decide, (mj_in1 (List.mem_of_getElem? (i := 693) (by decide +kernel)) rfl), Or.inl rfl⟩
theorem d_Fund_takeAccount_14 : decode kY_Fund_takeAccount.2.1 14 = .ok (.iload_n 1, 1) := by decide +kernel
theorem d_Fund_takeAccount_15 : decode kY_Fund_takeAccount.2.1 15 = .ok (.baload, 1) := by decide +kernel
theorem d_Fund_takeAccount_16 : decode kY_Fund_takeAccount.2.1 16 = .ok (.ifCond .eq 5, 3) := by decide +kernel
theorem d_Fund_takeAccount_21 : decode kY_Fund_takeAccount.2.1 21 = .ok (.aload_n 0, 1) := by decide +kernel
theorem d_Fund_takeAccount_22 : decode kY_Fund_takeAccount.2.1 22 = .ok (.getfield 36, 3) := by decide +kernel
theorem d_Fund_takeAccount_25 : decode kY_Fund_takeAccount.2.1 25 = .ok (.iload_n 1, 1) := by decide +kernel
theorem d_Fund_takeAccount_26 : decode kY_Fund_takeAccount.2.1 26 = .ok (.iconst 1, 1) := by decide +kernel
theorem d_Fund_takeAccount_27 : decode kY_Fund_takeAccount.2.1 27 = .ok (.bastore, 1) := by decide +kernel
theorem d_Fund_takeAccount_28 : decode kY_Fund_takeAccount.2.1 28 = .ok (.iconst 1, 1) := by decide +kernel
theorem d_Fund_takeAccount_29 : decode kY_Fund_takeAccount.2.1 29 = .ok (.ireturn, 1) := by decide +kernel
def w_Fund_takeAccount : List Nat := [664]
theorem tc_Fund_takeAccount {g : mj_G} {l : Launch} {d : Nat} {T0 : tm_H} {M0 : mj_M} {n0 x9 : Nat} {o0 : Nat} {x1 : Int32} (h_o0 : T0 o0 = some (0, 6, 0)) (I0 : tm_I tm_FT (tm_in w_Fund_takeAccount) x9 T0 M0 n0 T0 M0 n0) : mj_Met g l kY_Fund_takeAccount d [.ref o0, .int x1] M0 n0 0 0 (tm_Q tm_FT (tm_in w_Fund_takeAccount) x9 T0 M0 n0 (fun r _ _ => ∃ v : Int32, r = some (.int v) ∧ 0 ≤ v.toInt ∧ v.toInt ≤ 1)) := by
  refine mj_enter (by decide) (Nat.le_of_ble_eq_true rfl) ?_
  refine mv_iload_n d_Fund_takeAccount_0 rfl rfl ?_
  have := mz_hi x1
  refine mv_if_ltZ (tgt := 19) (a := x1.toInt) d_Fund_takeAccount_1 (by decide) rfl (fun b1 => ?_) (fun b1 => ?_)
  · refine mv_iconst (v := 0) d_Fund_takeAccount_19 (by decide) ?_
    exact mv_iret d_Fund_takeAccount_20 rfl (by decide) ⟨_, I0, _, rfl, by decide, by decide⟩
  · refine mv_iload_n d_Fund_takeAccount_4 rfl rfl ?_
    refine mv_bipush (v := 100) d_Fund_takeAccount_5 (by decide) ?_
    have := mz_hi x1
    refine mv_icmp_gtZ (tgt := 19) (a := x1.toInt) (b := 100) d_Fund_takeAccount_7 (by decide) rfl (by decide) (fun b2 => ?_) (fun b2 => ?_)
    · refine mv_iconst (v := 0) d_Fund_takeAccount_19 (by decide) ?_
      exact mv_iret d_Fund_takeAccount_20 rfl (by decide) ⟨_, I0, _, rfl, by decide, by decide⟩
    · refine mv_aload_n d_Fund_takeAccount_10 rfl rfl ?_
      obtain ⟨a4, q3, t_a4⟩ := tm_atR I0 h_o0 (k := 14) rfl
      refine tr_getK q3 d_Fund_takeAccount_11 f_Fund_36_6 ?_
      refine mv_iload_n d_Fund_takeAccount_14 rfl rfl ?_
      refine tr_zald I0 t_a4 (by decide) d_Fund_takeAccount_15 (vp_in_iff.mpr (by omega)) (fun v5 => ?_)
      have := mz_hi v5
      refine mv_if_eqZ (tgt := 21) (a := v5.toInt) d_Fund_takeAccount_16 (by decide) rfl (fun b6 => ?_) (fun b6 => ?_)
      · refine mv_aload_n d_Fund_takeAccount_21 rfl rfl ?_
        refine tr_getK (k := 14) q3 d_Fund_takeAccount_22 f_Fund_36_6 ?_
        refine mv_iload_n d_Fund_takeAccount_25 rfl rfl ?_
        refine mv_iconst (v := 1) d_Fund_takeAccount_26 (by decide) ?_
        refine tr_zastK tm_okF I0 t_a4 (by decide) (Or.inl (by decide)) d_Fund_takeAccount_27 (vp_in_iff.mpr (by omega)) (fun M7 I8 K9 => ?_)
        refine mv_iconst (v := 1) d_Fund_takeAccount_28 (by decide) ?_
        exact mv_iret d_Fund_takeAccount_29 rfl (by decide) ⟨_, I8, _, rfl, by decide, by decide⟩
      · refine mv_iconst (v := 0) d_Fund_takeAccount_19 (by decide) ?_
        exact mv_iret d_Fund_takeAccount_20 rfl (by decide) ⟨_, I0, _, rfl, by decide, by decide⟩
theorem lV_TrustDesk_512 : mj_lV "TrustDesk" 512 kY_Fund_takeAccount 1 := ⟨⟨(mj_in1 (List.mem_of_getElem? (i := 1290) (by decide +kernel)) rfl), (mj_in1 (List.mem_of_getElem? (i := 21) (by decide +kernel)) rfl), (mj_in1 (List.mem_of_getElem? (i := 1293) (by decide +kernel)) rfl), by decide, rfl, by decide⟩, (mj_in1 (List.mem_of_getElem? (i := 1291) (by decide +kernel)) rfl), (mj_in1 (List.mem_of_getElem? (i := 1292) (by decide +kernel)) rfl)⟩
theorem d_TrustDesk_account_43 : decode kY_TrustDesk_account.2.1 43 = .ok (.ifCond .ne 5, 3) := by decide +kernel
theorem d_TrustDesk_account_48 : decode kY_TrustDesk_account.2.1 48 = .ok (.aload_n 0, 1) := by decide +kernel
theorem d_TrustDesk_account_49 : decode kY_TrustDesk_account.2.1 49 = .ok (.dup, 1) := by decide +kernel
theorem d_TrustDesk_account_50 : decode kY_TrustDesk_account.2.1 50 = .ok (.getfield 509, 3) := by decide +kernel
theorem d_TrustDesk_account_53 : decode kY_TrustDesk_account.2.1 53 = .ok (.iconst 1, 1) := by decide +kernel
theorem d_TrustDesk_account_54 : decode kY_TrustDesk_account.2.1 54 = .ok (.iadd, 1) := by decide +kernel
theorem d_TrustDesk_account_55 : decode kY_TrustDesk_account.2.1 55 = .ok (.putfield 509, 3) := by decide +kernel
theorem p_TrustDesk_509_12 : mj_fp "TrustDesk" 509 12 11 (kt_TrustDesk 11) false := ⟨kR_TrustDesk, kF_TrustDesk, 13, "TrustDesk", kt_TrustDesk, rfl, kg_12, by decide, (mj_in1 (List.mem_of_getElem? (i := 278) (by decide +kernel)) rfl), Or.inl rfl, kto_TrustDesk, kn_TrustDesk, rfl, rfl, fun h => by cases h⟩
theorem d_TrustDesk_account_58 : decode kY_TrustDesk_account.2.1 58 = .ok (.iload_n 2, 1) := by decide +kernel
theorem d_TrustDesk_account_59 : decode kY_TrustDesk_account.2.1 59 = .ok (.invokestatic 151, 3) := by decide +kernel
theorem d_TrustDesk_account_62 : decode kY_TrustDesk_account.2.1 62 = .ok (.istore 4, 2) := by decide +kernel
theorem d_TrustDesk_account_64 : decode kY_TrustDesk_account.2.1 64 = .ok (.aload_n 0, 1) := by decide +kernel
theorem d_TrustDesk_account_65 : decode kY_TrustDesk_account.2.1 65 = .ok (.getfield 73, 3) := by decide +kernel
theorem d_TrustDesk_account_68 : decode kY_TrustDesk_account.2.1 68 = .ok (.iload 4, 2) := by decide +kernel
theorem d_TrustDesk_account_70 : decode kY_TrustDesk_account.2.1 70 = .ok (.isub, 1) := by decide +kernel
theorem d_TrustDesk_account_71 : decode kY_TrustDesk_account.2.1 71 = .ok (.aload_n 0, 1) := by decide +kernel
theorem d_TrustDesk_account_72 : decode kY_TrustDesk_account.2.1 72 = .ok (.iload 4, 2) := by decide +kernel
theorem d_TrustDesk_account_74 : decode kY_TrustDesk_account.2.1 74 = .ok (.invokevirtual 114, 3) := by decide +kernel
abbrev kY_TrustDesk_inForce : mj_Y := (⟨"TrustDesk", "inForce", "(I)LTrustDesk$Act;"⟩, prog_1_method_64_code, 5, (Option.some (Jvm.ClassFile.FieldType.object "TrustDesk$Act")))
theorem d_TrustDesk_inForce_0 : decode kY_TrustDesk_inForce.2.1 0 = .ok (.aload_n 0, 1) := by decide +kernel
theorem d_TrustDesk_inForce_1 : decode kY_TrustDesk_inForce.2.1 1 = .ok (.getfield 42, 3) := by decide +kernel
theorem f_TrustDesk_42_12 : mj_fl "TrustDesk" 42 12 4 := ⟨kR_TrustDesk, kF_TrustDesk, 13, "TrustDesk", rfl, kg_12, by decide, (mj_in1 (List.mem_of_getElem? (i := 271) (by decide +kernel)) rfl), Or.inl rfl⟩
theorem d_TrustDesk_inForce_4 : decode kY_TrustDesk_inForce.2.1 4 = .ok (.astore_n 2, 1) := by decide +kernel
theorem d_TrustDesk_inForce_5 : decode kY_TrustDesk_inForce.2.1 5 = .ok (.iconst 0, 1) := by decide +kernel
theorem d_TrustDesk_inForce_6 : decode kY_TrustDesk_inForce.2.1 6 = .ok (.istore_n 3, 1) := by decide +kernel
theorem d_TrustDesk_inForce_7 : decode kY_TrustDesk_inForce.2.1 7 = .ok (.iload_n 3, 1) := by decide +kernel
theorem d_TrustDesk_inForce_8 : decode kY_TrustDesk_inForce.2.1 8 = .ok (.aload_n 0, 1) := by decide +kernel
theorem d_TrustDesk_inForce_9 : decode kY_TrustDesk_inForce.2.1 9 = .ok (.getfield 49, 3) := by decide +kernel
theorem f_TrustDesk_49_12 : mj_fl "TrustDesk" 49 12 5 := ⟨kR_TrustDesk, kF_TrustDesk, 13, "TrustDesk", rfl, kg_12, by decide, (mj_in1 (List.mem_of_getElem? (i := 272) (by decide +kernel)) rfl), Or.inl rfl⟩
theorem d_TrustDesk_inForce_12 : decode kY_TrustDesk_inForce.2.1 12 = .ok (.invokevirtual 97, 3) := by decide +kernel
theorem d_TrustDesk_inForce_15 : decode kY_TrustDesk_inForce.2.1 15 = .ok (.if_icmp .ge 46, 3) := by decide +kernel
theorem d_TrustDesk_inForce_61 : decode kY_TrustDesk_inForce.2.1 61 = .ok (.aload_n 2, 1) := by decide +kernel
theorem d_TrustDesk_inForce_62 : decode kY_TrustDesk_inForce.2.1 62 = .ok (.areturn, 1) := by decide +kernel
theorem d_TrustDesk_inForce_18 : decode kY_TrustDesk_inForce.2.1 18 = .ok (.aload_n 0, 1) := by decide +kernel
theorem d_TrustDesk_inForce_19 : decode kY_TrustDesk_inForce.2.1 19 = .ok (.getfield 49, 3) := by decide +kernel
theorem d_TrustDesk_inForce_22 : decode kY_TrustDesk_inForce.2.1 22 = .ok (.iload_n 3, 1) := by decide +kernel
theorem d_TrustDesk_inForce_23 : decode kY_TrustDesk_inForce.2.1 23 = .ok (.invokevirtual 158, 3) := by decide +kernel
theorem d_TrustDesk_inForce_26 : decode kY_TrustDesk_inForce.2.1 26 = .ok (.checkcast 37, 3) := by decide +kernel
theorem d_TrustDesk_inForce_29 : decode kY_TrustDesk_inForce.2.1 29 = .ok (.astore 4, 2) := by decide +kernel
theorem d_TrustDesk_inForce_31 : decode kY_TrustDesk_inForce.2.1 31 = .ok (.aload 4, 2) := by decide +kernel
theorem d_TrustDesk_inForce_33 : decode kY_TrustDesk_inForce.2.1 33 = .ok (.getfield 524, 3) := by decide +kernel
theorem f_TrustDesk_524_1 : mj_fl "TrustDesk" 524 1 0 := ⟨kR_Act, kF_Act, 5, "TrustDesk$Act", rfl, kg_1, by decide, (mj_in1 (List.mem_of_getElem? (i := 247) (by decide +kernel)) rfl), Or.inl rfl⟩
theorem d_TrustDesk_inForce_36 : decode kY_TrustDesk_inForce.2.1 36 = .ok (.iload_n 1, 1) := by decide +kernel
theorem d_TrustDesk_inForce_37 : decode kY_TrustDesk_inForce.2.1 37 = .ok (.if_icmp .gt 18, 3) := by decide +kernel
theorem d_TrustDesk_inForce_55 : decode kY_TrustDesk_inForce.2.1 55 = .ok (.iinc 3 1, 3) := by decide +kernel
theorem d_TrustDesk_inForce_58 : decode kY_TrustDesk_inForce.2.1 58 = .ok (.goto (-51), 3) := by decide +kernel
theorem d_TrustDesk_inForce_40 : decode kY_TrustDesk_inForce.2.1 40 = .ok (.aload 4, 2) := by decide +kernel
theorem d_TrustDesk_inForce_42 : decode kY_TrustDesk_inForce.2.1 42 = .ok (.getfield 524, 3) := by decide +kernel
theorem d_TrustDesk_inForce_45 : decode kY_TrustDesk_inForce.2.1 45 = .ok (.aload_n 2, 1) := by decide +kernel
theorem d_TrustDesk_inForce_46 : decode kY_TrustDesk_inForce.2.1 46 = .ok (.getfield 524, 3) := by decide +kernel
theorem d_TrustDesk_inForce_49 : decode kY_TrustDesk_inForce.2.1 49 = .ok (.if_icmp .lt 6, 3) := by decide +kernel
theorem d_TrustDesk_inForce_52 : decode kY_TrustDesk_inForce.2.1 52 = .ok (.aload 4, 2) := by decide +kernel
theorem d_TrustDesk_inForce_54 : decode kY_TrustDesk_inForce.2.1 54 = .ok (.astore_n 2, 1) := by decide +kernel
def w_TrustDesk_inForce : List Nat := []
theorem tc_TrustDesk_inForce {g : mj_G} {l : Launch} {d : Nat} {T0 : tm_H} {M0 : mj_M} {n0 x9 : Nat} {o0 : Nat} {x1 : Int32} (h_o0 : T0 o0 = some (0, 12, 0)) (I0 : tm_I tm_FT (tm_in w_TrustDesk_inForce) x9 T0 M0 n0 T0 M0 n0) : mj_Met g l kY_TrustDesk_inForce (d + 3) [.ref o0, .int x1] M0 n0 0 0 (tm_Q tm_FT (tm_in w_TrustDesk_inForce) x9 T0 M0 n0 (fun r T _ => ∃ b, r = some (.ref b) ∧ T b = some (0, 1, 0))) := by
  refine mj_enter (by decide) (Nat.le_of_ble_eq_true rfl) ?_
  refine mv_aload_n d_TrustDesk_inForce_0 rfl rfl ?_
  obtain ⟨a2, q1, t_a2⟩ := tm_atR I0 h_o0 (k := 4) rfl
  refine tr_getK q1 d_TrustDesk_inForce_1 f_TrustDesk_42_12 ?_
  refine mv_astore_n (lv' := [(2, .ref a2), (0, .ref o0), (1, .int x1)]) d_TrustDesk_inForce_4 rfl (by decide) rfl ?_
  refine mv_iconst (v := 0) d_TrustDesk_inForce_5 (by decide) ?_
  refine mv_istore_n (lv' := [(3, .int 0), (2, .ref a2), (0, .ref o0), (1, .int x1)]) d_TrustDesk_inForce_6 rfl (by decide) rfl ?_
  have L7_3 : ∀ (k : Nat) (i3_3 : Int32) (r2_3 : Nat) (T_3 : tm_H) (M_3 : mj_M) (n_3 : Nat), tm_I tm_FT (tm_in w_TrustDesk_inForce) x9 T0 M0 n0 T_3 M_3 n_3 → T_3 r2_3 = some (0, 1, 0) → T_3 o0 = some (0, 12, 0) → 0 ≤ i3_3.toInt → 2147483647 - i3_3.toInt < (k : Int) → mj_V g l kY_TrustDesk_inForce (d + 3) 7 [(3, .int i3_3), (2, .ref r2_3), (0, .ref o0), (1, .int x1)] [] M_3 n_3 0 0 (tm_Q tm_FT (tm_in w_TrustDesk_inForce) x9 T0 M0 n0 (fun r T _ => ∃ b, r = some (.ref b) ∧ T b = some (0, 1, 0))) := by
    intro k3
    induction k3 with
    | zero =>
      intro i3_3 r2_3 T_3 M_3 n_3 I_3 h_r2_3 h_q0_3 iv0_3 hk3
      have := mz_hi i3_3
      omega
    | succ k3 ih3 =>
      intro i3_3 r2_3 T_3 M_3 n_3 I_3 h_r2_3 h_q0_3 iv0_3 hk3
      refine mv_iload_n d_TrustDesk_inForce_7 rfl rfl ?_
      refine mv_aload_n d_TrustDesk_inForce_8 rfl rfl ?_
      obtain ⟨a5, q4, t_a5⟩ := tm_atO I_3 h_q0_3 (k := 5) rfl
      refine tr_getK q4 d_TrustDesk_inForce_9 f_TrustDesk_49_12 ?_
      obtain ⟨m7, n11, e8, N9, f10, h6⟩ := I_3.1 _ _ t_a5
      have := h6.2.1
      have : n11.toInt ≤ 20 := h6.2.2.1
      have q12 : tm_at M_3 a5 0 2 (.int n11) := ⟨_, h6.1, rfl⟩
      refine mv_callV_s (kc' := 0) (ks' := 0) [] [.ref a5, .int i3_3] d_TrustDesk_inForce_12 lV_TrustDesk_97 h6.1 rfl (tc_L_size (d := (d + 2)) h6.1) rfl (Nat.le_of_ble_eq_true rfl) (Nat.le_of_ble_eq_true rfl) (Nat.le_of_ble_eq_true rfl) rfl ?_
      have := mz_hi i3_3
      have := mz_hi n11
      refine mv_icmp_geZ (tgt := 61) (a := i3_3.toInt) (b := n11.toInt) d_TrustDesk_inForce_15 (by decide) rfl rfl (fun b13 => ?_) (fun b13 => ?_)
      · refine mv_aload_n d_TrustDesk_inForce_61 rfl rfl ?_
        exact mv_aret (r := some r2_3) d_TrustDesk_inForce_62 rfl (by first | exact Or.inl ⟨_, rfl⟩ | exact Or.inr ⟨_, rfl⟩) ⟨_, I_3, ⟨_, rfl, h_r2_3⟩⟩
      · refine mv_aload_n d_TrustDesk_inForce_18 rfl rfl ?_
        refine tr_getK (k := 5) q4 d_TrustDesk_inForce_19 f_TrustDesk_49_12 ?_
        refine mv_iload_n d_TrustDesk_inForce_22 rfl rfl ?_
        obtain ⟨m15, e16, N17, f18, h14⟩ := tm_lsn I_3 t_a5 q12
        obtain ⟨u19e, u19i, a20, u19f, u19t⟩ := tm_el (i := i3_3) h14 (by omega) (by omega)
        have t_a20 : T_3 a20 = some (0, 1, 0) := u19t
        refine mv_callV_s (kc' := 0) (ks' := 0) [.int i3_3] [.int i3_3, .ref a5] d_TrustDesk_inForce_23 lV_TrustDesk_158 h14.1 rfl (tc_L_get (d := d) h14.1 u19e (by omega) (by omega) u19i u19f) rfl (Nat.le_of_ble_eq_true rfl) (Nat.le_of_ble_eq_true rfl) (Nat.le_of_ble_eq_true rfl) rfl ?_
        obtain ⟨_, b21, -⟩ := I_3.1 _ _ t_a20
        refine mv_castS (T9 := kF_Act) (N := 5) d_TrustDesk_inForce_26 (mj_in1 (List.mem_of_getElem? (i := 205) (by decide +kernel)) rfl) b21 rfl ?_
        refine mv_astore (lv' := [(4, .ref a20), (3, .int i3_3), (2, .ref r2_3), (0, .ref o0), (1, .int x1)]) d_TrustDesk_inForce_29 (by decide) rfl ?_
        refine mv_aload d_TrustDesk_inForce_31 rfl ?_
        obtain ⟨v23, q22⟩ := tm_atI I_3 t_a20 (k := 0) rfl
        refine tr_getK q22 d_TrustDesk_inForce_33 f_TrustDesk_524_1 ?_
        refine mv_iload_n d_TrustDesk_inForce_36 rfl rfl ?_
        have := mz_hi v23
        have := mz_hi x1
        refine mv_icmp_gtZ (tgt := 55) (a := v23.toInt) (b := x1.toInt) d_TrustDesk_inForce_37 (by decide) rfl rfl (fun b24 => ?_) (fun b24 => ?_)
        · refine mv_iinc (v := (i3_3 + 1)) (lv' := [(3, .int (i3_3 + 1)), (4, .ref a20), (2, .ref r2_3), (0, .ref o0), (1, .int x1)]) d_TrustDesk_inForce_55 rfl rfl (by decide) rfl ?_
          refine mv_goto (tgt := 7) d_TrustDesk_inForce_58 (by decide) ?_
          refine mv_locals (lv' := [(3, .int (i3_3 + 1)), (2, .ref r2_3), (0, .ref o0), (1, .int x1)]) (by intro q hq; simp only [List.mem_cons, List.not_mem_nil, or_false] at hq; rcases hq with rfl | rfl | rfl | rfl <;> rfl) ?_
          have b25 : (i3_3 + 1).toInt = i3_3.toInt + 1 := mz_addn 1 1 (by decide) (by have := mz_lo i3_3; omega) (by have := mz_hi i3_3; omega)
          exact (ih3 (i3_3 + 1) r2_3 T_3 M_3 n_3 I_3 h_r2_3 h_q0_3 (by first | omega | decide) (by omega))
        · refine mv_aload d_TrustDesk_inForce_40 rfl ?_
          refine tr_getK (k := 0) q22 d_TrustDesk_inForce_42 f_TrustDesk_524_1 ?_
          refine mv_aload_n d_TrustDesk_inForce_45 rfl rfl ?_
          obtain ⟨v27, q26⟩ := tm_atI I_3 h_r2_3 (k := 0) rfl
          refine tr_getK q26 d_TrustDesk_inForce_46 f_TrustDesk_524_1 ?_
          have := mz_hi v23
          have := mz_hi v27
          refine mv_icmp_ltZ (tgt := 55) (a := v23.toInt) (b := v27.toInt) d_TrustDesk_inForce_49 (by decide) rfl rfl (fun b28 => ?_) (fun b28 => ?_)
          · refine mv_iinc (v := (i3_3 + 1)) (lv' := [(3, .int (i3_3 + 1)), (4, .ref a20), (2, .ref r2_3), (0, .ref o0), (1, .int x1)]) d_TrustDesk_inForce_55 rfl rfl (by decide) rfl ?_
            refine mv_goto (tgt := 7) d_TrustDesk_inForce_58 (by decide) ?_
            refine mv_locals (lv' := [(3, .int (i3_3 + 1)), (2, .ref r2_3), (0, .ref o0), (1, .int x1)]) (by intro q hq; simp only [List.mem_cons, List.not_mem_nil, or_false] at hq; rcases hq with rfl | rfl | rfl | rfl <;> rfl) ?_
            have b29 : (i3_3 + 1).toInt = i3_3.toInt + 1 := mz_addn 1 1 (by decide) (by have := mz_lo i3_3; omega) (by have := mz_hi i3_3; omega)
            exact (ih3 (i3_3 + 1) r2_3 T_3 M_3 n_3 I_3 h_r2_3 h_q0_3 (by first | omega | decide) (by omega))
          · refine mv_aload d_TrustDesk_inForce_52 rfl ?_
            refine mv_astore_n (lv' := [(2, .ref a20), (4, .ref a20), (3, .int i3_3), (0, .ref o0), (1, .int x1)]) d_TrustDesk_inForce_54 rfl (by decide) rfl ?_
            refine mv_iinc (v := (i3_3 + 1)) (lv' := [(3, .int (i3_3 + 1)), (2, .ref a20), (4, .ref a20), (0, .ref o0), (1, .int x1)]) d_TrustDesk_inForce_55 rfl rfl (by decide) rfl ?_
            refine mv_goto (tgt := 7) d_TrustDesk_inForce_58 (by decide) ?_
            refine mv_locals (lv' := [(3, .int (i3_3 + 1)), (2, .ref a20), (0, .ref o0), (1, .int x1)]) (by intro q hq; simp only [List.mem_cons, List.not_mem_nil, or_false] at hq; rcases hq with rfl | rfl | rfl | rfl <;> rfl) ?_
            have b30 : (i3_3 + 1).toInt = i3_3.toInt + 1 := mz_addn 1 1 (by decide) (by have := mz_lo i3_3; omega) (by have := mz_hi i3_3; omega)
            exact (ih3 (i3_3 + 1) a20 T_3 M_3 n_3 I_3 t_a20 h_q0_3 (by first | omega | decide) (by omega))
  exact mv_less (Nat.zero_le _) (Nat.zero_le _) (L7_3 4294967296 0 a2 T0 M0 n0 I0 t_a2 h_o0 (by first | omega | decide) (by show (2147483647 - (0 : Int) : Int) < _; decide))
theorem lV_TrustDesk_114 : mj_lV "TrustDesk" 114 kY_TrustDesk_inForce 1 := ⟨⟨(mj_in1 (List.mem_of_getElem? (i := 630) (by decide +kernel)) rfl), (mj_in1 (List.mem_of_getElem? (i := 1) (by decide +kernel)) rfl), (mj_in1 (List.mem_of_getElem? (i := 633) (by decide +kernel)) rfl), by decide, rfl, by decide⟩, (mj_in1 (List.mem_of_getElem? (i := 632) (by decide +kernel)) rfl), (mj_in (List.mem_append_left _ (List.mem_of_getElem? (i := 34) (by decide +kernel))) rfl)⟩
theorem d_TrustDesk_account_77 : decode kY_TrustDesk_account.2.1 77 = .ok (.iconst 3, 1) := by decide +kernel
theorem d_TrustDesk_account_78 : decode kY_TrustDesk_account.2.1 78 = .ok (.invokevirtual 118, 3) := by decide +kernel
abbrev kY_Act_rule : mj_Y := (⟨"TrustDesk$Act", "rule", "(I)I"⟩, prog_2_method_2_code, 2, (Option.some Jvm.ClassFile.FieldType.int))
theorem d_Act_rule_0 : decode kY_Act_rule.2.1 0 = .ok (.iload_n 1, 1) := by decide +kernel
theorem d_Act_rule_1 : decode kY_Act_rule.2.1 1 = .ok (.ifCond .lt 21, 3) := by decide +kernel
theorem d_Act_rule_22 : decode kY_Act_rule.2.1 22 = .ok (.iconst (-1), 1) := by decide +kernel
theorem d_Act_rule_23 : decode kY_Act_rule.2.1 23 = .ok (.ireturn, 1) := by decide +kernel
theorem d_Act_rule_4 : decode kY_Act_rule.2.1 4 = .ok (.iload_n 1, 1) := by decide +kernel
theorem d_Act_rule_5 : decode kY_Act_rule.2.1 5 = .ok (.aload_n 0, 1) := by decide +kernel
theorem d_Act_rule_6 : decode kY_Act_rule.2.1 6 = .ok (.getfield 27, 3) := by decide +kernel
theorem f_Act_27_1 : mj_fl "TrustDesk$Act" 27 1 3 := ⟨kR_Act, kF_Act, 5, "TrustDesk$Act", rfl, kg_1, by decide, (mj_in1 (List.mem_of_getElem? (i := 252) (by decide +kernel)) rfl), Or.inl rfl⟩
theorem d_Act_rule_9 : decode kY_Act_rule.2.1 9 = .ok (.arraylength, 1) := by decide +kernel
theorem d_Act_rule_10 : decode kY_Act_rule.2.1 10 = .ok (.if_icmp .ge 12, 3) := by decide +kernel
theorem d_Act_rule_13 : decode kY_Act_rule.2.1 13 = .ok (.aload_n 0, 1) := by decide +kernel
theorem d_Act_rule_14 : decode kY_Act_rule.2.1 14 = .ok (.getfield 27, 3) := by decide +kernel
theorem d_Act_rule_17 : decode kY_Act_rule.2.1 17 = .ok (.iload_n 1, 1) := by decide +kernel
theorem d_Act_rule_18 : decode kY_Act_rule.2.1 18 = .ok (.iaload, 1) := by decide +kernel
theorem d_Act_rule_19 : decode kY_Act_rule.2.1 19 = .ok (.goto 4, 3) := by decide +kernel
def w_Act_rule : List Nat := []
theorem tc_Act_rule {g : mj_G} {l : Launch} {d : Nat} {T0 : tm_H} {M0 : mj_M} {n0 x9 : Nat} {o0 : Nat} {x1 : Int32} (h_o0 : T0 o0 = some (0, 1, 0)) (I0 : tm_I tm_FT (tm_in w_Act_rule) x9 T0 M0 n0 T0 M0 n0) : mj_Met g l kY_Act_rule d [.ref o0, .int x1] M0 n0 0 0 (tm_Q tm_FT (tm_in w_Act_rule) x9 T0 M0 n0 (fun r _ _ => ∃ v : Int32, r = some (.int v))) := by
  refine mj_enter (by decide) (Nat.le_of_ble_eq_true rfl) ?_
  refine mv_iload_n d_Act_rule_0 rfl rfl ?_
  have := mz_hi x1
  refine mv_if_ltZ (tgt := 22) (a := x1.toInt) d_Act_rule_1 (by decide) rfl (fun b1 => ?_) (fun b1 => ?_)
  · refine mv_iconst (v := (-1)) d_Act_rule_22 (by decide) ?_
    exact mv_iret d_Act_rule_23 rfl (by first | rfl | decide) ⟨_, I0, _, rfl⟩
  · refine mv_iload_n d_Act_rule_4 rfl rfl ?_
    refine mv_aload_n d_Act_rule_5 rfl rfl ?_
    obtain ⟨a3, q2, t_a3⟩ := tm_atR I0 h_o0 (k := 3) rfl
    refine tr_getK q2 d_Act_rule_6 f_Act_27_1 ?_
    refine tr_alen (v := 6) I0 t_a3 (by decide) (by decide) d_Act_rule_9 ?_
    have := mz_hi x1
    refine mv_icmp_geZ (tgt := 22) (a := x1.toInt) (b := 6) d_Act_rule_10 (by decide) rfl (by decide) (fun b4 => ?_) (fun b4 => ?_)
    · refine mv_iconst (v := (-1)) d_Act_rule_22 (by decide) ?_
      exact mv_iret d_Act_rule_23 rfl (by first | rfl | decide) ⟨_, I0, _, rfl⟩
    · refine mv_aload_n d_Act_rule_13 rfl rfl ?_
      refine tr_getK (k := 3) q2 d_Act_rule_14 f_Act_27_1 ?_
      refine mv_iload_n d_Act_rule_17 rfl rfl ?_
      refine tr_iald I0 t_a3 (by decide) d_Act_rule_18 (vp_in_iff.mpr (by omega)) (fun v5 => ?_)
      refine mv_goto (tgt := 23) d_Act_rule_19 (by decide) ?_
      exact mv_iret d_Act_rule_23 rfl (by first | rfl | decide) ⟨_, I0, _, rfl⟩
theorem lV_TrustDesk_118 : mj_lV "TrustDesk" 118 kY_Act_rule 1 := ⟨⟨(mj_in1 (List.mem_of_getElem? (i := 646) (by decide +kernel)) rfl), (mj_in1 (List.mem_of_getElem? (i := 6) (by decide +kernel)) rfl), (mj_in1 (List.mem_of_getElem? (i := 649) (by decide +kernel)) rfl), by decide, rfl, by decide⟩, (mj_in1 (List.mem_of_getElem? (i := 647) (by decide +kernel)) rfl), (mj_in1 (List.mem_of_getElem? (i := 648) (by decide +kernel)) rfl)⟩
theorem d_TrustDesk_account_81 : decode kY_TrustDesk_account.2.1 81 = .ok (.isub, 1) := by decide +kernel
theorem d_TrustDesk_account_82 : decode kY_TrustDesk_account.2.1 82 = .ok (.istore 5, 2) := by decide +kernel
theorem d_TrustDesk_account_84 : decode kY_TrustDesk_account.2.1 84 = .ok (.iload 5, 2) := by decide +kernel
theorem d_TrustDesk_account_86 : decode kY_TrustDesk_account.2.1 86 = .ok (.ifCond .le 8, 3) := by decide +kernel
theorem d_TrustDesk_account_94 : decode kY_TrustDesk_account.2.1 94 = .ok (.iconst 0, 1) := by decide +kernel
theorem d_TrustDesk_account_95 : decode kY_TrustDesk_account.2.1 95 = .ok (.ireturn, 1) := by decide +kernel
theorem d_TrustDesk_account_89 : decode kY_TrustDesk_account.2.1 89 = .ok (.iload 5, 2) := by decide +kernel
theorem d_TrustDesk_account_91 : decode kY_TrustDesk_account.2.1 91 = .ok (.goto 4, 3) := by decide +kernel
def w_TrustDesk_account : List Nat := [664, 1211]
theorem tc_TrustDesk_account {g : mj_G} {l : Launch} {d : Nat} {T0 : tm_H} {M0 : mj_M} {n0 x9 : Nat} {o0 : Nat} {x1 : Int32} {x2 : Int32} (h_o0 : T0 o0 = some (0, 12, 0)) (I0 : tm_I tm_FT (tm_in w_TrustDesk_account) x9 T0 M0 n0 T0 M0 n0) : mj_Met g l kY_TrustDesk_account (d + 4) [.ref o0, .int x1, .int x2] M0 n0 0 0 (tm_Q tm_FT (tm_in w_TrustDesk_account) x9 T0 M0 n0 (fun r _ _ => ∃ v : Int32, r = some (.int v))) := by
  refine mj_enter (by decide) (Nat.le_of_ble_eq_true rfl) ?_
  refine mv_aload_n d_TrustDesk_account_0 rfl rfl ?_
  refine mv_iload_n d_TrustDesk_account_1 rfl rfl ?_
  obtain ⟨_, b7, -⟩ := I0.1 _ _ h_o0
  refine mv_callV (kc' := 0) (ks' := 0) (As := [.int x1]) (st9 := [.int x1, .ref o0]) d_TrustDesk_account_2 lV_TrustDesk_257 b7 rfl (tc_TrustDesk_fundAt (d := d) (x9 := x9) (o0 := o0) (x1 := x1) h_o0 I0.start) rfl (Nat.le_of_ble_eq_true rfl) (Nat.le_of_ble_eq_true rfl) (Nat.le_of_ble_eq_true rfl) (hst := rfl) (fun b1r M2 n3 b1 => ?_)
  obtain ⟨T4, J5, b9⟩ := b1
  have I6 := I0.call J5 (tm_sub (by decide)) (Or.inl rfl)
  have t10 := J5.up h_o0
  rcases b9 with rfl | ⟨a8, rfl, t_a8⟩
  · refine mv_astore_nN (lv' := [(3, .null), (0, .ref o0), (1, .int x1), (2, .int x2)]) d_TrustDesk_account_5 rfl (by decide) rfl ?_
    refine mv_aload_nN d_TrustDesk_account_6 rfl rfl ?_
    refine mv_ifnullN (tgt := 46) d_TrustDesk_account_7 (by decide) ?_
    refine mv_iconst (v := (-1)) d_TrustDesk_account_46 (by decide) ?_
    exact mv_iret d_TrustDesk_account_47 rfl (by first | rfl | decide) ⟨_, I6, _, rfl⟩
  · refine mv_astore_n (lv' := [(3, .ref a8), (0, .ref o0), (1, .int x1), (2, .int x2)]) d_TrustDesk_account_5 rfl (by decide) rfl ?_
    refine mv_aload_n d_TrustDesk_account_6 rfl rfl ?_
    refine mv_ifnull d_TrustDesk_account_7 ?_
    refine mv_iload_n d_TrustDesk_account_10 rfl rfl ?_
    refine mv_callS (kc' := 0) (ks' := 0) (As := [.int x2]) (st9 := [.int x2]) d_TrustDesk_account_11 lS_TrustDesk_70 (tc_TrustDesk_isYear (d := (d + 3)) (x9 := x9) (x1 := x2)  I6.start) rfl (Nat.le_of_ble_eq_true rfl) (Nat.le_of_ble_eq_true rfl) (Nat.le_of_ble_eq_true rfl) (hst := rfl) (fun b11r M12 n13 b11 => ?_)
    obtain ⟨T14, J15, v17, rfl, b18, b19⟩ := b11
    have I16 := I6.call J15 (tm_sub (by decide)) (Or.inl rfl)
    have t20 := J15.up t_a8
    have t21 := J15.up t10
    have := mz_hi v17
    refine mv_if_eqZ (tgt := 46) (a := v17.toInt) d_TrustDesk_account_14 (by decide) rfl (fun b22 => ?_) (fun b22 => ?_)
    · refine mv_iconst (v := (-1)) d_TrustDesk_account_46 (by decide) ?_
      exact mv_iret d_TrustDesk_account_47 rfl (by first | rfl | decide) ⟨_, I16, _, rfl⟩
    · refine mv_iload_n d_TrustDesk_account_17 rfl rfl ?_
      refine mv_callS (kc' := 0) (ks' := 0) (As := [.int x2]) (st9 := [.int x2]) d_TrustDesk_account_18 lS_TrustDesk_151 (tc_TrustDesk_lastDayOf (d := (d + 3)) (x9 := x9) (x1 := x2)  I16.start) rfl (Nat.le_of_ble_eq_true rfl) (Nat.le_of_ble_eq_true rfl) (Nat.le_of_ble_eq_true rfl) (hst := rfl) (fun b23r M24 n25 b23 => ?_)
      obtain ⟨T26, J27, v29, rfl⟩ := b23
      have I28 := I16.call J27 (tm_sub (by decide)) (Or.inl rfl)
      have t30 := J27.up t20
      have t31 := J27.up t21
      refine mv_aload_n d_TrustDesk_account_21 rfl rfl ?_
      obtain ⟨v33, q32⟩ := tm_atI I28 t31 (k := 12) rfl
      refine tr_getK q32 d_TrustDesk_account_22 f_TrustDesk_73_12 ?_
      have := mz_hi v29
      have := mz_hi v33
      refine mv_icmp_geZ (tgt := 46) (a := v29.toInt) (b := v33.toInt) d_TrustDesk_account_25 (by decide) rfl rfl (fun b34 => ?_) (fun b34 => ?_)
      · refine mv_iconst (v := (-1)) d_TrustDesk_account_46 (by decide) ?_
        exact mv_iret d_TrustDesk_account_47 rfl (by first | rfl | decide) ⟨_, I28, _, rfl⟩
      · refine mv_aload_n d_TrustDesk_account_28 rfl rfl ?_
        obtain ⟨v36, q35⟩ := tm_atI I28 t31 (k := 11) rfl
        refine tr_getK q35 d_TrustDesk_account_29 f_TrustDesk_509_12 ?_
        refine mv_sipush (v := 200) d_TrustDesk_account_32 (by decide) ?_
        have := mz_hi v36
        refine mv_icmp_geZ (tgt := 46) (a := v36.toInt) (b := 200) d_TrustDesk_account_35 (by decide) rfl (by decide) (fun b37 => ?_) (fun b37 => ?_)
        · refine mv_iconst (v := (-1)) d_TrustDesk_account_46 (by decide) ?_
          exact mv_iret d_TrustDesk_account_47 rfl (by first | rfl | decide) ⟨_, I28, _, rfl⟩
        · refine mv_aload_n d_TrustDesk_account_38 rfl rfl ?_
          refine mv_iload_n d_TrustDesk_account_39 rfl rfl ?_
          obtain ⟨_, b44, -⟩ := I28.1 _ _ t30
          refine mv_callV (kc' := 0) (ks' := 0) (As := [.int x2]) (st9 := [.int x2, .ref a8]) d_TrustDesk_account_40 lV_TrustDesk_512 b44 rfl (tc_Fund_takeAccount (d := (d + 3)) (x9 := x9) (o0 := a8) (x1 := x2) t30 I28.start) rfl (Nat.le_of_ble_eq_true rfl) (Nat.le_of_ble_eq_true rfl) (Nat.le_of_ble_eq_true rfl) (hst := rfl) (fun b38r M39 n40 b38 => ?_)
          obtain ⟨T41, J42, v45, rfl, b46, b47⟩ := b38
          have I43 := I28.call J42 (tm_sub (by decide)) (Or.inl rfl)
          have t48 := J42.up t30
          have t49 := J42.up t31
          have q50 := J42.keep t31 (by decide) q32
          have q51 := J42.keep t31 (by decide) q35
          have := mz_hi v45
          refine mv_if_neZ (tgt := 48) (a := v45.toInt) d_TrustDesk_account_43 (by decide) rfl (fun b52 => ?_) (fun b52 => ?_)
          · refine mv_aload_n d_TrustDesk_account_48 rfl rfl ?_
            refine mv_dup d_TrustDesk_account_49 rfl ?_
            refine tr_getK (k := 11) q51 d_TrustDesk_account_50 f_TrustDesk_509_12 ?_
            refine mv_iconst (v := 1) d_TrustDesk_account_53 (by decide) ?_
            refine mv_iadd d_TrustDesk_account_54 ?_
            refine tr_putK tm_okF I43 t49 (k := 11) rfl ⟨_, rfl⟩ (Or.inl (by decide)) d_TrustDesk_account_55 p_TrustDesk_509_12 rfl rfl (fun M53 I54 q55 K56 => ?_)
            refine mv_iload_n d_TrustDesk_account_58 rfl rfl ?_
            refine mv_callS (kc' := 0) (ks' := 0) (As := [.int x2]) (st9 := [.int x2]) d_TrustDesk_account_59 lS_TrustDesk_151 (tc_TrustDesk_lastDayOf (d := (d + 3)) (x9 := x9) (x1 := x2)  I54.start) rfl (Nat.le_of_ble_eq_true rfl) (Nat.le_of_ble_eq_true rfl) (Nat.le_of_ble_eq_true rfl) (hst := rfl) (fun b57r M58 n59 b57 => ?_)
            obtain ⟨T60, J61, v63, rfl⟩ := b57
            have I62 := I54.call J61 (tm_sub (by decide)) (Or.inl rfl)
            have t64 := J61.up t48
            have t65 := J61.up t49
            have q66 := J61.keep t49 (by decide) (K56 _ 12 12 _ rfl q50)
            have q67 := J61.keep t49 (by decide) q55
            refine mv_istore (lv' := [(4, .int v63), (3, .ref a8), (0, .ref o0), (1, .int x1), (2, .int x2)]) d_TrustDesk_account_62 (by decide) rfl ?_
            refine mv_aload_n d_TrustDesk_account_64 rfl rfl ?_
            refine tr_getK (k := 12) q66 d_TrustDesk_account_65 f_TrustDesk_73_12 ?_
            refine mv_iload d_TrustDesk_account_68 rfl ?_
            refine mv_isub d_TrustDesk_account_70 ?_
            refine mv_aload_n d_TrustDesk_account_71 rfl rfl ?_
            refine mv_iload d_TrustDesk_account_72 rfl ?_
            obtain ⟨_, b74, -⟩ := I62.1 _ _ t65
            refine mv_callV (kc' := 0) (ks' := 0) (As := [.int v63]) (st9 := [.int v63, .ref o0, .int (v33 - v63)]) d_TrustDesk_account_74 lV_TrustDesk_114 b74 rfl (tc_TrustDesk_inForce (d := d) (x9 := x9) (o0 := o0) (x1 := v63) t65 I62.start) rfl (Nat.le_of_ble_eq_true rfl) (Nat.le_of_ble_eq_true rfl) (Nat.le_of_ble_eq_true rfl) (hst := rfl) (fun b68r M69 n70 b68 => ?_)
            obtain ⟨T71, J72, a75, rfl, t_a75⟩ := b68
            have I73 := I62.call J72 (tm_sub (by decide)) (Or.inl rfl)
            have t76 := J72.up t64
            have t77 := J72.up t65
            have q78 := J72.keep t65 (by decide) q66
            have q79 := J72.keep t65 (by decide) q67
            refine mv_iconst (v := 3) d_TrustDesk_account_77 (by decide) ?_
            obtain ⟨_, b86, -⟩ := I73.1 _ _ t_a75
            refine mv_callV (kc' := 0) (ks' := 0) (As := [.int 3]) (st9 := [.int 3, .ref a75, .int (v33 - v63)]) d_TrustDesk_account_78 lV_TrustDesk_118 b86 rfl (tc_Act_rule (d := (d + 3)) (x9 := x9) (o0 := a75) (x1 := 3) t_a75 I73.start) rfl (Nat.le_of_ble_eq_true rfl) (Nat.le_of_ble_eq_true rfl) (Nat.le_of_ble_eq_true rfl) (hst := rfl) (fun b80r M81 n82 b80 => ?_)
            obtain ⟨T83, J84, v87, rfl⟩ := b80
            have I85 := I73.call J84 (tm_sub (by decide)) (Or.inl rfl)
            have t88 := J84.up t76
            have t89 := J84.up t77
            have q90 := J84.keep t77 (by decide) q78
            have q91 := J84.keep t77 (by decide) q79
            refine mv_isub d_TrustDesk_account_81 ?_
            refine mv_istore (lv' := [(5, .int ((v33 - v63) - v87)), (4, .int v63), (3, .ref a8), (0, .ref o0), (1, .int x1), (2, .int x2)]) d_TrustDesk_account_82 (by decide) rfl ?_
            refine mv_iload d_TrustDesk_account_84 rfl ?_
            have := mz_hi ((v33 - v63) - v87)
            refine mv_if_leZ (tgt := 94) (a := ((v33 - v63) - v87).toInt) d_TrustDesk_account_86 (by decide) rfl (fun b92 => ?_) (fun b92 => ?_)
            · refine mv_iconst (v := 0) d_TrustDesk_account_94 (by decide) ?_
              exact mv_iret d_TrustDesk_account_95 rfl (by first | rfl | decide) ⟨_, I85, _, rfl⟩
            · refine mv_iload d_TrustDesk_account_89 rfl ?_
              refine mv_goto (tgt := 95) d_TrustDesk_account_91 (by decide) ?_
              exact mv_iret d_TrustDesk_account_95 rfl (by first | rfl | decide) ⟨_, I85, _, rfl⟩
          · refine mv_iconst (v := (-1)) d_TrustDesk_account_46 (by decide) ?_
            exact mv_iret d_TrustDesk_account_47 rfl (by first | rfl | decide) ⟨_, I43, _, rfl⟩
abbrev kY_TrustDesk_act : mj_Y := (⟨"TrustDesk", "act", "(I)I"⟩, prog_1_method_6_code, 4, (Option.some Jvm.ClassFile.FieldType.int))
theorem d_TrustDesk_act_0 : decode kY_TrustDesk_act.2.1 0 = .ok (.iload_n 1, 1) := by decide +kernel
theorem d_TrustDesk_act_1 : decode kY_TrustDesk_act.2.1 1 = .ok (.invokestatic 94, 3) := by decide +kernel
abbrev kY_TrustDesk_isDay : mj_Y := (⟨"TrustDesk", "isDay", "(I)Z"⟩, prog_1_method_67_code, 1, (Option.some Jvm.ClassFile.FieldType.boolean))
theorem d_TrustDesk_isDay_0 : decode kY_TrustDesk_isDay.2.1 0 = .ok (.iload_n 0, 1) := by decide +kernel
theorem d_TrustDesk_isDay_1 : decode kY_TrustDesk_isDay.2.1 1 = .ok (.ifCond .lt 13, 3) := by decide +kernel
theorem d_TrustDesk_isDay_14 : decode kY_TrustDesk_isDay.2.1 14 = .ok (.iconst 0, 1) := by decide +kernel
theorem d_TrustDesk_isDay_15 : decode kY_TrustDesk_isDay.2.1 15 = .ok (.ireturn, 1) := by decide +kernel
theorem d_TrustDesk_isDay_4 : decode kY_TrustDesk_isDay.2.1 4 = .ok (.iload_n 0, 1) := by decide +kernel
theorem d_TrustDesk_isDay_5 : decode kY_TrustDesk_isDay.2.1 5 = .ok (.ldc 147, 2) := by decide +kernel
theorem k_TrustDesk_147 : Cond.constant "TrustDesk" 147 36000 ∈ mj_T := (mj_in1 (List.mem_of_getElem? (i := 352) (by decide +kernel)) rfl)
theorem d_TrustDesk_isDay_7 : decode kY_TrustDesk_isDay.2.1 7 = .ok (.if_icmp .gt 7, 3) := by decide +kernel
theorem d_TrustDesk_isDay_10 : decode kY_TrustDesk_isDay.2.1 10 = .ok (.iconst 1, 1) := by decide +kernel
theorem d_TrustDesk_isDay_11 : decode kY_TrustDesk_isDay.2.1 11 = .ok (.goto 4, 3) := by decide +kernel
def w_TrustDesk_isDay : List Nat := []
theorem tc_TrustDesk_isDay {g : mj_G} {l : Launch} {d : Nat} {T0 : tm_H} {M0 : mj_M} {n0 x9 : Nat} {x1 : Int32} (I0 : tm_I tm_FT (tm_in w_TrustDesk_isDay) x9 T0 M0 n0 T0 M0 n0) : mj_Met g l kY_TrustDesk_isDay d [.int x1] M0 n0 0 0 (tm_Q tm_FT (tm_in w_TrustDesk_isDay) x9 T0 M0 n0 (fun r _ _ => ∃ v : Int32, r = some (.int v) ∧ 0 ≤ v.toInt ∧ v.toInt ≤ 1)) := by
  refine mj_enter (by decide) (Nat.le_of_ble_eq_true rfl) ?_
  refine mv_iload_n d_TrustDesk_isDay_0 rfl rfl ?_
  have := mz_hi x1
  refine mv_if_ltZ (tgt := 14) (a := x1.toInt) d_TrustDesk_isDay_1 (by decide) rfl (fun b1 => ?_) (fun b1 => ?_)
  · refine mv_iconst (v := 0) d_TrustDesk_isDay_14 (by decide) ?_
    exact mv_iret d_TrustDesk_isDay_15 rfl (by decide) ⟨_, I0, _, rfl, by decide, by decide⟩
  · refine mv_iload_n d_TrustDesk_isDay_4 rfl rfl ?_
    refine mv_ldc d_TrustDesk_isDay_5 k_TrustDesk_147 ?_
    have := mz_hi x1
    refine mv_icmp_gtZ (tgt := 14) (a := x1.toInt) (b := 36000) d_TrustDesk_isDay_7 (by decide) rfl (by decide) (fun b2 => ?_) (fun b2 => ?_)
    · refine mv_iconst (v := 0) d_TrustDesk_isDay_14 (by decide) ?_
      exact mv_iret d_TrustDesk_isDay_15 rfl (by decide) ⟨_, I0, _, rfl, by decide, by decide⟩
    · refine mv_iconst (v := 1) d_TrustDesk_isDay_10 (by decide) ?_
      refine mv_goto (tgt := 15) d_TrustDesk_isDay_11 (by decide) ?_
      exact mv_iret d_TrustDesk_isDay_15 rfl (by decide) ⟨_, I0, _, rfl, by decide, by decide⟩
theorem lS_TrustDesk_94 : mj_lS "TrustDesk" 94 kY_TrustDesk_isDay 1 := ⟨⟨(mj_in1 (List.mem_of_getElem? (i := 349) (by decide +kernel)) rfl), (mj_in1 (List.mem_of_getElem? (i := 1) (by decide +kernel)) rfl), (mj_in1 (List.mem_of_getElem? (i := 351) (by decide +kernel)) rfl), by decide, rfl, by decide⟩, (mj_in1 (List.mem_of_getElem? (i := 350) (by decide +kernel)) rfl)⟩
theorem d_TrustDesk_act_4 : decode kY_TrustDesk_act.2.1 4 = .ok (.ifCond .eq 15, 3) := by decide +kernel
theorem d_TrustDesk_act_19 : decode kY_TrustDesk_act.2.1 19 = .ok (.iconst (-1), 1) := by decide +kernel
theorem d_TrustDesk_act_20 : decode kY_TrustDesk_act.2.1 20 = .ok (.ireturn, 1) := by decide +kernel
theorem d_TrustDesk_act_7 : decode kY_TrustDesk_act.2.1 7 = .ok (.aload_n 0, 1) := by decide +kernel
theorem d_TrustDesk_act_8 : decode kY_TrustDesk_act.2.1 8 = .ok (.getfield 49, 3) := by decide +kernel
theorem d_TrustDesk_act_11 : decode kY_TrustDesk_act.2.1 11 = .ok (.invokevirtual 97, 3) := by decide +kernel
theorem d_TrustDesk_act_14 : decode kY_TrustDesk_act.2.1 14 = .ok (.bipush 20, 2) := by decide +kernel
theorem d_TrustDesk_act_16 : decode kY_TrustDesk_act.2.1 16 = .ok (.if_icmp .lt 5, 3) := by decide +kernel
theorem d_TrustDesk_act_21 : decode kY_TrustDesk_act.2.1 21 = .ok (.new 37, 3) := by decide +kernel
theorem d_TrustDesk_act_24 : decode kY_TrustDesk_act.2.1 24 = .ok (.dup, 1) := by decide +kernel
theorem d_TrustDesk_act_25 : decode kY_TrustDesk_act.2.1 25 = .ok (.iload_n 1, 1) := by decide +kernel
theorem d_TrustDesk_act_26 : decode kY_TrustDesk_act.2.1 26 = .ok (.invokespecial 39, 3) := by decide +kernel
def w_AbstractCollection_init : List Nat := []
theorem tc_AbstractCollection_init {g : mj_G} {l : Launch} {d : Nat} {T0 : tm_H} {M0 : mj_M} {n0 : Nat} {o0 : Nat} (h_o0 : T0 o0 = some (5, 0, 0)) (m_o0 : M0 o0 = some (.inr (0, [.int 0, .null, .int 0]))) (I0 : tm_I tm_FT (tm_in w_AbstractCollection_init) o0 T0 M0 n0 T0 M0 n0) : mj_Met g l kY_AbstractCollection_init (d + 1) [.ref o0] M0 n0 0 0 (tm_Q tm_FT (tm_in w_AbstractCollection_init) o0 T0 M0 n0 (fun r T M => r = none ∧ M o0 = some (.inr (0, [.int 0, .null, .int 0])))) := by
  refine mj_enter (by decide) (Nat.le_of_ble_eq_true rfl) ?_
  refine mv_aload_n d_AbstractCollection_init_0 rfl rfl ?_
  refine mv_oinit d_AbstractCollection_init_1 (mj_in1 (List.mem_of_getElem? (i := 222) (by decide +kernel)) rfl) (Nat.le_of_ble_eq_true rfl) ?_
  exact mv_vret d_AbstractCollection_init_4 rfl ⟨_, I0, rfl, m_o0⟩
def w_AbstractList_init : List Nat := []
theorem tc_AbstractList_init {g : mj_G} {l : Launch} {d : Nat} {T0 : tm_H} {M0 : mj_M} {n0 : Nat} {o0 : Nat} (h_o0 : T0 o0 = some (5, 0, 0)) (m_o0 : M0 o0 = some (.inr (0, [.int 0, .null, .int 0]))) (I0 : tm_I tm_FT (tm_in w_AbstractList_init) o0 T0 M0 n0 T0 M0 n0) : mj_Met g l kY_AbstractList_init (d + 2) [.ref o0] M0 n0 0 0 (tm_Q tm_FT (tm_in w_AbstractList_init) o0 T0 M0 n0 (fun r T M => r = none ∧ M o0 = some (.inr (0, [.int 0, .null, .int 0])))) := by
  refine mj_enter (by decide) (Nat.le_of_ble_eq_true rfl) ?_
  refine mv_aload_n d_AbstractList_init_0 rfl rfl ?_
  refine mv_callI (kc' := 0) (ks' := 0) (As := []) (st9 := [.ref o0]) d_AbstractList_init_1 lI_AbstractList_1 (tc_AbstractCollection_init (d := d) (o0 := o0) h_o0 m_o0 I0.start) rfl (Nat.le_of_ble_eq_true rfl) (Nat.le_of_ble_eq_true rfl) (Nat.le_of_ble_eq_true rfl) (hst := rfl) (fun b1r M2 n3 b1 => ?_)
  obtain ⟨T4, J5, rfl, m7⟩ := b1
  have I6 := I0.call J5 (tm_sub (by decide)) (Or.inl rfl)
  have t8 := J5.up h_o0
  refine mv_aload_n d_AbstractList_init_4 rfl rfl ?_
  refine mv_iconst (v := 0) d_AbstractList_init_5 (by decide) ?_
  refine tr_putX (k := 0) (fs' := [.int 0, .null, .int 0]) tm_okF I6 t8 (Or.inl rfl) m7 d_AbstractList_init_6 p_AbstractList_7_0 (Nat.le_of_ble_eq_true rfl) rfl rfl rfl (fun M9 I10 m11 K12 => ?_)
  exact mv_vret d_AbstractList_init_9 rfl ⟨_, I10, rfl, m11⟩
def w_ArrayList_init : List Nat := []
theorem tc_ArrayList_init {g : mj_G} {l : Launch} {d : Nat} {T0 : tm_H} {M0 : mj_M} {n0 : Nat} {o0 : Nat} (h_o0 : T0 o0 = some (5, 0, 0)) (m_o0 : M0 o0 = some (.inr (0, [.int 0, .null, .int 0]))) (I0 : tm_I tm_FT (tm_in w_ArrayList_init) o0 T0 M0 n0 T0 M0 n0) : mj_Met g l kY_ArrayList_init (d + 3) [.ref o0] M0 n0 0 0 (tm_Q tm_FT (tm_in w_ArrayList_init) o0 T0 M0 n0 (fun r T M => r = none ∧ M o0 = some (.inr (0, [.int 0, .ref 0, .int 0])))) := by
  refine mj_enter (by decide) (Nat.le_of_ble_eq_true rfl) ?_
  refine mv_aload_n d_ArrayList_init_0 rfl rfl ?_
  refine mv_callI (kc' := 0) (ks' := 0) (As := []) (st9 := [.ref o0]) d_ArrayList_init_1 lI_ArrayList_1 (tc_AbstractList_init (d := d) (o0 := o0) h_o0 m_o0 I0.start) rfl (Nat.le_of_ble_eq_true rfl) (Nat.le_of_ble_eq_true rfl) (Nat.le_of_ble_eq_true rfl) (hst := rfl) (fun b1r M2 n3 b1 => ?_)
  obtain ⟨T4, J5, rfl, m7⟩ := b1
  have I6 := I0.call J5 (tm_sub (by decide)) (Or.inl rfl)
  have t8 := J5.up h_o0
  refine mv_aload_n d_ArrayList_init_4 rfl rfl ?_
  refine mv_getsD d_ArrayList_init_5 (mj_in1 (List.mem_of_getElem? (i := 223) (by decide +kernel)) rfl) ?_
  refine tr_putX (k := 1) (fs' := [.int 0, .ref 0, .int 0]) tm_okF I6 t8 (Or.inl rfl) m7 d_ArrayList_init_8 p_ArrayList_9_0 (Nat.le_of_ble_eq_true rfl) rfl rfl rfl (fun M9 I10 m11 K12 => ?_)
  exact mv_vret d_ArrayList_init_11 rfl ⟨_, I10, rfl, m11⟩
def w_Act_init : List Nat := []
theorem tc_Act_init {g : mj_G} {l : Launch} {d : Nat} {T0 : tm_H} {M0 : mj_M} {n0 : Nat} {o0 : Nat} {x1 : Int32} (h_o0 : T0 o0 = some (5, 1, 0)) (m_o0 : M0 o0 = some (.inr (1, [.int 0, .int 0, .null, .null, .null]))) (I0 : tm_I tm_FT (tm_in w_Act_init) o0 T0 M0 n0 T0 M0 n0) : mj_Met g l kY_Act_init (d + 4) [.ref o0, .int x1] M0 n0 3 29 (tm_Q tm_FT (tm_in w_Act_init) o0 T0 M0 n0 (fun r T M => r = none ∧ ∃ c0 c1 c2 : Nat, M o0 = some (.inr (1, [.int x1, .int 0, .ref c0, .ref c1, .ref c2])) ∧ T c0 = some (3, 2, o0) ∧ T c1 = some (1, 1224, 6) ∧ T c2 = some (1, 1232, 20))) := by
  refine mj_enter (by decide) (Nat.le_of_ble_eq_true rfl) ?_
  refine mv_aload_n d_Act_init_0 rfl rfl ?_
  refine mv_oinit d_Act_init_1 (mj_in1 (List.mem_of_getElem? (i := 210) (by decide +kernel)) rfl) (Nat.le_of_ble_eq_true rfl) ?_
  refine mv_aload_n d_Act_init_4 rfl rfl ?_
  refine tr_new (kc' := 2) (ks' := 26) tm_okF I0 d_Act_init_5 n_Act_9 (Nat.le_of_ble_eq_true rfl) (Nat.le_of_ble_eq_true rfl) (fun T1 M2 I3 t_x4 m5 h6 u7 K8 => ?_)
  have m9 := (K8 _ _ h_o0).trans m_o0
  have t10 := u7 _ _ h_o0
  have h11 := tm_ne I0 h_o0
  refine mv_dup d_Act_init_8 rfl ?_
  refine mv_callI (kc' := 2) (ks' := 26) (As := []) (st9 := [.ref n0, .ref n0, .ref o0]) d_Act_init_9 lI_Act_11 (tc_ArrayList_init (d := d) (o0 := n0) t_x4 m5 I3.start) rfl (Nat.le_of_ble_eq_true rfl) (Nat.le_of_ble_eq_true rfl) (Nat.le_of_ble_eq_true rfl) (hst := rfl) (fun b12r M13 n14 b12 => ?_)
  obtain ⟨T15, J16, rfl, m18⟩ := b12
  have I17 := I3.call J16 (tm_sub (by decide)) (Or.inr h6)
  have m19 := (J16.keepX t10 h11).trans m9
  have t20 := J16.up t_x4
  have t21 := J16.up t10
  obtain ⟨T22, I23, t_x24, u25⟩ := I17.sealL (o := o0) (c := 2) tm_okF t20 h6 m18
  have t26 := u25 _ _ t21 h11
  refine tr_putXF (k := 2) (fs' := [.int 0, .int 0, .ref n0, .null, .null]) tm_okF I23 t26 (Or.inl rfl) m19 d_Act_init_12 p_Act_12_1 rfl (Nat.le_of_ble_eq_true rfl) rfl rfl rfl (fun M27 I28 m29 K30 => ?_)
  refine mv_aload_n d_Act_init_15 rfl rfl ?_
  refine mv_gets1 d_Act_init_16 (mj_in1 (List.mem_of_getElem? (i := 237) (by decide +kernel)) rfl) ?_
  refine tr_cloneR (E := 1224) (kc' := 1) (ks' := 20) tm_okF I28 (by decide) d_Act_init_19 (mj_in1 (List.mem_of_getElem? (i := 239) (by decide +kernel)) rfl) (Nat.le_of_ble_eq_true rfl) (Nat.le_of_ble_eq_true rfl) (Nat.le_of_ble_eq_true rfl) (fun T31 M32 I33 t_x34 u35 K36 => ?_)
  have m37 := (K36 _ _ t26).trans m29
  have t38 := u35 _ _ t26
  have t39 := u35 _ _ t_x24
  refine tr_castA I33 t_x34 (by decide) d_Act_init_22 (mj_in1 (List.mem_of_getElem? (i := 245) (by decide +kernel)) rfl) ?_
  refine tr_putXF (k := 3) (fs' := [.int 0, .int 0, .ref n0, .ref n14, .null]) tm_okF I33 t38 (Or.inl rfl) m37 d_Act_init_25 p_Act_27_1 rfl (Nat.le_of_ble_eq_true rfl) rfl rfl rfl (fun M40 I41 m42 K43 => ?_)
  refine mv_aload_n d_Act_init_28 rfl rfl ?_
  refine mv_bipush (v := 20) d_Act_init_29 (by decide) ?_
  refine tr_newi (E := 1232) (N := 20) (kc' := 0) (ks' := 0) tm_okF I41 (by decide) d_Act_init_31 (by decide) (by decide) (by decide) (Nat.le_of_ble_eq_true rfl) (Nat.le_of_ble_eq_true rfl) (fun T44 M45 I46 t_x47 u48 K49 => ?_)
  have m50 := (K49 _ _ t38).trans m42
  have t51 := u48 _ _ t38
  have t52 := u48 _ _ t39
  have t53 := u48 _ _ t_x34
  refine tr_putXF (k := 4) (fs' := [.int 0, .int 0, .ref n0, .ref n14, .ref (n14 + 1)]) tm_okF I46 t51 (Or.inl rfl) m50 d_Act_init_33 p_Act_30_1 rfl (Nat.le_of_ble_eq_true rfl) rfl rfl rfl (fun M54 I55 m56 K57 => ?_)
  refine mv_aload_n d_Act_init_36 rfl rfl ?_
  refine mv_iload_n d_Act_init_37 rfl rfl ?_
  refine tr_putXF (k := 0) (fs' := [.int x1, .int 0, .ref n0, .ref n14, .ref (n14 + 1)]) tm_okF I55 t51 (Or.inl rfl) m56 d_Act_init_38 p_Act_33_1 rfl (Nat.le_of_ble_eq_true rfl) rfl rfl rfl (fun M58 I59 m60 K61 => ?_)
  exact mv_vret d_Act_init_41 rfl ⟨_, I59, rfl, _, _, _, m60, t52, t53, t_x47⟩
theorem d_TrustDesk_act_29 : decode kY_TrustDesk_act.2.1 29 = .ok (.astore_n 2, 1) := by decide +kernel
theorem d_TrustDesk_act_30 : decode kY_TrustDesk_act.2.1 30 = .ok (.aload_n 0, 1) := by decide +kernel
theorem d_TrustDesk_act_31 : decode kY_TrustDesk_act.2.1 31 = .ok (.getfield 19, 3) := by decide +kernel
theorem f_TrustDesk_19_12 : mj_fl "TrustDesk" 19 12 1 := ⟨kR_TrustDesk, kF_TrustDesk, 13, "TrustDesk", rfl, kg_12, by decide, (mj_in1 (List.mem_of_getElem? (i := 268) (by decide +kernel)) rfl), Or.inl rfl⟩
theorem d_TrustDesk_act_34 : decode kY_TrustDesk_act.2.1 34 = .ok (.aload_n 2, 1) := by decide +kernel
theorem d_TrustDesk_act_35 : decode kY_TrustDesk_act.2.1 35 = .ok (.invokevirtual 100, 3) := by decide +kernel
abbrev kY_Reader_readAct : mj_Y := (⟨"TrustDesk$Reader", "readAct", "(LTrustDesk$Act;)Z"⟩, prog_10_method_3_code, 3, (Option.some Jvm.ClassFile.FieldType.boolean))
theorem d_Reader_readAct_0 : decode kY_Reader_readAct.2.1 0 = .ok (.aload_n 0, 1) := by decide +kernel
theorem d_Reader_readAct_1 : decode kY_Reader_readAct.2.1 1 = .ok (.bipush 13, 2) := by decide +kernel
theorem d_Reader_readAct_3 : decode kY_Reader_readAct.2.1 3 = .ok (.invokevirtual 37, 3) := by decide +kernel
abbrev kY_Reader_begin : mj_Y := (⟨"TrustDesk$Reader", "begin", "(I)V"⟩, prog_10_method_6_code, 2, (Option.none : Option Jvm.ClassFile.FieldType))
theorem d_Reader_begin_0 : decode kY_Reader_begin.2.1 0 = .ok (.aload_n 0, 1) := by decide +kernel
theorem d_Reader_begin_1 : decode kY_Reader_begin.2.1 1 = .ok (.iload_n 1, 1) := by decide +kernel
theorem d_Reader_begin_2 : decode kY_Reader_begin.2.1 2 = .ok (.putfield 67, 3) := by decide +kernel
theorem p_Reader_67_9 : mj_fp "TrustDesk$Reader" 67 9 15 (kt_Reader 15) false := ⟨kR_Reader, kF_Reader, 19, "TrustDesk$Reader", kt_Reader, rfl, kg_9, by decide, (mj_in1 (List.mem_of_getElem? (i := 87) (by decide +kernel)) rfl), Or.inl rfl, kto_Reader, kn_Reader, rfl, rfl, fun h => by cases h⟩
theorem d_Reader_begin_5 : decode kY_Reader_begin.2.1 5 = .ok (.aload_n 0, 1) := by decide +kernel
theorem d_Reader_begin_6 : decode kY_Reader_begin.2.1 6 = .ok (.iconst 0, 1) := by decide +kernel
theorem d_Reader_begin_7 : decode kY_Reader_begin.2.1 7 = .ok (.putfield 70, 3) := by decide +kernel
theorem p_Reader_70_9 : mj_fp "TrustDesk$Reader" 70 9 1 (kt_Reader 1) false := ⟨kR_Reader, kF_Reader, 19, "TrustDesk$Reader", kt_Reader, rfl, kg_9, by decide, (mj_in1 (List.mem_of_getElem? (i := 71) (by decide +kernel)) rfl), Or.inl rfl, kto_Reader, kn_Reader, rfl, rfl, fun h => by cases h⟩
theorem d_Reader_begin_10 : decode kY_Reader_begin.2.1 10 = .ok (.aload_n 0, 1) := by decide +kernel
theorem d_Reader_begin_11 : decode kY_Reader_begin.2.1 11 = .ok (.iconst (-1), 1) := by decide +kernel
theorem d_Reader_begin_12 : decode kY_Reader_begin.2.1 12 = .ok (.putfield 11, 3) := by decide +kernel
theorem d_Reader_begin_15 : decode kY_Reader_begin.2.1 15 = .ok (.aload_n 0, 1) := by decide +kernel
theorem d_Reader_begin_16 : decode kY_Reader_begin.2.1 16 = .ok (.iconst 0, 1) := by decide +kernel
theorem d_Reader_begin_17 : decode kY_Reader_begin.2.1 17 = .ok (.putfield 73, 3) := by decide +kernel
theorem p_Reader_73_9 : mj_fp "TrustDesk$Reader" 73 9 16 (kt_Reader 16) false := ⟨kR_Reader, kF_Reader, 19, "TrustDesk$Reader", kt_Reader, rfl, kg_9, by decide, (mj_in1 (List.mem_of_getElem? (i := 88) (by decide +kernel)) rfl), Or.inl rfl, kto_Reader, kn_Reader, rfl, rfl, fun h => by cases h⟩
theorem d_Reader_begin_20 : decode kY_Reader_begin.2.1 20 = .ok (.aload_n 0, 1) := by decide +kernel
theorem d_Reader_begin_21 : decode kY_Reader_begin.2.1 21 = .ok (.invokevirtual 76, 3) := by decide +kernel
abbrev kY_Reader_cut : mj_Y := (⟨"TrustDesk$Reader", "cut", "()V"⟩, prog_10_method_33_code, 4, (Option.none : Option Jvm.ClassFile.FieldType))
theorem d_Reader_cut_0 : decode kY_Reader_cut.2.1 0 = .ok (.aload_n 0, 1) := by decide +kernel
theorem d_Reader_cut_1 : decode kY_Reader_cut.2.1 1 = .ok (.iconst 0, 1) := by decide +kernel
theorem d_Reader_cut_2 : decode kY_Reader_cut.2.1 2 = .ok (.putfield 244, 3) := by decide +kernel
theorem p_Reader_244_9 : mj_fp "TrustDesk$Reader" 244 9 8 (kt_Reader 8) false := ⟨kR_Reader, kF_Reader, 19, "TrustDesk$Reader", kt_Reader, rfl, kg_9, by decide, (mj_in1 (List.mem_of_getElem? (i := 80) (by decide +kernel)) rfl), Or.inl rfl, kto_Reader, kn_Reader, rfl, rfl, fun h => by cases h⟩
theorem d_Reader_cut_5 : decode kY_Reader_cut.2.1 5 = .ok (.iconst 0, 1) := by decide +kernel
theorem d_Reader_cut_6 : decode kY_Reader_cut.2.1 6 = .ok (.istore_n 1, 1) := by decide +kernel
theorem d_Reader_cut_7 : decode kY_Reader_cut.2.1 7 = .ok (.iload_n 1, 1) := by decide +kernel
theorem d_Reader_cut_8 : decode kY_Reader_cut.2.1 8 = .ok (.aload_n 0, 1) := by decide +kernel
theorem d_Reader_cut_9 : decode kY_Reader_cut.2.1 9 = .ok (.getfield 34, 3) := by decide +kernel
theorem f_Reader_34_9 : mj_fl "TrustDesk$Reader" 34 9 0 := ⟨kR_Reader, kF_Reader, 19, "TrustDesk$Reader", rfl, kg_9, by decide, (mj_in1 (List.mem_of_getElem? (i := 69) (by decide +kernel)) rfl), Or.inl rfl⟩
theorem d_Reader_cut_12 : decode kY_Reader_cut.2.1 12 = .ok (.if_icmp .ge 58, 3) := by decide +kernel
theorem d_Reader_cut_70 : decode kY_Reader_cut.2.1 70 = .ok (.return_, 1) := by decide +kernel
theorem d_Reader_cut_15 : decode kY_Reader_cut.2.1 15 = .ok (.aload_n 0, 1) := by decide +kernel
theorem d_Reader_cut_16 : decode kY_Reader_cut.2.1 16 = .ok (.iload_n 1, 1) := by decide +kernel
theorem d_Reader_cut_17 : decode kY_Reader_cut.2.1 17 = .ok (.invokevirtual 247, 3) := by decide +kernel
abbrev kY_Reader_sortOf : mj_Y := (⟨"TrustDesk$Reader", "sortOf", "(I)I"⟩, prog_10_method_39_code, 3, (Option.some Jvm.ClassFile.FieldType.int))
theorem d_Reader_sortOf_0 : decode kY_Reader_sortOf.2.1 0 = .ok (.aload_n 0, 1) := by decide +kernel
theorem d_Reader_sortOf_1 : decode kY_Reader_sortOf.2.1 1 = .ok (.iload_n 1, 1) := by decide +kernel
theorem d_Reader_sortOf_2 : decode kY_Reader_sortOf.2.1 2 = .ok (.invokevirtual 261, 3) := by decide +kernel
abbrev kY_Reader_byteAt : mj_Y := (⟨"TrustDesk$Reader", "byteAt", "(I)I"⟩, prog_10_method_40_code, 2, (Option.some Jvm.ClassFile.FieldType.int))
theorem d_Reader_byteAt_0 : decode kY_Reader_byteAt.2.1 0 = .ok (.iload_n 1, 1) := by decide +kernel
theorem d_Reader_byteAt_1 : decode kY_Reader_byteAt.2.1 1 = .ok (.ifCond .lt 19, 3) := by decide +kernel
theorem d_Reader_byteAt_20 : decode kY_Reader_byteAt.2.1 20 = .ok (.iconst 0, 1) := by decide +kernel
theorem d_Reader_byteAt_21 : decode kY_Reader_byteAt.2.1 21 = .ok (.ireturn, 1) := by decide +kernel
theorem d_Reader_byteAt_4 : decode kY_Reader_byteAt.2.1 4 = .ok (.iload_n 1, 1) := by decide +kernel
theorem d_Reader_byteAt_5 : decode kY_Reader_byteAt.2.1 5 = .ok (.sipush 400, 3) := by decide +kernel
theorem d_Reader_byteAt_8 : decode kY_Reader_byteAt.2.1 8 = .ok (.if_icmp .ge 12, 3) := by decide +kernel
theorem d_Reader_byteAt_11 : decode kY_Reader_byteAt.2.1 11 = .ok (.aload_n 0, 1) := by decide +kernel
theorem d_Reader_byteAt_12 : decode kY_Reader_byteAt.2.1 12 = .ok (.getfield 15, 3) := by decide +kernel
theorem f_Reader_15_9 : mj_fl "TrustDesk$Reader" 15 9 3 := ⟨kR_Reader, kF_Reader, 19, "TrustDesk$Reader", rfl, kg_9, by decide, (mj_in1 (List.mem_of_getElem? (i := 75) (by decide +kernel)) rfl), Or.inl rfl⟩
theorem d_Reader_byteAt_15 : decode kY_Reader_byteAt.2.1 15 = .ok (.iload_n 1, 1) := by decide +kernel
theorem d_Reader_byteAt_16 : decode kY_Reader_byteAt.2.1 16 = .ok (.iaload, 1) := by decide +kernel
theorem d_Reader_byteAt_17 : decode kY_Reader_byteAt.2.1 17 = .ok (.goto 4, 3) := by decide +kernel
theorem lV_Reader_261 : mj_lV "TrustDesk$Reader" 261 kY_Reader_byteAt 1 := ⟨⟨(mj_in1 (List.mem_of_getElem? (i := 373) (by decide +kernel)) rfl), (mj_in1 (List.mem_of_getElem? (i := 3) (by decide +kernel)) rfl), (mj_in1 (List.mem_of_getElem? (i := 376) (by decide +kernel)) rfl), by decide, rfl, by decide⟩, (mj_in1 (List.mem_of_getElem? (i := 375) (by decide +kernel)) rfl), (mj_in (List.mem_append_left _ (List.mem_of_getElem? (i := 4) (by decide +kernel))) rfl)⟩
theorem d_Reader_sortOf_5 : decode kY_Reader_sortOf.2.1 5 = .ok (.istore_n 2, 1) := by decide +kernel
theorem d_Reader_sortOf_6 : decode kY_Reader_sortOf.2.1 6 = .ok (.iload_n 2, 1) := by decide +kernel
theorem d_Reader_sortOf_7 : decode kY_Reader_sortOf.2.1 7 = .ok (.bipush 32, 2) := by decide +kernel
theorem d_Reader_sortOf_9 : decode kY_Reader_sortOf.2.1 9 = .ok (.if_icmp .eq 9, 3) := by decide +kernel
theorem d_Reader_sortOf_18 : decode kY_Reader_sortOf.2.1 18 = .ok (.iconst 4, 1) := by decide +kernel
theorem d_Reader_sortOf_19 : decode kY_Reader_sortOf.2.1 19 = .ok (.ireturn, 1) := by decide +kernel
theorem d_Reader_sortOf_12 : decode kY_Reader_sortOf.2.1 12 = .ok (.iload_n 2, 1) := by decide +kernel
theorem d_Reader_sortOf_13 : decode kY_Reader_sortOf.2.1 13 = .ok (.bipush 10, 2) := by decide +kernel
theorem d_Reader_sortOf_15 : decode kY_Reader_sortOf.2.1 15 = .ok (.if_icmp .ne 5, 3) := by decide +kernel
theorem d_Reader_sortOf_20 : decode kY_Reader_sortOf.2.1 20 = .ok (.iload_n 2, 1) := by decide +kernel
theorem d_Reader_sortOf_21 : decode kY_Reader_sortOf.2.1 21 = .ok (.bipush 97, 2) := by decide +kernel
theorem d_Reader_sortOf_23 : decode kY_Reader_sortOf.2.1 23 = .ok (.if_icmp .lt 11, 3) := by decide +kernel
theorem d_Reader_sortOf_34 : decode kY_Reader_sortOf.2.1 34 = .ok (.iload_n 2, 1) := by decide +kernel
theorem d_Reader_sortOf_35 : decode kY_Reader_sortOf.2.1 35 = .ok (.bipush 48, 2) := by decide +kernel
theorem d_Reader_sortOf_37 : decode kY_Reader_sortOf.2.1 37 = .ok (.if_icmp .lt 13, 3) := by decide +kernel
theorem d_Reader_sortOf_50 : decode kY_Reader_sortOf.2.1 50 = .ok (.iconst 3, 1) := by decide +kernel
theorem d_Reader_sortOf_51 : decode kY_Reader_sortOf.2.1 51 = .ok (.ireturn, 1) := by decide +kernel
theorem d_Reader_sortOf_40 : decode kY_Reader_sortOf.2.1 40 = .ok (.iload_n 2, 1) := by decide +kernel
theorem d_Reader_sortOf_41 : decode kY_Reader_sortOf.2.1 41 = .ok (.bipush 57, 2) := by decide +kernel
theorem d_Reader_sortOf_43 : decode kY_Reader_sortOf.2.1 43 = .ok (.if_icmp .gt 7, 3) := by decide +kernel
theorem d_Reader_sortOf_46 : decode kY_Reader_sortOf.2.1 46 = .ok (.iconst 2, 1) := by decide +kernel
theorem d_Reader_sortOf_47 : decode kY_Reader_sortOf.2.1 47 = .ok (.goto 4, 3) := by decide +kernel
theorem d_Reader_sortOf_26 : decode kY_Reader_sortOf.2.1 26 = .ok (.iload_n 2, 1) := by decide +kernel
theorem d_Reader_sortOf_27 : decode kY_Reader_sortOf.2.1 27 = .ok (.bipush 122, 2) := by decide +kernel
theorem d_Reader_sortOf_29 : decode kY_Reader_sortOf.2.1 29 = .ok (.if_icmp .gt 5, 3) := by decide +kernel
theorem d_Reader_sortOf_32 : decode kY_Reader_sortOf.2.1 32 = .ok (.iconst 1, 1) := by decide +kernel
theorem d_Reader_sortOf_33 : decode kY_Reader_sortOf.2.1 33 = .ok (.ireturn, 1) := by decide +kernel
theorem lV_Reader_247 : mj_lV "TrustDesk$Reader" 247 kY_Reader_sortOf 1 := ⟨⟨(mj_in1 (List.mem_of_getElem? (i := 369) (by decide +kernel)) rfl), (mj_in1 (List.mem_of_getElem? (i := 3) (by decide +kernel)) rfl), (mj_in1 (List.mem_of_getElem? (i := 372) (by decide +kernel)) rfl), by decide, rfl, by decide⟩, (mj_in1 (List.mem_of_getElem? (i := 371) (by decide +kernel)) rfl), (mj_in (List.mem_append_left _ (List.mem_of_getElem? (i := 3) (by decide +kernel))) rfl)⟩
theorem d_Reader_cut_20 : decode kY_Reader_cut.2.1 20 = .ok (.istore_n 2, 1) := by decide +kernel
theorem d_Reader_cut_21 : decode kY_Reader_cut.2.1 21 = .ok (.iload_n 1, 1) := by decide +kernel
theorem d_Reader_cut_22 : decode kY_Reader_cut.2.1 22 = .ok (.iconst 1, 1) := by decide +kernel
theorem d_Reader_cut_23 : decode kY_Reader_cut.2.1 23 = .ok (.iadd, 1) := by decide +kernel
theorem d_Reader_cut_24 : decode kY_Reader_cut.2.1 24 = .ok (.istore_n 3, 1) := by decide +kernel
theorem d_Reader_cut_25 : decode kY_Reader_cut.2.1 25 = .ok (.iload_n 2, 1) := by decide +kernel
theorem d_Reader_cut_26 : decode kY_Reader_cut.2.1 26 = .ok (.iconst 3, 1) := by decide +kernel
theorem d_Reader_cut_27 : decode kY_Reader_cut.2.1 27 = .ok (.if_icmp .eq 26, 3) := by decide +kernel
theorem d_Reader_cut_53 : decode kY_Reader_cut.2.1 53 = .ok (.iload_n 2, 1) := by decide +kernel
theorem d_Reader_cut_54 : decode kY_Reader_cut.2.1 54 = .ok (.iconst 4, 1) := by decide +kernel
theorem d_Reader_cut_55 : decode kY_Reader_cut.2.1 55 = .ok (.if_icmp .eq 10, 3) := by decide +kernel
theorem d_Reader_cut_58 : decode kY_Reader_cut.2.1 58 = .ok (.aload_n 0, 1) := by decide +kernel
theorem d_Reader_cut_59 : decode kY_Reader_cut.2.1 59 = .ok (.iload_n 2, 1) := by decide +kernel
theorem d_Reader_cut_60 : decode kY_Reader_cut.2.1 60 = .ok (.iload_n 1, 1) := by decide +kernel
theorem d_Reader_cut_61 : decode kY_Reader_cut.2.1 61 = .ok (.iload_n 3, 1) := by decide +kernel
theorem d_Reader_cut_62 : decode kY_Reader_cut.2.1 62 = .ok (.invokevirtual 251, 3) := by decide +kernel
abbrev kY_Reader_putToken : mj_Y := (⟨"TrustDesk$Reader", "putToken", "(III)V"⟩, prog_10_method_34_code, 5, (Option.none : Option Jvm.ClassFile.FieldType))
theorem d_Reader_putToken_0 : decode kY_Reader_putToken.2.1 0 = .ok (.aload_n 0, 1) := by decide +kernel
theorem d_Reader_putToken_1 : decode kY_Reader_putToken.2.1 1 = .ok (.getfield 244, 3) := by decide +kernel
theorem f_Reader_244_9 : mj_fl "TrustDesk$Reader" 244 9 8 := ⟨kR_Reader, kF_Reader, 19, "TrustDesk$Reader", rfl, kg_9, by decide, (mj_in1 (List.mem_of_getElem? (i := 80) (by decide +kernel)) rfl), Or.inl rfl⟩
theorem d_Reader_putToken_4 : decode kY_Reader_putToken.2.1 4 = .ok (.istore 4, 2) := by decide +kernel
theorem d_Reader_putToken_6 : decode kY_Reader_putToken.2.1 6 = .ok (.iload 4, 2) := by decide +kernel
theorem d_Reader_putToken_8 : decode kY_Reader_putToken.2.1 8 = .ok (.ifCond .lt 11, 3) := by decide +kernel
theorem d_Reader_putToken_19 : decode kY_Reader_putToken.2.1 19 = .ok (.return_, 1) := by decide +kernel
theorem d_Reader_putToken_11 : decode kY_Reader_putToken.2.1 11 = .ok (.iload 4, 2) := by decide +kernel
theorem d_Reader_putToken_13 : decode kY_Reader_putToken.2.1 13 = .ok (.sipush 400, 3) := by decide +kernel
theorem d_Reader_putToken_16 : decode kY_Reader_putToken.2.1 16 = .ok (.if_icmp .lt 4, 3) := by decide +kernel
theorem d_Reader_putToken_20 : decode kY_Reader_putToken.2.1 20 = .ok (.aload_n 0, 1) := by decide +kernel
theorem d_Reader_putToken_21 : decode kY_Reader_putToken.2.1 21 = .ok (.getfield 19, 3) := by decide +kernel
theorem f_Reader_19_9 : mj_fl "TrustDesk$Reader" 19 9 4 := ⟨kR_Reader, kF_Reader, 19, "TrustDesk$Reader", rfl, kg_9, by decide, (mj_in1 (List.mem_of_getElem? (i := 76) (by decide +kernel)) rfl), Or.inl rfl⟩
theorem d_Reader_putToken_24 : decode kY_Reader_putToken.2.1 24 = .ok (.iload 4, 2) := by decide +kernel
theorem d_Reader_putToken_26 : decode kY_Reader_putToken.2.1 26 = .ok (.iload_n 1, 1) := by decide +kernel
theorem d_Reader_putToken_27 : decode kY_Reader_putToken.2.1 27 = .ok (.iastore, 1) := by decide +kernel
theorem d_Reader_putToken_28 : decode kY_Reader_putToken.2.1 28 = .ok (.aload_n 0, 1) := by decide +kernel
theorem d_Reader_putToken_29 : decode kY_Reader_putToken.2.1 29 = .ok (.getfield 22, 3) := by decide +kernel
theorem f_Reader_22_9 : mj_fl "TrustDesk$Reader" 22 9 5 := ⟨kR_Reader, kF_Reader, 19, "TrustDesk$Reader", rfl, kg_9, by decide, (mj_in1 (List.mem_of_getElem? (i := 77) (by decide +kernel)) rfl), Or.inl rfl⟩
theorem d_Reader_putToken_32 : decode kY_Reader_putToken.2.1 32 = .ok (.iload 4, 2) := by decide +kernel
theorem d_Reader_putToken_34 : decode kY_Reader_putToken.2.1 34 = .ok (.iload_n 2, 1) := by decide +kernel
theorem d_Reader_putToken_35 : decode kY_Reader_putToken.2.1 35 = .ok (.iastore, 1) := by decide +kernel
theorem d_Reader_putToken_36 : decode kY_Reader_putToken.2.1 36 = .ok (.aload_n 0, 1) := by decide +kernel
theorem d_Reader_putToken_37 : decode kY_Reader_putToken.2.1 37 = .ok (.getfield 25, 3) := by decide +kernel
theorem f_Reader_25_9 : mj_fl "TrustDesk$Reader" 25 9 6 := ⟨kR_Reader, kF_Reader, 19, "TrustDesk$Reader", rfl, kg_9, by decide, (mj_in1 (List.mem_of_getElem? (i := 78) (by decide +kernel)) rfl), Or.inl rfl⟩
theorem d_Reader_putToken_40 : decode kY_Reader_putToken.2.1 40 = .ok (.iload 4, 2) := by decide +kernel
theorem d_Reader_putToken_42 : decode kY_Reader_putToken.2.1 42 = .ok (.iload_n 3, 1) := by decide +kernel
theorem d_Reader_putToken_43 : decode kY_Reader_putToken.2.1 43 = .ok (.iastore, 1) := by decide +kernel
theorem d_Reader_putToken_44 : decode kY_Reader_putToken.2.1 44 = .ok (.aload_n 0, 1) := by decide +kernel
theorem d_Reader_putToken_45 : decode kY_Reader_putToken.2.1 45 = .ok (.getfield 28, 3) := by decide +kernel
theorem f_Reader_28_9 : mj_fl "TrustDesk$Reader" 28 9 7 := ⟨kR_Reader, kF_Reader, 19, "TrustDesk$Reader", rfl, kg_9, by decide, (mj_in1 (List.mem_of_getElem? (i := 79) (by decide +kernel)) rfl), Or.inl rfl⟩
theorem d_Reader_putToken_48 : decode kY_Reader_putToken.2.1 48 = .ok (.iload 4, 2) := by decide +kernel
theorem d_Reader_putToken_50 : decode kY_Reader_putToken.2.1 50 = .ok (.iload_n 1, 1) := by decide +kernel
theorem d_Reader_putToken_51 : decode kY_Reader_putToken.2.1 51 = .ok (.iconst 1, 1) := by decide +kernel
theorem d_Reader_putToken_52 : decode kY_Reader_putToken.2.1 52 = .ok (.if_icmp .ne 12, 3) := by decide +kernel
theorem d_Reader_putToken_64 : decode kY_Reader_putToken.2.1 64 = .ok (.iload_n 1, 1) := by decide +kernel
theorem d_Reader_putToken_65 : decode kY_Reader_putToken.2.1 65 = .ok (.iconst 2, 1) := by decide +kernel
theorem d_Reader_putToken_66 : decode kY_Reader_putToken.2.1 66 = .ok (.if_icmp .ne 12, 3) := by decide +kernel
theorem d_Reader_putToken_78 : decode kY_Reader_putToken.2.1 78 = .ok (.aload_n 0, 1) := by decide +kernel
theorem d_Reader_putToken_79 : decode kY_Reader_putToken.2.1 79 = .ok (.iload_n 2, 1) := by decide +kernel
theorem d_Reader_putToken_80 : decode kY_Reader_putToken.2.1 80 = .ok (.invokevirtual 261, 3) := by decide +kernel
theorem d_Reader_putToken_83 : decode kY_Reader_putToken.2.1 83 = .ok (.iastore, 1) := by decide +kernel
theorem d_Reader_putToken_84 : decode kY_Reader_putToken.2.1 84 = .ok (.aload_n 0, 1) := by decide +kernel
theorem d_Reader_putToken_85 : decode kY_Reader_putToken.2.1 85 = .ok (.dup, 1) := by decide +kernel
theorem d_Reader_putToken_86 : decode kY_Reader_putToken.2.1 86 = .ok (.getfield 244, 3) := by decide +kernel
theorem d_Reader_putToken_89 : decode kY_Reader_putToken.2.1 89 = .ok (.iconst 1, 1) := by decide +kernel
theorem d_Reader_putToken_90 : decode kY_Reader_putToken.2.1 90 = .ok (.iadd, 1) := by decide +kernel
theorem d_Reader_putToken_91 : decode kY_Reader_putToken.2.1 91 = .ok (.putfield 244, 3) := by decide +kernel
theorem d_Reader_putToken_94 : decode kY_Reader_putToken.2.1 94 = .ok (.return_, 1) := by decide +kernel
theorem d_Reader_putToken_69 : decode kY_Reader_putToken.2.1 69 = .ok (.aload_n 0, 1) := by decide +kernel
theorem d_Reader_putToken_70 : decode kY_Reader_putToken.2.1 70 = .ok (.iload_n 2, 1) := by decide +kernel
theorem d_Reader_putToken_71 : decode kY_Reader_putToken.2.1 71 = .ok (.iload_n 3, 1) := by decide +kernel
theorem d_Reader_putToken_72 : decode kY_Reader_putToken.2.1 72 = .ok (.invokevirtual 258, 3) := by decide +kernel
abbrev kY_Reader_numberValue : mj_Y := (⟨"TrustDesk$Reader", "numberValue", "(II)I"⟩, prog_10_method_36_code, 5, (Option.some Jvm.ClassFile.FieldType.int))
theorem d_Reader_numberValue_0 : decode kY_Reader_numberValue.2.1 0 = .ok (.iload_n 2, 1) := by decide +kernel
theorem d_Reader_numberValue_1 : decode kY_Reader_numberValue.2.1 1 = .ok (.iload_n 1, 1) := by decide +kernel
theorem d_Reader_numberValue_2 : decode kY_Reader_numberValue.2.1 2 = .ok (.isub, 1) := by decide +kernel
theorem d_Reader_numberValue_3 : decode kY_Reader_numberValue.2.1 3 = .ok (.iconst 4, 1) := by decide +kernel
theorem d_Reader_numberValue_4 : decode kY_Reader_numberValue.2.1 4 = .ok (.if_icmp .le 5, 3) := by decide +kernel
theorem d_Reader_numberValue_9 : decode kY_Reader_numberValue.2.1 9 = .ok (.iconst 0, 1) := by decide +kernel
theorem d_Reader_numberValue_10 : decode kY_Reader_numberValue.2.1 10 = .ok (.istore_n 3, 1) := by decide +kernel
theorem d_Reader_numberValue_11 : decode kY_Reader_numberValue.2.1 11 = .ok (.iload_n 1, 1) := by decide +kernel
theorem d_Reader_numberValue_12 : decode kY_Reader_numberValue.2.1 12 = .ok (.istore 4, 2) := by decide +kernel
theorem d_Reader_numberValue_14 : decode kY_Reader_numberValue.2.1 14 = .ok (.iload 4, 2) := by decide +kernel
theorem d_Reader_numberValue_16 : decode kY_Reader_numberValue.2.1 16 = .ok (.iload_n 2, 1) := by decide +kernel
theorem d_Reader_numberValue_17 : decode kY_Reader_numberValue.2.1 17 = .ok (.if_icmp .ge 24, 3) := by decide +kernel
theorem d_Reader_numberValue_41 : decode kY_Reader_numberValue.2.1 41 = .ok (.iload_n 3, 1) := by decide +kernel
theorem d_Reader_numberValue_42 : decode kY_Reader_numberValue.2.1 42 = .ok (.ireturn, 1) := by decide +kernel
theorem d_Reader_numberValue_20 : decode kY_Reader_numberValue.2.1 20 = .ok (.iload_n 3, 1) := by decide +kernel
theorem d_Reader_numberValue_21 : decode kY_Reader_numberValue.2.1 21 = .ok (.bipush 10, 2) := by decide +kernel
theorem d_Reader_numberValue_23 : decode kY_Reader_numberValue.2.1 23 = .ok (.imul, 1) := by decide +kernel
theorem d_Reader_numberValue_24 : decode kY_Reader_numberValue.2.1 24 = .ok (.aload_n 0, 1) := by decide +kernel
theorem d_Reader_numberValue_25 : decode kY_Reader_numberValue.2.1 25 = .ok (.iload 4, 2) := by decide +kernel
theorem d_Reader_numberValue_27 : decode kY_Reader_numberValue.2.1 27 = .ok (.invokevirtual 261, 3) := by decide +kernel
theorem d_Reader_numberValue_30 : decode kY_Reader_numberValue.2.1 30 = .ok (.iadd, 1) := by decide +kernel
theorem d_Reader_numberValue_31 : decode kY_Reader_numberValue.2.1 31 = .ok (.bipush 48, 2) := by decide +kernel
theorem d_Reader_numberValue_33 : decode kY_Reader_numberValue.2.1 33 = .ok (.isub, 1) := by decide +kernel
theorem d_Reader_numberValue_34 : decode kY_Reader_numberValue.2.1 34 = .ok (.istore_n 3, 1) := by decide +kernel
theorem d_Reader_numberValue_35 : decode kY_Reader_numberValue.2.1 35 = .ok (.iinc 4 1, 3) := by decide +kernel
theorem d_Reader_numberValue_38 : decode kY_Reader_numberValue.2.1 38 = .ok (.goto (-24), 3) := by decide +kernel
theorem d_Reader_numberValue_7 : decode kY_Reader_numberValue.2.1 7 = .ok (.iconst (-1), 1) := by decide +kernel
theorem d_Reader_numberValue_8 : decode kY_Reader_numberValue.2.1 8 = .ok (.ireturn, 1) := by decide +kernel
theorem lV_Reader_258 : mj_lV "TrustDesk$Reader" 258 kY_Reader_numberValue 2 := ⟨⟨(mj_in1 (List.mem_of_getElem? (i := 443) (by decide +kernel)) rfl), (mj_in1 (List.mem_of_getElem? (i := 3) (by decide +kernel)) rfl), (mj_in1 (List.mem_of_getElem? (i := 446) (by decide +kernel)) rfl), by decide, rfl, by decide⟩, (mj_in1 (List.mem_of_getElem? (i := 445) (by decide +kernel)) rfl), (mj_in (List.mem_append_left _ (List.mem_of_getElem? (i := 9) (by decide +kernel))) rfl)⟩
theorem d_Reader_putToken_75 : decode kY_Reader_putToken.2.1 75 = .ok (.goto 8, 3) := by decide +kernel
theorem d_Reader_putToken_55 : decode kY_Reader_putToken.2.1 55 = .ok (.aload_n 0, 1) := by decide +kernel
theorem d_Reader_putToken_56 : decode kY_Reader_putToken.2.1 56 = .ok (.iload_n 2, 1) := by decide +kernel
theorem d_Reader_putToken_57 : decode kY_Reader_putToken.2.1 57 = .ok (.iload_n 3, 1) := by decide +kernel
theorem d_Reader_putToken_58 : decode kY_Reader_putToken.2.1 58 = .ok (.invokevirtual 255, 3) := by decide +kernel
abbrev kY_Reader_wordValue : mj_Y := (⟨"TrustDesk$Reader", "wordValue", "(II)I"⟩, prog_10_method_35_code, 5, (Option.some Jvm.ClassFile.FieldType.int))
theorem d_Reader_wordValue_0 : decode kY_Reader_wordValue.2.1 0 = .ok (.aload_n 0, 1) := by decide +kernel
theorem d_Reader_wordValue_1 : decode kY_Reader_wordValue.2.1 1 = .ok (.ldc_w 264, 3) := by decide +kernel
theorem d_Reader_wordValue_4 : decode kY_Reader_wordValue.2.1 4 = .ok (.iload_n 1, 1) := by decide +kernel
theorem d_Reader_wordValue_5 : decode kY_Reader_wordValue.2.1 5 = .ok (.iload_n 2, 1) := by decide +kernel
theorem d_Reader_wordValue_6 : decode kY_Reader_wordValue.2.1 6 = .ok (.invokevirtual 266, 3) := by decide +kernel
abbrev kY_Reader_indexIn : mj_Y := (⟨"TrustDesk$Reader", "indexIn", "(Ljava/lang/String;II)I"⟩, prog_10_method_37_code, 7, (Option.some Jvm.ClassFile.FieldType.int))
theorem d_Reader_indexIn_0 : decode kY_Reader_indexIn.2.1 0 = .ok (.iconst 0, 1) := by decide +kernel
theorem d_Reader_indexIn_1 : decode kY_Reader_indexIn.2.1 1 = .ok (.istore 4, 2) := by decide +kernel
theorem d_Reader_indexIn_3 : decode kY_Reader_indexIn.2.1 3 = .ok (.iconst 0, 1) := by decide +kernel
theorem d_Reader_indexIn_4 : decode kY_Reader_indexIn.2.1 4 = .ok (.istore 5, 2) := by decide +kernel
theorem d_Reader_indexIn_6 : decode kY_Reader_indexIn.2.1 6 = .ok (.iconst 0, 1) := by decide +kernel
theorem d_Reader_indexIn_7 : decode kY_Reader_indexIn.2.1 7 = .ok (.istore 6, 2) := by decide +kernel
theorem d_Reader_indexIn_9 : decode kY_Reader_indexIn.2.1 9 = .ok (.iload 6, 2) := by decide +kernel
theorem d_Reader_indexIn_11 : decode kY_Reader_indexIn.2.1 11 = .ok (.aload_n 1, 1) := by decide +kernel
theorem d_Reader_indexIn_12 : decode kY_Reader_indexIn.2.1 12 = .ok (.invokevirtual 272, 3) := by decide +kernel
theorem lV_Reader_272 : mj_lV "TrustDesk$Reader" 272 kY_String_length 0 := ⟨⟨(mj_in1 (List.mem_of_getElem? (i := 390) (by decide +kernel)) rfl), (mj_in1 (List.mem_of_getElem? (i := 11) (by decide +kernel)) rfl), (mj_in1 (List.mem_of_getElem? (i := 393) (by decide +kernel)) rfl), by decide, rfl, by decide⟩, (mj_in1 (List.mem_of_getElem? (i := 391) (by decide +kernel)) rfl), (mj_in1 (List.mem_of_getElem? (i := 392) (by decide +kernel)) rfl)⟩
theorem d_Reader_indexIn_15 : decode kY_Reader_indexIn.2.1 15 = .ok (.if_icmp .gt 65, 3) := by decide +kernel
theorem d_Reader_indexIn_80 : decode kY_Reader_indexIn.2.1 80 = .ok (.iconst (-1), 1) := by decide +kernel
theorem d_Reader_indexIn_81 : decode kY_Reader_indexIn.2.1 81 = .ok (.ireturn, 1) := by decide +kernel
theorem d_Reader_indexIn_18 : decode kY_Reader_indexIn.2.1 18 = .ok (.iload 6, 2) := by decide +kernel
theorem d_Reader_indexIn_20 : decode kY_Reader_indexIn.2.1 20 = .ok (.aload_n 1, 1) := by decide +kernel
theorem d_Reader_indexIn_21 : decode kY_Reader_indexIn.2.1 21 = .ok (.invokevirtual 272, 3) := by decide +kernel
theorem d_Reader_indexIn_24 : decode kY_Reader_indexIn.2.1 24 = .ok (.if_icmp .eq 14, 3) := by decide +kernel
theorem d_Reader_indexIn_38 : decode kY_Reader_indexIn.2.1 38 = .ok (.iload 6, 2) := by decide +kernel
theorem d_Reader_indexIn_40 : decode kY_Reader_indexIn.2.1 40 = .ok (.iload 5, 2) := by decide +kernel
theorem d_Reader_indexIn_42 : decode kY_Reader_indexIn.2.1 42 = .ok (.isub, 1) := by decide +kernel
theorem d_Reader_indexIn_43 : decode kY_Reader_indexIn.2.1 43 = .ok (.iload_n 3, 1) := by decide +kernel
theorem d_Reader_indexIn_44 : decode kY_Reader_indexIn.2.1 44 = .ok (.iload_n 2, 1) := by decide +kernel
theorem d_Reader_indexIn_45 : decode kY_Reader_indexIn.2.1 45 = .ok (.isub, 1) := by decide +kernel
theorem d_Reader_indexIn_46 : decode kY_Reader_indexIn.2.1 46 = .ok (.if_icmp .ne 19, 3) := by decide +kernel
theorem d_Reader_indexIn_65 : decode kY_Reader_indexIn.2.1 65 = .ok (.iinc 4 1, 3) := by decide +kernel
theorem d_Reader_indexIn_68 : decode kY_Reader_indexIn.2.1 68 = .ok (.iload 6, 2) := by decide +kernel
theorem d_Reader_indexIn_70 : decode kY_Reader_indexIn.2.1 70 = .ok (.iconst 1, 1) := by decide +kernel
theorem d_Reader_indexIn_71 : decode kY_Reader_indexIn.2.1 71 = .ok (.iadd, 1) := by decide +kernel
theorem d_Reader_indexIn_72 : decode kY_Reader_indexIn.2.1 72 = .ok (.istore 5, 2) := by decide +kernel
theorem d_Reader_indexIn_74 : decode kY_Reader_indexIn.2.1 74 = .ok (.iinc 6 1, 3) := by decide +kernel
theorem d_Reader_indexIn_77 : decode kY_Reader_indexIn.2.1 77 = .ok (.goto (-68), 3) := by decide +kernel
theorem d_Reader_indexIn_49 : decode kY_Reader_indexIn.2.1 49 = .ok (.aload_n 0, 1) := by decide +kernel
theorem d_Reader_indexIn_50 : decode kY_Reader_indexIn.2.1 50 = .ok (.aload_n 1, 1) := by decide +kernel
theorem d_Reader_indexIn_51 : decode kY_Reader_indexIn.2.1 51 = .ok (.iload 5, 2) := by decide +kernel
theorem d_Reader_indexIn_53 : decode kY_Reader_indexIn.2.1 53 = .ok (.iload 6, 2) := by decide +kernel
theorem d_Reader_indexIn_55 : decode kY_Reader_indexIn.2.1 55 = .ok (.iload_n 2, 1) := by decide +kernel
theorem d_Reader_indexIn_56 : decode kY_Reader_indexIn.2.1 56 = .ok (.invokevirtual 281, 3) := by decide +kernel
abbrev kY_Reader_matches : mj_Y := (⟨"TrustDesk$Reader", "matches", "(Ljava/lang/String;III)Z"⟩, prog_10_method_38_code, 7, (Option.some Jvm.ClassFile.FieldType.boolean))
theorem d_Reader_matches_0 : decode kY_Reader_matches.2.1 0 = .ok (.iload_n 2, 1) := by decide +kernel
theorem d_Reader_matches_1 : decode kY_Reader_matches.2.1 1 = .ok (.istore 5, 2) := by decide +kernel
theorem d_Reader_matches_3 : decode kY_Reader_matches.2.1 3 = .ok (.iload 5, 2) := by decide +kernel
theorem d_Reader_matches_5 : decode kY_Reader_matches.2.1 5 = .ok (.ifCond .lt 64, 3) := by decide +kernel
theorem d_Reader_matches_69 : decode kY_Reader_matches.2.1 69 = .ok (.iconst 1, 1) := by decide +kernel
theorem d_Reader_matches_70 : decode kY_Reader_matches.2.1 70 = .ok (.ireturn, 1) := by decide +kernel
theorem d_Reader_matches_8 : decode kY_Reader_matches.2.1 8 = .ok (.iload 5, 2) := by decide +kernel
theorem d_Reader_matches_10 : decode kY_Reader_matches.2.1 10 = .ok (.iload_n 3, 1) := by decide +kernel
theorem d_Reader_matches_11 : decode kY_Reader_matches.2.1 11 = .ok (.if_icmp .ge 58, 3) := by decide +kernel
theorem d_Reader_matches_14 : decode kY_Reader_matches.2.1 14 = .ok (.iload 5, 2) := by decide +kernel
theorem d_Reader_matches_16 : decode kY_Reader_matches.2.1 16 = .ok (.aload_n 1, 1) := by decide +kernel
theorem d_Reader_matches_17 : decode kY_Reader_matches.2.1 17 = .ok (.invokevirtual 272, 3) := by decide +kernel
theorem d_Reader_matches_20 : decode kY_Reader_matches.2.1 20 = .ok (.if_icmp .ge 49, 3) := by decide +kernel
theorem d_Reader_matches_23 : decode kY_Reader_matches.2.1 23 = .ok (.iload 4, 2) := by decide +kernel
theorem d_Reader_matches_25 : decode kY_Reader_matches.2.1 25 = .ok (.iload 5, 2) := by decide +kernel
theorem d_Reader_matches_27 : decode kY_Reader_matches.2.1 27 = .ok (.iadd, 1) := by decide +kernel
theorem d_Reader_matches_28 : decode kY_Reader_matches.2.1 28 = .ok (.iload_n 2, 1) := by decide +kernel
theorem d_Reader_matches_29 : decode kY_Reader_matches.2.1 29 = .ok (.isub, 1) := by decide +kernel
theorem d_Reader_matches_30 : decode kY_Reader_matches.2.1 30 = .ok (.istore 6, 2) := by decide +kernel
theorem d_Reader_matches_32 : decode kY_Reader_matches.2.1 32 = .ok (.iload 6, 2) := by decide +kernel
theorem d_Reader_matches_34 : decode kY_Reader_matches.2.1 34 = .ok (.ifCond .lt 27, 3) := by decide +kernel
theorem d_Reader_matches_61 : decode kY_Reader_matches.2.1 61 = .ok (.iconst 0, 1) := by decide +kernel
theorem d_Reader_matches_62 : decode kY_Reader_matches.2.1 62 = .ok (.ireturn, 1) := by decide +kernel
theorem d_Reader_matches_37 : decode kY_Reader_matches.2.1 37 = .ok (.iload 6, 2) := by decide +kernel
theorem d_Reader_matches_39 : decode kY_Reader_matches.2.1 39 = .ok (.sipush 400, 3) := by decide +kernel
theorem d_Reader_matches_42 : decode kY_Reader_matches.2.1 42 = .ok (.if_icmp .ge 19, 3) := by decide +kernel
theorem d_Reader_matches_45 : decode kY_Reader_matches.2.1 45 = .ok (.aload_n 1, 1) := by decide +kernel
theorem d_Reader_matches_46 : decode kY_Reader_matches.2.1 46 = .ok (.iload 5, 2) := by decide +kernel
theorem d_Reader_matches_48 : decode kY_Reader_matches.2.1 48 = .ok (.invokevirtual 277, 3) := by decide +kernel
theorem lV_Reader_277 : mj_lV "TrustDesk$Reader" 277 kY_String_charAt 1 := ⟨⟨(mj_in1 (List.mem_of_getElem? (i := 400) (by decide +kernel)) rfl), (mj_in1 (List.mem_of_getElem? (i := 11) (by decide +kernel)) rfl), (mj_in1 (List.mem_of_getElem? (i := 403) (by decide +kernel)) rfl), by decide, rfl, by decide⟩, (mj_in1 (List.mem_of_getElem? (i := 401) (by decide +kernel)) rfl), (mj_in1 (List.mem_of_getElem? (i := 402) (by decide +kernel)) rfl)⟩
theorem d_Reader_matches_51 : decode kY_Reader_matches.2.1 51 = .ok (.aload_n 0, 1) := by decide +kernel
theorem d_Reader_matches_52 : decode kY_Reader_matches.2.1 52 = .ok (.getfield 15, 3) := by decide +kernel
theorem d_Reader_matches_55 : decode kY_Reader_matches.2.1 55 = .ok (.iload 6, 2) := by decide +kernel
theorem d_Reader_matches_57 : decode kY_Reader_matches.2.1 57 = .ok (.iaload, 1) := by decide +kernel
theorem d_Reader_matches_58 : decode kY_Reader_matches.2.1 58 = .ok (.if_icmp .eq 5, 3) := by decide +kernel
theorem d_Reader_matches_63 : decode kY_Reader_matches.2.1 63 = .ok (.iinc 5 1, 3) := by decide +kernel
theorem d_Reader_matches_66 : decode kY_Reader_matches.2.1 66 = .ok (.goto (-63), 3) := by decide +kernel
theorem lV_Reader_281 : mj_lV "TrustDesk$Reader" 281 kY_Reader_matches 4 := ⟨⟨(mj_in1 (List.mem_of_getElem? (i := 438) (by decide +kernel)) rfl), (mj_in1 (List.mem_of_getElem? (i := 3) (by decide +kernel)) rfl), (mj_in1 (List.mem_of_getElem? (i := 441) (by decide +kernel)) rfl), by decide, rfl, by decide⟩, (mj_in1 (List.mem_of_getElem? (i := 440) (by decide +kernel)) rfl), (mj_in (List.mem_append_left _ (List.mem_of_getElem? (i := 8) (by decide +kernel))) rfl)⟩
theorem d_Reader_indexIn_59 : decode kY_Reader_indexIn.2.1 59 = .ok (.ifCond .eq 6, 3) := by decide +kernel
theorem d_Reader_indexIn_62 : decode kY_Reader_indexIn.2.1 62 = .ok (.iload 4, 2) := by decide +kernel
theorem d_Reader_indexIn_64 : decode kY_Reader_indexIn.2.1 64 = .ok (.ireturn, 1) := by decide +kernel
theorem d_Reader_indexIn_27 : decode kY_Reader_indexIn.2.1 27 = .ok (.aload_n 1, 1) := by decide +kernel
theorem d_Reader_indexIn_28 : decode kY_Reader_indexIn.2.1 28 = .ok (.iload 6, 2) := by decide +kernel
theorem d_Reader_indexIn_30 : decode kY_Reader_indexIn.2.1 30 = .ok (.invokevirtual 277, 3) := by decide +kernel
theorem d_Reader_indexIn_33 : decode kY_Reader_indexIn.2.1 33 = .ok (.bipush 32, 2) := by decide +kernel
theorem d_Reader_indexIn_35 : decode kY_Reader_indexIn.2.1 35 = .ok (.if_icmp .ne 39, 3) := by decide +kernel
theorem lV_Reader_266 : mj_lV "TrustDesk$Reader" 266 kY_Reader_indexIn 3 := ⟨⟨(mj_in1 (List.mem_of_getElem? (i := 386) (by decide +kernel)) rfl), (mj_in1 (List.mem_of_getElem? (i := 3) (by decide +kernel)) rfl), (mj_in1 (List.mem_of_getElem? (i := 389) (by decide +kernel)) rfl), by decide, rfl, by decide⟩, (mj_in1 (List.mem_of_getElem? (i := 388) (by decide +kernel)) rfl), (mj_in (List.mem_append_left _ (List.mem_of_getElem? (i := 7) (by decide +kernel))) rfl)⟩
theorem d_Reader_wordValue_9 : decode kY_Reader_wordValue.2.1 9 = .ok (.istore_n 3, 1) := by decide +kernel
theorem d_Reader_wordValue_10 : decode kY_Reader_wordValue.2.1 10 = .ok (.iload_n 3, 1) := by decide +kernel
theorem d_Reader_wordValue_11 : decode kY_Reader_wordValue.2.1 11 = .ok (.iconst (-1), 1) := by decide +kernel
theorem d_Reader_wordValue_12 : decode kY_Reader_wordValue.2.1 12 = .ok (.if_icmp .eq 5, 3) := by decide +kernel
theorem d_Reader_wordValue_17 : decode kY_Reader_wordValue.2.1 17 = .ok (.aload_n 0, 1) := by decide +kernel
theorem d_Reader_wordValue_18 : decode kY_Reader_wordValue.2.1 18 = .ok (.ldc_w 270, 3) := by decide +kernel
theorem d_Reader_wordValue_21 : decode kY_Reader_wordValue.2.1 21 = .ok (.iload_n 1, 1) := by decide +kernel
theorem d_Reader_wordValue_22 : decode kY_Reader_wordValue.2.1 22 = .ok (.iload_n 2, 1) := by decide +kernel
theorem d_Reader_wordValue_23 : decode kY_Reader_wordValue.2.1 23 = .ok (.invokevirtual 266, 3) := by decide +kernel
theorem d_Reader_wordValue_26 : decode kY_Reader_wordValue.2.1 26 = .ok (.istore 4, 2) := by decide +kernel
theorem d_Reader_wordValue_28 : decode kY_Reader_wordValue.2.1 28 = .ok (.iload 4, 2) := by decide +kernel
theorem d_Reader_wordValue_30 : decode kY_Reader_wordValue.2.1 30 = .ok (.iconst (-1), 1) := by decide +kernel
theorem d_Reader_wordValue_31 : decode kY_Reader_wordValue.2.1 31 = .ok (.if_icmp .ne 7, 3) := by decide +kernel
theorem d_Reader_wordValue_38 : decode kY_Reader_wordValue.2.1 38 = .ok (.bipush 13, 2) := by decide +kernel
theorem d_Reader_wordValue_40 : decode kY_Reader_wordValue.2.1 40 = .ok (.iload 4, 2) := by decide +kernel
theorem d_Reader_wordValue_42 : decode kY_Reader_wordValue.2.1 42 = .ok (.iadd, 1) := by decide +kernel
theorem d_Reader_wordValue_43 : decode kY_Reader_wordValue.2.1 43 = .ok (.ireturn, 1) := by decide +kernel
theorem d_Reader_wordValue_34 : decode kY_Reader_wordValue.2.1 34 = .ok (.iconst (-1), 1) := by decide +kernel
theorem d_Reader_wordValue_35 : decode kY_Reader_wordValue.2.1 35 = .ok (.goto 8, 3) := by decide +kernel
theorem d_Reader_wordValue_15 : decode kY_Reader_wordValue.2.1 15 = .ok (.iload_n 3, 1) := by decide +kernel
theorem d_Reader_wordValue_16 : decode kY_Reader_wordValue.2.1 16 = .ok (.ireturn, 1) := by decide +kernel
theorem lV_Reader_255 : mj_lV "TrustDesk$Reader" 255 kY_Reader_wordValue 2 := ⟨⟨(mj_in1 (List.mem_of_getElem? (i := 381) (by decide +kernel)) rfl), (mj_in1 (List.mem_of_getElem? (i := 3) (by decide +kernel)) rfl), (mj_in1 (List.mem_of_getElem? (i := 384) (by decide +kernel)) rfl), by decide, rfl, by decide⟩, (mj_in1 (List.mem_of_getElem? (i := 383) (by decide +kernel)) rfl), (mj_in (List.mem_append_left _ (List.mem_of_getElem? (i := 6) (by decide +kernel))) rfl)⟩
theorem d_Reader_putToken_61 : decode kY_Reader_putToken.2.1 61 = .ok (.goto 22, 3) := by decide +kernel
theorem lV_Reader_251 : mj_lV "TrustDesk$Reader" 251 kY_Reader_putToken 3 := ⟨⟨(mj_in1 (List.mem_of_getElem? (i := 377) (by decide +kernel)) rfl), (mj_in1 (List.mem_of_getElem? (i := 3) (by decide +kernel)) rfl), (mj_in1 (List.mem_of_getElem? (i := 380) (by decide +kernel)) rfl), by decide, rfl, by decide⟩, (mj_in1 (List.mem_of_getElem? (i := 379) (by decide +kernel)) rfl), (mj_in (List.mem_append_left _ (List.mem_of_getElem? (i := 5) (by decide +kernel))) rfl)⟩
theorem d_Reader_cut_65 : decode kY_Reader_cut.2.1 65 = .ok (.iload_n 3, 1) := by decide +kernel
theorem d_Reader_cut_66 : decode kY_Reader_cut.2.1 66 = .ok (.istore_n 1, 1) := by decide +kernel
theorem d_Reader_cut_67 : decode kY_Reader_cut.2.1 67 = .ok (.goto (-60), 3) := by decide +kernel
theorem d_Reader_cut_30 : decode kY_Reader_cut.2.1 30 = .ok (.iload_n 3, 1) := by decide +kernel
theorem d_Reader_cut_31 : decode kY_Reader_cut.2.1 31 = .ok (.aload_n 0, 1) := by decide +kernel
theorem d_Reader_cut_32 : decode kY_Reader_cut.2.1 32 = .ok (.getfield 34, 3) := by decide +kernel
theorem d_Reader_cut_35 : decode kY_Reader_cut.2.1 35 = .ok (.if_icmp .ge 18, 3) := by decide +kernel
theorem d_Reader_cut_38 : decode kY_Reader_cut.2.1 38 = .ok (.aload_n 0, 1) := by decide +kernel
theorem d_Reader_cut_39 : decode kY_Reader_cut.2.1 39 = .ok (.iload_n 3, 1) := by decide +kernel
theorem d_Reader_cut_40 : decode kY_Reader_cut.2.1 40 = .ok (.invokevirtual 247, 3) := by decide +kernel
theorem d_Reader_cut_43 : decode kY_Reader_cut.2.1 43 = .ok (.iload_n 2, 1) := by decide +kernel
theorem d_Reader_cut_44 : decode kY_Reader_cut.2.1 44 = .ok (.if_icmp .ne 9, 3) := by decide +kernel
theorem d_Reader_cut_47 : decode kY_Reader_cut.2.1 47 = .ok (.iinc 3 1, 3) := by decide +kernel
theorem d_Reader_cut_50 : decode kY_Reader_cut.2.1 50 = .ok (.goto (-25), 3) := by decide +kernel
theorem lV_Reader_76 : mj_lV "TrustDesk$Reader" 76 kY_Reader_cut 0 := ⟨⟨(mj_in1 (List.mem_of_getElem? (i := 365) (by decide +kernel)) rfl), (mj_in1 (List.mem_of_getElem? (i := 3) (by decide +kernel)) rfl), (mj_in1 (List.mem_of_getElem? (i := 368) (by decide +kernel)) rfl), by decide, rfl, by decide⟩, (mj_in1 (List.mem_of_getElem? (i := 367) (by decide +kernel)) rfl), (mj_in (List.mem_append_left _ (List.mem_of_getElem? (i := 2) (by decide +kernel))) rfl)⟩
theorem d_Reader_begin_24 : decode kY_Reader_begin.2.1 24 = .ok (.aload_n 0, 1) := by decide +kernel
theorem d_Reader_begin_25 : decode kY_Reader_begin.2.1 25 = .ok (.iconst (-1), 1) := by decide +kernel
theorem d_Reader_begin_26 : decode kY_Reader_begin.2.1 26 = .ok (.putfield 79, 3) := by decide +kernel
theorem p_Reader_79_9 : mj_fp "TrustDesk$Reader" 79 9 9 (kt_Reader 9) false := ⟨kR_Reader, kF_Reader, 19, "TrustDesk$Reader", kt_Reader, rfl, kg_9, by decide, (mj_in1 (List.mem_of_getElem? (i := 81) (by decide +kernel)) rfl), Or.inl rfl, kto_Reader, kn_Reader, rfl, rfl, fun h => by cases h⟩
theorem d_Reader_begin_29 : decode kY_Reader_begin.2.1 29 = .ok (.aload_n 0, 1) := by decide +kernel
theorem d_Reader_begin_30 : decode kY_Reader_begin.2.1 30 = .ok (.invokevirtual 82, 3) := by decide +kernel
abbrev kY_Reader_advance : mj_Y := (⟨"TrustDesk$Reader", "advance", "()V"⟩, prog_10_method_32_code, 2, (Option.none : Option Jvm.ClassFile.FieldType))
theorem d_Reader_advance_0 : decode kY_Reader_advance.2.1 0 = .ok (.aload_n 0, 1) := by decide +kernel
theorem d_Reader_advance_1 : decode kY_Reader_advance.2.1 1 = .ok (.dup, 1) := by decide +kernel
theorem d_Reader_advance_2 : decode kY_Reader_advance.2.1 2 = .ok (.getfield 79, 3) := by decide +kernel
theorem f_Reader_79_9 : mj_fl "TrustDesk$Reader" 79 9 9 := ⟨kR_Reader, kF_Reader, 19, "TrustDesk$Reader", rfl, kg_9, by decide, (mj_in1 (List.mem_of_getElem? (i := 81) (by decide +kernel)) rfl), Or.inl rfl⟩
theorem d_Reader_advance_5 : decode kY_Reader_advance.2.1 5 = .ok (.iconst 1, 1) := by decide +kernel
theorem d_Reader_advance_6 : decode kY_Reader_advance.2.1 6 = .ok (.iadd, 1) := by decide +kernel
theorem d_Reader_advance_7 : decode kY_Reader_advance.2.1 7 = .ok (.putfield 79, 3) := by decide +kernel
theorem d_Reader_advance_10 : decode kY_Reader_advance.2.1 10 = .ok (.aload_n 0, 1) := by decide +kernel
theorem d_Reader_advance_11 : decode kY_Reader_advance.2.1 11 = .ok (.getfield 79, 3) := by decide +kernel
theorem d_Reader_advance_14 : decode kY_Reader_advance.2.1 14 = .ok (.ifCond .lt 28, 3) := by decide +kernel
theorem d_Reader_advance_42 : decode kY_Reader_advance.2.1 42 = .ok (.iconst 0, 1) := by decide +kernel
theorem d_Reader_advance_43 : decode kY_Reader_advance.2.1 43 = .ok (.istore_n 1, 1) := by decide +kernel
theorem d_Reader_advance_44 : decode kY_Reader_advance.2.1 44 = .ok (.aload_n 0, 1) := by decide +kernel
theorem d_Reader_advance_45 : decode kY_Reader_advance.2.1 45 = .ok (.iload_n 1, 1) := by decide +kernel
theorem d_Reader_advance_46 : decode kY_Reader_advance.2.1 46 = .ok (.ifCond .eq 15, 3) := by decide +kernel
theorem d_Reader_advance_61 : decode kY_Reader_advance.2.1 61 = .ok (.iconst 0, 1) := by decide +kernel
theorem d_Reader_advance_62 : decode kY_Reader_advance.2.1 62 = .ok (.putfield 41, 3) := by decide +kernel
theorem p_Reader_41_9 : mj_fp "TrustDesk$Reader" 41 9 10 (kt_Reader 10) false := ⟨kR_Reader, kF_Reader, 19, "TrustDesk$Reader", kt_Reader, rfl, kg_9, by decide, (mj_in1 (List.mem_of_getElem? (i := 82) (by decide +kernel)) rfl), Or.inl rfl, kto_Reader, kn_Reader, rfl, rfl, fun h => by cases h⟩
theorem d_Reader_advance_65 : decode kY_Reader_advance.2.1 65 = .ok (.aload_n 0, 1) := by decide +kernel
theorem d_Reader_advance_66 : decode kY_Reader_advance.2.1 66 = .ok (.iload_n 1, 1) := by decide +kernel
theorem d_Reader_advance_67 : decode kY_Reader_advance.2.1 67 = .ok (.ifCond .eq 15, 3) := by decide +kernel
theorem d_Reader_advance_82 : decode kY_Reader_advance.2.1 82 = .ok (.aload_n 0, 1) := by decide +kernel
theorem d_Reader_advance_83 : decode kY_Reader_advance.2.1 83 = .ok (.getfield 34, 3) := by decide +kernel
theorem d_Reader_advance_86 : decode kY_Reader_advance.2.1 86 = .ok (.putfield 175, 3) := by decide +kernel
theorem p_Reader_175_9 : mj_fp "TrustDesk$Reader" 175 9 11 (kt_Reader 11) false := ⟨kR_Reader, kF_Reader, 19, "TrustDesk$Reader", kt_Reader, rfl, kg_9, by decide, (mj_in1 (List.mem_of_getElem? (i := 83) (by decide +kernel)) rfl), Or.inl rfl, kto_Reader, kn_Reader, rfl, rfl, fun h => by cases h⟩
theorem d_Reader_advance_89 : decode kY_Reader_advance.2.1 89 = .ok (.aload_n 0, 1) := by decide +kernel
theorem d_Reader_advance_90 : decode kY_Reader_advance.2.1 90 = .ok (.iload_n 1, 1) := by decide +kernel
theorem d_Reader_advance_91 : decode kY_Reader_advance.2.1 91 = .ok (.ifCond .eq 15, 3) := by decide +kernel
theorem d_Reader_advance_106 : decode kY_Reader_advance.2.1 106 = .ok (.aload_n 0, 1) := by decide +kernel
theorem d_Reader_advance_107 : decode kY_Reader_advance.2.1 107 = .ok (.getfield 34, 3) := by decide +kernel
theorem d_Reader_advance_110 : decode kY_Reader_advance.2.1 110 = .ok (.putfield 172, 3) := by decide +kernel
theorem p_Reader_172_9 : mj_fp "TrustDesk$Reader" 172 9 12 (kt_Reader 12) false := ⟨kR_Reader, kF_Reader, 19, "TrustDesk$Reader", kt_Reader, rfl, kg_9, by decide, (mj_in1 (List.mem_of_getElem? (i := 84) (by decide +kernel)) rfl), Or.inl rfl, kto_Reader, kn_Reader, rfl, rfl, fun h => by cases h⟩
theorem d_Reader_advance_113 : decode kY_Reader_advance.2.1 113 = .ok (.aload_n 0, 1) := by decide +kernel
theorem d_Reader_advance_114 : decode kY_Reader_advance.2.1 114 = .ok (.iload_n 1, 1) := by decide +kernel
theorem d_Reader_advance_115 : decode kY_Reader_advance.2.1 115 = .ok (.ifCond .eq 15, 3) := by decide +kernel
theorem d_Reader_advance_130 : decode kY_Reader_advance.2.1 130 = .ok (.iconst (-1), 1) := by decide +kernel
theorem d_Reader_advance_131 : decode kY_Reader_advance.2.1 131 = .ok (.putfield 241, 3) := by decide +kernel
theorem p_Reader_241_9 : mj_fp "TrustDesk$Reader" 241 9 13 (kt_Reader 13) false := ⟨kR_Reader, kF_Reader, 19, "TrustDesk$Reader", kt_Reader, rfl, kg_9, by decide, (mj_in1 (List.mem_of_getElem? (i := 85) (by decide +kernel)) rfl), Or.inl rfl, kto_Reader, kn_Reader, rfl, rfl, fun h => by cases h⟩
theorem d_Reader_advance_134 : decode kY_Reader_advance.2.1 134 = .ok (.return_, 1) := by decide +kernel
theorem d_Reader_advance_17 : decode kY_Reader_advance.2.1 17 = .ok (.aload_n 0, 1) := by decide +kernel
theorem d_Reader_advance_18 : decode kY_Reader_advance.2.1 18 = .ok (.getfield 79, 3) := by decide +kernel
theorem d_Reader_advance_21 : decode kY_Reader_advance.2.1 21 = .ok (.aload_n 0, 1) := by decide +kernel
theorem d_Reader_advance_22 : decode kY_Reader_advance.2.1 22 = .ok (.getfield 244, 3) := by decide +kernel
theorem d_Reader_advance_25 : decode kY_Reader_advance.2.1 25 = .ok (.if_icmp .ge 17, 3) := by decide +kernel
theorem d_Reader_advance_28 : decode kY_Reader_advance.2.1 28 = .ok (.aload_n 0, 1) := by decide +kernel
theorem d_Reader_advance_29 : decode kY_Reader_advance.2.1 29 = .ok (.getfield 79, 3) := by decide +kernel
theorem d_Reader_advance_32 : decode kY_Reader_advance.2.1 32 = .ok (.sipush 400, 3) := by decide +kernel
theorem d_Reader_advance_35 : decode kY_Reader_advance.2.1 35 = .ok (.if_icmp .ge 7, 3) := by decide +kernel
theorem d_Reader_advance_38 : decode kY_Reader_advance.2.1 38 = .ok (.iconst 1, 1) := by decide +kernel
theorem d_Reader_advance_39 : decode kY_Reader_advance.2.1 39 = .ok (.goto 4, 3) := by decide +kernel
theorem d_Reader_advance_49 : decode kY_Reader_advance.2.1 49 = .ok (.aload_n 0, 1) := by decide +kernel
theorem d_Reader_advance_50 : decode kY_Reader_advance.2.1 50 = .ok (.getfield 19, 3) := by decide +kernel
theorem d_Reader_advance_53 : decode kY_Reader_advance.2.1 53 = .ok (.aload_n 0, 1) := by decide +kernel
theorem d_Reader_advance_54 : decode kY_Reader_advance.2.1 54 = .ok (.getfield 79, 3) := by decide +kernel
theorem d_Reader_advance_57 : decode kY_Reader_advance.2.1 57 = .ok (.iaload, 1) := by decide +kernel
theorem d_Reader_advance_58 : decode kY_Reader_advance.2.1 58 = .ok (.goto 4, 3) := by decide +kernel
theorem d_Reader_advance_70 : decode kY_Reader_advance.2.1 70 = .ok (.aload_n 0, 1) := by decide +kernel
theorem d_Reader_advance_71 : decode kY_Reader_advance.2.1 71 = .ok (.getfield 22, 3) := by decide +kernel
theorem d_Reader_advance_74 : decode kY_Reader_advance.2.1 74 = .ok (.aload_n 0, 1) := by decide +kernel
theorem d_Reader_advance_75 : decode kY_Reader_advance.2.1 75 = .ok (.getfield 79, 3) := by decide +kernel
theorem d_Reader_advance_78 : decode kY_Reader_advance.2.1 78 = .ok (.iaload, 1) := by decide +kernel
theorem d_Reader_advance_79 : decode kY_Reader_advance.2.1 79 = .ok (.goto 7, 3) := by decide +kernel
theorem d_Reader_advance_94 : decode kY_Reader_advance.2.1 94 = .ok (.aload_n 0, 1) := by decide +kernel
theorem d_Reader_advance_95 : decode kY_Reader_advance.2.1 95 = .ok (.getfield 25, 3) := by decide +kernel
theorem d_Reader_advance_98 : decode kY_Reader_advance.2.1 98 = .ok (.aload_n 0, 1) := by decide +kernel
theorem d_Reader_advance_99 : decode kY_Reader_advance.2.1 99 = .ok (.getfield 79, 3) := by decide +kernel
theorem d_Reader_advance_102 : decode kY_Reader_advance.2.1 102 = .ok (.iaload, 1) := by decide +kernel
theorem d_Reader_advance_103 : decode kY_Reader_advance.2.1 103 = .ok (.goto 7, 3) := by decide +kernel
theorem d_Reader_advance_118 : decode kY_Reader_advance.2.1 118 = .ok (.aload_n 0, 1) := by decide +kernel
theorem d_Reader_advance_119 : decode kY_Reader_advance.2.1 119 = .ok (.getfield 28, 3) := by decide +kernel
theorem d_Reader_advance_122 : decode kY_Reader_advance.2.1 122 = .ok (.aload_n 0, 1) := by decide +kernel
theorem d_Reader_advance_123 : decode kY_Reader_advance.2.1 123 = .ok (.getfield 79, 3) := by decide +kernel
theorem d_Reader_advance_126 : decode kY_Reader_advance.2.1 126 = .ok (.iaload, 1) := by decide +kernel
theorem d_Reader_advance_127 : decode kY_Reader_advance.2.1 127 = .ok (.goto 4, 3) := by decide +kernel
theorem lV_Reader_82 : mj_lV "TrustDesk$Reader" 82 kY_Reader_advance 0 := ⟨⟨(mj_in1 (List.mem_of_getElem? (i := 447) (by decide +kernel)) rfl), (mj_in1 (List.mem_of_getElem? (i := 3) (by decide +kernel)) rfl), (mj_in1 (List.mem_of_getElem? (i := 450) (by decide +kernel)) rfl), by decide, rfl, by decide⟩, (mj_in1 (List.mem_of_getElem? (i := 449) (by decide +kernel)) rfl), (mj_in (List.mem_append_left _ (List.mem_of_getElem? (i := 10) (by decide +kernel))) rfl)⟩
theorem d_Reader_begin_33 : decode kY_Reader_begin.2.1 33 = .ok (.return_, 1) := by decide +kernel
theorem lV_Reader_37 : mj_lV "TrustDesk$Reader" 37 kY_Reader_begin 1 := ⟨⟨(mj_in1 (List.mem_of_getElem? (i := 361) (by decide +kernel)) rfl), (mj_in1 (List.mem_of_getElem? (i := 3) (by decide +kernel)) rfl), (mj_in1 (List.mem_of_getElem? (i := 364) (by decide +kernel)) rfl), by decide, rfl, by decide⟩, (mj_in1 (List.mem_of_getElem? (i := 363) (by decide +kernel)) rfl), (mj_in (List.mem_append_left _ (List.mem_of_getElem? (i := 1) (by decide +kernel))) rfl)⟩
theorem d_Reader_readAct_6 : decode kY_Reader_readAct.2.1 6 = .ok (.iconst 0, 1) := by decide +kernel
theorem d_Reader_readAct_7 : decode kY_Reader_readAct.2.1 7 = .ok (.istore_n 2, 1) := by decide +kernel
theorem d_Reader_readAct_8 : decode kY_Reader_readAct.2.1 8 = .ok (.iload_n 2, 1) := by decide +kernel
theorem d_Reader_readAct_9 : decode kY_Reader_readAct.2.1 9 = .ok (.bipush 20, 2) := by decide +kernel
theorem d_Reader_readAct_11 : decode kY_Reader_readAct.2.1 11 = .ok (.if_icmp .gt 26, 3) := by decide +kernel
theorem d_Reader_readAct_37 : decode kY_Reader_readAct.2.1 37 = .ok (.iconst 1, 1) := by decide +kernel
theorem d_Reader_readAct_38 : decode kY_Reader_readAct.2.1 38 = .ok (.ireturn, 1) := by decide +kernel
theorem d_Reader_readAct_14 : decode kY_Reader_readAct.2.1 14 = .ok (.aload_n 0, 1) := by decide +kernel
theorem d_Reader_readAct_15 : decode kY_Reader_readAct.2.1 15 = .ok (.getfield 41, 3) := by decide +kernel
theorem f_Reader_41_9 : mj_fl "TrustDesk$Reader" 41 9 10 := ⟨kR_Reader, kF_Reader, 19, "TrustDesk$Reader", rfl, kg_9, by decide, (mj_in1 (List.mem_of_getElem? (i := 82) (by decide +kernel)) rfl), Or.inl rfl⟩
theorem d_Reader_readAct_18 : decode kY_Reader_readAct.2.1 18 = .ok (.ifCond .eq 19, 3) := by decide +kernel
theorem d_Reader_readAct_21 : decode kY_Reader_readAct.2.1 21 = .ok (.aload_n 0, 1) := by decide +kernel
theorem d_Reader_readAct_22 : decode kY_Reader_readAct.2.1 22 = .ok (.aload_n 1, 1) := by decide +kernel
theorem d_Reader_readAct_23 : decode kY_Reader_readAct.2.1 23 = .ok (.invokevirtual 44, 3) := by decide +kernel
abbrev kY_Reader_rule : mj_Y := (⟨"TrustDesk$Reader", "rule", "(LTrustDesk$Act;)Z"⟩, prog_10_method_7_code, 4, (Option.some Jvm.ClassFile.FieldType.boolean))
theorem d_Reader_rule_0 : decode kY_Reader_rule.2.1 0 = .ok (.aload_n 0, 1) := by decide +kernel
theorem d_Reader_rule_1 : decode kY_Reader_rule.2.1 1 = .ok (.bipush 13, 2) := by decide +kernel
theorem d_Reader_rule_3 : decode kY_Reader_rule.2.1 3 = .ok (.bipush 6, 2) := by decide +kernel
theorem d_Reader_rule_5 : decode kY_Reader_rule.2.1 5 = .ok (.invokevirtual 85, 3) := by decide +kernel
abbrev kY_Reader_valueAmong : mj_Y := (⟨"TrustDesk$Reader", "valueAmong", "(II)I"⟩, prog_10_method_31_code, 3, (Option.some Jvm.ClassFile.FieldType.int))
theorem d_Reader_valueAmong_0 : decode kY_Reader_valueAmong.2.1 0 = .ok (.aload_n 0, 1) := by decide +kernel
theorem d_Reader_valueAmong_1 : decode kY_Reader_valueAmong.2.1 1 = .ok (.getfield 41, 3) := by decide +kernel
theorem d_Reader_valueAmong_4 : decode kY_Reader_valueAmong.2.1 4 = .ok (.iconst 1, 1) := by decide +kernel
theorem d_Reader_valueAmong_5 : decode kY_Reader_valueAmong.2.1 5 = .ok (.if_icmp .ne 30, 3) := by decide +kernel
theorem d_Reader_valueAmong_35 : decode kY_Reader_valueAmong.2.1 35 = .ok (.iconst (-1), 1) := by decide +kernel
theorem d_Reader_valueAmong_36 : decode kY_Reader_valueAmong.2.1 36 = .ok (.ireturn, 1) := by decide +kernel
theorem d_Reader_valueAmong_8 : decode kY_Reader_valueAmong.2.1 8 = .ok (.aload_n 0, 1) := by decide +kernel
theorem d_Reader_valueAmong_9 : decode kY_Reader_valueAmong.2.1 9 = .ok (.getfield 241, 3) := by decide +kernel
theorem f_Reader_241_9 : mj_fl "TrustDesk$Reader" 241 9 13 := ⟨kR_Reader, kF_Reader, 19, "TrustDesk$Reader", rfl, kg_9, by decide, (mj_in1 (List.mem_of_getElem? (i := 85) (by decide +kernel)) rfl), Or.inl rfl⟩
theorem d_Reader_valueAmong_12 : decode kY_Reader_valueAmong.2.1 12 = .ok (.iload_n 1, 1) := by decide +kernel
theorem d_Reader_valueAmong_13 : decode kY_Reader_valueAmong.2.1 13 = .ok (.if_icmp .lt 22, 3) := by decide +kernel
theorem d_Reader_valueAmong_16 : decode kY_Reader_valueAmong.2.1 16 = .ok (.aload_n 0, 1) := by decide +kernel
theorem d_Reader_valueAmong_17 : decode kY_Reader_valueAmong.2.1 17 = .ok (.getfield 241, 3) := by decide +kernel
theorem d_Reader_valueAmong_20 : decode kY_Reader_valueAmong.2.1 20 = .ok (.iload_n 1, 1) := by decide +kernel
theorem d_Reader_valueAmong_21 : decode kY_Reader_valueAmong.2.1 21 = .ok (.iload_n 2, 1) := by decide +kernel
theorem d_Reader_valueAmong_22 : decode kY_Reader_valueAmong.2.1 22 = .ok (.iadd, 1) := by decide +kernel
theorem d_Reader_valueAmong_23 : decode kY_Reader_valueAmong.2.1 23 = .ok (.if_icmp .ge 12, 3) := by decide +kernel
theorem d_Reader_valueAmong_26 : decode kY_Reader_valueAmong.2.1 26 = .ok (.aload_n 0, 1) := by decide +kernel
theorem d_Reader_valueAmong_27 : decode kY_Reader_valueAmong.2.1 27 = .ok (.getfield 241, 3) := by decide +kernel
theorem d_Reader_valueAmong_30 : decode kY_Reader_valueAmong.2.1 30 = .ok (.iload_n 1, 1) := by decide +kernel
theorem d_Reader_valueAmong_31 : decode kY_Reader_valueAmong.2.1 31 = .ok (.isub, 1) := by decide +kernel
theorem d_Reader_valueAmong_32 : decode kY_Reader_valueAmong.2.1 32 = .ok (.goto 4, 3) := by decide +kernel
theorem lV_Reader_85 : mj_lV "TrustDesk$Reader" 85 kY_Reader_valueAmong 2 := ⟨⟨(mj_in1 (List.mem_of_getElem? (i := 455) (by decide +kernel)) rfl), (mj_in1 (List.mem_of_getElem? (i := 3) (by decide +kernel)) rfl), (mj_in1 (List.mem_of_getElem? (i := 458) (by decide +kernel)) rfl), by decide, rfl, by decide⟩, (mj_in1 (List.mem_of_getElem? (i := 457) (by decide +kernel)) rfl), (mj_in (List.mem_append_left _ (List.mem_of_getElem? (i := 12) (by decide +kernel))) rfl)⟩
theorem d_Reader_rule_8 : decode kY_Reader_rule.2.1 8 = .ok (.istore_n 2, 1) := by decide +kernel
theorem d_Reader_rule_9 : decode kY_Reader_rule.2.1 9 = .ok (.aload_n 0, 1) := by decide +kernel
theorem d_Reader_rule_10 : decode kY_Reader_rule.2.1 10 = .ok (.bipush 23, 2) := by decide +kernel
theorem d_Reader_rule_12 : decode kY_Reader_rule.2.1 12 = .ok (.invokevirtual 52, 3) := by decide +kernel
abbrev kY_Reader_isWord : mj_Y := (⟨"TrustDesk$Reader", "isWord", "(I)Z"⟩, prog_10_method_29_code, 2, (Option.some Jvm.ClassFile.FieldType.boolean))
theorem d_Reader_isWord_0 : decode kY_Reader_isWord.2.1 0 = .ok (.aload_n 0, 1) := by decide +kernel
theorem d_Reader_isWord_1 : decode kY_Reader_isWord.2.1 1 = .ok (.getfield 41, 3) := by decide +kernel
theorem d_Reader_isWord_4 : decode kY_Reader_isWord.2.1 4 = .ok (.iconst 1, 1) := by decide +kernel
theorem d_Reader_isWord_5 : decode kY_Reader_isWord.2.1 5 = .ok (.if_icmp .ne 15, 3) := by decide +kernel
theorem d_Reader_isWord_20 : decode kY_Reader_isWord.2.1 20 = .ok (.iconst 0, 1) := by decide +kernel
theorem d_Reader_isWord_21 : decode kY_Reader_isWord.2.1 21 = .ok (.ireturn, 1) := by decide +kernel
theorem d_Reader_isWord_8 : decode kY_Reader_isWord.2.1 8 = .ok (.aload_n 0, 1) := by decide +kernel
theorem d_Reader_isWord_9 : decode kY_Reader_isWord.2.1 9 = .ok (.getfield 241, 3) := by decide +kernel
theorem d_Reader_isWord_12 : decode kY_Reader_isWord.2.1 12 = .ok (.iload_n 1, 1) := by decide +kernel
theorem d_Reader_isWord_13 : decode kY_Reader_isWord.2.1 13 = .ok (.if_icmp .ne 7, 3) := by decide +kernel
theorem d_Reader_isWord_16 : decode kY_Reader_isWord.2.1 16 = .ok (.iconst 1, 1) := by decide +kernel
theorem d_Reader_isWord_17 : decode kY_Reader_isWord.2.1 17 = .ok (.goto 4, 3) := by decide +kernel
theorem lV_Reader_52 : mj_lV "TrustDesk$Reader" 52 kY_Reader_isWord 1 := ⟨⟨(mj_in1 (List.mem_of_getElem? (i := 459) (by decide +kernel)) rfl), (mj_in1 (List.mem_of_getElem? (i := 3) (by decide +kernel)) rfl), (mj_in1 (List.mem_of_getElem? (i := 462) (by decide +kernel)) rfl), by decide, rfl, by decide⟩, (mj_in1 (List.mem_of_getElem? (i := 461) (by decide +kernel)) rfl), (mj_in (List.mem_append_left _ (List.mem_of_getElem? (i := 13) (by decide +kernel))) rfl)⟩
theorem d_Reader_rule_15 : decode kY_Reader_rule.2.1 15 = .ok (.istore_n 3, 1) := by decide +kernel
theorem d_Reader_rule_16 : decode kY_Reader_rule.2.1 16 = .ok (.iload_n 2, 1) := by decide +kernel
theorem d_Reader_rule_17 : decode kY_Reader_rule.2.1 17 = .ok (.iconst (-1), 1) := by decide +kernel
theorem d_Reader_rule_18 : decode kY_Reader_rule.2.1 18 = .ok (.if_icmp .ne 13, 3) := by decide +kernel
theorem d_Reader_rule_31 : decode kY_Reader_rule.2.1 31 = .ok (.aload_n 1, 1) := by decide +kernel
theorem d_Reader_rule_32 : decode kY_Reader_rule.2.1 32 = .ok (.getfield 89, 3) := by decide +kernel
theorem f_Reader_89_1 : mj_fl "TrustDesk$Reader" 89 1 1 := ⟨kR_Act, kF_Act, 5, "TrustDesk$Act", rfl, kg_1, by decide, (mj_in1 (List.mem_of_getElem? (i := 249) (by decide +kernel)) rfl), Or.inl rfl⟩
theorem d_Reader_rule_35 : decode kY_Reader_rule.2.1 35 = .ok (.bipush 20, 2) := by decide +kernel
theorem d_Reader_rule_37 : decode kY_Reader_rule.2.1 37 = .ok (.if_icmp .lt 9, 3) := by decide +kernel
theorem d_Reader_rule_46 : decode kY_Reader_rule.2.1 46 = .ok (.aload_n 1, 1) := by decide +kernel
theorem d_Reader_rule_47 : decode kY_Reader_rule.2.1 47 = .ok (.dup, 1) := by decide +kernel
theorem d_Reader_rule_48 : decode kY_Reader_rule.2.1 48 = .ok (.getfield 89, 3) := by decide +kernel
theorem d_Reader_rule_51 : decode kY_Reader_rule.2.1 51 = .ok (.iconst 1, 1) := by decide +kernel
theorem d_Reader_rule_52 : decode kY_Reader_rule.2.1 52 = .ok (.iadd, 1) := by decide +kernel
theorem d_Reader_rule_53 : decode kY_Reader_rule.2.1 53 = .ok (.putfield 89, 3) := by decide +kernel
theorem p_Reader_89_1 : mj_fp "TrustDesk$Reader" 89 1 1 (kt_Act 1) false := ⟨kR_Act, kF_Act, 5, "TrustDesk$Act", kt_Act, rfl, kg_1, by decide, (mj_in1 (List.mem_of_getElem? (i := 249) (by decide +kernel)) rfl), Or.inl rfl, kto_Act, kn_Act, rfl, rfl, fun h => by cases h⟩
theorem d_Reader_rule_56 : decode kY_Reader_rule.2.1 56 = .ok (.aload_n 0, 1) := by decide +kernel
theorem d_Reader_rule_57 : decode kY_Reader_rule.2.1 57 = .ok (.invokevirtual 82, 3) := by decide +kernel
theorem d_Reader_rule_60 : decode kY_Reader_rule.2.1 60 = .ok (.iload_n 3, 1) := by decide +kernel
theorem d_Reader_rule_61 : decode kY_Reader_rule.2.1 61 = .ok (.ifCond .eq 14, 3) := by decide +kernel
theorem d_Reader_rule_75 : decode kY_Reader_rule.2.1 75 = .ok (.aload_n 0, 1) := by decide +kernel
theorem d_Reader_rule_76 : decode kY_Reader_rule.2.1 76 = .ok (.aload_n 1, 1) := by decide +kernel
theorem d_Reader_rule_77 : decode kY_Reader_rule.2.1 77 = .ok (.iload_n 2, 1) := by decide +kernel
theorem d_Reader_rule_78 : decode kY_Reader_rule.2.1 78 = .ok (.invokevirtual 97, 3) := by decide +kernel
abbrev kY_Reader_ruleNumber : mj_Y := (⟨"TrustDesk$Reader", "ruleNumber", "(LTrustDesk$Act;I)Z"⟩, prog_10_method_8_code, 3, (Option.some Jvm.ClassFile.FieldType.boolean))
theorem d_Reader_ruleNumber_0 : decode kY_Reader_ruleNumber.2.1 0 = .ok (.iload_n 2, 1) := by decide +kernel
theorem d_Reader_ruleNumber_1 : decode kY_Reader_ruleNumber.2.1 1 = .ok (.ifCond .lt 36, 3) := by decide +kernel
theorem d_Reader_ruleNumber_37 : decode kY_Reader_ruleNumber.2.1 37 = .ok (.iconst 0, 1) := by decide +kernel
theorem d_Reader_ruleNumber_38 : decode kY_Reader_ruleNumber.2.1 38 = .ok (.ireturn, 1) := by decide +kernel
theorem d_Reader_ruleNumber_4 : decode kY_Reader_ruleNumber.2.1 4 = .ok (.iload_n 2, 1) := by decide +kernel
theorem d_Reader_ruleNumber_5 : decode kY_Reader_ruleNumber.2.1 5 = .ok (.getstatic 101, 3) := by decide +kernel
theorem d_Reader_ruleNumber_8 : decode kY_Reader_ruleNumber.2.1 8 = .ok (.arraylength, 1) := by decide +kernel
theorem d_Reader_ruleNumber_9 : decode kY_Reader_ruleNumber.2.1 9 = .ok (.if_icmp .ge 28, 3) := by decide +kernel
theorem d_Reader_ruleNumber_12 : decode kY_Reader_ruleNumber.2.1 12 = .ok (.iload_n 2, 1) := by decide +kernel
theorem d_Reader_ruleNumber_13 : decode kY_Reader_ruleNumber.2.1 13 = .ok (.getstatic 104, 3) := by decide +kernel
theorem d_Reader_ruleNumber_16 : decode kY_Reader_ruleNumber.2.1 16 = .ok (.arraylength, 1) := by decide +kernel
theorem d_Reader_ruleNumber_17 : decode kY_Reader_ruleNumber.2.1 17 = .ok (.if_icmp .ge 20, 3) := by decide +kernel
theorem d_Reader_ruleNumber_20 : decode kY_Reader_ruleNumber.2.1 20 = .ok (.aload_n 0, 1) := by decide +kernel
theorem d_Reader_ruleNumber_21 : decode kY_Reader_ruleNumber.2.1 21 = .ok (.getstatic 101, 3) := by decide +kernel
theorem d_Reader_ruleNumber_24 : decode kY_Reader_ruleNumber.2.1 24 = .ok (.iload_n 2, 1) := by decide +kernel
theorem d_Reader_ruleNumber_25 : decode kY_Reader_ruleNumber.2.1 25 = .ok (.iaload, 1) := by decide +kernel
theorem d_Reader_ruleNumber_26 : decode kY_Reader_ruleNumber.2.1 26 = .ok (.getstatic 104, 3) := by decide +kernel
theorem d_Reader_ruleNumber_29 : decode kY_Reader_ruleNumber.2.1 29 = .ok (.iload_n 2, 1) := by decide +kernel
theorem d_Reader_ruleNumber_30 : decode kY_Reader_ruleNumber.2.1 30 = .ok (.iaload, 1) := by decide +kernel
theorem d_Reader_ruleNumber_31 : decode kY_Reader_ruleNumber.2.1 31 = .ok (.invokevirtual 107, 3) := by decide +kernel
abbrev kY_Reader_numeral : mj_Y := (⟨"TrustDesk$Reader", "numeral", "(II)Z"⟩, prog_10_method_26_code, 3, (Option.some Jvm.ClassFile.FieldType.boolean))
theorem d_Reader_numeral_0 : decode kY_Reader_numeral.2.1 0 = .ok (.aload_n 0, 1) := by decide +kernel
theorem d_Reader_numeral_1 : decode kY_Reader_numeral.2.1 1 = .ok (.getfield 41, 3) := by decide +kernel
theorem d_Reader_numeral_4 : decode kY_Reader_numeral.2.1 4 = .ok (.iconst 2, 1) := by decide +kernel
theorem d_Reader_numeral_5 : decode kY_Reader_numeral.2.1 5 = .ok (.if_icmp .ne 11, 3) := by decide +kernel
theorem d_Reader_numeral_16 : decode kY_Reader_numeral.2.1 16 = .ok (.aload_n 0, 1) := by decide +kernel
theorem d_Reader_numeral_17 : decode kY_Reader_numeral.2.1 17 = .ok (.iconst 1, 1) := by decide +kernel
theorem d_Reader_numeral_18 : decode kY_Reader_numeral.2.1 18 = .ok (.invokevirtual 56, 3) := by decide +kernel
abbrev kY_Reader_refuse : mj_Y := (⟨"TrustDesk$Reader", "refuse", "(I)Z"⟩, prog_10_method_25_code, 2, (Option.some Jvm.ClassFile.FieldType.boolean))
theorem d_Reader_refuse_0 : decode kY_Reader_refuse.2.1 0 = .ok (.aload_n 0, 1) := by decide +kernel
theorem d_Reader_refuse_1 : decode kY_Reader_refuse.2.1 1 = .ok (.iload_n 1, 1) := by decide +kernel
theorem d_Reader_refuse_2 : decode kY_Reader_refuse.2.1 2 = .ok (.putfield 70, 3) := by decide +kernel
theorem d_Reader_refuse_5 : decode kY_Reader_refuse.2.1 5 = .ok (.aload_n 0, 1) := by decide +kernel
theorem d_Reader_refuse_6 : decode kY_Reader_refuse.2.1 6 = .ok (.aload_n 0, 1) := by decide +kernel
theorem d_Reader_refuse_7 : decode kY_Reader_refuse.2.1 7 = .ok (.getfield 175, 3) := by decide +kernel
theorem f_Reader_175_9 : mj_fl "TrustDesk$Reader" 175 9 11 := ⟨kR_Reader, kF_Reader, 19, "TrustDesk$Reader", rfl, kg_9, by decide, (mj_in1 (List.mem_of_getElem? (i := 83) (by decide +kernel)) rfl), Or.inl rfl⟩
theorem d_Reader_refuse_10 : decode kY_Reader_refuse.2.1 10 = .ok (.putfield 11, 3) := by decide +kernel
theorem d_Reader_refuse_13 : decode kY_Reader_refuse.2.1 13 = .ok (.iconst 0, 1) := by decide +kernel
theorem d_Reader_refuse_14 : decode kY_Reader_refuse.2.1 14 = .ok (.ireturn, 1) := by decide +kernel
theorem lV_Reader_56 : mj_lV "TrustDesk$Reader" 56 kY_Reader_refuse 1 := ⟨⟨(mj_in1 (List.mem_of_getElem? (i := 463) (by decide +kernel)) rfl), (mj_in1 (List.mem_of_getElem? (i := 3) (by decide +kernel)) rfl), (mj_in1 (List.mem_of_getElem? (i := 466) (by decide +kernel)) rfl), by decide, rfl, by decide⟩, (mj_in1 (List.mem_of_getElem? (i := 465) (by decide +kernel)) rfl), (mj_in (List.mem_append_left _ (List.mem_of_getElem? (i := 14) (by decide +kernel))) rfl)⟩
theorem d_Reader_numeral_21 : decode kY_Reader_numeral.2.1 21 = .ok (.ireturn, 1) := by decide +kernel
theorem d_Reader_numeral_8 : decode kY_Reader_numeral.2.1 8 = .ok (.aload_n 0, 1) := by decide +kernel
theorem d_Reader_numeral_9 : decode kY_Reader_numeral.2.1 9 = .ok (.getfield 241, 3) := by decide +kernel
theorem d_Reader_numeral_12 : decode kY_Reader_numeral.2.1 12 = .ok (.iconst (-1), 1) := by decide +kernel
theorem d_Reader_numeral_13 : decode kY_Reader_numeral.2.1 13 = .ok (.if_icmp .ne 9, 3) := by decide +kernel
theorem d_Reader_numeral_22 : decode kY_Reader_numeral.2.1 22 = .ok (.aload_n 0, 1) := by decide +kernel
theorem d_Reader_numeral_23 : decode kY_Reader_numeral.2.1 23 = .ok (.getfield 241, 3) := by decide +kernel
theorem d_Reader_numeral_26 : decode kY_Reader_numeral.2.1 26 = .ok (.iload_n 1, 1) := by decide +kernel
theorem d_Reader_numeral_27 : decode kY_Reader_numeral.2.1 27 = .ok (.if_icmp .lt 11, 3) := by decide +kernel
theorem d_Reader_numeral_38 : decode kY_Reader_numeral.2.1 38 = .ok (.aload_n 0, 1) := by decide +kernel
theorem d_Reader_numeral_39 : decode kY_Reader_numeral.2.1 39 = .ok (.iconst 2, 1) := by decide +kernel
theorem d_Reader_numeral_40 : decode kY_Reader_numeral.2.1 40 = .ok (.invokevirtual 56, 3) := by decide +kernel
theorem d_Reader_numeral_43 : decode kY_Reader_numeral.2.1 43 = .ok (.ireturn, 1) := by decide +kernel
theorem d_Reader_numeral_30 : decode kY_Reader_numeral.2.1 30 = .ok (.aload_n 0, 1) := by decide +kernel
theorem d_Reader_numeral_31 : decode kY_Reader_numeral.2.1 31 = .ok (.getfield 241, 3) := by decide +kernel
theorem d_Reader_numeral_34 : decode kY_Reader_numeral.2.1 34 = .ok (.iload_n 2, 1) := by decide +kernel
theorem d_Reader_numeral_35 : decode kY_Reader_numeral.2.1 35 = .ok (.if_icmp .le 9, 3) := by decide +kernel
theorem d_Reader_numeral_44 : decode kY_Reader_numeral.2.1 44 = .ok (.aload_n 0, 1) := by decide +kernel
theorem d_Reader_numeral_45 : decode kY_Reader_numeral.2.1 45 = .ok (.aload_n 0, 1) := by decide +kernel
theorem d_Reader_numeral_46 : decode kY_Reader_numeral.2.1 46 = .ok (.getfield 241, 3) := by decide +kernel
theorem d_Reader_numeral_49 : decode kY_Reader_numeral.2.1 49 = .ok (.putfield 111, 3) := by decide +kernel
theorem p_Reader_111_9 : mj_fp "TrustDesk$Reader" 111 9 14 (kt_Reader 14) false := ⟨kR_Reader, kF_Reader, 19, "TrustDesk$Reader", kt_Reader, rfl, kg_9, by decide, (mj_in1 (List.mem_of_getElem? (i := 86) (by decide +kernel)) rfl), Or.inl rfl, kto_Reader, kn_Reader, rfl, rfl, fun h => by cases h⟩
theorem d_Reader_numeral_52 : decode kY_Reader_numeral.2.1 52 = .ok (.aload_n 0, 1) := by decide +kernel
theorem d_Reader_numeral_53 : decode kY_Reader_numeral.2.1 53 = .ok (.invokevirtual 82, 3) := by decide +kernel
theorem d_Reader_numeral_56 : decode kY_Reader_numeral.2.1 56 = .ok (.iconst 1, 1) := by decide +kernel
theorem d_Reader_numeral_57 : decode kY_Reader_numeral.2.1 57 = .ok (.ireturn, 1) := by decide +kernel
theorem lV_Reader_107 : mj_lV "TrustDesk$Reader" 107 kY_Reader_numeral 2 := ⟨⟨(mj_in1 (List.mem_of_getElem? (i := 511) (by decide +kernel)) rfl), (mj_in1 (List.mem_of_getElem? (i := 3) (by decide +kernel)) rfl), (mj_in1 (List.mem_of_getElem? (i := 514) (by decide +kernel)) rfl), by decide, rfl, by decide⟩, (mj_in1 (List.mem_of_getElem? (i := 513) (by decide +kernel)) rfl), (mj_in (List.mem_append_left _ (List.mem_of_getElem? (i := 26) (by decide +kernel))) rfl)⟩
theorem d_Reader_ruleNumber_34 : decode kY_Reader_ruleNumber.2.1 34 = .ok (.ifCond .ne 5, 3) := by decide +kernel
theorem d_Reader_ruleNumber_39 : decode kY_Reader_ruleNumber.2.1 39 = .ok (.aload_n 1, 1) := by decide +kernel
theorem d_Reader_ruleNumber_40 : decode kY_Reader_ruleNumber.2.1 40 = .ok (.iload_n 2, 1) := by decide +kernel
theorem d_Reader_ruleNumber_41 : decode kY_Reader_ruleNumber.2.1 41 = .ok (.aload_n 0, 1) := by decide +kernel
theorem d_Reader_ruleNumber_42 : decode kY_Reader_ruleNumber.2.1 42 = .ok (.getfield 111, 3) := by decide +kernel
theorem f_Reader_111_9 : mj_fl "TrustDesk$Reader" 111 9 14 := ⟨kR_Reader, kF_Reader, 19, "TrustDesk$Reader", rfl, kg_9, by decide, (mj_in1 (List.mem_of_getElem? (i := 86) (by decide +kernel)) rfl), Or.inl rfl⟩
theorem d_Reader_ruleNumber_45 : decode kY_Reader_ruleNumber.2.1 45 = .ok (.invokevirtual 114, 3) := by decide +kernel
abbrev kY_Act_setRule : mj_Y := (⟨"TrustDesk$Act", "setRule", "(II)V"⟩, prog_2_method_3_code, 3, (Option.none : Option Jvm.ClassFile.FieldType))
theorem d_Act_setRule_0 : decode kY_Act_setRule.2.1 0 = .ok (.iload_n 1, 1) := by decide +kernel
theorem d_Act_setRule_1 : decode kY_Act_setRule.2.1 1 = .ok (.ifCond .lt 19, 3) := by decide +kernel
theorem d_Act_setRule_20 : decode kY_Act_setRule.2.1 20 = .ok (.return_, 1) := by decide +kernel
theorem d_Act_setRule_4 : decode kY_Act_setRule.2.1 4 = .ok (.iload_n 1, 1) := by decide +kernel
theorem d_Act_setRule_5 : decode kY_Act_setRule.2.1 5 = .ok (.aload_n 0, 1) := by decide +kernel
theorem d_Act_setRule_6 : decode kY_Act_setRule.2.1 6 = .ok (.getfield 27, 3) := by decide +kernel
theorem d_Act_setRule_9 : decode kY_Act_setRule.2.1 9 = .ok (.arraylength, 1) := by decide +kernel
theorem d_Act_setRule_10 : decode kY_Act_setRule.2.1 10 = .ok (.if_icmp .ge 10, 3) := by decide +kernel
theorem d_Act_setRule_13 : decode kY_Act_setRule.2.1 13 = .ok (.aload_n 0, 1) := by decide +kernel
theorem d_Act_setRule_14 : decode kY_Act_setRule.2.1 14 = .ok (.getfield 27, 3) := by decide +kernel
theorem d_Act_setRule_17 : decode kY_Act_setRule.2.1 17 = .ok (.iload_n 1, 1) := by decide +kernel
theorem d_Act_setRule_18 : decode kY_Act_setRule.2.1 18 = .ok (.iload_n 2, 1) := by decide +kernel
theorem d_Act_setRule_19 : decode kY_Act_setRule.2.1 19 = .ok (.iastore, 1) := by decide +kernel
def w_Act_setRule : List Nat := [153]
theorem tc_Act_setRule {g : mj_G} {l : Launch} {d : Nat} {T0 : tm_H} {M0 : mj_M} {n0 x9 : Nat} {o0 : Nat} {x1 : Int32} {x2 : Int32} (h_o0 : T0 o0 = some (0, 1, 0)) (I0 : tm_I tm_FT (tm_in w_Act_setRule) x9 T0 M0 n0 T0 M0 n0) : mj_Met g l kY_Act_setRule d [.ref o0, .int x1, .int x2] M0 n0 0 0 (tm_Q tm_FT (tm_in w_Act_setRule) x9 T0 M0 n0 (fun r _ _ => r = none)) := by
  refine mj_enter (by decide) (Nat.le_of_ble_eq_true rfl) ?_
  refine mv_iload_n d_Act_setRule_0 rfl rfl ?_
  have := mz_hi x1
  refine mv_if_ltZ (tgt := 20) (a := x1.toInt) d_Act_setRule_1 (by decide) rfl (fun b1 => ?_) (fun b1 => ?_)
  · exact mv_vret d_Act_setRule_20 rfl ⟨_, I0, rfl⟩
  · refine mv_iload_n d_Act_setRule_4 rfl rfl ?_
    refine mv_aload_n d_Act_setRule_5 rfl rfl ?_
    obtain ⟨a3, q2, t_a3⟩ := tm_atR I0 h_o0 (k := 3) rfl
    refine tr_getK q2 d_Act_setRule_6 f_Act_27_1 ?_
    refine tr_alen (v := 6) I0 t_a3 (by decide) (by decide) d_Act_setRule_9 ?_
    have := mz_hi x1
    refine mv_icmp_geZ (tgt := 20) (a := x1.toInt) (b := 6) d_Act_setRule_10 (by decide) rfl (by decide) (fun b4 => ?_) (fun b4 => ?_)
    · exact mv_vret d_Act_setRule_20 rfl ⟨_, I0, rfl⟩
    · refine mv_aload_n d_Act_setRule_13 rfl rfl ?_
      refine tr_getK (k := 3) q2 d_Act_setRule_14 f_Act_27_1 ?_
      refine mv_iload_n d_Act_setRule_17 rfl rfl ?_
      refine mv_iload_n d_Act_setRule_18 rfl rfl ?_
      refine tr_iastK tm_okF I0 t_a3 (by decide) (Or.inl (by decide)) d_Act_setRule_19 (vp_in_iff.mpr (by omega)) (fun M5 I6 K7 => ?_)
      exact mv_vret d_Act_setRule_20 rfl ⟨_, I6, rfl⟩
theorem lV_Reader_114 : mj_lV "TrustDesk$Reader" 114 kY_Act_setRule 2 := ⟨⟨(mj_in1 (List.mem_of_getElem? (i := 621) (by decide +kernel)) rfl), (mj_in1 (List.mem_of_getElem? (i := 6) (by decide +kernel)) rfl), (mj_in1 (List.mem_of_getElem? (i := 624) (by decide +kernel)) rfl), by decide, rfl, by decide⟩, (mj_in1 (List.mem_of_getElem? (i := 622) (by decide +kernel)) rfl), (mj_in1 (List.mem_of_getElem? (i := 623) (by decide +kernel)) rfl)⟩
theorem d_Reader_ruleNumber_48 : decode kY_Reader_ruleNumber.2.1 48 = .ok (.iconst 1, 1) := by decide +kernel
theorem d_Reader_ruleNumber_49 : decode kY_Reader_ruleNumber.2.1 49 = .ok (.ireturn, 1) := by decide +kernel
theorem lV_Reader_97 : mj_lV "TrustDesk$Reader" 97 kY_Reader_ruleNumber 2 := ⟨⟨(mj_in1 (List.mem_of_getElem? (i := 613) (by decide +kernel)) rfl), (mj_in1 (List.mem_of_getElem? (i := 3) (by decide +kernel)) rfl), (mj_in1 (List.mem_of_getElem? (i := 616) (by decide +kernel)) rfl), by decide, rfl, by decide⟩, (mj_in1 (List.mem_of_getElem? (i := 615) (by decide +kernel)) rfl), (mj_in (List.mem_append_left _ (List.mem_of_getElem? (i := 33) (by decide +kernel))) rfl)⟩
theorem d_Reader_rule_81 : decode kY_Reader_rule.2.1 81 = .ok (.ifCond .eq 16, 3) := by decide +kernel
theorem d_Reader_rule_97 : decode kY_Reader_rule.2.1 97 = .ok (.iconst 0, 1) := by decide +kernel
theorem d_Reader_rule_98 : decode kY_Reader_rule.2.1 98 = .ok (.ireturn, 1) := by decide +kernel
theorem d_Reader_rule_84 : decode kY_Reader_rule.2.1 84 = .ok (.aload_n 0, 1) := by decide +kernel
theorem d_Reader_rule_85 : decode kY_Reader_rule.2.1 85 = .ok (.bipush 59, 2) := by decide +kernel
theorem d_Reader_rule_87 : decode kY_Reader_rule.2.1 87 = .ok (.invokevirtual 63, 3) := by decide +kernel
abbrev kY_Reader_sign : mj_Y := (⟨"TrustDesk$Reader", "sign", "(C)Z"⟩, prog_10_method_28_code, 2, (Option.some Jvm.ClassFile.FieldType.boolean))
theorem d_Reader_sign_0 : decode kY_Reader_sign.2.1 0 = .ok (.aload_n 0, 1) := by decide +kernel
theorem d_Reader_sign_1 : decode kY_Reader_sign.2.1 1 = .ok (.iload_n 1, 1) := by decide +kernel
theorem d_Reader_sign_2 : decode kY_Reader_sign.2.1 2 = .ok (.invokevirtual 209, 3) := by decide +kernel
abbrev kY_Reader_isSign : mj_Y := (⟨"TrustDesk$Reader", "isSign", "(C)Z"⟩, prog_10_method_30_code, 2, (Option.some Jvm.ClassFile.FieldType.boolean))
theorem d_Reader_isSign_0 : decode kY_Reader_isSign.2.1 0 = .ok (.aload_n 0, 1) := by decide +kernel
theorem d_Reader_isSign_1 : decode kY_Reader_isSign.2.1 1 = .ok (.getfield 41, 3) := by decide +kernel
theorem d_Reader_isSign_4 : decode kY_Reader_isSign.2.1 4 = .ok (.iconst 3, 1) := by decide +kernel
theorem d_Reader_isSign_5 : decode kY_Reader_isSign.2.1 5 = .ok (.if_icmp .ne 15, 3) := by decide +kernel
theorem d_Reader_isSign_20 : decode kY_Reader_isSign.2.1 20 = .ok (.iconst 0, 1) := by decide +kernel
theorem d_Reader_isSign_21 : decode kY_Reader_isSign.2.1 21 = .ok (.ireturn, 1) := by decide +kernel
theorem d_Reader_isSign_8 : decode kY_Reader_isSign.2.1 8 = .ok (.aload_n 0, 1) := by decide +kernel
theorem d_Reader_isSign_9 : decode kY_Reader_isSign.2.1 9 = .ok (.getfield 241, 3) := by decide +kernel
theorem d_Reader_isSign_12 : decode kY_Reader_isSign.2.1 12 = .ok (.iload_n 1, 1) := by decide +kernel
theorem d_Reader_isSign_13 : decode kY_Reader_isSign.2.1 13 = .ok (.if_icmp .ne 7, 3) := by decide +kernel
theorem d_Reader_isSign_16 : decode kY_Reader_isSign.2.1 16 = .ok (.iconst 1, 1) := by decide +kernel
theorem d_Reader_isSign_17 : decode kY_Reader_isSign.2.1 17 = .ok (.goto 4, 3) := by decide +kernel
theorem lV_Reader_209 : mj_lV "TrustDesk$Reader" 209 kY_Reader_isSign 1 := ⟨⟨(mj_in1 (List.mem_of_getElem? (i := 487) (by decide +kernel)) rfl), (mj_in1 (List.mem_of_getElem? (i := 3) (by decide +kernel)) rfl), (mj_in1 (List.mem_of_getElem? (i := 490) (by decide +kernel)) rfl), by decide, rfl, by decide⟩, (mj_in1 (List.mem_of_getElem? (i := 489) (by decide +kernel)) rfl), (mj_in (List.mem_append_left _ (List.mem_of_getElem? (i := 20) (by decide +kernel))) rfl)⟩
theorem d_Reader_sign_5 : decode kY_Reader_sign.2.1 5 = .ok (.ifCond .ne 9, 3) := by decide +kernel
theorem d_Reader_sign_14 : decode kY_Reader_sign.2.1 14 = .ok (.aload_n 0, 1) := by decide +kernel
theorem d_Reader_sign_15 : decode kY_Reader_sign.2.1 15 = .ok (.invokevirtual 82, 3) := by decide +kernel
theorem d_Reader_sign_18 : decode kY_Reader_sign.2.1 18 = .ok (.iconst 1, 1) := by decide +kernel
theorem d_Reader_sign_19 : decode kY_Reader_sign.2.1 19 = .ok (.ireturn, 1) := by decide +kernel
theorem d_Reader_sign_8 : decode kY_Reader_sign.2.1 8 = .ok (.aload_n 0, 1) := by decide +kernel
theorem d_Reader_sign_9 : decode kY_Reader_sign.2.1 9 = .ok (.iconst 1, 1) := by decide +kernel
theorem d_Reader_sign_10 : decode kY_Reader_sign.2.1 10 = .ok (.invokevirtual 56, 3) := by decide +kernel
theorem d_Reader_sign_13 : decode kY_Reader_sign.2.1 13 = .ok (.ireturn, 1) := by decide +kernel
theorem lV_Reader_63 : mj_lV "TrustDesk$Reader" 63 kY_Reader_sign 1 := ⟨⟨(mj_in1 (List.mem_of_getElem? (i := 495) (by decide +kernel)) rfl), (mj_in1 (List.mem_of_getElem? (i := 3) (by decide +kernel)) rfl), (mj_in1 (List.mem_of_getElem? (i := 498) (by decide +kernel)) rfl), by decide, rfl, by decide⟩, (mj_in1 (List.mem_of_getElem? (i := 497) (by decide +kernel)) rfl), (mj_in (List.mem_append_left _ (List.mem_of_getElem? (i := 22) (by decide +kernel))) rfl)⟩
theorem d_Reader_rule_90 : decode kY_Reader_rule.2.1 90 = .ok (.ifCond .eq 7, 3) := by decide +kernel
theorem d_Reader_rule_93 : decode kY_Reader_rule.2.1 93 = .ok (.iconst 1, 1) := by decide +kernel
theorem d_Reader_rule_94 : decode kY_Reader_rule.2.1 94 = .ok (.goto 4, 3) := by decide +kernel
theorem d_Reader_rule_64 : decode kY_Reader_rule.2.1 64 = .ok (.aload_n 0, 1) := by decide +kernel
theorem d_Reader_rule_65 : decode kY_Reader_rule.2.1 65 = .ok (.aload_n 1, 1) := by decide +kernel
theorem d_Reader_rule_66 : decode kY_Reader_rule.2.1 66 = .ok (.invokevirtual 94, 3) := by decide +kernel
abbrev kY_Reader_bar : mj_Y := (⟨"TrustDesk$Reader", "bar", "(LTrustDesk$Act;)Z"⟩, prog_10_method_9_code, 3, (Option.some Jvm.ClassFile.FieldType.boolean))
theorem d_Reader_bar_0 : decode kY_Reader_bar.2.1 0 = .ok (.aload_n 0, 1) := by decide +kernel
theorem d_Reader_bar_1 : decode kY_Reader_bar.2.1 1 = .ok (.bipush 19, 2) := by decide +kernel
theorem d_Reader_bar_3 : decode kY_Reader_bar.2.1 3 = .ok (.iconst 4, 1) := by decide +kernel
theorem d_Reader_bar_4 : decode kY_Reader_bar.2.1 4 = .ok (.invokevirtual 85, 3) := by decide +kernel
theorem d_Reader_bar_7 : decode kY_Reader_bar.2.1 7 = .ok (.istore_n 2, 1) := by decide +kernel
theorem d_Reader_bar_8 : decode kY_Reader_bar.2.1 8 = .ok (.iload_n 2, 1) := by decide +kernel
theorem d_Reader_bar_9 : decode kY_Reader_bar.2.1 9 = .ok (.iconst (-1), 1) := by decide +kernel
theorem d_Reader_bar_10 : decode kY_Reader_bar.2.1 10 = .ok (.if_icmp .ne 9, 3) := by decide +kernel
theorem d_Reader_bar_19 : decode kY_Reader_bar.2.1 19 = .ok (.aload_n 0, 1) := by decide +kernel
theorem d_Reader_bar_20 : decode kY_Reader_bar.2.1 20 = .ok (.invokevirtual 82, 3) := by decide +kernel
theorem d_Reader_bar_23 : decode kY_Reader_bar.2.1 23 = .ok (.aload_n 0, 1) := by decide +kernel
theorem d_Reader_bar_24 : decode kY_Reader_bar.2.1 24 = .ok (.iconst 0, 1) := by decide +kernel
theorem d_Reader_bar_25 : decode kY_Reader_bar.2.1 25 = .ok (.putfield 118, 3) := by decide +kernel
theorem p_Reader_118_9 : mj_fp "TrustDesk$Reader" 118 9 18 (kt_Reader 18) false := ⟨kR_Reader, kF_Reader, 19, "TrustDesk$Reader", kt_Reader, rfl, kg_9, by decide, (mj_in1 (List.mem_of_getElem? (i := 90) (by decide +kernel)) rfl), Or.inl rfl, kto_Reader, kn_Reader, rfl, rfl, fun h => by cases h⟩
theorem d_Reader_bar_28 : decode kY_Reader_bar.2.1 28 = .ok (.aload_n 0, 1) := by decide +kernel
theorem d_Reader_bar_29 : decode kY_Reader_bar.2.1 29 = .ok (.bipush 28, 2) := by decide +kernel
theorem d_Reader_bar_31 : decode kY_Reader_bar.2.1 31 = .ok (.invokevirtual 121, 3) := by decide +kernel
abbrev kY_Reader_word : mj_Y := (⟨"TrustDesk$Reader", "word", "(I)Z"⟩, prog_10_method_27_code, 2, (Option.some Jvm.ClassFile.FieldType.boolean))
theorem d_Reader_word_0 : decode kY_Reader_word.2.1 0 = .ok (.aload_n 0, 1) := by decide +kernel
theorem d_Reader_word_1 : decode kY_Reader_word.2.1 1 = .ok (.iload_n 1, 1) := by decide +kernel
theorem d_Reader_word_2 : decode kY_Reader_word.2.1 2 = .ok (.invokevirtual 52, 3) := by decide +kernel
theorem d_Reader_word_5 : decode kY_Reader_word.2.1 5 = .ok (.ifCond .ne 9, 3) := by decide +kernel
theorem d_Reader_word_14 : decode kY_Reader_word.2.1 14 = .ok (.aload_n 0, 1) := by decide +kernel
theorem d_Reader_word_15 : decode kY_Reader_word.2.1 15 = .ok (.invokevirtual 82, 3) := by decide +kernel
theorem d_Reader_word_18 : decode kY_Reader_word.2.1 18 = .ok (.iconst 1, 1) := by decide +kernel
theorem d_Reader_word_19 : decode kY_Reader_word.2.1 19 = .ok (.ireturn, 1) := by decide +kernel
theorem d_Reader_word_8 : decode kY_Reader_word.2.1 8 = .ok (.aload_n 0, 1) := by decide +kernel
theorem d_Reader_word_9 : decode kY_Reader_word.2.1 9 = .ok (.iconst 1, 1) := by decide +kernel
theorem d_Reader_word_10 : decode kY_Reader_word.2.1 10 = .ok (.invokevirtual 56, 3) := by decide +kernel
theorem d_Reader_word_13 : decode kY_Reader_word.2.1 13 = .ok (.ireturn, 1) := by decide +kernel
theorem lV_Reader_121 : mj_lV "TrustDesk$Reader" 121 kY_Reader_word 1 := ⟨⟨(mj_in1 (List.mem_of_getElem? (i := 471) (by decide +kernel)) rfl), (mj_in1 (List.mem_of_getElem? (i := 3) (by decide +kernel)) rfl), (mj_in1 (List.mem_of_getElem? (i := 474) (by decide +kernel)) rfl), by decide, rfl, by decide⟩, (mj_in1 (List.mem_of_getElem? (i := 473) (by decide +kernel)) rfl), (mj_in (List.mem_append_left _ (List.mem_of_getElem? (i := 16) (by decide +kernel))) rfl)⟩
theorem d_Reader_bar_34 : decode kY_Reader_bar.2.1 34 = .ok (.ifCond .eq 10, 3) := by decide +kernel
theorem d_Reader_bar_44 : decode kY_Reader_bar.2.1 44 = .ok (.iconst 0, 1) := by decide +kernel
theorem d_Reader_bar_45 : decode kY_Reader_bar.2.1 45 = .ok (.ireturn, 1) := by decide +kernel
theorem d_Reader_bar_37 : decode kY_Reader_bar.2.1 37 = .ok (.aload_n 0, 1) := by decide +kernel
theorem d_Reader_bar_38 : decode kY_Reader_bar.2.1 38 = .ok (.invokevirtual 124, 3) := by decide +kernel
abbrev kY_Reader_condition : mj_Y := (⟨"TrustDesk$Reader", "condition", "()Z"⟩, prog_10_method_15_code, 2, (Option.some Jvm.ClassFile.FieldType.boolean))
theorem d_Reader_condition_0 : decode kY_Reader_condition.2.1 0 = .ok (.aload_n 0, 1) := by decide +kernel
theorem d_Reader_condition_1 : decode kY_Reader_condition.2.1 1 = .ok (.invokevirtual 198, 3) := by decide +kernel
abbrev kY_Reader_both : mj_Y := (⟨"TrustDesk$Reader", "both", "()Z"⟩, prog_10_method_16_code, 2, (Option.some Jvm.ClassFile.FieldType.boolean))
theorem d_Reader_both_0 : decode kY_Reader_both.2.1 0 = .ok (.aload_n 0, 1) := by decide +kernel
theorem d_Reader_both_1 : decode kY_Reader_both.2.1 1 = .ok (.invokevirtual 206, 3) := by decide +kernel
abbrev kY_Reader_term : mj_Y := (⟨"TrustDesk$Reader", "term", "()Z"⟩, prog_10_method_17_code, 3, (Option.some Jvm.ClassFile.FieldType.boolean))
theorem d_Reader_term_0 : decode kY_Reader_term.2.1 0 = .ok (.iconst 0, 1) := by decide +kernel
theorem d_Reader_term_1 : decode kY_Reader_term.2.1 1 = .ok (.istore_n 1, 1) := by decide +kernel
theorem d_Reader_term_2 : decode kY_Reader_term.2.1 2 = .ok (.iconst 0, 1) := by decide +kernel
theorem d_Reader_term_3 : decode kY_Reader_term.2.1 3 = .ok (.istore_n 2, 1) := by decide +kernel
theorem d_Reader_term_4 : decode kY_Reader_term.2.1 4 = .ok (.iload_n 2, 1) := by decide +kernel
theorem d_Reader_term_5 : decode kY_Reader_term.2.1 5 = .ok (.sipush 400, 3) := by decide +kernel
theorem d_Reader_term_8 : decode kY_Reader_term.2.1 8 = .ok (.if_icmp .ge 32, 3) := by decide +kernel
theorem d_Reader_term_40 : decode kY_Reader_term.2.1 40 = .ok (.aload_n 0, 1) := by decide +kernel
theorem d_Reader_term_41 : decode kY_Reader_term.2.1 41 = .ok (.bipush 91, 2) := by decide +kernel
theorem d_Reader_term_43 : decode kY_Reader_term.2.1 43 = .ok (.invokevirtual 209, 3) := by decide +kernel
theorem d_Reader_term_46 : decode kY_Reader_term.2.1 46 = .ok (.ifCond .eq 40, 3) := by decide +kernel
theorem d_Reader_term_86 : decode kY_Reader_term.2.1 86 = .ok (.aload_n 0, 1) := by decide +kernel
theorem d_Reader_term_87 : decode kY_Reader_term.2.1 87 = .ok (.invokevirtual 186, 3) := by decide +kernel
abbrev kY_Reader_sum : mj_Y := (⟨"TrustDesk$Reader", "sum", "()Z"⟩, prog_10_method_19_code, 3, (Option.some Jvm.ClassFile.FieldType.boolean))
theorem d_Reader_sum_0 : decode kY_Reader_sum.2.1 0 = .ok (.aload_n 0, 1) := by decide +kernel
theorem d_Reader_sum_1 : decode kY_Reader_sum.2.1 1 = .ok (.invokevirtual 218, 3) := by decide +kernel
abbrev kY_Reader_product : mj_Y := (⟨"TrustDesk$Reader", "product", "()Z"⟩, prog_10_method_20_code, 2, (Option.some Jvm.ClassFile.FieldType.boolean))
theorem d_Reader_product_0 : decode kY_Reader_product.2.1 0 = .ok (.aload_n 0, 1) := by decide +kernel
theorem d_Reader_product_1 : decode kY_Reader_product.2.1 1 = .ok (.invokevirtual 221, 3) := by decide +kernel
abbrev kY_Reader_factor : mj_Y := (⟨"TrustDesk$Reader", "factor", "()Z"⟩, prog_10_method_21_code, 2, (Option.some Jvm.ClassFile.FieldType.boolean))
theorem d_Reader_factor_0 : decode kY_Reader_factor.2.1 0 = .ok (.aload_n 0, 1) := by decide +kernel
theorem d_Reader_factor_1 : decode kY_Reader_factor.2.1 1 = .ok (.getfield 41, 3) := by decide +kernel
theorem d_Reader_factor_4 : decode kY_Reader_factor.2.1 4 = .ok (.iconst 2, 1) := by decide +kernel
theorem d_Reader_factor_5 : decode kY_Reader_factor.2.1 5 = .ok (.if_icmp .ne 27, 3) := by decide +kernel
theorem d_Reader_factor_32 : decode kY_Reader_factor.2.1 32 = .ok (.aload_n 0, 1) := by decide +kernel
theorem d_Reader_factor_33 : decode kY_Reader_factor.2.1 33 = .ok (.getfield 41, 3) := by decide +kernel
theorem d_Reader_factor_36 : decode kY_Reader_factor.2.1 36 = .ok (.iconst 1, 1) := by decide +kernel
theorem d_Reader_factor_37 : decode kY_Reader_factor.2.1 37 = .ok (.if_icmp .ne 36, 3) := by decide +kernel
theorem d_Reader_factor_73 : decode kY_Reader_factor.2.1 73 = .ok (.aload_n 0, 1) := by decide +kernel
theorem d_Reader_factor_74 : decode kY_Reader_factor.2.1 74 = .ok (.bipush 40, 2) := by decide +kernel
theorem d_Reader_factor_76 : decode kY_Reader_factor.2.1 76 = .ok (.invokevirtual 209, 3) := by decide +kernel
theorem d_Reader_factor_79 : decode kY_Reader_factor.2.1 79 = .ok (.ifCond .ne 9, 3) := by decide +kernel
theorem d_Reader_factor_88 : decode kY_Reader_factor.2.1 88 = .ok (.aload_n 0, 1) := by decide +kernel
theorem d_Reader_factor_89 : decode kY_Reader_factor.2.1 89 = .ok (.invokevirtual 212, 3) := by decide +kernel
abbrev kY_Reader_openBracket : mj_Y := (⟨"TrustDesk$Reader", "openBracket", "()Z"⟩, prog_10_method_22_code, 1, (Option.some Jvm.ClassFile.FieldType.boolean))
theorem d_Reader_openBracket_0 : decode kY_Reader_openBracket.2.1 0 = .ok (.aload_n 0, 1) := by decide +kernel
theorem d_Reader_openBracket_1 : decode kY_Reader_openBracket.2.1 1 = .ok (.getfield 73, 3) := by decide +kernel
theorem f_Reader_73_9 : mj_fl "TrustDesk$Reader" 73 9 16 := ⟨kR_Reader, kF_Reader, 19, "TrustDesk$Reader", rfl, kg_9, by decide, (mj_in1 (List.mem_of_getElem? (i := 88) (by decide +kernel)) rfl), Or.inl rfl⟩
theorem d_Reader_openBracket_4 : decode kY_Reader_openBracket.2.1 4 = .ok (.iconst 4, 1) := by decide +kernel
theorem d_Reader_openBracket_5 : decode kY_Reader_openBracket.2.1 5 = .ok (.if_icmp .lt 9, 3) := by decide +kernel
theorem d_Reader_openBracket_14 : decode kY_Reader_openBracket.2.1 14 = .ok (.aload_n 0, 1) := by decide +kernel
theorem d_Reader_openBracket_15 : decode kY_Reader_openBracket.2.1 15 = .ok (.dup, 1) := by decide +kernel
theorem d_Reader_openBracket_16 : decode kY_Reader_openBracket.2.1 16 = .ok (.getfield 73, 3) := by decide +kernel
theorem d_Reader_openBracket_19 : decode kY_Reader_openBracket.2.1 19 = .ok (.iconst 1, 1) := by decide +kernel
theorem d_Reader_openBracket_20 : decode kY_Reader_openBracket.2.1 20 = .ok (.iadd, 1) := by decide +kernel
theorem d_Reader_openBracket_21 : decode kY_Reader_openBracket.2.1 21 = .ok (.putfield 73, 3) := by decide +kernel
theorem d_Reader_openBracket_24 : decode kY_Reader_openBracket.2.1 24 = .ok (.aload_n 0, 1) := by decide +kernel
theorem d_Reader_openBracket_25 : decode kY_Reader_openBracket.2.1 25 = .ok (.invokevirtual 82, 3) := by decide +kernel
theorem d_Reader_openBracket_28 : decode kY_Reader_openBracket.2.1 28 = .ok (.iconst 1, 1) := by decide +kernel
theorem d_Reader_openBracket_29 : decode kY_Reader_openBracket.2.1 29 = .ok (.ireturn, 1) := by decide +kernel
theorem d_Reader_openBracket_8 : decode kY_Reader_openBracket.2.1 8 = .ok (.aload_n 0, 1) := by decide +kernel
theorem d_Reader_openBracket_9 : decode kY_Reader_openBracket.2.1 9 = .ok (.iconst 4, 1) := by decide +kernel
theorem d_Reader_openBracket_10 : decode kY_Reader_openBracket.2.1 10 = .ok (.invokevirtual 56, 3) := by decide +kernel
theorem d_Reader_openBracket_13 : decode kY_Reader_openBracket.2.1 13 = .ok (.ireturn, 1) := by decide +kernel
theorem lV_Reader_212 : mj_lV "TrustDesk$Reader" 212 kY_Reader_openBracket 0 := ⟨⟨(mj_in1 (List.mem_of_getElem? (i := 491) (by decide +kernel)) rfl), (mj_in1 (List.mem_of_getElem? (i := 3) (by decide +kernel)) rfl), (mj_in1 (List.mem_of_getElem? (i := 494) (by decide +kernel)) rfl), by decide, rfl, by decide⟩, (mj_in1 (List.mem_of_getElem? (i := 493) (by decide +kernel)) rfl), (mj_in (List.mem_append_left _ (List.mem_of_getElem? (i := 21) (by decide +kernel))) rfl)⟩
theorem d_Reader_factor_92 : decode kY_Reader_factor.2.1 92 = .ok (.ifCond .eq 10, 3) := by decide +kernel
theorem d_Reader_factor_102 : decode kY_Reader_factor.2.1 102 = .ok (.iconst 0, 1) := by decide +kernel
theorem d_Reader_factor_103 : decode kY_Reader_factor.2.1 103 = .ok (.ireturn, 1) := by decide +kernel
theorem d_Reader_factor_95 : decode kY_Reader_factor.2.1 95 = .ok (.aload_n 0, 1) := by decide +kernel
theorem d_Reader_factor_96 : decode kY_Reader_factor.2.1 96 = .ok (.invokevirtual 186, 3) := by decide +kernel
theorem d_Reader_factor_82 : decode kY_Reader_factor.2.1 82 = .ok (.aload_n 0, 1) := by decide +kernel
theorem d_Reader_factor_83 : decode kY_Reader_factor.2.1 83 = .ok (.iconst 1, 1) := by decide +kernel
theorem d_Reader_factor_84 : decode kY_Reader_factor.2.1 84 = .ok (.invokevirtual 56, 3) := by decide +kernel
theorem d_Reader_factor_87 : decode kY_Reader_factor.2.1 87 = .ok (.ireturn, 1) := by decide +kernel
theorem d_Reader_factor_40 : decode kY_Reader_factor.2.1 40 = .ok (.aload_n 0, 1) := by decide +kernel
theorem d_Reader_factor_41 : decode kY_Reader_factor.2.1 41 = .ok (.iconst 0, 1) := by decide +kernel
theorem d_Reader_factor_42 : decode kY_Reader_factor.2.1 42 = .ok (.aload_n 0, 1) := by decide +kernel
theorem d_Reader_factor_43 : decode kY_Reader_factor.2.1 43 = .ok (.getfield 67, 3) := by decide +kernel
theorem f_Reader_67_9 : mj_fl "TrustDesk$Reader" 67 9 15 := ⟨kR_Reader, kF_Reader, 19, "TrustDesk$Reader", rfl, kg_9, by decide, (mj_in1 (List.mem_of_getElem? (i := 87) (by decide +kernel)) rfl), Or.inl rfl⟩
theorem d_Reader_factor_46 : decode kY_Reader_factor.2.1 46 = .ok (.invokevirtual 85, 3) := by decide +kernel
theorem d_Reader_factor_49 : decode kY_Reader_factor.2.1 49 = .ok (.istore_n 1, 1) := by decide +kernel
theorem d_Reader_factor_50 : decode kY_Reader_factor.2.1 50 = .ok (.iload_n 1, 1) := by decide +kernel
theorem d_Reader_factor_51 : decode kY_Reader_factor.2.1 51 = .ok (.iconst (-1), 1) := by decide +kernel
theorem d_Reader_factor_52 : decode kY_Reader_factor.2.1 52 = .ok (.if_icmp .ne 9, 3) := by decide +kernel
theorem d_Reader_factor_61 : decode kY_Reader_factor.2.1 61 = .ok (.aload_n 0, 1) := by decide +kernel
theorem d_Reader_factor_62 : decode kY_Reader_factor.2.1 62 = .ok (.iconst 1, 1) := by decide +kernel
theorem d_Reader_factor_63 : decode kY_Reader_factor.2.1 63 = .ok (.iload_n 1, 1) := by decide +kernel
theorem d_Reader_factor_64 : decode kY_Reader_factor.2.1 64 = .ok (.invokevirtual 203, 3) := by decide +kernel
abbrev kY_Reader_emit : mj_Y := (⟨"TrustDesk$Reader", "emit", "(II)V"⟩, prog_10_method_23_code, 3, (Option.none : Option Jvm.ClassFile.FieldType))
theorem d_Reader_emit_0 : decode kY_Reader_emit.2.1 0 = .ok (.aload_n 0, 1) := by decide +kernel
theorem d_Reader_emit_1 : decode kY_Reader_emit.2.1 1 = .ok (.getfield 118, 3) := by decide +kernel
theorem f_Reader_118_9 : mj_fl "TrustDesk$Reader" 118 9 18 := ⟨kR_Reader, kF_Reader, 19, "TrustDesk$Reader", rfl, kg_9, by decide, (mj_in1 (List.mem_of_getElem? (i := 90) (by decide +kernel)) rfl), Or.inl rfl⟩
theorem d_Reader_emit_4 : decode kY_Reader_emit.2.1 4 = .ok (.ifCond .lt 38, 3) := by decide +kernel
theorem d_Reader_emit_42 : decode kY_Reader_emit.2.1 42 = .ok (.return_, 1) := by decide +kernel
theorem d_Reader_emit_7 : decode kY_Reader_emit.2.1 7 = .ok (.aload_n 0, 1) := by decide +kernel
theorem d_Reader_emit_8 : decode kY_Reader_emit.2.1 8 = .ok (.getfield 118, 3) := by decide +kernel
theorem d_Reader_emit_11 : decode kY_Reader_emit.2.1 11 = .ok (.sipush 400, 3) := by decide +kernel
theorem d_Reader_emit_14 : decode kY_Reader_emit.2.1 14 = .ok (.if_icmp .ge 28, 3) := by decide +kernel
theorem d_Reader_emit_17 : decode kY_Reader_emit.2.1 17 = .ok (.aload_n 0, 1) := by decide +kernel
theorem d_Reader_emit_18 : decode kY_Reader_emit.2.1 18 = .ok (.getfield 31, 3) := by decide +kernel
theorem f_Reader_31_9 : mj_fl "TrustDesk$Reader" 31 9 17 := ⟨kR_Reader, kF_Reader, 19, "TrustDesk$Reader", rfl, kg_9, by decide, (mj_in1 (List.mem_of_getElem? (i := 89) (by decide +kernel)) rfl), Or.inl rfl⟩
theorem d_Reader_emit_21 : decode kY_Reader_emit.2.1 21 = .ok (.aload_n 0, 1) := by decide +kernel
theorem d_Reader_emit_22 : decode kY_Reader_emit.2.1 22 = .ok (.getfield 118, 3) := by decide +kernel
theorem d_Reader_emit_25 : decode kY_Reader_emit.2.1 25 = .ok (.iload_n 2, 1) := by decide +kernel
theorem d_Reader_emit_26 : decode kY_Reader_emit.2.1 26 = .ok (.bipush 16, 2) := by decide +kernel
theorem d_Reader_emit_28 : decode kY_Reader_emit.2.1 28 = .ok (.imul, 1) := by decide +kernel
theorem d_Reader_emit_29 : decode kY_Reader_emit.2.1 29 = .ok (.iload_n 1, 1) := by decide +kernel
theorem d_Reader_emit_30 : decode kY_Reader_emit.2.1 30 = .ok (.iadd, 1) := by decide +kernel
theorem d_Reader_emit_31 : decode kY_Reader_emit.2.1 31 = .ok (.iastore, 1) := by decide +kernel
theorem d_Reader_emit_32 : decode kY_Reader_emit.2.1 32 = .ok (.aload_n 0, 1) := by decide +kernel
theorem d_Reader_emit_33 : decode kY_Reader_emit.2.1 33 = .ok (.dup, 1) := by decide +kernel
theorem d_Reader_emit_34 : decode kY_Reader_emit.2.1 34 = .ok (.getfield 118, 3) := by decide +kernel
theorem d_Reader_emit_37 : decode kY_Reader_emit.2.1 37 = .ok (.iconst 1, 1) := by decide +kernel
theorem d_Reader_emit_38 : decode kY_Reader_emit.2.1 38 = .ok (.iadd, 1) := by decide +kernel
theorem d_Reader_emit_39 : decode kY_Reader_emit.2.1 39 = .ok (.putfield 118, 3) := by decide +kernel
def w_Reader_emit : List Nat := [918, 967]
theorem tc_Reader_emit {g : mj_G} {l : Launch} {d : Nat} {T0 : tm_H} {M0 : mj_M} {n0 x9 : Nat} {o0 : Nat} {x1 : Int32} {x2 : Int32} (h_o0 : T0 o0 = some (0, 9, 0)) (I0 : tm_I tm_FT (tm_in w_Reader_emit) x9 T0 M0 n0 T0 M0 n0) : mj_Met g l kY_Reader_emit d [.ref o0, .int x1, .int x2] M0 n0 0 0 (tm_Q tm_FT (tm_in w_Reader_emit) x9 T0 M0 n0 (fun r _ _ => r = none)) := by
  refine mj_enter (by decide) (Nat.le_of_ble_eq_true rfl) ?_
  refine mv_aload_n d_Reader_emit_0 rfl rfl ?_
  obtain ⟨v2, q1⟩ := tm_atI I0 h_o0 (k := 18) rfl
  refine tr_getK q1 d_Reader_emit_1 f_Reader_118_9 ?_
  have := mz_hi v2
  refine mv_if_ltZ (tgt := 42) (a := v2.toInt) d_Reader_emit_4 (by decide) rfl (fun b3 => ?_) (fun b3 => ?_)
  · exact mv_vret d_Reader_emit_42 rfl ⟨_, I0, rfl⟩
  · refine mv_aload_n d_Reader_emit_7 rfl rfl ?_
    refine tr_getK (k := 18) q1 d_Reader_emit_8 f_Reader_118_9 ?_
    refine mv_sipush (v := 400) d_Reader_emit_11 (by decide) ?_
    have := mz_hi v2
    refine mv_icmp_geZ (tgt := 42) (a := v2.toInt) (b := 400) d_Reader_emit_14 (by decide) rfl (by decide) (fun b4 => ?_) (fun b4 => ?_)
    · exact mv_vret d_Reader_emit_42 rfl ⟨_, I0, rfl⟩
    · refine mv_aload_n d_Reader_emit_17 rfl rfl ?_
      obtain ⟨a6, q5, t_a6⟩ := tm_atR I0 h_o0 (k := 17) rfl
      refine tr_getK q5 d_Reader_emit_18 f_Reader_31_9 ?_
      refine mv_aload_n d_Reader_emit_21 rfl rfl ?_
      refine tr_getK (k := 18) q1 d_Reader_emit_22 f_Reader_118_9 ?_
      refine mv_iload_n d_Reader_emit_25 rfl rfl ?_
      refine mv_bipush (v := 16) d_Reader_emit_26 (by decide) ?_
      refine mv_imul d_Reader_emit_28 ?_
      refine mv_iload_n d_Reader_emit_29 rfl rfl ?_
      refine mv_iadd d_Reader_emit_30 ?_
      refine tr_iastK tm_okF I0 t_a6 (by decide) (Or.inl (by decide)) d_Reader_emit_31 (vp_in_iff.mpr (by omega)) (fun M7 I8 K9 => ?_)
      refine mv_aload_n d_Reader_emit_32 rfl rfl ?_
      refine mv_dup d_Reader_emit_33 rfl ?_
      refine tr_getK (k := 18) (K9 _ 9 18 _ q1) d_Reader_emit_34 f_Reader_118_9 ?_
      refine mv_iconst (v := 1) d_Reader_emit_37 (by decide) ?_
      refine mv_iadd d_Reader_emit_38 ?_
      refine tr_putK tm_okF I8 h_o0 (k := 18) rfl ⟨_, rfl⟩ (Or.inl (by decide)) d_Reader_emit_39 p_Reader_118_9 rfl rfl (fun M10 I11 q12 K13 => ?_)
      exact mv_vret d_Reader_emit_42 rfl ⟨_, I11, rfl⟩
theorem lV_Reader_203 : mj_lV "TrustDesk$Reader" 203 kY_Reader_emit 2 := ⟨⟨(mj_in1 (List.mem_of_getElem? (i := 515) (by decide +kernel)) rfl), (mj_in1 (List.mem_of_getElem? (i := 3) (by decide +kernel)) rfl), (mj_in1 (List.mem_of_getElem? (i := 518) (by decide +kernel)) rfl), by decide, rfl, by decide⟩, (mj_in1 (List.mem_of_getElem? (i := 517) (by decide +kernel)) rfl), (mj_in (List.mem_append_left _ (List.mem_of_getElem? (i := 27) (by decide +kernel))) rfl)⟩
theorem d_Reader_factor_67 : decode kY_Reader_factor.2.1 67 = .ok (.aload_n 0, 1) := by decide +kernel
theorem d_Reader_factor_68 : decode kY_Reader_factor.2.1 68 = .ok (.invokevirtual 82, 3) := by decide +kernel
theorem d_Reader_factor_71 : decode kY_Reader_factor.2.1 71 = .ok (.iconst 1, 1) := by decide +kernel
theorem d_Reader_factor_72 : decode kY_Reader_factor.2.1 72 = .ok (.ireturn, 1) := by decide +kernel
theorem d_Reader_factor_55 : decode kY_Reader_factor.2.1 55 = .ok (.aload_n 0, 1) := by decide +kernel
theorem d_Reader_factor_56 : decode kY_Reader_factor.2.1 56 = .ok (.iconst 3, 1) := by decide +kernel
theorem d_Reader_factor_57 : decode kY_Reader_factor.2.1 57 = .ok (.invokevirtual 56, 3) := by decide +kernel
theorem d_Reader_factor_60 : decode kY_Reader_factor.2.1 60 = .ok (.ireturn, 1) := by decide +kernel
theorem d_Reader_factor_8 : decode kY_Reader_factor.2.1 8 = .ok (.aload_n 0, 1) := by decide +kernel
theorem d_Reader_factor_9 : decode kY_Reader_factor.2.1 9 = .ok (.iconst 0, 1) := by decide +kernel
theorem d_Reader_factor_10 : decode kY_Reader_factor.2.1 10 = .ok (.sipush 9999, 3) := by decide +kernel
theorem d_Reader_factor_13 : decode kY_Reader_factor.2.1 13 = .ok (.invokevirtual 107, 3) := by decide +kernel
theorem d_Reader_factor_16 : decode kY_Reader_factor.2.1 16 = .ok (.ifCond .ne 5, 3) := by decide +kernel
theorem d_Reader_factor_21 : decode kY_Reader_factor.2.1 21 = .ok (.aload_n 0, 1) := by decide +kernel
theorem d_Reader_factor_22 : decode kY_Reader_factor.2.1 22 = .ok (.iconst 0, 1) := by decide +kernel
theorem d_Reader_factor_23 : decode kY_Reader_factor.2.1 23 = .ok (.aload_n 0, 1) := by decide +kernel
theorem d_Reader_factor_24 : decode kY_Reader_factor.2.1 24 = .ok (.getfield 111, 3) := by decide +kernel
theorem d_Reader_factor_27 : decode kY_Reader_factor.2.1 27 = .ok (.invokevirtual 203, 3) := by decide +kernel
theorem d_Reader_factor_30 : decode kY_Reader_factor.2.1 30 = .ok (.iconst 1, 1) := by decide +kernel
theorem d_Reader_factor_31 : decode kY_Reader_factor.2.1 31 = .ok (.ireturn, 1) := by decide +kernel
theorem d_Reader_factor_19 : decode kY_Reader_factor.2.1 19 = .ok (.iconst 0, 1) := by decide +kernel
theorem d_Reader_factor_20 : decode kY_Reader_factor.2.1 20 = .ok (.ireturn, 1) := by decide +kernel
theorem lV_Reader_221 : mj_lV "TrustDesk$Reader" 221 kY_Reader_factor 0 := ⟨⟨(mj_in1 (List.mem_of_getElem? (i := 507) (by decide +kernel)) rfl), (mj_in1 (List.mem_of_getElem? (i := 3) (by decide +kernel)) rfl), (mj_in1 (List.mem_of_getElem? (i := 510) (by decide +kernel)) rfl), by decide, rfl, by decide⟩, (mj_in1 (List.mem_of_getElem? (i := 509) (by decide +kernel)) rfl), (mj_in (List.mem_append_left _ (List.mem_of_getElem? (i := 25) (by decide +kernel))) rfl)⟩
theorem d_Reader_product_4 : decode kY_Reader_product.2.1 4 = .ok (.ifCond .ne 5, 3) := by decide +kernel
theorem d_Reader_product_9 : decode kY_Reader_product.2.1 9 = .ok (.iconst 0, 1) := by decide +kernel
theorem d_Reader_product_10 : decode kY_Reader_product.2.1 10 = .ok (.istore_n 1, 1) := by decide +kernel
theorem d_Reader_product_11 : decode kY_Reader_product.2.1 11 = .ok (.iload_n 1, 1) := by decide +kernel
theorem d_Reader_product_12 : decode kY_Reader_product.2.1 12 = .ok (.sipush 400, 3) := by decide +kernel
theorem d_Reader_product_15 : decode kY_Reader_product.2.1 15 = .ok (.if_icmp .ge 37, 3) := by decide +kernel
theorem d_Reader_product_52 : decode kY_Reader_product.2.1 52 = .ok (.iconst 1, 1) := by decide +kernel
theorem d_Reader_product_53 : decode kY_Reader_product.2.1 53 = .ok (.ireturn, 1) := by decide +kernel
theorem d_Reader_product_18 : decode kY_Reader_product.2.1 18 = .ok (.aload_n 0, 1) := by decide +kernel
theorem d_Reader_product_19 : decode kY_Reader_product.2.1 19 = .ok (.bipush 42, 2) := by decide +kernel
theorem d_Reader_product_21 : decode kY_Reader_product.2.1 21 = .ok (.invokevirtual 209, 3) := by decide +kernel
theorem d_Reader_product_24 : decode kY_Reader_product.2.1 24 = .ok (.ifCond .eq 28, 3) := by decide +kernel
theorem d_Reader_product_27 : decode kY_Reader_product.2.1 27 = .ok (.aload_n 0, 1) := by decide +kernel
theorem d_Reader_product_28 : decode kY_Reader_product.2.1 28 = .ok (.invokevirtual 82, 3) := by decide +kernel
theorem d_Reader_product_31 : decode kY_Reader_product.2.1 31 = .ok (.aload_n 0, 1) := by decide +kernel
theorem d_Reader_product_32 : decode kY_Reader_product.2.1 32 = .ok (.invokevirtual 221, 3) := by decide +kernel
theorem d_Reader_product_35 : decode kY_Reader_product.2.1 35 = .ok (.ifCond .ne 5, 3) := by decide +kernel
theorem d_Reader_product_40 : decode kY_Reader_product.2.1 40 = .ok (.aload_n 0, 1) := by decide +kernel
theorem d_Reader_product_41 : decode kY_Reader_product.2.1 41 = .ok (.iconst 4, 1) := by decide +kernel
theorem d_Reader_product_42 : decode kY_Reader_product.2.1 42 = .ok (.iconst 0, 1) := by decide +kernel
theorem d_Reader_product_43 : decode kY_Reader_product.2.1 43 = .ok (.invokevirtual 203, 3) := by decide +kernel
theorem d_Reader_product_46 : decode kY_Reader_product.2.1 46 = .ok (.iinc 1 1, 3) := by decide +kernel
theorem d_Reader_product_49 : decode kY_Reader_product.2.1 49 = .ok (.goto (-38), 3) := by decide +kernel
theorem d_Reader_product_38 : decode kY_Reader_product.2.1 38 = .ok (.iconst 0, 1) := by decide +kernel
theorem d_Reader_product_39 : decode kY_Reader_product.2.1 39 = .ok (.ireturn, 1) := by decide +kernel
theorem d_Reader_product_7 : decode kY_Reader_product.2.1 7 = .ok (.iconst 0, 1) := by decide +kernel
theorem d_Reader_product_8 : decode kY_Reader_product.2.1 8 = .ok (.ireturn, 1) := by decide +kernel
theorem lV_Reader_218 : mj_lV "TrustDesk$Reader" 218 kY_Reader_product 0 := ⟨⟨(mj_in1 (List.mem_of_getElem? (i := 503) (by decide +kernel)) rfl), (mj_in1 (List.mem_of_getElem? (i := 3) (by decide +kernel)) rfl), (mj_in1 (List.mem_of_getElem? (i := 506) (by decide +kernel)) rfl), by decide, rfl, by decide⟩, (mj_in1 (List.mem_of_getElem? (i := 505) (by decide +kernel)) rfl), (mj_in (List.mem_append_left _ (List.mem_of_getElem? (i := 24) (by decide +kernel))) rfl)⟩
theorem d_Reader_sum_4 : decode kY_Reader_sum.2.1 4 = .ok (.ifCond .ne 5, 3) := by decide +kernel
theorem d_Reader_sum_9 : decode kY_Reader_sum.2.1 9 = .ok (.iconst 0, 1) := by decide +kernel
theorem d_Reader_sum_10 : decode kY_Reader_sum.2.1 10 = .ok (.istore_n 1, 1) := by decide +kernel
theorem d_Reader_sum_11 : decode kY_Reader_sum.2.1 11 = .ok (.iload_n 1, 1) := by decide +kernel
theorem d_Reader_sum_12 : decode kY_Reader_sum.2.1 12 = .ok (.sipush 400, 3) := by decide +kernel
theorem d_Reader_sum_15 : decode kY_Reader_sum.2.1 15 = .ok (.if_icmp .ge 61, 3) := by decide +kernel
theorem d_Reader_sum_76 : decode kY_Reader_sum.2.1 76 = .ok (.iconst 1, 1) := by decide +kernel
theorem d_Reader_sum_77 : decode kY_Reader_sum.2.1 77 = .ok (.ireturn, 1) := by decide +kernel
theorem d_Reader_sum_18 : decode kY_Reader_sum.2.1 18 = .ok (.aload_n 0, 1) := by decide +kernel
theorem d_Reader_sum_19 : decode kY_Reader_sum.2.1 19 = .ok (.bipush 43, 2) := by decide +kernel
theorem d_Reader_sum_21 : decode kY_Reader_sum.2.1 21 = .ok (.invokevirtual 209, 3) := by decide +kernel
theorem d_Reader_sum_24 : decode kY_Reader_sum.2.1 24 = .ok (.ifCond .ne 12, 3) := by decide +kernel
theorem d_Reader_sum_36 : decode kY_Reader_sum.2.1 36 = .ok (.aload_n 0, 1) := by decide +kernel
theorem d_Reader_sum_37 : decode kY_Reader_sum.2.1 37 = .ok (.bipush 43, 2) := by decide +kernel
theorem d_Reader_sum_39 : decode kY_Reader_sum.2.1 39 = .ok (.invokevirtual 209, 3) := by decide +kernel
theorem d_Reader_sum_42 : decode kY_Reader_sum.2.1 42 = .ok (.ifCond .eq 7, 3) := by decide +kernel
theorem d_Reader_sum_49 : decode kY_Reader_sum.2.1 49 = .ok (.iconst 3, 1) := by decide +kernel
theorem d_Reader_sum_50 : decode kY_Reader_sum.2.1 50 = .ok (.istore_n 2, 1) := by decide +kernel
theorem d_Reader_sum_51 : decode kY_Reader_sum.2.1 51 = .ok (.aload_n 0, 1) := by decide +kernel
theorem d_Reader_sum_52 : decode kY_Reader_sum.2.1 52 = .ok (.invokevirtual 82, 3) := by decide +kernel
theorem d_Reader_sum_55 : decode kY_Reader_sum.2.1 55 = .ok (.aload_n 0, 1) := by decide +kernel
theorem d_Reader_sum_56 : decode kY_Reader_sum.2.1 56 = .ok (.invokevirtual 218, 3) := by decide +kernel
theorem d_Reader_sum_59 : decode kY_Reader_sum.2.1 59 = .ok (.ifCond .ne 5, 3) := by decide +kernel
theorem d_Reader_sum_64 : decode kY_Reader_sum.2.1 64 = .ok (.aload_n 0, 1) := by decide +kernel
theorem d_Reader_sum_65 : decode kY_Reader_sum.2.1 65 = .ok (.iload_n 2, 1) := by decide +kernel
theorem d_Reader_sum_66 : decode kY_Reader_sum.2.1 66 = .ok (.iconst 0, 1) := by decide +kernel
theorem d_Reader_sum_67 : decode kY_Reader_sum.2.1 67 = .ok (.invokevirtual 203, 3) := by decide +kernel
theorem d_Reader_sum_70 : decode kY_Reader_sum.2.1 70 = .ok (.iinc 1 1, 3) := by decide +kernel
theorem d_Reader_sum_73 : decode kY_Reader_sum.2.1 73 = .ok (.goto (-62), 3) := by decide +kernel
theorem d_Reader_sum_62 : decode kY_Reader_sum.2.1 62 = .ok (.iconst 0, 1) := by decide +kernel
theorem d_Reader_sum_63 : decode kY_Reader_sum.2.1 63 = .ok (.ireturn, 1) := by decide +kernel
theorem d_Reader_sum_45 : decode kY_Reader_sum.2.1 45 = .ok (.iconst 2, 1) := by decide +kernel
theorem d_Reader_sum_46 : decode kY_Reader_sum.2.1 46 = .ok (.goto 4, 3) := by decide +kernel
theorem d_Reader_sum_27 : decode kY_Reader_sum.2.1 27 = .ok (.aload_n 0, 1) := by decide +kernel
theorem d_Reader_sum_28 : decode kY_Reader_sum.2.1 28 = .ok (.bipush 45, 2) := by decide +kernel
theorem d_Reader_sum_30 : decode kY_Reader_sum.2.1 30 = .ok (.invokevirtual 209, 3) := by decide +kernel
theorem d_Reader_sum_33 : decode kY_Reader_sum.2.1 33 = .ok (.ifCond .eq 43, 3) := by decide +kernel
theorem d_Reader_sum_7 : decode kY_Reader_sum.2.1 7 = .ok (.iconst 0, 1) := by decide +kernel
theorem d_Reader_sum_8 : decode kY_Reader_sum.2.1 8 = .ok (.ireturn, 1) := by decide +kernel
theorem lV_Reader_186 : mj_lV "TrustDesk$Reader" 186 kY_Reader_sum 0 := ⟨⟨(mj_in1 (List.mem_of_getElem? (i := 499) (by decide +kernel)) rfl), (mj_in1 (List.mem_of_getElem? (i := 3) (by decide +kernel)) rfl), (mj_in1 (List.mem_of_getElem? (i := 502) (by decide +kernel)) rfl), by decide, rfl, by decide⟩, (mj_in1 (List.mem_of_getElem? (i := 501) (by decide +kernel)) rfl), (mj_in (List.mem_append_left _ (List.mem_of_getElem? (i := 23) (by decide +kernel))) rfl)⟩
theorem d_Reader_factor_99 : decode kY_Reader_factor.2.1 99 = .ok (.ifCond .ne 5, 3) := by decide +kernel
theorem d_Reader_factor_104 : decode kY_Reader_factor.2.1 104 = .ok (.aload_n 0, 1) := by decide +kernel
theorem d_Reader_factor_105 : decode kY_Reader_factor.2.1 105 = .ok (.dup, 1) := by decide +kernel
theorem d_Reader_factor_106 : decode kY_Reader_factor.2.1 106 = .ok (.getfield 73, 3) := by decide +kernel
theorem d_Reader_factor_109 : decode kY_Reader_factor.2.1 109 = .ok (.iconst 1, 1) := by decide +kernel
theorem d_Reader_factor_110 : decode kY_Reader_factor.2.1 110 = .ok (.isub, 1) := by decide +kernel
theorem d_Reader_factor_111 : decode kY_Reader_factor.2.1 111 = .ok (.putfield 73, 3) := by decide +kernel
theorem d_Reader_factor_114 : decode kY_Reader_factor.2.1 114 = .ok (.aload_n 0, 1) := by decide +kernel
theorem d_Reader_factor_115 : decode kY_Reader_factor.2.1 115 = .ok (.bipush 41, 2) := by decide +kernel
theorem d_Reader_factor_117 : decode kY_Reader_factor.2.1 117 = .ok (.invokevirtual 63, 3) := by decide +kernel
theorem d_Reader_factor_120 : decode kY_Reader_factor.2.1 120 = .ok (.ireturn, 1) := by decide +kernel
theorem d_Reader_term_90 : decode kY_Reader_term.2.1 90 = .ok (.ifCond .ne 5, 3) := by decide +kernel
theorem d_Reader_term_95 : decode kY_Reader_term.2.1 95 = .ok (.aload_n 0, 1) := by decide +kernel
theorem d_Reader_term_96 : decode kY_Reader_term.2.1 96 = .ok (.invokevirtual 215, 3) := by decide +kernel
abbrev kY_Reader_comparisonHere : mj_Y := (⟨"TrustDesk$Reader", "comparisonHere", "()I"⟩, prog_10_method_18_code, 1, (Option.some Jvm.ClassFile.FieldType.int))
theorem d_Reader_comparisonHere_0 : decode kY_Reader_comparisonHere.2.1 0 = .ok (.aload_n 0, 1) := by decide +kernel
theorem d_Reader_comparisonHere_1 : decode kY_Reader_comparisonHere.2.1 1 = .ok (.bipush 60, 2) := by decide +kernel
theorem d_Reader_comparisonHere_3 : decode kY_Reader_comparisonHere.2.1 3 = .ok (.invokevirtual 209, 3) := by decide +kernel
theorem d_Reader_comparisonHere_6 : decode kY_Reader_comparisonHere.2.1 6 = .ok (.ifCond .eq 5, 3) := by decide +kernel
theorem d_Reader_comparisonHere_11 : decode kY_Reader_comparisonHere.2.1 11 = .ok (.aload_n 0, 1) := by decide +kernel
theorem d_Reader_comparisonHere_12 : decode kY_Reader_comparisonHere.2.1 12 = .ok (.bipush 62, 2) := by decide +kernel
theorem d_Reader_comparisonHere_14 : decode kY_Reader_comparisonHere.2.1 14 = .ok (.invokevirtual 209, 3) := by decide +kernel
theorem d_Reader_comparisonHere_17 : decode kY_Reader_comparisonHere.2.1 17 = .ok (.ifCond .eq 6, 3) := by decide +kernel
theorem d_Reader_comparisonHere_23 : decode kY_Reader_comparisonHere.2.1 23 = .ok (.aload_n 0, 1) := by decide +kernel
theorem d_Reader_comparisonHere_24 : decode kY_Reader_comparisonHere.2.1 24 = .ok (.bipush 61, 2) := by decide +kernel
theorem d_Reader_comparisonHere_26 : decode kY_Reader_comparisonHere.2.1 26 = .ok (.invokevirtual 209, 3) := by decide +kernel
theorem d_Reader_comparisonHere_29 : decode kY_Reader_comparisonHere.2.1 29 = .ok (.ifCond .eq 8, 3) := by decide +kernel
theorem d_Reader_comparisonHere_37 : decode kY_Reader_comparisonHere.2.1 37 = .ok (.iconst (-1), 1) := by decide +kernel
theorem d_Reader_comparisonHere_38 : decode kY_Reader_comparisonHere.2.1 38 = .ok (.ireturn, 1) := by decide +kernel
theorem d_Reader_comparisonHere_32 : decode kY_Reader_comparisonHere.2.1 32 = .ok (.bipush 7, 2) := by decide +kernel
theorem d_Reader_comparisonHere_34 : decode kY_Reader_comparisonHere.2.1 34 = .ok (.goto 4, 3) := by decide +kernel
theorem d_Reader_comparisonHere_20 : decode kY_Reader_comparisonHere.2.1 20 = .ok (.bipush 6, 2) := by decide +kernel
theorem d_Reader_comparisonHere_22 : decode kY_Reader_comparisonHere.2.1 22 = .ok (.ireturn, 1) := by decide +kernel
theorem d_Reader_comparisonHere_9 : decode kY_Reader_comparisonHere.2.1 9 = .ok (.iconst 5, 1) := by decide +kernel
theorem d_Reader_comparisonHere_10 : decode kY_Reader_comparisonHere.2.1 10 = .ok (.ireturn, 1) := by decide +kernel
theorem lV_Reader_215 : mj_lV "TrustDesk$Reader" 215 kY_Reader_comparisonHere 0 := ⟨⟨(mj_in1 (List.mem_of_getElem? (i := 519) (by decide +kernel)) rfl), (mj_in1 (List.mem_of_getElem? (i := 3) (by decide +kernel)) rfl), (mj_in1 (List.mem_of_getElem? (i := 522) (by decide +kernel)) rfl), by decide, rfl, by decide⟩, (mj_in1 (List.mem_of_getElem? (i := 521) (by decide +kernel)) rfl), (mj_in (List.mem_append_left _ (List.mem_of_getElem? (i := 28) (by decide +kernel))) rfl)⟩
theorem d_Reader_term_99 : decode kY_Reader_term.2.1 99 = .ok (.istore_n 2, 1) := by decide +kernel
theorem d_Reader_term_100 : decode kY_Reader_term.2.1 100 = .ok (.iload_n 2, 1) := by decide +kernel
theorem d_Reader_term_101 : decode kY_Reader_term.2.1 101 = .ok (.iconst (-1), 1) := by decide +kernel
theorem d_Reader_term_102 : decode kY_Reader_term.2.1 102 = .ok (.if_icmp .ne 9, 3) := by decide +kernel
theorem d_Reader_term_111 : decode kY_Reader_term.2.1 111 = .ok (.aload_n 0, 1) := by decide +kernel
theorem d_Reader_term_112 : decode kY_Reader_term.2.1 112 = .ok (.invokevirtual 82, 3) := by decide +kernel
theorem d_Reader_term_115 : decode kY_Reader_term.2.1 115 = .ok (.aload_n 0, 1) := by decide +kernel
theorem d_Reader_term_116 : decode kY_Reader_term.2.1 116 = .ok (.invokevirtual 186, 3) := by decide +kernel
theorem d_Reader_term_119 : decode kY_Reader_term.2.1 119 = .ok (.ifCond .ne 5, 3) := by decide +kernel
theorem d_Reader_term_124 : decode kY_Reader_term.2.1 124 = .ok (.aload_n 0, 1) := by decide +kernel
theorem d_Reader_term_125 : decode kY_Reader_term.2.1 125 = .ok (.iload_n 2, 1) := by decide +kernel
theorem d_Reader_term_126 : decode kY_Reader_term.2.1 126 = .ok (.iconst 0, 1) := by decide +kernel
theorem d_Reader_term_127 : decode kY_Reader_term.2.1 127 = .ok (.invokevirtual 203, 3) := by decide +kernel
theorem d_Reader_term_130 : decode kY_Reader_term.2.1 130 = .ok (.iload_n 1, 1) := by decide +kernel
theorem d_Reader_term_131 : decode kY_Reader_term.2.1 131 = .ok (.ifCond .eq 10, 3) := by decide +kernel
theorem d_Reader_term_141 : decode kY_Reader_term.2.1 141 = .ok (.iconst 1, 1) := by decide +kernel
theorem d_Reader_term_142 : decode kY_Reader_term.2.1 142 = .ok (.ireturn, 1) := by decide +kernel
theorem d_Reader_term_134 : decode kY_Reader_term.2.1 134 = .ok (.aload_n 0, 1) := by decide +kernel
theorem d_Reader_term_135 : decode kY_Reader_term.2.1 135 = .ok (.bipush 8, 2) := by decide +kernel
theorem d_Reader_term_137 : decode kY_Reader_term.2.1 137 = .ok (.iconst 0, 1) := by decide +kernel
theorem d_Reader_term_138 : decode kY_Reader_term.2.1 138 = .ok (.invokevirtual 203, 3) := by decide +kernel
theorem d_Reader_term_122 : decode kY_Reader_term.2.1 122 = .ok (.iconst 0, 1) := by decide +kernel
theorem d_Reader_term_123 : decode kY_Reader_term.2.1 123 = .ok (.ireturn, 1) := by decide +kernel
theorem d_Reader_term_105 : decode kY_Reader_term.2.1 105 = .ok (.aload_n 0, 1) := by decide +kernel
theorem d_Reader_term_106 : decode kY_Reader_term.2.1 106 = .ok (.iconst 1, 1) := by decide +kernel
theorem d_Reader_term_107 : decode kY_Reader_term.2.1 107 = .ok (.invokevirtual 56, 3) := by decide +kernel
theorem d_Reader_term_110 : decode kY_Reader_term.2.1 110 = .ok (.ireturn, 1) := by decide +kernel
theorem d_Reader_term_93 : decode kY_Reader_term.2.1 93 = .ok (.iconst 0, 1) := by decide +kernel
theorem d_Reader_term_94 : decode kY_Reader_term.2.1 94 = .ok (.ireturn, 1) := by decide +kernel
theorem d_Reader_term_49 : decode kY_Reader_term.2.1 49 = .ok (.aload_n 0, 1) := by decide +kernel
theorem d_Reader_term_50 : decode kY_Reader_term.2.1 50 = .ok (.invokevirtual 212, 3) := by decide +kernel
theorem d_Reader_term_53 : decode kY_Reader_term.2.1 53 = .ok (.ifCond .eq 10, 3) := by decide +kernel
theorem d_Reader_term_63 : decode kY_Reader_term.2.1 63 = .ok (.iconst 0, 1) := by decide +kernel
theorem d_Reader_term_64 : decode kY_Reader_term.2.1 64 = .ok (.ireturn, 1) := by decide +kernel
theorem d_Reader_term_56 : decode kY_Reader_term.2.1 56 = .ok (.aload_n 0, 1) := by decide +kernel
theorem d_Reader_term_57 : decode kY_Reader_term.2.1 57 = .ok (.invokevirtual 124, 3) := by decide +kernel
theorem d_Reader_term_11 : decode kY_Reader_term.2.1 11 = .ok (.aload_n 0, 1) := by decide +kernel
theorem d_Reader_term_12 : decode kY_Reader_term.2.1 12 = .ok (.bipush 30, 2) := by decide +kernel
theorem d_Reader_term_14 : decode kY_Reader_term.2.1 14 = .ok (.invokevirtual 52, 3) := by decide +kernel
theorem d_Reader_term_17 : decode kY_Reader_term.2.1 17 = .ok (.ifCond .eq 23, 3) := by decide +kernel
theorem d_Reader_term_20 : decode kY_Reader_term.2.1 20 = .ok (.aload_n 0, 1) := by decide +kernel
theorem d_Reader_term_21 : decode kY_Reader_term.2.1 21 = .ok (.invokevirtual 82, 3) := by decide +kernel
theorem d_Reader_term_24 : decode kY_Reader_term.2.1 24 = .ok (.iload_n 1, 1) := by decide +kernel
theorem d_Reader_term_25 : decode kY_Reader_term.2.1 25 = .ok (.ifCond .ne 7, 3) := by decide +kernel
theorem d_Reader_term_32 : decode kY_Reader_term.2.1 32 = .ok (.iconst 0, 1) := by decide +kernel
theorem d_Reader_term_33 : decode kY_Reader_term.2.1 33 = .ok (.istore_n 1, 1) := by decide +kernel
theorem d_Reader_term_34 : decode kY_Reader_term.2.1 34 = .ok (.iinc 2 1, 3) := by decide +kernel
theorem d_Reader_term_37 : decode kY_Reader_term.2.1 37 = .ok (.goto (-33), 3) := by decide +kernel
theorem d_Reader_term_28 : decode kY_Reader_term.2.1 28 = .ok (.iconst 1, 1) := by decide +kernel
theorem d_Reader_term_29 : decode kY_Reader_term.2.1 29 = .ok (.goto 4, 3) := by decide +kernel
theorem lV_Reader_206 : mj_lV "TrustDesk$Reader" 206 kY_Reader_term 0 := ⟨⟨(mj_in1 (List.mem_of_getElem? (i := 483) (by decide +kernel)) rfl), (mj_in1 (List.mem_of_getElem? (i := 3) (by decide +kernel)) rfl), (mj_in1 (List.mem_of_getElem? (i := 486) (by decide +kernel)) rfl), by decide, rfl, by decide⟩, (mj_in1 (List.mem_of_getElem? (i := 485) (by decide +kernel)) rfl), (mj_in (List.mem_append_left _ (List.mem_of_getElem? (i := 19) (by decide +kernel))) rfl)⟩
theorem d_Reader_both_4 : decode kY_Reader_both.2.1 4 = .ok (.ifCond .ne 5, 3) := by decide +kernel
theorem d_Reader_both_9 : decode kY_Reader_both.2.1 9 = .ok (.iconst 0, 1) := by decide +kernel
theorem d_Reader_both_10 : decode kY_Reader_both.2.1 10 = .ok (.istore_n 1, 1) := by decide +kernel
theorem d_Reader_both_11 : decode kY_Reader_both.2.1 11 = .ok (.iload_n 1, 1) := by decide +kernel
theorem d_Reader_both_12 : decode kY_Reader_both.2.1 12 = .ok (.sipush 400, 3) := by decide +kernel
theorem d_Reader_both_15 : decode kY_Reader_both.2.1 15 = .ok (.if_icmp .ge 38, 3) := by decide +kernel
theorem d_Reader_both_53 : decode kY_Reader_both.2.1 53 = .ok (.iconst 1, 1) := by decide +kernel
theorem d_Reader_both_54 : decode kY_Reader_both.2.1 54 = .ok (.ireturn, 1) := by decide +kernel
theorem d_Reader_both_18 : decode kY_Reader_both.2.1 18 = .ok (.aload_n 0, 1) := by decide +kernel
theorem d_Reader_both_19 : decode kY_Reader_both.2.1 19 = .ok (.bipush 31, 2) := by decide +kernel
theorem d_Reader_both_21 : decode kY_Reader_both.2.1 21 = .ok (.invokevirtual 52, 3) := by decide +kernel
theorem d_Reader_both_24 : decode kY_Reader_both.2.1 24 = .ok (.ifCond .eq 29, 3) := by decide +kernel
theorem d_Reader_both_27 : decode kY_Reader_both.2.1 27 = .ok (.aload_n 0, 1) := by decide +kernel
theorem d_Reader_both_28 : decode kY_Reader_both.2.1 28 = .ok (.invokevirtual 82, 3) := by decide +kernel
theorem d_Reader_both_31 : decode kY_Reader_both.2.1 31 = .ok (.aload_n 0, 1) := by decide +kernel
theorem d_Reader_both_32 : decode kY_Reader_both.2.1 32 = .ok (.invokevirtual 206, 3) := by decide +kernel
theorem d_Reader_both_35 : decode kY_Reader_both.2.1 35 = .ok (.ifCond .ne 5, 3) := by decide +kernel
theorem d_Reader_both_40 : decode kY_Reader_both.2.1 40 = .ok (.aload_n 0, 1) := by decide +kernel
theorem d_Reader_both_41 : decode kY_Reader_both.2.1 41 = .ok (.bipush 9, 2) := by decide +kernel
theorem d_Reader_both_43 : decode kY_Reader_both.2.1 43 = .ok (.iconst 0, 1) := by decide +kernel
theorem d_Reader_both_44 : decode kY_Reader_both.2.1 44 = .ok (.invokevirtual 203, 3) := by decide +kernel
theorem d_Reader_both_47 : decode kY_Reader_both.2.1 47 = .ok (.iinc 1 1, 3) := by decide +kernel
theorem d_Reader_both_50 : decode kY_Reader_both.2.1 50 = .ok (.goto (-39), 3) := by decide +kernel
theorem d_Reader_both_38 : decode kY_Reader_both.2.1 38 = .ok (.iconst 0, 1) := by decide +kernel
theorem d_Reader_both_39 : decode kY_Reader_both.2.1 39 = .ok (.ireturn, 1) := by decide +kernel
theorem d_Reader_both_7 : decode kY_Reader_both.2.1 7 = .ok (.iconst 0, 1) := by decide +kernel
theorem d_Reader_both_8 : decode kY_Reader_both.2.1 8 = .ok (.ireturn, 1) := by decide +kernel
theorem lV_Reader_198 : mj_lV "TrustDesk$Reader" 198 kY_Reader_both 0 := ⟨⟨(mj_in1 (List.mem_of_getElem? (i := 479) (by decide +kernel)) rfl), (mj_in1 (List.mem_of_getElem? (i := 3) (by decide +kernel)) rfl), (mj_in1 (List.mem_of_getElem? (i := 482) (by decide +kernel)) rfl), by decide, rfl, by decide⟩, (mj_in1 (List.mem_of_getElem? (i := 481) (by decide +kernel)) rfl), (mj_in (List.mem_append_left _ (List.mem_of_getElem? (i := 18) (by decide +kernel))) rfl)⟩
theorem d_Reader_condition_4 : decode kY_Reader_condition.2.1 4 = .ok (.ifCond .ne 5, 3) := by decide +kernel
theorem d_Reader_condition_9 : decode kY_Reader_condition.2.1 9 = .ok (.iconst 0, 1) := by decide +kernel
theorem d_Reader_condition_10 : decode kY_Reader_condition.2.1 10 = .ok (.istore_n 1, 1) := by decide +kernel
theorem d_Reader_condition_11 : decode kY_Reader_condition.2.1 11 = .ok (.iload_n 1, 1) := by decide +kernel
theorem d_Reader_condition_12 : decode kY_Reader_condition.2.1 12 = .ok (.sipush 400, 3) := by decide +kernel
theorem d_Reader_condition_15 : decode kY_Reader_condition.2.1 15 = .ok (.if_icmp .ge 38, 3) := by decide +kernel
theorem d_Reader_condition_53 : decode kY_Reader_condition.2.1 53 = .ok (.iconst 1, 1) := by decide +kernel
theorem d_Reader_condition_54 : decode kY_Reader_condition.2.1 54 = .ok (.ireturn, 1) := by decide +kernel
theorem d_Reader_condition_18 : decode kY_Reader_condition.2.1 18 = .ok (.aload_n 0, 1) := by decide +kernel
theorem d_Reader_condition_19 : decode kY_Reader_condition.2.1 19 = .ok (.bipush 32, 2) := by decide +kernel
theorem d_Reader_condition_21 : decode kY_Reader_condition.2.1 21 = .ok (.invokevirtual 52, 3) := by decide +kernel
theorem d_Reader_condition_24 : decode kY_Reader_condition.2.1 24 = .ok (.ifCond .eq 29, 3) := by decide +kernel
theorem d_Reader_condition_27 : decode kY_Reader_condition.2.1 27 = .ok (.aload_n 0, 1) := by decide +kernel
theorem d_Reader_condition_28 : decode kY_Reader_condition.2.1 28 = .ok (.invokevirtual 82, 3) := by decide +kernel
theorem d_Reader_condition_31 : decode kY_Reader_condition.2.1 31 = .ok (.aload_n 0, 1) := by decide +kernel
theorem d_Reader_condition_32 : decode kY_Reader_condition.2.1 32 = .ok (.invokevirtual 198, 3) := by decide +kernel
theorem d_Reader_condition_35 : decode kY_Reader_condition.2.1 35 = .ok (.ifCond .ne 5, 3) := by decide +kernel
theorem d_Reader_condition_40 : decode kY_Reader_condition.2.1 40 = .ok (.aload_n 0, 1) := by decide +kernel
theorem d_Reader_condition_41 : decode kY_Reader_condition.2.1 41 = .ok (.bipush 10, 2) := by decide +kernel
theorem d_Reader_condition_43 : decode kY_Reader_condition.2.1 43 = .ok (.iconst 0, 1) := by decide +kernel
theorem d_Reader_condition_44 : decode kY_Reader_condition.2.1 44 = .ok (.invokevirtual 203, 3) := by decide +kernel
theorem d_Reader_condition_47 : decode kY_Reader_condition.2.1 47 = .ok (.iinc 1 1, 3) := by decide +kernel
theorem d_Reader_condition_50 : decode kY_Reader_condition.2.1 50 = .ok (.goto (-39), 3) := by decide +kernel
theorem d_Reader_condition_38 : decode kY_Reader_condition.2.1 38 = .ok (.iconst 0, 1) := by decide +kernel
theorem d_Reader_condition_39 : decode kY_Reader_condition.2.1 39 = .ok (.ireturn, 1) := by decide +kernel
theorem d_Reader_condition_7 : decode kY_Reader_condition.2.1 7 = .ok (.iconst 0, 1) := by decide +kernel
theorem d_Reader_condition_8 : decode kY_Reader_condition.2.1 8 = .ok (.ireturn, 1) := by decide +kernel
theorem lV_Reader_124 : mj_lV "TrustDesk$Reader" 124 kY_Reader_condition 0 := ⟨⟨(mj_in1 (List.mem_of_getElem? (i := 475) (by decide +kernel)) rfl), (mj_in1 (List.mem_of_getElem? (i := 3) (by decide +kernel)) rfl), (mj_in1 (List.mem_of_getElem? (i := 478) (by decide +kernel)) rfl), by decide, rfl, by decide⟩, (mj_in1 (List.mem_of_getElem? (i := 477) (by decide +kernel)) rfl), (mj_in (List.mem_append_left _ (List.mem_of_getElem? (i := 17) (by decide +kernel))) rfl)⟩
theorem d_Reader_term_60 : decode kY_Reader_term.2.1 60 = .ok (.ifCond .ne 5, 3) := by decide +kernel
theorem d_Reader_term_65 : decode kY_Reader_term.2.1 65 = .ok (.aload_n 0, 1) := by decide +kernel
theorem d_Reader_term_66 : decode kY_Reader_term.2.1 66 = .ok (.dup, 1) := by decide +kernel
theorem d_Reader_term_67 : decode kY_Reader_term.2.1 67 = .ok (.getfield 73, 3) := by decide +kernel
theorem d_Reader_term_70 : decode kY_Reader_term.2.1 70 = .ok (.iconst 1, 1) := by decide +kernel
theorem d_Reader_term_71 : decode kY_Reader_term.2.1 71 = .ok (.isub, 1) := by decide +kernel
theorem d_Reader_term_72 : decode kY_Reader_term.2.1 72 = .ok (.putfield 73, 3) := by decide +kernel
theorem d_Reader_term_75 : decode kY_Reader_term.2.1 75 = .ok (.aload_n 0, 1) := by decide +kernel
theorem d_Reader_term_76 : decode kY_Reader_term.2.1 76 = .ok (.bipush 93, 2) := by decide +kernel
theorem d_Reader_term_78 : decode kY_Reader_term.2.1 78 = .ok (.invokevirtual 63, 3) := by decide +kernel
theorem d_Reader_term_81 : decode kY_Reader_term.2.1 81 = .ok (.ifCond .ne 49, 3) := by decide +kernel
theorem d_Reader_term_84 : decode kY_Reader_term.2.1 84 = .ok (.iconst 0, 1) := by decide +kernel
theorem d_Reader_term_85 : decode kY_Reader_term.2.1 85 = .ok (.ireturn, 1) := by decide +kernel
